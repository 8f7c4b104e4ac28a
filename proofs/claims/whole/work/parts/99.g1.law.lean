set_option maxHeartbeats 4000000 in
set_option maxRecDepth 100000 in
theorem law_8 {p_ : Program} {l_ : Launch} {e_ : Env} {s_ : State} {m_ : MethodId} {args_ : Array Value} {below_ : List Frame} {meth_ : Method} {c_ : Code} {nm_ : String} {G : sG} {b_ : Nat} {M0 : sM} {N0 : Nat} {Q : State → Prop} (E : sE p_ l_ e_ room_1 s_ m_ args_ below_ meth_ c_ cL_law 9 wsL_law RL nm_ (some .boolean) G b_ M0 N0) (hF_ : xcF s_) (hlt : l_.stackTraces = false) {z L : Nat} {xs : Nat → Int32} (hX : va_X z L xs s_ s_.heap) (hzb : z < b_) {c m o kb : Nat} (hg : c + 60 ≤ m ∧ m + 16 ≤ o ∧ o < kb) {cc_ ss_ : Nat} (hcc : cc_ + 1170 ≤ room_1.cells ∧ ss_ + 14000 ≤ room_1.slots) {q i : Int} (hi : 0 ≤ i ∧ i + 6 ≤ L ∧ (L : Int) ≤ 3072) (hq : 0 ≤ q ∧ q ≤ 600) {M : sM} {N : Nat} (hkN : kb ≤ N) (hI : lI G M c m o kb q) {H : Heap} {locs : List Loc} {ls : Array Slot} (hV : sV G b_ M N s_ H locs) (hl : lv_has ls 9 [(0, .ref z), (1, .ref c), (2, .ref m), (3, .ref o), (4, .int (sI i))])
    (hk : ∀ (M1 : sM) (N1 : Nat) (H1 : Heap) (locs1 : List Loc) (ls1 : Array Slot), kb ≤ N1 → lI G M1 c m o kb (q + 1) → sV G b_ M1 N1 s_ H1 locs1 → lv_has ls1 9 [(0, .ref z), (1, .ref c), (2, .ref m), (3, .ref o), (4, .int (sI i))] → W p_ l_ e_ room_1 s_ m_ args_ below_ meth_ c_ H1 locs1 (cc_ + 1170) (ss_ + 14000) Q (F0 m_ 2853 ls1 [])) : W p_ l_ e_ room_1 s_ m_ args_ below_ meth_ c_ H locs cc_ ss_ Q (F0 m_ 675 ls []) := by
  have S := E.1
  have hx_ := S.1
  have hb_ := S.2.1
  have hK := E.2.2.2.2.1
  have hI2 := hI
  obtain ⟨kn, ch, f, fs, tn, te, t, wc, wn, T, T2, th, sn, nm, g0, A4, A5, A6, A7, A8, A9, A10, A11, A12, A13, A14, hc0, hst, htr, hkp, ht0, ht1, hct, hft, hly, hkn, hex, hm0, hm1, hsv, hm3, hm4, hm5, hm6, hm7, hm8, hm9, hm10, hm11, hm12, hm13, hm14, hm15, ho9, hlF, htp, hwr⟩ := hI2
  have hok := hlF.1.1
  have hdI := hlF.1.2.1
  have hsL := hlF.1.2.2.1
  have hclk := hlF.1.2.2.2
  have hchr : 0 ≤ ch ∧ ch ≤ 15 := ⟨hkp.r.2.2.1, hkp.r.2.2.2⟩
  have htp1 := htp.1
  have htp2 := htp.2.1
  have hwq := wrQ_e hwr
  have hwq1 := hwq.1
  have hwq2 := hwq.2.1
  have kn0 := sOk_N hok
  refine lv_aload_n hx_ hb_ dL_law_675 rfl (lv_at hl 1 rfl) ?_
  refine sk_Vi E hV (As := []) (rest := []) (kX10_ring l_ G b_ M N c kn ch f hc0 hst hft (hok)) (cwV 0 S.2.2.2.2 gL_law_X10_ring rfl rfl rfl (by decide +kernel) ⟨Nat.le_of_ble_eq_true rfl, Nat.le_of_ble_eq_true rfl⟩) (ci := 8) hc0 rfl rfl rfl hl.1 (Nat.le_of_ble_eq_true rfl) dL_law_676 (c1 := cc_ + 8) (s1 := ss_ + 50) ⟨⟨rfl, rfl⟩, by omega, by omega⟩ (fun z4 M1 N2 H locs hp3 hV => ?_)
  obtain ⟨ez5, hN6, hc7, hf8⟩ := hp3
  rw [hN6] at hV
  rw [ez5]
  refine lv_aload_n hx_ hb_ dL_law_679 rfl (lv_at hl 2 rfl) ?_
  have ga10 : ∀ x : Nat, m ≤ x → x < m + 16 → M1 x = M x := fun x u1 u2 => hf8 x (by omega)
  have hc9 : M1 m = some (mO m th ch tn te sn nm wn) := (ga10 m (by omega) (by omega)).trans hm0
  have hc11 : M1 (m + 1) = some (sArr G 574 f) := (ga10 ((m + 1)) (by omega) (by omega)).trans hm1
  have hc12 : M1 (m + 4) = some (sArr G 11 A4) := (ga10 ((m + 4)) (by omega) (by omega)).trans hm4
  refine sk_Vi E hV (As := []) (rest := [.int (sI (rgL f))]) (kX11_ring l_ G b_ M1 N m th ch tn te sn nm wn f A4 hc9 hc11 hc12 (hok)) (cwV 0 S.2.2.2.2 gL_law_X11_ring rfl rfl rfl (by decide +kernel) ⟨Nat.le_of_ble_eq_true rfl, Nat.le_of_ble_eq_true rfl⟩) (ci := 9) hc9 rfl rfl rfl hl.1 (Nat.le_of_ble_eq_true rfl) dL_law_680 (c1 := cc_ + 8) (s1 := ss_ + 50) ⟨⟨rfl, rfl⟩, by omega, by omega⟩ (fun z16 M13 N14 H locs hp15 hV => ?_)
  obtain ⟨r917, hN18, hc19, hf20, hq21⟩ := hp15
  rw [hN18] at hV
  rcases hq21 with ⟨c22, ez23, hc24⟩
  · rw [ez23]
    refine sb_eq1 (tgt := 2853) S (rfl) dL_law_683 (by decide) ?_
    have gb26 : ∀ x : Nat, (x < m ∨ m + 16 ≤ x) → M13 x = M1 x := fun x u1 => hf20 x (by omega) (by omega)
    have hc25 : M13 c = some (xO c kn ch) := ((gb26 c (by omega)).trans (hf8 c (by omega))).trans hc0
    have hc27 : stC G M13 (c + 1) f := hst.fr (fun x q8 q9 => (gb26 x (by omega)).trans (hf8 x (by omega)))
    have hc28 : triC G M13 (c + 16) := htr.fr (fun x q8 q9 => (gb26 x (by omega)).trans (hf8 x (by omega)))
    have hc29 : kpC G M13 (c + 31) kb kn ch fs := hkp.fr (fun x q8 => (gb26 x (by omega)).trans (hf8 x (by omega)))
    have hc30 : M13 (c + 32) = some (sObj 7 [.ref (c + 33), .int (sI tn), .int (sI te)]) := ((gb26 ((c + 32)) (by omega)).trans (hf8 (c + 32) (by omega))).trans ht0
    have hc31 : M13 (c + 33) = some (sArr G 300 t) := ((gb26 ((c + 33)) (by omega)).trans (hf8 (c + 33) (by omega))).trans ht1
    have hc32 : catC G M13 (c + 34) wc T := hct.fr (fun x q8 q9 => (gb26 x (by omega)).trans (hf8 x (by omega)))
    have hc33 : orfC G M13 (c + 38) := hc7.fr (fun x q8 q9 => gb26 x (by omega))
    have hc34 : layC G M13 (c + 48) := hly.fr (fun x q8 q9 => (gb26 x (by omega)).trans (hf8 x (by omega)))
    have hc35 : knoC G M13 (c + 54) := hkn.fr (fun x q8 q9 => (gb26 x (by omega)).trans (hf8 x (by omega)))
    have hc36 : excC G M13 (c + 57) := hex.fr (fun x q8 q9 => (gb26 x (by omega)).trans (hf8 x (by omega)))
    have hc37 : M13 (m + 1) = some (sArr G 574 f) := (hf20 (m + 1) (by omega) (by omega)).trans hc11
    have hc38 : svC G M13 (m + 2) ch fs := hsv.fr (fun x q8 q9 => (hf20 x (by omega) (by omega)).trans (ga10 x (by omega) (by omega)))
    have hc39 : M13 (m + 3) = some (sArr G 300 t) := ((hf20 (m + 3) (by omega) (by omega)).trans (ga10 ((m + 3)) (by omega) (by omega))).trans hm3
    have hc40 : M13 (m + 5) = some (sArr G 1024 A5) := ((hf20 (m + 5) (by omega) (by omega)).trans (ga10 ((m + 5)) (by omega) (by omega))).trans hm5
    have hc41 : M13 (m + 6) = some (sArr G 1024 A6) := ((hf20 (m + 6) (by omega) (by omega)).trans (ga10 ((m + 6)) (by omega) (by omega))).trans hm6
    have hc42 : M13 (m + 7) = some (sArr G 10 A7) := ((hf20 (m + 7) (by omega) (by omega)).trans (ga10 ((m + 7)) (by omega) (by omega))).trans hm7
    have hc43 : M13 (m + 8) = some (sArr G 10 A8) := ((hf20 (m + 8) (by omega) (by omega)).trans (ga10 ((m + 8)) (by omega) (by omega))).trans hm8
    have hc44 : M13 (m + 9) = some (sArr G 62 A9) := ((hf20 (m + 9) (by omega) (by omega)).trans (ga10 ((m + 9)) (by omega) (by omega))).trans hm9
    have hc45 : M13 (m + 10) = some (sArr G 8 A10) := ((hf20 (m + 10) (by omega) (by omega)).trans (ga10 ((m + 10)) (by omega) (by omega))).trans hm10
    have hc46 : M13 (m + 11) = some (sArr G 8 A11) := ((hf20 (m + 11) (by omega) (by omega)).trans (ga10 ((m + 11)) (by omega) (by omega))).trans hm11
    have hc47 : M13 (m + 12) = some (sArr G 60 A12) := ((hf20 (m + 12) (by omega) (by omega)).trans (ga10 ((m + 12)) (by omega) (by omega))).trans hm12
    have hc48 : M13 (m + 13) = some (sArr G 240 A13) := ((hf20 (m + 13) (by omega) (by omega)).trans (ga10 ((m + 13)) (by omega) (by omega))).trans hm13
    have hc49 : M13 (m + 14) = some (sArr G 574 A14) := ((hf20 (m + 14) (by omega) (by omega)).trans (ga10 ((m + 14)) (by omega) (by omega))).trans hm14
    have hc50 : M13 (m + 15) = some (sArr G 200 T2) := ((hf20 (m + 15) (by omega) (by omega)).trans (ga10 ((m + 15)) (by omega) (by omega))).trans hm15
    have hc51 : M13 o = some (sArL G 1 g0) := ((gb26 o (by omega)).trans (hf8 o (by omega))).trans ho9
    exact W.widen (by omega) (by omega) (hk _ _ _ _ _ (by omega) ⟨_, _, _, _, _, _, _, _, _, _, _, _, _, _, _, _, _, _, _, _, _, _, _, _, _, _, hc25, hc27, hc28, hc29, hc30, hc31, hc32, hc33, hc34, hc35, hc36, hc24, hc37, hc38, hc39, hc19, hc40, hc41, hc42, hc43, hc44, hc45, hc46, hc47, hc48, hc49, hc50, hc51, lF_s hlF, htp, hwr⟩ hV (lv_sub hl [0, 1, 2, 3, 4] rfl))

theorem nx_ringAt_0_1 {p : Int} {f : sF} (h1 : ¬ (0 ≤ p ∧ p < rgL f)) (h2 : 0 ≤ p ∧ p < rgL f) : False := by
  first
  | omega
  | (simp_all; done)
  | (simp_all; omega)
theorem nx_ringAt_1_0 {p : Int} {f : sF} (h1 : 0 ≤ p ∧ p < rgL f) (h2 : ¬ (0 ≤ p ∧ p < rgL f)) : False := by
  first
  | omega
  | (simp_all; done)
  | (simp_all; omega)
set_option maxHeartbeats 4000000 in
set_option maxRecDepth 100000 in
theorem law_9 {p_ : Program} {l_ : Launch} {e_ : Env} {s_ : State} {m_ : MethodId} {args_ : Array Value} {below_ : List Frame} {meth_ : Method} {c_ : Code} {nm_ : String} {G : sG} {b_ : Nat} {M0 : sM} {N0 : Nat} {Q : State → Prop} (E : sE p_ l_ e_ room_1 s_ m_ args_ below_ meth_ c_ cL_law 9 wsL_law RL nm_ (some .boolean) G b_ M0 N0) (hF_ : xcF s_) (hlt : l_.stackTraces = false) {z L : Nat} {xs : Nat → Int32} (hX : va_X z L xs s_ s_.heap) (hzb : z < b_) {c m o kb : Nat} (hg : c + 60 ≤ m ∧ m + 16 ≤ o ∧ o < kb) {cc_ ss_ : Nat} (hcc : cc_ + 1170 ≤ room_1.cells ∧ ss_ + 14000 ≤ room_1.slots) {q i : Int} (hi : 0 ≤ i ∧ i + 6 ≤ L ∧ (L : Int) ≤ 3072) (hq : 0 ≤ q ∧ q ≤ 600) {M : sM} {N : Nat} (hkN : kb ≤ N) (hI : lI G M c m o kb q) {H : Heap} {locs : List Loc} {ls : Array Slot} (hV : sV G b_ M N s_ H locs) (hl : lv_has ls 9 [(0, .ref z), (1, .ref c), (2, .ref m), (3, .ref o), (4, .int (sI i))])
    (hk : ∀ (M1 : sM) (N1 : Nat) (H1 : Heap) (locs1 : List Loc) (ls1 : Array Slot), kb ≤ N1 → lI G M1 c m o kb (q + 1) → sV G b_ M1 N1 s_ H1 locs1 → lv_has ls1 9 [(0, .ref z), (1, .ref c), (2, .ref m), (3, .ref o), (4, .int (sI i))] → W p_ l_ e_ room_1 s_ m_ args_ below_ meth_ c_ H1 locs1 (cc_ + 1170) (ss_ + 14000) Q (F0 m_ 2853 ls1 [])) : W p_ l_ e_ room_1 s_ m_ args_ below_ meth_ c_ H locs cc_ ss_ Q (F0 m_ 688 ls []) := by
  have S := E.1
  have hx_ := S.1
  have hb_ := S.2.1
  have hK := E.2.2.2.2.1
  have hI2 := hI
  obtain ⟨kn, ch, f, fs, tn, te, t, wc, wn, T, T2, th, sn, nm, g0, A4, A5, A6, A7, A8, A9, A10, A11, A12, A13, A14, hc0, hst, htr, hkp, ht0, ht1, hct, hft, hly, hkn, hex, hm0, hm1, hsv, hm3, hm4, hm5, hm6, hm7, hm8, hm9, hm10, hm11, hm12, hm13, hm14, hm15, ho9, hlF, htp, hwr⟩ := hI2
  have hok := hlF.1.1
  have hdI := hlF.1.2.1
  have hsL := hlF.1.2.2.1
  have hclk := hlF.1.2.2.2
  have hchr : 0 ≤ ch ∧ ch ≤ 15 := ⟨hkp.r.2.2.1, hkp.r.2.2.2⟩
  have htp1 := htp.1
  have htp2 := htp.2.1
  have hwq := wrQ_e hwr
  have hwq1 := hwq.1
  have hwq2 := hwq.2.1
  have kn0 := sOk_N hok
  refine lv_aload_n hx_ hb_ dL_law_688 rfl (lv_at hl 1 rfl) ?_
  refine lv_aload_n hx_ hb_ dL_law_689 rfl (lv_at hl 0 rfl) ?_
  refine lv_iload hx_ hb_ dL_law_690 (lv_at hl 4 rfl) ?_
  refine si_const S dL_law_692 ?_
  refine si_add S dL_law_693 ?_
  refine sc_sld S hV hX hzb (by omega) dL_law_694 ?_
  refine lv_aload_n hx_ hb_ dL_law_695 rfl (lv_at hl 3 rfl) ?_
  refine yk_Si (hh := [(0, 9, 12, 25)]) E hF_ hV (As := [.ref c, .int (sI (lX xs (i + 1))), .ref o]) (rest := []) (kL_ringAt l_ G b_ M N o g0 c kn ch f (lX xs (i + 1)) hc0 hst hft ho9 (hlt) (hok) ((lX_r xs _)) (by omega)) (vx_cwSW 3 S.2.2.2.2 gL_law_L_ringAt rfl rfl rfl (by decide +kernel) ⟨Nat.le_of_ble_eq_true rfl, Nat.le_of_ble_eq_true rfl⟩) rfl rfl hl.1 (Nat.le_of_ble_eq_true rfl) dL_law_696 (c1 := cc_ + 8) (s1 := ss_ + 50) ⟨⟨rfl, rfl⟩, by omega, by omega⟩ (fun z4 M1 N2 H locs hp3 hV => ?_)
  obtain ⟨hN5, hc6, hf7, hq8⟩ := hp3
  rcases hq8 with ⟨c9, ez10, hc11⟩ | ⟨c12, ez13, hc14⟩
  · rw [ez10]
    refine lv_istore (lv' := [(5, .int (sI 1)), (0, .ref z), (1, .ref c), (2, .ref m), (3, .ref o), (4, .int (sI i))]) hx_ hb_ dL_law_699 hl (by decide) rfl (fun ls hl => ?_)
    refine lv_aload_n hx_ hb_ dL_law_701 rfl (lv_at hl 3 rfl) ?_
    refine lv_aload_n hx_ hb_ dL_law_702 rfl (lv_at hl 1 rfl) ?_
    refine lv_iload hx_ hb_ dL_law_703 (lv_at hl 5 rfl) ?_
    refine si_const S dL_law_705 ?_
    refine si_add S dL_law_706 ?_
    refine sc_sld S hV hX hzb (by omega) dL_law_707 ?_
    have ga16 : ∀ x : Nat, m ≤ x → x < m + 16 → M1 x = M x := fun x u1 u2 => hf7 x (by omega) (by omega)
    have hc15 : M1 m = some (mO m th ch tn te sn nm wn) := (ga16 m (by omega) (by omega)).trans hm0
    have hc17 : M1 (m + 1) = some (sArr G 574 f) := (ga16 ((m + 1)) (by omega) (by omega)).trans hm1
    have hc18 : M1 (m + 4) = some (sArr G 11 A4) := (ga16 ((m + 4)) (by omega) (by omega)).trans hm4
    refine sk_Vi E hV (As := [.int (sI (lX xs (i + 1)))]) (rest := []) (kX11_ringAt l_ G b_ M1 N2 m th ch tn te sn nm wn f A4 (lX xs (i + 1)) hc15 hc17 hc18 (hok) ((lX_r xs _))) (cwV 1 S.2.2.2.2 gL_law_X11_ringAt rfl rfl rfl (by decide +kernel) ⟨Nat.le_of_ble_eq_true rfl, Nat.le_of_ble_eq_true rfl⟩) (ci := 9) hc15 rfl rfl rfl hl.1 (Nat.le_of_ble_eq_true rfl) dL_law_708 (c1 := cc_ + 8) (s1 := ss_ + 50) ⟨⟨rfl, rfl⟩, by omega, by omega⟩ (fun z22 M19 N20 H locs hp21 hV => ?_)
    obtain ⟨r923, hN24, hc25, hf26, hq27⟩ := hp21
    rw [hN24] at hV
    rcases hq27 with ⟨c28, ez29, hc30⟩ | ⟨c31, ez32, hc33⟩
    · rw [ez29]
      refine lv_istore (lv' := [(6, .int (sI 0)), (5, .int (sI 1)), (0, .ref z), (1, .ref c), (2, .ref m), (3, .ref o), (4, .int (sI i))]) hx_ hb_ dL_law_711 hl (by decide) rfl (fun ls hl => ?_)
      refine lv_aload_n hx_ hb_ dL_law_713 rfl (lv_at hl 4 rfl) ?_
      refine sk_VP E hV (As := []) (rest := []) (kX11_thrown l_ G b_ M19 N2 m 1 ch tn te sn nm wn hc30) (cwV 0 S.2.2.2.2 gL_law_X11_thrown rfl rfl rfl (by decide +kernel) ⟨Nat.le_of_ble_eq_true rfl, Nat.le_of_ble_eq_true rfl⟩) (ci := 9) hc30 rfl rfl rfl hl.1 (Nat.le_of_ble_eq_true rfl) dL_law_714 (c1 := cc_ + 8) (s1 := ss_ + 50) ⟨⟨rfl, rfl⟩, by omega, by omega⟩ (fun H locs hV => ?_)
      refine lv_iload hx_ hb_ dL_law_717 (lv_at hl 1 rfl) ?_
      refine sb_eq (tgt := 724) S dL_law_719 (by decide) (by omega) (fun _ => ?_) (fun c34 => absurd c34 (by omega))
      refine lv_iload hx_ hb_ dL_law_724 (lv_at hl 1 rfl) ?_
      refine sz_ne (tgt := 741) S dL_law_726 (by decide) (by omega) (fun _ => ?_) (fun c35 => absurd c35 (by omega))
      refine lv_goto (tgt := 2853) hx_ hb_ dL_law_741 (by decide) ?_
      have gb37 : ∀ x : Nat, (x < m ∨ m + 16 ≤ x) → M19 x = M1 x := fun x u1 => hf26 x (by omega) (by omega)
      have hc36 : M19 c = some (xO c kn ch) := ((gb37 c (by omega)).trans (hf7 c (by omega) (by omega))).trans hc0
      have hc38 : stC G M19 (c + 1) f := hst.fr (fun x q8 q9 => (gb37 x (by omega)).trans (hf7 x (by omega) (by omega)))
      have hc39 : triC G M19 (c + 16) := htr.fr (fun x q8 q9 => (gb37 x (by omega)).trans (hf7 x (by omega) (by omega)))
      have hc40 : kpC G M19 (c + 31) kb kn ch fs := hkp.fr (fun x q8 => (gb37 x (by omega)).trans (hf7 x (by omega) (by omega)))
      have hc41 : M19 (c + 32) = some (sObj 7 [.ref (c + 33), .int (sI tn), .int (sI te)]) := ((gb37 ((c + 32)) (by omega)).trans (hf7 (c + 32) (by omega) (by omega))).trans ht0
      have hc42 : M19 (c + 33) = some (sArr G 300 t) := ((gb37 ((c + 33)) (by omega)).trans (hf7 (c + 33) (by omega) (by omega))).trans ht1
      have hc43 : catC G M19 (c + 34) wc T := hct.fr (fun x q8 q9 => (gb37 x (by omega)).trans (hf7 x (by omega) (by omega)))
      have hc44 : orfC G M19 (c + 38) := hc6.fr (fun x q8 q9 => gb37 x (by omega))
      have hc45 : layC G M19 (c + 48) := hly.fr (fun x q8 q9 => (gb37 x (by omega)).trans (hf7 x (by omega) (by omega)))
      have hc46 : knoC G M19 (c + 54) := hkn.fr (fun x q8 q9 => (gb37 x (by omega)).trans (hf7 x (by omega) (by omega)))
      have hc47 : excC G M19 (c + 57) := hex.fr (fun x q8 q9 => (gb37 x (by omega)).trans (hf7 x (by omega) (by omega)))
      have hc48 : M19 (m + 1) = some (sArr G 574 f) := (hf26 (m + 1) (by omega) (by omega)).trans hc17
      have hc49 : svC G M19 (m + 2) ch fs := hsv.fr (fun x q8 q9 => (hf26 x (by omega) (by omega)).trans (ga16 x (by omega) (by omega)))
      have hc50 : M19 (m + 3) = some (sArr G 300 t) := ((hf26 (m + 3) (by omega) (by omega)).trans (ga16 ((m + 3)) (by omega) (by omega))).trans hm3
      have hc51 : M19 (m + 5) = some (sArr G 1024 A5) := ((hf26 (m + 5) (by omega) (by omega)).trans (ga16 ((m + 5)) (by omega) (by omega))).trans hm5
      have hc52 : M19 (m + 6) = some (sArr G 1024 A6) := ((hf26 (m + 6) (by omega) (by omega)).trans (ga16 ((m + 6)) (by omega) (by omega))).trans hm6
      have hc53 : M19 (m + 7) = some (sArr G 10 A7) := ((hf26 (m + 7) (by omega) (by omega)).trans (ga16 ((m + 7)) (by omega) (by omega))).trans hm7
      have hc54 : M19 (m + 8) = some (sArr G 10 A8) := ((hf26 (m + 8) (by omega) (by omega)).trans (ga16 ((m + 8)) (by omega) (by omega))).trans hm8
      have hc55 : M19 (m + 9) = some (sArr G 62 A9) := ((hf26 (m + 9) (by omega) (by omega)).trans (ga16 ((m + 9)) (by omega) (by omega))).trans hm9
      have hc56 : M19 (m + 10) = some (sArr G 8 A10) := ((hf26 (m + 10) (by omega) (by omega)).trans (ga16 ((m + 10)) (by omega) (by omega))).trans hm10
      have hc57 : M19 (m + 11) = some (sArr G 8 A11) := ((hf26 (m + 11) (by omega) (by omega)).trans (ga16 ((m + 11)) (by omega) (by omega))).trans hm11
      have hc58 : M19 (m + 12) = some (sArr G 60 A12) := ((hf26 (m + 12) (by omega) (by omega)).trans (ga16 ((m + 12)) (by omega) (by omega))).trans hm12
      have hc59 : M19 (m + 13) = some (sArr G 240 A13) := ((hf26 (m + 13) (by omega) (by omega)).trans (ga16 ((m + 13)) (by omega) (by omega))).trans hm13
      have hc60 : M19 (m + 14) = some (sArr G 574 A14) := ((hf26 (m + 14) (by omega) (by omega)).trans (ga16 ((m + 14)) (by omega) (by omega))).trans hm14
      have hc61 : M19 (m + 15) = some (sArr G 200 T2) := ((hf26 (m + 15) (by omega) (by omega)).trans (ga16 ((m + 15)) (by omega) (by omega))).trans hm15
      have hc62 : M19 o = some (sArL G 1 g0) := (gb37 o (by omega)).trans hc11
      exact W.widen (by omega) (by omega) (hk _ _ _ _ _ (by omega) ⟨_, _, _, _, _, _, _, _, _, _, _, _, _, _, _, _, _, _, _, _, _, _, _, _, _, _, hc36, hc38, hc39, hc40, hc41, hc42, hc43, hc44, hc45, hc46, hc47, hc30, hc48, hc49, hc50, hc25, hc51, hc52, hc53, hc54, hc55, hc56, hc57, hc58, hc59, hc60, hc61, hc62, lF_s hlF, htp, hwr⟩ hV (lv_sub hl [2, 3, 4, 5, 6] rfl))
    · rw [ez32]
      exact (nx_ringAt_0_1 c9 c31).elim
  · rw [ez13]
    refine lv_istore (lv' := [(5, .int (sI 0)), (0, .ref z), (1, .ref c), (2, .ref m), (3, .ref o), (4, .int (sI i))]) hx_ hb_ dL_law_699 hl (by decide) rfl (fun ls hl => ?_)
    refine lv_aload_n hx_ hb_ dL_law_701 rfl (lv_at hl 3 rfl) ?_
    refine lv_aload_n hx_ hb_ dL_law_702 rfl (lv_at hl 1 rfl) ?_
    refine lv_iload hx_ hb_ dL_law_703 (lv_at hl 5 rfl) ?_
    refine si_const S dL_law_705 ?_
    refine si_add S dL_law_706 ?_
    refine sc_sld S hV hX hzb (by omega) dL_law_707 ?_
    have ga64 : ∀ x : Nat, m ≤ x → x < m + 16 → M1 x = M x := fun x u1 u2 => hf7 x (by omega) (by omega)
    have hc63 : M1 m = some (mO m th ch tn te sn nm wn) := (ga64 m (by omega) (by omega)).trans hm0
    have hc65 : M1 (m + 1) = some (sArr G 574 f) := (ga64 ((m + 1)) (by omega) (by omega)).trans hm1
    have hc66 : M1 (m + 4) = some (sArr G 11 A4) := (ga64 ((m + 4)) (by omega) (by omega)).trans hm4
    refine sk_Vi E hV (As := [.int (sI (lX xs (i + 1)))]) (rest := []) (kX11_ringAt l_ G b_ M1 N2 m th ch tn te sn nm wn f A4 (lX xs (i + 1)) hc63 hc65 hc66 (hok) ((lX_r xs _))) (cwV 1 S.2.2.2.2 gL_law_X11_ringAt rfl rfl rfl (by decide +kernel) ⟨Nat.le_of_ble_eq_true rfl, Nat.le_of_ble_eq_true rfl⟩) (ci := 9) hc63 rfl rfl rfl hl.1 (Nat.le_of_ble_eq_true rfl) dL_law_708 (c1 := cc_ + 8) (s1 := ss_ + 50) ⟨⟨rfl, rfl⟩, by omega, by omega⟩ (fun z70 M67 N68 H locs hp69 hV => ?_)
    obtain ⟨r971, hN72, hc73, hf74, hq75⟩ := hp69
    rw [hN72] at hV
    rcases hq75 with ⟨c76, ez77, hc78⟩ | ⟨c79, ez80, hc81⟩
    · rw [ez77]
      exact (nx_ringAt_1_0 c12 c76).elim
    · rw [ez80]
      refine lv_istore (lv' := [(6, .int (sI (rgS f (lX xs (i + 1))))), (5, .int (sI 0)), (0, .ref z), (1, .ref c), (2, .ref m), (3, .ref o), (4, .int (sI i))]) hx_ hb_ dL_law_711 hl (by decide) rfl (fun ls hl => ?_)
      refine lv_aload_n hx_ hb_ dL_law_713 rfl (lv_at hl 4 rfl) ?_
      refine sk_VP E hV (As := []) (rest := []) (kX11_thrown l_ G b_ M67 N2 m 0 ch tn te sn nm wn hc81) (cwV 0 S.2.2.2.2 gL_law_X11_thrown rfl rfl rfl (by decide +kernel) ⟨Nat.le_of_ble_eq_true rfl, Nat.le_of_ble_eq_true rfl⟩) (ci := 9) hc81 rfl rfl rfl hl.1 (Nat.le_of_ble_eq_true rfl) dL_law_714 (c1 := cc_ + 8) (s1 := ss_ + 50) ⟨⟨rfl, rfl⟩, by omega, by omega⟩ (fun H locs hV => ?_)
      refine lv_iload hx_ hb_ dL_law_717 (lv_at hl 1 rfl) ?_
      refine sb_eq (tgt := 724) S dL_law_719 (by decide) (by omega) (fun _ => ?_) (fun c82 => absurd c82 (by omega))
      refine lv_iload hx_ hb_ dL_law_724 (lv_at hl 1 rfl) ?_
      refine sz_ne (tgt := 741) S dL_law_726 (by decide) (by omega) (fun c83 => absurd c83 (by omega)) (fun _ => ?_)
      refine lv_aload_n hx_ hb_ dL_law_729 rfl (lv_at hl 5 rfl) ?_
      refine si_const S dL_law_730 ?_
      have gb85 : ∀ x : Nat, (x < m ∨ m + 16 ≤ x) → M67 x = M1 x := fun x u1 => hf74 x (by omega) (by omega)
      have hc84 : M67 o = some (sArL G 1 (iup g0 0 (sW (rgS f (lX xs (i + 1)))))) := (gb85 o (by omega)).trans hc14
      refine sc_lald S hK hV hc84 (by omega) dL_law_731 ?_
      rw [show (iup g0 0 (sW (rgS f (lX xs (i + 1))))) 0 = sW (rgS f (lX xs (i + 1))) from if_pos rfl]
      refine lv_iload hx_ hb_ dL_law_732 (lv_at hl 0 rfl) ?_
      refine sl_i2w S dL_law_734 ?_
      refine sl_cmp0 S (rfl) dL_law_735 ?_
      refine sz_eq (tgt := 741) S dL_law_736 (by decide) (by omega) (fun _ => ?_) (fun c86 => absurd c86 (by omega))
      refine lv_goto (tgt := 2853) hx_ hb_ dL_law_741 (by decide) ?_
      have hc87 : M67 c = some (xO c kn ch) := ((gb85 c (by omega)).trans (hf7 c (by omega) (by omega))).trans hc0
      have hc88 : stC G M67 (c + 1) f := hst.fr (fun x q8 q9 => (gb85 x (by omega)).trans (hf7 x (by omega) (by omega)))
      have hc89 : triC G M67 (c + 16) := htr.fr (fun x q8 q9 => (gb85 x (by omega)).trans (hf7 x (by omega) (by omega)))
      have hc90 : kpC G M67 (c + 31) kb kn ch fs := hkp.fr (fun x q8 => (gb85 x (by omega)).trans (hf7 x (by omega) (by omega)))
      have hc91 : M67 (c + 32) = some (sObj 7 [.ref (c + 33), .int (sI tn), .int (sI te)]) := ((gb85 ((c + 32)) (by omega)).trans (hf7 (c + 32) (by omega) (by omega))).trans ht0
      have hc92 : M67 (c + 33) = some (sArr G 300 t) := ((gb85 ((c + 33)) (by omega)).trans (hf7 (c + 33) (by omega) (by omega))).trans ht1
      have hc93 : catC G M67 (c + 34) wc T := hct.fr (fun x q8 q9 => (gb85 x (by omega)).trans (hf7 x (by omega) (by omega)))
      have hc94 : orfC G M67 (c + 38) := hc6.fr (fun x q8 q9 => gb85 x (by omega))
      have hc95 : layC G M67 (c + 48) := hly.fr (fun x q8 q9 => (gb85 x (by omega)).trans (hf7 x (by omega) (by omega)))
      have hc96 : knoC G M67 (c + 54) := hkn.fr (fun x q8 q9 => (gb85 x (by omega)).trans (hf7 x (by omega) (by omega)))
      have hc97 : excC G M67 (c + 57) := hex.fr (fun x q8 q9 => (gb85 x (by omega)).trans (hf7 x (by omega) (by omega)))
      have hc98 : M67 (m + 1) = some (sArr G 574 f) := (hf74 (m + 1) (by omega) (by omega)).trans hc65
      have hc99 : svC G M67 (m + 2) ch fs := hsv.fr (fun x q8 q9 => (hf74 x (by omega) (by omega)).trans (ga64 x (by omega) (by omega)))
      have hc100 : M67 (m + 3) = some (sArr G 300 t) := ((hf74 (m + 3) (by omega) (by omega)).trans (ga64 ((m + 3)) (by omega) (by omega))).trans hm3
      have hc101 : M67 (m + 5) = some (sArr G 1024 A5) := ((hf74 (m + 5) (by omega) (by omega)).trans (ga64 ((m + 5)) (by omega) (by omega))).trans hm5
      have hc102 : M67 (m + 6) = some (sArr G 1024 A6) := ((hf74 (m + 6) (by omega) (by omega)).trans (ga64 ((m + 6)) (by omega) (by omega))).trans hm6
      have hc103 : M67 (m + 7) = some (sArr G 10 A7) := ((hf74 (m + 7) (by omega) (by omega)).trans (ga64 ((m + 7)) (by omega) (by omega))).trans hm7
      have hc104 : M67 (m + 8) = some (sArr G 10 A8) := ((hf74 (m + 8) (by omega) (by omega)).trans (ga64 ((m + 8)) (by omega) (by omega))).trans hm8
      have hc105 : M67 (m + 9) = some (sArr G 62 A9) := ((hf74 (m + 9) (by omega) (by omega)).trans (ga64 ((m + 9)) (by omega) (by omega))).trans hm9
      have hc106 : M67 (m + 10) = some (sArr G 8 A10) := ((hf74 (m + 10) (by omega) (by omega)).trans (ga64 ((m + 10)) (by omega) (by omega))).trans hm10
      have hc107 : M67 (m + 11) = some (sArr G 8 A11) := ((hf74 (m + 11) (by omega) (by omega)).trans (ga64 ((m + 11)) (by omega) (by omega))).trans hm11
      have hc108 : M67 (m + 12) = some (sArr G 60 A12) := ((hf74 (m + 12) (by omega) (by omega)).trans (ga64 ((m + 12)) (by omega) (by omega))).trans hm12
      have hc109 : M67 (m + 13) = some (sArr G 240 A13) := ((hf74 (m + 13) (by omega) (by omega)).trans (ga64 ((m + 13)) (by omega) (by omega))).trans hm13
      have hc110 : M67 (m + 14) = some (sArr G 574 A14) := ((hf74 (m + 14) (by omega) (by omega)).trans (ga64 ((m + 14)) (by omega) (by omega))).trans hm14
      have hc111 : M67 (m + 15) = some (sArr G 200 T2) := ((hf74 (m + 15) (by omega) (by omega)).trans (ga64 ((m + 15)) (by omega) (by omega))).trans hm15
      exact W.widen (by omega) (by omega) (hk _ _ _ _ _ (by omega) ⟨_, _, _, _, _, _, _, _, _, _, _, _, _, _, _, _, _, _, _, _, _, _, _, _, _, _, hc87, hc88, hc89, hc90, hc91, hc92, hc93, hc94, hc95, hc96, hc97, hc81, hc98, hc99, hc100, hc73, hc101, hc102, hc103, hc104, hc105, hc106, hc107, hc108, hc109, hc110, hc111, hc84, lF_s hlF, htp, hwr⟩ hV (lv_sub hl [2, 3, 4, 5, 6] rfl))

set_option maxHeartbeats 4000000 in
set_option maxRecDepth 100000 in
theorem law_10 {p_ : Program} {l_ : Launch} {e_ : Env} {s_ : State} {m_ : MethodId} {args_ : Array Value} {below_ : List Frame} {meth_ : Method} {c_ : Code} {nm_ : String} {G : sG} {b_ : Nat} {M0 : sM} {N0 : Nat} {Q : State → Prop} (E : sE p_ l_ e_ room_1 s_ m_ args_ below_ meth_ c_ cL_law 9 wsL_law RL nm_ (some .boolean) G b_ M0 N0) (hF_ : xcF s_) (hlt : l_.stackTraces = false) {z L : Nat} {xs : Nat → Int32} (hX : va_X z L xs s_ s_.heap) (hzb : z < b_) {c m o kb : Nat} (hg : c + 60 ≤ m ∧ m + 16 ≤ o ∧ o < kb) {cc_ ss_ : Nat} (hcc : cc_ + 1170 ≤ room_1.cells ∧ ss_ + 14000 ≤ room_1.slots) {q i : Int} (hi : 0 ≤ i ∧ i + 6 ≤ L ∧ (L : Int) ≤ 3072) (hq : 0 ≤ q ∧ q ≤ 600) {M : sM} {N : Nat} (hkN : kb ≤ N) (hI : lI G M c m o kb q) {H : Heap} {locs : List Loc} {ls : Array Slot} (hV : sV G b_ M N s_ H locs) (hl : lv_has ls 9 [(0, .ref z), (1, .ref c), (2, .ref m), (3, .ref o), (4, .int (sI i))])
    (hk : ∀ (M1 : sM) (N1 : Nat) (H1 : Heap) (locs1 : List Loc) (ls1 : Array Slot), kb ≤ N1 → lI G M1 c m o kb (q + 1) → sV G b_ M1 N1 s_ H1 locs1 → lv_has ls1 9 [(0, .ref z), (1, .ref c), (2, .ref m), (3, .ref o), (4, .int (sI i))] → W p_ l_ e_ room_1 s_ m_ args_ below_ meth_ c_ H1 locs1 (cc_ + 1170) (ss_ + 14000) Q (F0 m_ 2853 ls1 [])) : W p_ l_ e_ room_1 s_ m_ args_ below_ meth_ c_ H locs cc_ ss_ Q (F0 m_ 744 ls []) := by
  have S := E.1
  have hx_ := S.1
  have hb_ := S.2.1
  have hK := E.2.2.2.2.1
  have hI2 := hI
  obtain ⟨kn, ch, f, fs, tn, te, t, wc, wn, T, T2, th, sn, nm, g0, A4, A5, A6, A7, A8, A9, A10, A11, A12, A13, A14, hc0, hst, htr, hkp, ht0, ht1, hct, hft, hly, hkn, hex, hm0, hm1, hsv, hm3, hm4, hm5, hm6, hm7, hm8, hm9, hm10, hm11, hm12, hm13, hm14, hm15, ho9, hlF, htp, hwr⟩ := hI2
  have hok := hlF.1.1
  have hdI := hlF.1.2.1
  have hsL := hlF.1.2.2.1
  have hclk := hlF.1.2.2.2
  have hchr : 0 ≤ ch ∧ ch ≤ 15 := ⟨hkp.r.2.2.1, hkp.r.2.2.2⟩
  have htp1 := htp.1
  have htp2 := htp.2.1
  have hwq := wrQ_e hwr
  have hwq1 := hwq.1
  have hwq2 := hwq.2.1
  have kn0 := sOk_N hok
  refine lv_aload_n hx_ hb_ dL_law_744 rfl (lv_at hl 1 rfl) ?_
  refine sk_Vi E hV (As := []) (rest := []) (kX10_orders l_ G b_ M N c kn ch f hc0 hst hft (hok)) (cwV 0 S.2.2.2.2 gL_law_X10_orders rfl rfl rfl (by decide +kernel) ⟨Nat.le_of_ble_eq_true rfl, Nat.le_of_ble_eq_true rfl⟩) (ci := 8) hc0 rfl rfl rfl hl.1 (Nat.le_of_ble_eq_true rfl) dL_law_745 (c1 := cc_ + 8) (s1 := ss_ + 50) ⟨⟨rfl, rfl⟩, by omega, by omega⟩ (fun z4 M1 N2 H locs hp3 hV => ?_)
  obtain ⟨ez5, hN6, hc7, hf8⟩ := hp3
  rw [hN6] at hV
  rw [ez5]
  refine lv_aload_n hx_ hb_ dL_law_748 rfl (lv_at hl 2 rfl) ?_
  have ga10 : ∀ x : Nat, m ≤ x → x < m + 16 → M1 x = M x := fun x u1 u2 => hf8 x (by omega)
  have hc9 : M1 m = some (mO m th ch tn te sn nm wn) := (ga10 m (by omega) (by omega)).trans hm0
  have hc11 : M1 (m + 1) = some (sArr G 574 f) := (ga10 ((m + 1)) (by omega) (by omega)).trans hm1
  have hc12 : M1 (m + 7) = some (sArr G 10 A7) := (ga10 ((m + 7)) (by omega) (by omega)).trans hm7
  have hc13 : M1 (m + 5) = some (sArr G 1024 A5) := (ga10 ((m + 5)) (by omega) (by omega)).trans hm5
  have hc14 : M1 (m + 6) = some (sArr G 1024 A6) := (ga10 ((m + 6)) (by omega) (by omega)).trans hm6
  refine sk_Vi E hV (As := []) (rest := [.int (sI (totI f))]) (kX11_orders l_ G b_ M1 N m th ch tn te sn nm wn f A7 A5 A6 hc9 hc11 hc12 hc13 hc14 (hok)) (cwV 0 S.2.2.2.2 gL_law_X11_orders rfl rfl rfl (by decide +kernel) ⟨Nat.le_of_ble_eq_true rfl, Nat.le_of_ble_eq_true rfl⟩) (ci := 9) hc9 rfl rfl rfl hl.1 (Nat.le_of_ble_eq_true rfl) dL_law_749 (c1 := cc_ + 8) (s1 := ss_ + 50) ⟨⟨rfl, rfl⟩, by omega, by omega⟩ (fun z18 M15 N16 H locs hp17 hV => ?_)
  obtain ⟨A919, W920, R921, hN22, hc23, hc24, hc25, hf26, hq27⟩ := hp17
  rw [hN22] at hV
  rcases hq27 with ⟨c28, ez29, hc30⟩
  · rw [ez29]
    refine sb_eq1 (tgt := 2853) S (rfl) dL_law_752 (by decide) ?_
    have gb32 : ∀ x : Nat, (x < m ∨ m + 16 ≤ x) → M15 x = M1 x := fun x u1 => hf26 x (by omega) (by omega) (by omega) (by omega)
    have hc31 : M15 c = some (xO c kn ch) := ((gb32 c (by omega)).trans (hf8 c (by omega))).trans hc0
    have hc33 : stC G M15 (c + 1) f := hst.fr (fun x q8 q9 => (gb32 x (by omega)).trans (hf8 x (by omega)))
    have hc34 : triC G M15 (c + 16) := htr.fr (fun x q8 q9 => (gb32 x (by omega)).trans (hf8 x (by omega)))
    have hc35 : kpC G M15 (c + 31) kb kn ch fs := hkp.fr (fun x q8 => (gb32 x (by omega)).trans (hf8 x (by omega)))
    have hc36 : M15 (c + 32) = some (sObj 7 [.ref (c + 33), .int (sI tn), .int (sI te)]) := ((gb32 ((c + 32)) (by omega)).trans (hf8 (c + 32) (by omega))).trans ht0
    have hc37 : M15 (c + 33) = some (sArr G 300 t) := ((gb32 ((c + 33)) (by omega)).trans (hf8 (c + 33) (by omega))).trans ht1
    have hc38 : catC G M15 (c + 34) wc T := hct.fr (fun x q8 q9 => (gb32 x (by omega)).trans (hf8 x (by omega)))
    have hc39 : orfC G M15 (c + 38) := hc7.fr (fun x q8 q9 => gb32 x (by omega))
    have hc40 : layC G M15 (c + 48) := hly.fr (fun x q8 q9 => (gb32 x (by omega)).trans (hf8 x (by omega)))
    have hc41 : knoC G M15 (c + 54) := hkn.fr (fun x q8 q9 => (gb32 x (by omega)).trans (hf8 x (by omega)))
    have hc42 : excC G M15 (c + 57) := hex.fr (fun x q8 q9 => (gb32 x (by omega)).trans (hf8 x (by omega)))
    have hc43 : M15 (m + 1) = some (sArr G 574 f) := (hf26 (m + 1) (by omega) (by omega) (by omega) (by omega)).trans hc11
    have hc44 : svC G M15 (m + 2) ch fs := hsv.fr (fun x q8 q9 => (hf26 x (by omega) (by omega) (by omega) (by omega)).trans (ga10 x (by omega) (by omega)))
    have hc45 : M15 (m + 3) = some (sArr G 300 t) := ((hf26 (m + 3) (by omega) (by omega) (by omega) (by omega)).trans (ga10 ((m + 3)) (by omega) (by omega))).trans hm3
    have hc46 : M15 (m + 4) = some (sArr G 11 A4) := ((hf26 (m + 4) (by omega) (by omega) (by omega) (by omega)).trans (ga10 ((m + 4)) (by omega) (by omega))).trans hm4
    have hc47 : M15 (m + 8) = some (sArr G 10 A8) := ((hf26 (m + 8) (by omega) (by omega) (by omega) (by omega)).trans (ga10 ((m + 8)) (by omega) (by omega))).trans hm8
    have hc48 : M15 (m + 9) = some (sArr G 62 A9) := ((hf26 (m + 9) (by omega) (by omega) (by omega) (by omega)).trans (ga10 ((m + 9)) (by omega) (by omega))).trans hm9
    have hc49 : M15 (m + 10) = some (sArr G 8 A10) := ((hf26 (m + 10) (by omega) (by omega) (by omega) (by omega)).trans (ga10 ((m + 10)) (by omega) (by omega))).trans hm10
    have hc50 : M15 (m + 11) = some (sArr G 8 A11) := ((hf26 (m + 11) (by omega) (by omega) (by omega) (by omega)).trans (ga10 ((m + 11)) (by omega) (by omega))).trans hm11
    have hc51 : M15 (m + 12) = some (sArr G 60 A12) := ((hf26 (m + 12) (by omega) (by omega) (by omega) (by omega)).trans (ga10 ((m + 12)) (by omega) (by omega))).trans hm12
    have hc52 : M15 (m + 13) = some (sArr G 240 A13) := ((hf26 (m + 13) (by omega) (by omega) (by omega) (by omega)).trans (ga10 ((m + 13)) (by omega) (by omega))).trans hm13
    have hc53 : M15 (m + 14) = some (sArr G 574 A14) := ((hf26 (m + 14) (by omega) (by omega) (by omega) (by omega)).trans (ga10 ((m + 14)) (by omega) (by omega))).trans hm14
    have hc54 : M15 (m + 15) = some (sArr G 200 T2) := ((hf26 (m + 15) (by omega) (by omega) (by omega) (by omega)).trans (ga10 ((m + 15)) (by omega) (by omega))).trans hm15
    have hc55 : M15 o = some (sArL G 1 g0) := ((gb32 o (by omega)).trans (hf8 o (by omega))).trans ho9
    exact W.widen (by omega) (by omega) (hk _ _ _ _ _ (by omega) ⟨_, _, _, _, _, _, _, _, _, _, _, _, _, _, _, _, _, _, _, _, _, _, _, _, _, _, hc31, hc33, hc34, hc35, hc36, hc37, hc38, hc39, hc40, hc41, hc42, hc30, hc43, hc44, hc45, hc46, hc24, hc25, hc23, hc47, hc48, hc49, hc50, hc51, hc52, hc53, hc54, hc55, lF_s hlF, htp, hwr⟩ hV (lv_sub hl [0, 1, 2, 3, 4] rfl))

theorem nx_rank_0_1 {s : Int} {f : sF} (h1 : ¬ (0 ≤ s ∧ s < f 568)) (h2 : (0 ≤ s ∧ s < f 568)) : False := by
  first
  | omega
  | (simp_all; done)
  | (simp_all; omega)
theorem nx_rank_1_0 {s : Int} {f : sF} (h1 : (0 ≤ s ∧ s < f 568)) (h2 : ¬ (0 ≤ s ∧ s < f 568)) : False := by
  first
  | omega
  | (simp_all; done)
  | (simp_all; omega)
set_option maxHeartbeats 4000000 in
set_option maxRecDepth 100000 in
theorem law_11 {p_ : Program} {l_ : Launch} {e_ : Env} {s_ : State} {m_ : MethodId} {args_ : Array Value} {below_ : List Frame} {meth_ : Method} {c_ : Code} {nm_ : String} {G : sG} {b_ : Nat} {M0 : sM} {N0 : Nat} {Q : State → Prop} (E : sE p_ l_ e_ room_1 s_ m_ args_ below_ meth_ c_ cL_law 9 wsL_law RL nm_ (some .boolean) G b_ M0 N0) (hF_ : xcF s_) (hlt : l_.stackTraces = false) {z L : Nat} {xs : Nat → Int32} (hX : va_X z L xs s_ s_.heap) (hzb : z < b_) {c m o kb : Nat} (hg : c + 60 ≤ m ∧ m + 16 ≤ o ∧ o < kb) {cc_ ss_ : Nat} (hcc : cc_ + 1170 ≤ room_1.cells ∧ ss_ + 14000 ≤ room_1.slots) {q i : Int} (hi : 0 ≤ i ∧ i + 6 ≤ L ∧ (L : Int) ≤ 3072) (hq : 0 ≤ q ∧ q ≤ 600) {M : sM} {N : Nat} (hkN : kb ≤ N) (hI : lI G M c m o kb q) {H : Heap} {locs : List Loc} {ls : Array Slot} (hV : sV G b_ M N s_ H locs) (hl : lv_has ls 9 [(0, .ref z), (1, .ref c), (2, .ref m), (3, .ref o), (4, .int (sI i))])
    (hk : ∀ (M1 : sM) (N1 : Nat) (H1 : Heap) (locs1 : List Loc) (ls1 : Array Slot), kb ≤ N1 → lI G M1 c m o kb (q + 1) → sV G b_ M1 N1 s_ H1 locs1 → lv_has ls1 9 [(0, .ref z), (1, .ref c), (2, .ref m), (3, .ref o), (4, .int (sI i))] → W p_ l_ e_ room_1 s_ m_ args_ below_ meth_ c_ H1 locs1 (cc_ + 1170) (ss_ + 14000) Q (F0 m_ 2853 ls1 [])) : W p_ l_ e_ room_1 s_ m_ args_ below_ meth_ c_ H locs cc_ ss_ Q (F0 m_ 757 ls []) := by
  have S := E.1
  have hx_ := S.1
  have hb_ := S.2.1
  have hK := E.2.2.2.2.1
  have hI2 := hI
  obtain ⟨kn, ch, f, fs, tn, te, t, wc, wn, T, T2, th, sn, nm, g0, A4, A5, A6, A7, A8, A9, A10, A11, A12, A13, A14, hc0, hst, htr, hkp, ht0, ht1, hct, hft, hly, hkn, hex, hm0, hm1, hsv, hm3, hm4, hm5, hm6, hm7, hm8, hm9, hm10, hm11, hm12, hm13, hm14, hm15, ho9, hlF, htp, hwr⟩ := hI2
  have hok := hlF.1.1
  have hdI := hlF.1.2.1
  have hsL := hlF.1.2.2.1
  have hclk := hlF.1.2.2.2
  have hchr : 0 ≤ ch ∧ ch ≤ 15 := ⟨hkp.r.2.2.1, hkp.r.2.2.2⟩
  have htp1 := htp.1
  have htp2 := htp.2.1
  have hwq := wrQ_e hwr
  have hwq1 := hwq.1
  have hwq2 := hwq.2.1
  have kn0 := sOk_N hok
  refine lv_aload_n hx_ hb_ dL_law_757 rfl (lv_at hl 1 rfl) ?_
  refine lv_aload_n hx_ hb_ dL_law_758 rfl (lv_at hl 0 rfl) ?_
  refine lv_iload hx_ hb_ dL_law_759 (lv_at hl 4 rfl) ?_
  refine si_const S dL_law_761 ?_
  refine si_add S dL_law_762 ?_
  refine sc_sld S hV hX hzb (by omega) dL_law_763 ?_
  refine lv_aload_n hx_ hb_ dL_law_764 rfl (lv_at hl 0 rfl) ?_
  refine lv_iload hx_ hb_ dL_law_765 (lv_at hl 4 rfl) ?_
  refine si_const S dL_law_767 ?_
  refine si_add S dL_law_768 ?_
  refine sc_sld S hV hX hzb (by omega) dL_law_769 ?_
  refine sb_bool (t0 := 777) (t1 := 778) S (lX_r xs _) dL_law_770 (by decide) dL_law_773 dL_law_774 (by decide) dL_law_777 rfl ?_
  refine lv_aload_n hx_ hb_ dL_law_778 rfl (lv_at hl 3 rfl) ?_
  refine yk_Si (hh := [(0, 10, 13, 25)]) E hF_ hV (As := [.ref c, .int (sI (lX xs (i + 1))), .int (sI (bI (lX xs (i + 2) ≠ 0))), .ref o]) (rest := []) (kL_rank l_ G b_ M N o g0 c kn ch f (lX xs (i + 1)) (lX xs (i + 2) ≠ 0) hc0 hst hft ho9 (hlt) (hok) ((lX_r xs _)) (by omega)) (vx_cwSW 4 S.2.2.2.2 gL_law_L_rank rfl rfl rfl (by decide +kernel) ⟨Nat.le_of_ble_eq_true rfl, Nat.le_of_ble_eq_true rfl⟩) rfl rfl hl.1 (Nat.le_of_ble_eq_true rfl) dL_law_779 (c1 := cc_ + 8) (s1 := ss_ + 50) ⟨⟨rfl, rfl⟩, by omega, by omega⟩ (fun z4 M1 N2 H locs hp3 hV => ?_)
  obtain ⟨hN5, hc6, hf7, hq8⟩ := hp3
  rcases hq8 with ⟨c9, ez10, hc11⟩ | ⟨c12, ez13, hc14⟩
  · rw [ez10]
    refine lv_istore (lv' := [(5, .int (sI 1)), (0, .ref z), (1, .ref c), (2, .ref m), (3, .ref o), (4, .int (sI i))]) hx_ hb_ dL_law_782 hl (by decide) rfl (fun ls hl => ?_)
    refine lv_aload_n hx_ hb_ dL_law_784 rfl (lv_at hl 3 rfl) ?_
    refine lv_aload_n hx_ hb_ dL_law_785 rfl (lv_at hl 1 rfl) ?_
    refine lv_iload hx_ hb_ dL_law_786 (lv_at hl 5 rfl) ?_
    refine si_const S dL_law_788 ?_
    refine si_add S dL_law_789 ?_
    refine sc_sld S hV hX hzb (by omega) dL_law_790 ?_
    refine lv_aload_n hx_ hb_ dL_law_791 rfl (lv_at hl 1 rfl) ?_
    refine lv_iload hx_ hb_ dL_law_792 (lv_at hl 5 rfl) ?_
    refine si_const S dL_law_794 ?_
    refine si_add S dL_law_795 ?_
    refine sc_sld S hV hX hzb (by omega) dL_law_796 ?_
    refine sb_bool (t0 := 804) (t1 := 805) S (lX_r xs _) dL_law_797 (by decide) dL_law_800 dL_law_801 (by decide) dL_law_804 rfl ?_
    have ga16 : ∀ x : Nat, m ≤ x → x < m + 16 → M1 x = M x := fun x u1 u2 => hf7 x (by omega) (by omega)
    have hc15 : M1 m = some (mO m th ch tn te sn nm wn) := (ga16 m (by omega) (by omega)).trans hm0
    have hc17 : M1 (m + 1) = some (sArr G 574 f) := (ga16 ((m + 1)) (by omega) (by omega)).trans hm1
    have hc18 : M1 (m + 7) = some (sArr G 10 A7) := (ga16 ((m + 7)) (by omega) (by omega)).trans hm7
    have hc19 : M1 (m + 5) = some (sArr G 1024 A5) := (ga16 ((m + 5)) (by omega) (by omega)).trans hm5
    have hc20 : M1 (m + 6) = some (sArr G 1024 A6) := (ga16 ((m + 6)) (by omega) (by omega)).trans hm6
    refine sk_Vi E hV (As := [.int (sI (lX xs (i + 1))), .int (sI (bI (lX xs (i + 2) ≠ 0)))]) (rest := []) (kX11_rank l_ G b_ M1 N2 m th ch tn te sn nm wn f A7 A5 A6 (lX xs (i + 1)) (lX xs (i + 2) ≠ 0) hc15 hc17 hc18 hc19 hc20 (hok) ((lX_r xs _))) (cwV 2 S.2.2.2.2 gL_law_X11_rank rfl rfl rfl (by decide +kernel) ⟨Nat.le_of_ble_eq_true rfl, Nat.le_of_ble_eq_true rfl⟩) (ci := 9) hc15 rfl rfl rfl hl.1 (Nat.le_of_ble_eq_true rfl) dL_law_805 (c1 := cc_ + 8) (s1 := ss_ + 50) ⟨⟨rfl, rfl⟩, by omega, by omega⟩ (fun z24 M21 N22 H locs hp23 hV => ?_)
    obtain ⟨A925, W926, R927, hN28, hc29, hc30, hc31, hf32, hq33⟩ := hp23
    rw [hN28] at hV
    rcases hq33 with ⟨c34, ez35, hc36⟩ | ⟨c37, ez38, hc39⟩
    · rw [ez35]
      refine lv_istore (lv' := [(6, .int (sI 0)), (5, .int (sI 1)), (0, .ref z), (1, .ref c), (2, .ref m), (3, .ref o), (4, .int (sI i))]) hx_ hb_ dL_law_808 hl (by decide) rfl (fun ls hl => ?_)
      refine lv_aload_n hx_ hb_ dL_law_810 rfl (lv_at hl 4 rfl) ?_
      refine sk_VP E hV (As := []) (rest := []) (kX11_thrown l_ G b_ M21 N2 m 1 ch tn te sn nm wn hc36) (cwV 0 S.2.2.2.2 gL_law_X11_thrown rfl rfl rfl (by decide +kernel) ⟨Nat.le_of_ble_eq_true rfl, Nat.le_of_ble_eq_true rfl⟩) (ci := 9) hc36 rfl rfl rfl hl.1 (Nat.le_of_ble_eq_true rfl) dL_law_811 (c1 := cc_ + 8) (s1 := ss_ + 50) ⟨⟨rfl, rfl⟩, by omega, by omega⟩ (fun H locs hV => ?_)
      refine lv_iload hx_ hb_ dL_law_814 (lv_at hl 1 rfl) ?_
      refine sb_eq (tgt := 821) S dL_law_816 (by decide) (by omega) (fun _ => ?_) (fun c40 => absurd c40 (by omega))
      refine lv_iload hx_ hb_ dL_law_821 (lv_at hl 1 rfl) ?_
      refine sz_ne (tgt := 838) S dL_law_823 (by decide) (by omega) (fun _ => ?_) (fun c41 => absurd c41 (by omega))
      refine lv_goto (tgt := 2853) hx_ hb_ dL_law_838 (by decide) ?_
      have gb43 : ∀ x : Nat, (x < m ∨ m + 16 ≤ x) → M21 x = M1 x := fun x u1 => hf32 x (by omega) (by omega) (by omega) (by omega)
      have hc42 : M21 c = some (xO c kn ch) := ((gb43 c (by omega)).trans (hf7 c (by omega) (by omega))).trans hc0
      have hc44 : stC G M21 (c + 1) f := hst.fr (fun x q8 q9 => (gb43 x (by omega)).trans (hf7 x (by omega) (by omega)))
      have hc45 : triC G M21 (c + 16) := htr.fr (fun x q8 q9 => (gb43 x (by omega)).trans (hf7 x (by omega) (by omega)))
      have hc46 : kpC G M21 (c + 31) kb kn ch fs := hkp.fr (fun x q8 => (gb43 x (by omega)).trans (hf7 x (by omega) (by omega)))
      have hc47 : M21 (c + 32) = some (sObj 7 [.ref (c + 33), .int (sI tn), .int (sI te)]) := ((gb43 ((c + 32)) (by omega)).trans (hf7 (c + 32) (by omega) (by omega))).trans ht0
      have hc48 : M21 (c + 33) = some (sArr G 300 t) := ((gb43 ((c + 33)) (by omega)).trans (hf7 (c + 33) (by omega) (by omega))).trans ht1
      have hc49 : catC G M21 (c + 34) wc T := hct.fr (fun x q8 q9 => (gb43 x (by omega)).trans (hf7 x (by omega) (by omega)))
      have hc50 : orfC G M21 (c + 38) := hc6.fr (fun x q8 q9 => gb43 x (by omega))
      have hc51 : layC G M21 (c + 48) := hly.fr (fun x q8 q9 => (gb43 x (by omega)).trans (hf7 x (by omega) (by omega)))
      have hc52 : knoC G M21 (c + 54) := hkn.fr (fun x q8 q9 => (gb43 x (by omega)).trans (hf7 x (by omega) (by omega)))
      have hc53 : excC G M21 (c + 57) := hex.fr (fun x q8 q9 => (gb43 x (by omega)).trans (hf7 x (by omega) (by omega)))
      have hc54 : M21 (m + 1) = some (sArr G 574 f) := (hf32 (m + 1) (by omega) (by omega) (by omega) (by omega)).trans hc17
      have hc55 : svC G M21 (m + 2) ch fs := hsv.fr (fun x q8 q9 => (hf32 x (by omega) (by omega) (by omega) (by omega)).trans (ga16 x (by omega) (by omega)))
      have hc56 : M21 (m + 3) = some (sArr G 300 t) := ((hf32 (m + 3) (by omega) (by omega) (by omega) (by omega)).trans (ga16 ((m + 3)) (by omega) (by omega))).trans hm3
      have hc57 : M21 (m + 4) = some (sArr G 11 A4) := ((hf32 (m + 4) (by omega) (by omega) (by omega) (by omega)).trans (ga16 ((m + 4)) (by omega) (by omega))).trans hm4
      have hc58 : M21 (m + 8) = some (sArr G 10 A8) := ((hf32 (m + 8) (by omega) (by omega) (by omega) (by omega)).trans (ga16 ((m + 8)) (by omega) (by omega))).trans hm8
      have hc59 : M21 (m + 9) = some (sArr G 62 A9) := ((hf32 (m + 9) (by omega) (by omega) (by omega) (by omega)).trans (ga16 ((m + 9)) (by omega) (by omega))).trans hm9
      have hc60 : M21 (m + 10) = some (sArr G 8 A10) := ((hf32 (m + 10) (by omega) (by omega) (by omega) (by omega)).trans (ga16 ((m + 10)) (by omega) (by omega))).trans hm10
      have hc61 : M21 (m + 11) = some (sArr G 8 A11) := ((hf32 (m + 11) (by omega) (by omega) (by omega) (by omega)).trans (ga16 ((m + 11)) (by omega) (by omega))).trans hm11
      have hc62 : M21 (m + 12) = some (sArr G 60 A12) := ((hf32 (m + 12) (by omega) (by omega) (by omega) (by omega)).trans (ga16 ((m + 12)) (by omega) (by omega))).trans hm12
      have hc63 : M21 (m + 13) = some (sArr G 240 A13) := ((hf32 (m + 13) (by omega) (by omega) (by omega) (by omega)).trans (ga16 ((m + 13)) (by omega) (by omega))).trans hm13
      have hc64 : M21 (m + 14) = some (sArr G 574 A14) := ((hf32 (m + 14) (by omega) (by omega) (by omega) (by omega)).trans (ga16 ((m + 14)) (by omega) (by omega))).trans hm14
      have hc65 : M21 (m + 15) = some (sArr G 200 T2) := ((hf32 (m + 15) (by omega) (by omega) (by omega) (by omega)).trans (ga16 ((m + 15)) (by omega) (by omega))).trans hm15
      have hc66 : M21 o = some (sArL G 1 g0) := (gb43 o (by omega)).trans hc11
      exact W.widen (by omega) (by omega) (hk _ _ _ _ _ (by omega) ⟨_, _, _, _, _, _, _, _, _, _, _, _, _, _, _, _, _, _, _, _, _, _, _, _, _, _, hc42, hc44, hc45, hc46, hc47, hc48, hc49, hc50, hc51, hc52, hc53, hc36, hc54, hc55, hc56, hc57, hc30, hc31, hc29, hc58, hc59, hc60, hc61, hc62, hc63, hc64, hc65, hc66, lF_s hlF, htp, hwr⟩ hV (lv_sub hl [2, 3, 4, 5, 6] rfl))
    · rw [ez38]
      exact (nx_rank_0_1 c9 c37).elim
  · rw [ez13]
    refine lv_istore (lv' := [(5, .int (sI 0)), (0, .ref z), (1, .ref c), (2, .ref m), (3, .ref o), (4, .int (sI i))]) hx_ hb_ dL_law_782 hl (by decide) rfl (fun ls hl => ?_)
    refine lv_aload_n hx_ hb_ dL_law_784 rfl (lv_at hl 3 rfl) ?_
    refine lv_aload_n hx_ hb_ dL_law_785 rfl (lv_at hl 1 rfl) ?_
    refine lv_iload hx_ hb_ dL_law_786 (lv_at hl 5 rfl) ?_
    refine si_const S dL_law_788 ?_
    refine si_add S dL_law_789 ?_
    refine sc_sld S hV hX hzb (by omega) dL_law_790 ?_
    refine lv_aload_n hx_ hb_ dL_law_791 rfl (lv_at hl 1 rfl) ?_
    refine lv_iload hx_ hb_ dL_law_792 (lv_at hl 5 rfl) ?_
    refine si_const S dL_law_794 ?_
    refine si_add S dL_law_795 ?_
    refine sc_sld S hV hX hzb (by omega) dL_law_796 ?_
    refine sb_bool (t0 := 804) (t1 := 805) S (lX_r xs _) dL_law_797 (by decide) dL_law_800 dL_law_801 (by decide) dL_law_804 rfl ?_
    have ga68 : ∀ x : Nat, m ≤ x → x < m + 16 → M1 x = M x := fun x u1 u2 => hf7 x (by omega) (by omega)
    have hc67 : M1 m = some (mO m th ch tn te sn nm wn) := (ga68 m (by omega) (by omega)).trans hm0
    have hc69 : M1 (m + 1) = some (sArr G 574 f) := (ga68 ((m + 1)) (by omega) (by omega)).trans hm1
    have hc70 : M1 (m + 7) = some (sArr G 10 A7) := (ga68 ((m + 7)) (by omega) (by omega)).trans hm7
    have hc71 : M1 (m + 5) = some (sArr G 1024 A5) := (ga68 ((m + 5)) (by omega) (by omega)).trans hm5
    have hc72 : M1 (m + 6) = some (sArr G 1024 A6) := (ga68 ((m + 6)) (by omega) (by omega)).trans hm6
    refine sk_Vi E hV (As := [.int (sI (lX xs (i + 1))), .int (sI (bI (lX xs (i + 2) ≠ 0)))]) (rest := []) (kX11_rank l_ G b_ M1 N2 m th ch tn te sn nm wn f A7 A5 A6 (lX xs (i + 1)) (lX xs (i + 2) ≠ 0) hc67 hc69 hc70 hc71 hc72 (hok) ((lX_r xs _))) (cwV 2 S.2.2.2.2 gL_law_X11_rank rfl rfl rfl (by decide +kernel) ⟨Nat.le_of_ble_eq_true rfl, Nat.le_of_ble_eq_true rfl⟩) (ci := 9) hc67 rfl rfl rfl hl.1 (Nat.le_of_ble_eq_true rfl) dL_law_805 (c1 := cc_ + 8) (s1 := ss_ + 50) ⟨⟨rfl, rfl⟩, by omega, by omega⟩ (fun z76 M73 N74 H locs hp75 hV => ?_)
    obtain ⟨A977, W978, R979, hN80, hc81, hc82, hc83, hf84, hq85⟩ := hp75
    rw [hN80] at hV
    rcases hq85 with ⟨c86, ez87, hc88⟩ | ⟨c89, ez90, hc91⟩
    · rw [ez87]
      exact (nx_rank_1_0 c12 c86).elim
    · rw [ez90]
      refine lv_istore (lv' := [(6, .int (sI (rnI (lX xs (i + 2) ≠ 0) (rkI f (lX xs (i + 1))) (f 568)))), (5, .int (sI 0)), (0, .ref z), (1, .ref c), (2, .ref m), (3, .ref o), (4, .int (sI i))]) hx_ hb_ dL_law_808 hl (by decide) rfl (fun ls hl => ?_)
      refine lv_aload_n hx_ hb_ dL_law_810 rfl (lv_at hl 4 rfl) ?_
      refine sk_VP E hV (As := []) (rest := []) (kX11_thrown l_ G b_ M73 N2 m 0 ch tn te sn nm wn hc91) (cwV 0 S.2.2.2.2 gL_law_X11_thrown rfl rfl rfl (by decide +kernel) ⟨Nat.le_of_ble_eq_true rfl, Nat.le_of_ble_eq_true rfl⟩) (ci := 9) hc91 rfl rfl rfl hl.1 (Nat.le_of_ble_eq_true rfl) dL_law_811 (c1 := cc_ + 8) (s1 := ss_ + 50) ⟨⟨rfl, rfl⟩, by omega, by omega⟩ (fun H locs hV => ?_)
      refine lv_iload hx_ hb_ dL_law_814 (lv_at hl 1 rfl) ?_
      refine sb_eq (tgt := 821) S dL_law_816 (by decide) (by omega) (fun _ => ?_) (fun c92 => absurd c92 (by omega))
      refine lv_iload hx_ hb_ dL_law_821 (lv_at hl 1 rfl) ?_
      refine sz_ne (tgt := 838) S dL_law_823 (by decide) (by omega) (fun c93 => absurd c93 (by omega)) (fun _ => ?_)
      refine lv_aload_n hx_ hb_ dL_law_826 rfl (lv_at hl 5 rfl) ?_
      refine si_const S dL_law_827 ?_
      have gb95 : ∀ x : Nat, (x < m ∨ m + 16 ≤ x) → M73 x = M1 x := fun x u1 => hf84 x (by omega) (by omega) (by omega) (by omega)
      have hc94 : M73 o = some (sArL G 1 (iup g0 0 (sW (rnI (lX xs (i + 2) ≠ 0) (rkI f (lX xs (i + 1))) (f 568))))) := (gb95 o (by omega)).trans hc14
      refine sc_lald S hK hV hc94 (by omega) dL_law_828 ?_
      rw [show (iup g0 0 (sW (rnI (lX xs (i + 2) ≠ 0) (rkI f (lX xs (i + 1))) (f 568)))) 0 = sW (rnI (lX xs (i + 2) ≠ 0) (rkI f (lX xs (i + 1))) (f 568)) from if_pos rfl]
      refine lv_iload hx_ hb_ dL_law_829 (lv_at hl 0 rfl) ?_
      refine sl_i2w S dL_law_831 ?_
      refine sl_cmp0 S (rfl) dL_law_832 ?_
      refine sz_eq (tgt := 838) S dL_law_833 (by decide) (by omega) (fun _ => ?_) (fun c96 => absurd c96 (by omega))
      refine lv_goto (tgt := 2853) hx_ hb_ dL_law_838 (by decide) ?_
      have hc97 : M73 c = some (xO c kn ch) := ((gb95 c (by omega)).trans (hf7 c (by omega) (by omega))).trans hc0
      have hc98 : stC G M73 (c + 1) f := hst.fr (fun x q8 q9 => (gb95 x (by omega)).trans (hf7 x (by omega) (by omega)))
      have hc99 : triC G M73 (c + 16) := htr.fr (fun x q8 q9 => (gb95 x (by omega)).trans (hf7 x (by omega) (by omega)))
      have hc100 : kpC G M73 (c + 31) kb kn ch fs := hkp.fr (fun x q8 => (gb95 x (by omega)).trans (hf7 x (by omega) (by omega)))
      have hc101 : M73 (c + 32) = some (sObj 7 [.ref (c + 33), .int (sI tn), .int (sI te)]) := ((gb95 ((c + 32)) (by omega)).trans (hf7 (c + 32) (by omega) (by omega))).trans ht0
      have hc102 : M73 (c + 33) = some (sArr G 300 t) := ((gb95 ((c + 33)) (by omega)).trans (hf7 (c + 33) (by omega) (by omega))).trans ht1
      have hc103 : catC G M73 (c + 34) wc T := hct.fr (fun x q8 q9 => (gb95 x (by omega)).trans (hf7 x (by omega) (by omega)))
      have hc104 : orfC G M73 (c + 38) := hc6.fr (fun x q8 q9 => gb95 x (by omega))
      have hc105 : layC G M73 (c + 48) := hly.fr (fun x q8 q9 => (gb95 x (by omega)).trans (hf7 x (by omega) (by omega)))
      have hc106 : knoC G M73 (c + 54) := hkn.fr (fun x q8 q9 => (gb95 x (by omega)).trans (hf7 x (by omega) (by omega)))
      have hc107 : excC G M73 (c + 57) := hex.fr (fun x q8 q9 => (gb95 x (by omega)).trans (hf7 x (by omega) (by omega)))
      have hc108 : M73 (m + 1) = some (sArr G 574 f) := (hf84 (m + 1) (by omega) (by omega) (by omega) (by omega)).trans hc69
      have hc109 : svC G M73 (m + 2) ch fs := hsv.fr (fun x q8 q9 => (hf84 x (by omega) (by omega) (by omega) (by omega)).trans (ga68 x (by omega) (by omega)))
      have hc110 : M73 (m + 3) = some (sArr G 300 t) := ((hf84 (m + 3) (by omega) (by omega) (by omega) (by omega)).trans (ga68 ((m + 3)) (by omega) (by omega))).trans hm3
      have hc111 : M73 (m + 4) = some (sArr G 11 A4) := ((hf84 (m + 4) (by omega) (by omega) (by omega) (by omega)).trans (ga68 ((m + 4)) (by omega) (by omega))).trans hm4
      have hc112 : M73 (m + 8) = some (sArr G 10 A8) := ((hf84 (m + 8) (by omega) (by omega) (by omega) (by omega)).trans (ga68 ((m + 8)) (by omega) (by omega))).trans hm8
      have hc113 : M73 (m + 9) = some (sArr G 62 A9) := ((hf84 (m + 9) (by omega) (by omega) (by omega) (by omega)).trans (ga68 ((m + 9)) (by omega) (by omega))).trans hm9
      have hc114 : M73 (m + 10) = some (sArr G 8 A10) := ((hf84 (m + 10) (by omega) (by omega) (by omega) (by omega)).trans (ga68 ((m + 10)) (by omega) (by omega))).trans hm10
      have hc115 : M73 (m + 11) = some (sArr G 8 A11) := ((hf84 (m + 11) (by omega) (by omega) (by omega) (by omega)).trans (ga68 ((m + 11)) (by omega) (by omega))).trans hm11
      have hc116 : M73 (m + 12) = some (sArr G 60 A12) := ((hf84 (m + 12) (by omega) (by omega) (by omega) (by omega)).trans (ga68 ((m + 12)) (by omega) (by omega))).trans hm12
      have hc117 : M73 (m + 13) = some (sArr G 240 A13) := ((hf84 (m + 13) (by omega) (by omega) (by omega) (by omega)).trans (ga68 ((m + 13)) (by omega) (by omega))).trans hm13
      have hc118 : M73 (m + 14) = some (sArr G 574 A14) := ((hf84 (m + 14) (by omega) (by omega) (by omega) (by omega)).trans (ga68 ((m + 14)) (by omega) (by omega))).trans hm14
      have hc119 : M73 (m + 15) = some (sArr G 200 T2) := ((hf84 (m + 15) (by omega) (by omega) (by omega) (by omega)).trans (ga68 ((m + 15)) (by omega) (by omega))).trans hm15
      exact W.widen (by omega) (by omega) (hk _ _ _ _ _ (by omega) ⟨_, _, _, _, _, _, _, _, _, _, _, _, _, _, _, _, _, _, _, _, _, _, _, _, _, _, hc97, hc98, hc99, hc100, hc101, hc102, hc103, hc104, hc105, hc106, hc107, hc91, hc108, hc109, hc110, hc111, hc82, hc83, hc81, hc112, hc113, hc114, hc115, hc116, hc117, hc118, hc119, hc94, lF_s hlF, htp, hwr⟩ hV (lv_sub hl [2, 3, 4, 5, 6] rfl))

theorem nx_withRank_0_1 {s : Int} {f : sF} {r : Int} (h1 : ¬ (0 ≤ s ∧ s < f 568)) (h2 : (0 ≤ s ∧ s < f 568) ∧ ¬ (0 ≤ r ∧ r ≤ 9)) : False := by
  first
  | omega
  | (simp_all; done)
  | (simp_all; omega)
theorem nx_withRank_0_2 {s : Int} {f : sF} {r : Int} (h1 : ¬ (0 ≤ s ∧ s < f 568)) (h2 : (0 ≤ s ∧ s < f 568) ∧ 0 ≤ r ∧ r ≤ 9) : False := by
  first
  | omega
  | (simp_all; done)
  | (simp_all; omega)
theorem nx_withRank_1_0 {s : Int} {f : sF} {r : Int} (h1 : (0 ≤ s ∧ s < f 568) ∧ ¬ (0 ≤ r ∧ r ≤ 9)) (h2 : ¬ (0 ≤ s ∧ s < f 568)) : False := by
  first
  | omega
  | (simp_all; done)
  | (simp_all; omega)
theorem nx_withRank_1_2 {s : Int} {f : sF} {r : Int} (h1 : (0 ≤ s ∧ s < f 568) ∧ ¬ (0 ≤ r ∧ r ≤ 9)) (h2 : (0 ≤ s ∧ s < f 568) ∧ 0 ≤ r ∧ r ≤ 9) : False := by
  first
  | omega
  | (simp_all; done)
  | (simp_all; omega)
theorem nx_withRank_2_0 {s : Int} {f : sF} {r : Int} (h1 : (0 ≤ s ∧ s < f 568) ∧ 0 ≤ r ∧ r ≤ 9) (h2 : ¬ (0 ≤ s ∧ s < f 568)) : False := by
  first
  | omega
  | (simp_all; done)
  | (simp_all; omega)
theorem nx_withRank_2_1 {s : Int} {f : sF} {r : Int} (h1 : (0 ≤ s ∧ s < f 568) ∧ 0 ≤ r ∧ r ≤ 9) (h2 : (0 ≤ s ∧ s < f 568) ∧ ¬ (0 ≤ r ∧ r ≤ 9)) : False := by
  first
  | omega
  | (simp_all; done)
  | (simp_all; omega)
set_option maxHeartbeats 4000000 in
set_option maxRecDepth 100000 in
theorem law_12 {p_ : Program} {l_ : Launch} {e_ : Env} {s_ : State} {m_ : MethodId} {args_ : Array Value} {below_ : List Frame} {meth_ : Method} {c_ : Code} {nm_ : String} {G : sG} {b_ : Nat} {M0 : sM} {N0 : Nat} {Q : State → Prop} (E : sE p_ l_ e_ room_1 s_ m_ args_ below_ meth_ c_ cL_law 9 wsL_law RL nm_ (some .boolean) G b_ M0 N0) (hF_ : xcF s_) (hlt : l_.stackTraces = false) {z L : Nat} {xs : Nat → Int32} (hX : va_X z L xs s_ s_.heap) (hzb : z < b_) {c m o kb : Nat} (hg : c + 60 ≤ m ∧ m + 16 ≤ o ∧ o < kb) {cc_ ss_ : Nat} (hcc : cc_ + 1170 ≤ room_1.cells ∧ ss_ + 14000 ≤ room_1.slots) {q i : Int} (hi : 0 ≤ i ∧ i + 6 ≤ L ∧ (L : Int) ≤ 3072) (hq : 0 ≤ q ∧ q ≤ 600) {M : sM} {N : Nat} (hkN : kb ≤ N) (hI : lI G M c m o kb q) {H : Heap} {locs : List Loc} {ls : Array Slot} (hV : sV G b_ M N s_ H locs) (hl : lv_has ls 9 [(0, .ref z), (1, .ref c), (2, .ref m), (3, .ref o), (4, .int (sI i))])
    (hk : ∀ (M1 : sM) (N1 : Nat) (H1 : Heap) (locs1 : List Loc) (ls1 : Array Slot), kb ≤ N1 → lI G M1 c m o kb (q + 1) → sV G b_ M1 N1 s_ H1 locs1 → lv_has ls1 9 [(0, .ref z), (1, .ref c), (2, .ref m), (3, .ref o), (4, .int (sI i))] → W p_ l_ e_ room_1 s_ m_ args_ below_ meth_ c_ H1 locs1 (cc_ + 1170) (ss_ + 14000) Q (F0 m_ 2853 ls1 [])) : W p_ l_ e_ room_1 s_ m_ args_ below_ meth_ c_ H locs cc_ ss_ Q (F0 m_ 841 ls []) := by
  have S := E.1
  have hx_ := S.1
  have hb_ := S.2.1
  have hK := E.2.2.2.2.1
  have hI2 := hI
  obtain ⟨kn, ch, f, fs, tn, te, t, wc, wn, T, T2, th, sn, nm, g0, A4, A5, A6, A7, A8, A9, A10, A11, A12, A13, A14, hc0, hst, htr, hkp, ht0, ht1, hct, hft, hly, hkn, hex, hm0, hm1, hsv, hm3, hm4, hm5, hm6, hm7, hm8, hm9, hm10, hm11, hm12, hm13, hm14, hm15, ho9, hlF, htp, hwr⟩ := hI2
  have hok := hlF.1.1
  have hdI := hlF.1.2.1
  have hsL := hlF.1.2.2.1
  have hclk := hlF.1.2.2.2
  have hchr : 0 ≤ ch ∧ ch ≤ 15 := ⟨hkp.r.2.2.1, hkp.r.2.2.2⟩
  have htp1 := htp.1
  have htp2 := htp.2.1
  have hwq := wrQ_e hwr
  have hwq1 := hwq.1
  have hwq2 := hwq.2.1
  have kn0 := sOk_N hok
  refine lv_aload_n hx_ hb_ dL_law_841 rfl (lv_at hl 1 rfl) ?_
  refine lv_aload_n hx_ hb_ dL_law_842 rfl (lv_at hl 0 rfl) ?_
  refine lv_iload hx_ hb_ dL_law_843 (lv_at hl 4 rfl) ?_
  refine si_const S dL_law_845 ?_
  refine si_add S dL_law_846 ?_
  refine sc_sld S hV hX hzb (by omega) dL_law_847 ?_
  refine lv_aload_n hx_ hb_ dL_law_848 rfl (lv_at hl 0 rfl) ?_
  refine lv_iload hx_ hb_ dL_law_849 (lv_at hl 4 rfl) ?_
  refine si_const S dL_law_851 ?_
  refine si_add S dL_law_852 ?_
  refine sc_sld S hV hX hzb (by omega) dL_law_853 ?_
  refine lv_aload_n hx_ hb_ dL_law_854 rfl (lv_at hl 3 rfl) ?_
  refine yk_Si (hh := [(0, 10, 13, 25), (0, 10, 17, 19)]) E hF_ hV (As := [.ref c, .int (sI (lX xs (i + 1))), .int (sI (lX xs (i + 2))), .ref o]) (rest := []) (kL_withRank l_ G b_ M N o g0 c kn ch f (lX xs (i + 1)) (lX xs (i + 2)) hc0 hst hft ho9 (hlt) (hok) (⟨lX_r xs _, lX_r xs _⟩) (by omega)) (vx_cwSW 4 S.2.2.2.2 gL_law_L_withRank rfl rfl rfl (by decide +kernel) ⟨Nat.le_of_ble_eq_true rfl, Nat.le_of_ble_eq_true rfl⟩) rfl rfl hl.1 (Nat.le_of_ble_eq_true rfl) dL_law_855 (c1 := cc_ + 8) (s1 := ss_ + 50) ⟨⟨rfl, rfl⟩, by omega, by omega⟩ (fun z4 M1 N2 H locs hp3 hV => ?_)
  obtain ⟨hN5, hc6, hf7, hq8⟩ := hp3
  rcases hq8 with ⟨c9, ez10, hc11⟩ | ⟨c12, ez13, hc14⟩ | ⟨c15, ez16, hc17⟩
  · rw [ez10]
    refine lv_istore (lv' := [(5, .int (sI 1)), (0, .ref z), (1, .ref c), (2, .ref m), (3, .ref o), (4, .int (sI i))]) hx_ hb_ dL_law_858 hl (by decide) rfl (fun ls hl => ?_)
    refine lv_aload_n hx_ hb_ dL_law_860 rfl (lv_at hl 3 rfl) ?_
    refine lv_aload_n hx_ hb_ dL_law_861 rfl (lv_at hl 1 rfl) ?_
    refine lv_iload hx_ hb_ dL_law_862 (lv_at hl 5 rfl) ?_
    refine si_const S dL_law_864 ?_
    refine si_add S dL_law_865 ?_
    refine sc_sld S hV hX hzb (by omega) dL_law_866 ?_
    refine lv_aload_n hx_ hb_ dL_law_867 rfl (lv_at hl 1 rfl) ?_
    refine lv_iload hx_ hb_ dL_law_868 (lv_at hl 5 rfl) ?_
    refine si_const S dL_law_870 ?_
    refine si_add S dL_law_871 ?_
    refine sc_sld S hV hX hzb (by omega) dL_law_872 ?_
    have ga19 : ∀ x : Nat, m ≤ x → x < m + 16 → M1 x = M x := fun x u1 u2 => hf7 x (by omega) (by omega)
    have hc18 : M1 m = some (mO m th ch tn te sn nm wn) := (ga19 m (by omega) (by omega)).trans hm0
    have hc20 : M1 (m + 1) = some (sArr G 574 f) := (ga19 ((m + 1)) (by omega) (by omega)).trans hm1
    have hc21 : M1 (m + 7) = some (sArr G 10 A7) := (ga19 ((m + 7)) (by omega) (by omega)).trans hm7
    have hc22 : M1 (m + 5) = some (sArr G 1024 A5) := (ga19 ((m + 5)) (by omega) (by omega)).trans hm5
    have hc23 : M1 (m + 6) = some (sArr G 1024 A6) := (ga19 ((m + 6)) (by omega) (by omega)).trans hm6
    refine sk_Vi E hV (As := [.int (sI (lX xs (i + 1))), .int (sI (lX xs (i + 2)))]) (rest := []) (kX11_withRank l_ G b_ M1 N2 m th ch tn te sn nm wn f A7 A5 A6 (lX xs (i + 1)) (lX xs (i + 2)) hc18 hc20 hc21 hc22 hc23 (hok) (⟨lX_r xs _, lX_r xs _⟩)) (cwV 2 S.2.2.2.2 gL_law_X11_withRank rfl rfl rfl (by decide +kernel) ⟨Nat.le_of_ble_eq_true rfl, Nat.le_of_ble_eq_true rfl⟩) (ci := 9) hc18 rfl rfl rfl hl.1 (Nat.le_of_ble_eq_true rfl) dL_law_873 (c1 := cc_ + 8) (s1 := ss_ + 50) ⟨⟨rfl, rfl⟩, by omega, by omega⟩ (fun z27 M24 N25 H locs hp26 hV => ?_)
    obtain ⟨A928, W929, R930, hN31, hc32, hc33, hc34, hf35, hq36⟩ := hp26
    rw [hN31] at hV
    rcases hq36 with ⟨c37, ez38, hc39⟩ | ⟨c40, ez41, hc42⟩ | ⟨c43, ez44, hc45⟩
    · rw [ez38]
      refine lv_istore (lv' := [(6, .int (sI 0)), (5, .int (sI 1)), (0, .ref z), (1, .ref c), (2, .ref m), (3, .ref o), (4, .int (sI i))]) hx_ hb_ dL_law_876 hl (by decide) rfl (fun ls hl => ?_)
      refine lv_aload_n hx_ hb_ dL_law_878 rfl (lv_at hl 4 rfl) ?_
      refine sk_VP E hV (As := []) (rest := []) (kX11_thrown l_ G b_ M24 N2 m 1 ch tn te sn nm wn hc39) (cwV 0 S.2.2.2.2 gL_law_X11_thrown rfl rfl rfl (by decide +kernel) ⟨Nat.le_of_ble_eq_true rfl, Nat.le_of_ble_eq_true rfl⟩) (ci := 9) hc39 rfl rfl rfl hl.1 (Nat.le_of_ble_eq_true rfl) dL_law_879 (c1 := cc_ + 8) (s1 := ss_ + 50) ⟨⟨rfl, rfl⟩, by omega, by omega⟩ (fun H locs hV => ?_)
      refine lv_iload hx_ hb_ dL_law_882 (lv_at hl 1 rfl) ?_
      refine sb_eq (tgt := 889) S dL_law_884 (by decide) (by omega) (fun _ => ?_) (fun c46 => absurd c46 (by omega))
      refine lv_iload hx_ hb_ dL_law_889 (lv_at hl 1 rfl) ?_
      refine sz_ne (tgt := 906) S dL_law_891 (by decide) (by omega) (fun _ => ?_) (fun c47 => absurd c47 (by omega))
      refine lv_goto (tgt := 2853) hx_ hb_ dL_law_906 (by decide) ?_
      have gb49 : ∀ x : Nat, (x < m ∨ m + 16 ≤ x) → M24 x = M1 x := fun x u1 => hf35 x (by omega) (by omega) (by omega) (by omega)
      have hc48 : M24 c = some (xO c kn ch) := ((gb49 c (by omega)).trans (hf7 c (by omega) (by omega))).trans hc0
      have hc50 : stC G M24 (c + 1) f := hst.fr (fun x q8 q9 => (gb49 x (by omega)).trans (hf7 x (by omega) (by omega)))
      have hc51 : triC G M24 (c + 16) := htr.fr (fun x q8 q9 => (gb49 x (by omega)).trans (hf7 x (by omega) (by omega)))
      have hc52 : kpC G M24 (c + 31) kb kn ch fs := hkp.fr (fun x q8 => (gb49 x (by omega)).trans (hf7 x (by omega) (by omega)))
      have hc53 : M24 (c + 32) = some (sObj 7 [.ref (c + 33), .int (sI tn), .int (sI te)]) := ((gb49 ((c + 32)) (by omega)).trans (hf7 (c + 32) (by omega) (by omega))).trans ht0
      have hc54 : M24 (c + 33) = some (sArr G 300 t) := ((gb49 ((c + 33)) (by omega)).trans (hf7 (c + 33) (by omega) (by omega))).trans ht1
      have hc55 : catC G M24 (c + 34) wc T := hct.fr (fun x q8 q9 => (gb49 x (by omega)).trans (hf7 x (by omega) (by omega)))
      have hc56 : orfC G M24 (c + 38) := hc6.fr (fun x q8 q9 => gb49 x (by omega))
      have hc57 : layC G M24 (c + 48) := hly.fr (fun x q8 q9 => (gb49 x (by omega)).trans (hf7 x (by omega) (by omega)))
      have hc58 : knoC G M24 (c + 54) := hkn.fr (fun x q8 q9 => (gb49 x (by omega)).trans (hf7 x (by omega) (by omega)))
      have hc59 : excC G M24 (c + 57) := hex.fr (fun x q8 q9 => (gb49 x (by omega)).trans (hf7 x (by omega) (by omega)))
      have hc60 : M24 (m + 1) = some (sArr G 574 f) := (hf35 (m + 1) (by omega) (by omega) (by omega) (by omega)).trans hc20
      have hc61 : svC G M24 (m + 2) ch fs := hsv.fr (fun x q8 q9 => (hf35 x (by omega) (by omega) (by omega) (by omega)).trans (ga19 x (by omega) (by omega)))
      have hc62 : M24 (m + 3) = some (sArr G 300 t) := ((hf35 (m + 3) (by omega) (by omega) (by omega) (by omega)).trans (ga19 ((m + 3)) (by omega) (by omega))).trans hm3
      have hc63 : M24 (m + 4) = some (sArr G 11 A4) := ((hf35 (m + 4) (by omega) (by omega) (by omega) (by omega)).trans (ga19 ((m + 4)) (by omega) (by omega))).trans hm4
      have hc64 : M24 (m + 8) = some (sArr G 10 A8) := ((hf35 (m + 8) (by omega) (by omega) (by omega) (by omega)).trans (ga19 ((m + 8)) (by omega) (by omega))).trans hm8
      have hc65 : M24 (m + 9) = some (sArr G 62 A9) := ((hf35 (m + 9) (by omega) (by omega) (by omega) (by omega)).trans (ga19 ((m + 9)) (by omega) (by omega))).trans hm9
      have hc66 : M24 (m + 10) = some (sArr G 8 A10) := ((hf35 (m + 10) (by omega) (by omega) (by omega) (by omega)).trans (ga19 ((m + 10)) (by omega) (by omega))).trans hm10
      have hc67 : M24 (m + 11) = some (sArr G 8 A11) := ((hf35 (m + 11) (by omega) (by omega) (by omega) (by omega)).trans (ga19 ((m + 11)) (by omega) (by omega))).trans hm11
      have hc68 : M24 (m + 12) = some (sArr G 60 A12) := ((hf35 (m + 12) (by omega) (by omega) (by omega) (by omega)).trans (ga19 ((m + 12)) (by omega) (by omega))).trans hm12
      have hc69 : M24 (m + 13) = some (sArr G 240 A13) := ((hf35 (m + 13) (by omega) (by omega) (by omega) (by omega)).trans (ga19 ((m + 13)) (by omega) (by omega))).trans hm13
      have hc70 : M24 (m + 14) = some (sArr G 574 A14) := ((hf35 (m + 14) (by omega) (by omega) (by omega) (by omega)).trans (ga19 ((m + 14)) (by omega) (by omega))).trans hm14
      have hc71 : M24 (m + 15) = some (sArr G 200 T2) := ((hf35 (m + 15) (by omega) (by omega) (by omega) (by omega)).trans (ga19 ((m + 15)) (by omega) (by omega))).trans hm15
      have hc72 : M24 o = some (sArL G 1 g0) := (gb49 o (by omega)).trans hc11
      exact W.widen (by omega) (by omega) (hk _ _ _ _ _ (by omega) ⟨_, _, _, _, _, _, _, _, _, _, _, _, _, _, _, _, _, _, _, _, _, _, _, _, _, _, hc48, hc50, hc51, hc52, hc53, hc54, hc55, hc56, hc57, hc58, hc59, hc39, hc60, hc61, hc62, hc63, hc33, hc34, hc32, hc64, hc65, hc66, hc67, hc68, hc69, hc70, hc71, hc72, lF_s hlF, htp, hwr⟩ hV (lv_sub hl [2, 3, 4, 5, 6] rfl))
    · rw [ez41]
      exact (nx_withRank_0_1 c9 c40).elim
    · rw [ez44]
      exact (nx_withRank_0_2 c9 c43).elim
  · rw [ez13]
    refine lv_istore (lv' := [(5, .int (sI 2)), (0, .ref z), (1, .ref c), (2, .ref m), (3, .ref o), (4, .int (sI i))]) hx_ hb_ dL_law_858 hl (by decide) rfl (fun ls hl => ?_)
    refine lv_aload_n hx_ hb_ dL_law_860 rfl (lv_at hl 3 rfl) ?_
    refine lv_aload_n hx_ hb_ dL_law_861 rfl (lv_at hl 1 rfl) ?_
    refine lv_iload hx_ hb_ dL_law_862 (lv_at hl 5 rfl) ?_
    refine si_const S dL_law_864 ?_
    refine si_add S dL_law_865 ?_
    refine sc_sld S hV hX hzb (by omega) dL_law_866 ?_
    refine lv_aload_n hx_ hb_ dL_law_867 rfl (lv_at hl 1 rfl) ?_
    refine lv_iload hx_ hb_ dL_law_868 (lv_at hl 5 rfl) ?_
    refine si_const S dL_law_870 ?_
    refine si_add S dL_law_871 ?_
    refine sc_sld S hV hX hzb (by omega) dL_law_872 ?_
    have ga74 : ∀ x : Nat, m ≤ x → x < m + 16 → M1 x = M x := fun x u1 u2 => hf7 x (by omega) (by omega)
    have hc73 : M1 m = some (mO m th ch tn te sn nm wn) := (ga74 m (by omega) (by omega)).trans hm0
    have hc75 : M1 (m + 1) = some (sArr G 574 f) := (ga74 ((m + 1)) (by omega) (by omega)).trans hm1
    have hc76 : M1 (m + 7) = some (sArr G 10 A7) := (ga74 ((m + 7)) (by omega) (by omega)).trans hm7
    have hc77 : M1 (m + 5) = some (sArr G 1024 A5) := (ga74 ((m + 5)) (by omega) (by omega)).trans hm5
    have hc78 : M1 (m + 6) = some (sArr G 1024 A6) := (ga74 ((m + 6)) (by omega) (by omega)).trans hm6
    refine sk_Vi E hV (As := [.int (sI (lX xs (i + 1))), .int (sI (lX xs (i + 2)))]) (rest := []) (kX11_withRank l_ G b_ M1 N2 m th ch tn te sn nm wn f A7 A5 A6 (lX xs (i + 1)) (lX xs (i + 2)) hc73 hc75 hc76 hc77 hc78 (hok) (⟨lX_r xs _, lX_r xs _⟩)) (cwV 2 S.2.2.2.2 gL_law_X11_withRank rfl rfl rfl (by decide +kernel) ⟨Nat.le_of_ble_eq_true rfl, Nat.le_of_ble_eq_true rfl⟩) (ci := 9) hc73 rfl rfl rfl hl.1 (Nat.le_of_ble_eq_true rfl) dL_law_873 (c1 := cc_ + 8) (s1 := ss_ + 50) ⟨⟨rfl, rfl⟩, by omega, by omega⟩ (fun z82 M79 N80 H locs hp81 hV => ?_)
    obtain ⟨A983, W984, R985, hN86, hc87, hc88, hc89, hf90, hq91⟩ := hp81
    rw [hN86] at hV
    rcases hq91 with ⟨c92, ez93, hc94⟩ | ⟨c95, ez96, hc97⟩ | ⟨c98, ez99, hc100⟩
    · rw [ez93]
      exact (nx_withRank_1_0 c12 c92).elim
    · rw [ez96]
      refine lv_istore (lv' := [(6, .int (sI 0)), (5, .int (sI 2)), (0, .ref z), (1, .ref c), (2, .ref m), (3, .ref o), (4, .int (sI i))]) hx_ hb_ dL_law_876 hl (by decide) rfl (fun ls hl => ?_)
      refine lv_aload_n hx_ hb_ dL_law_878 rfl (lv_at hl 4 rfl) ?_
      refine sk_VP E hV (As := []) (rest := []) (kX11_thrown l_ G b_ M79 N2 m 2 ch tn te sn nm wn hc97) (cwV 0 S.2.2.2.2 gL_law_X11_thrown rfl rfl rfl (by decide +kernel) ⟨Nat.le_of_ble_eq_true rfl, Nat.le_of_ble_eq_true rfl⟩) (ci := 9) hc97 rfl rfl rfl hl.1 (Nat.le_of_ble_eq_true rfl) dL_law_879 (c1 := cc_ + 8) (s1 := ss_ + 50) ⟨⟨rfl, rfl⟩, by omega, by omega⟩ (fun H locs hV => ?_)
      refine lv_iload hx_ hb_ dL_law_882 (lv_at hl 1 rfl) ?_
      refine sb_eq (tgt := 889) S dL_law_884 (by decide) (by omega) (fun _ => ?_) (fun c101 => absurd c101 (by omega))
      refine lv_iload hx_ hb_ dL_law_889 (lv_at hl 1 rfl) ?_
      refine sz_ne (tgt := 906) S dL_law_891 (by decide) (by omega) (fun _ => ?_) (fun c102 => absurd c102 (by omega))
      refine lv_goto (tgt := 2853) hx_ hb_ dL_law_906 (by decide) ?_
      have gb104 : ∀ x : Nat, (x < m ∨ m + 16 ≤ x) → M79 x = M1 x := fun x u1 => hf90 x (by omega) (by omega) (by omega) (by omega)
      have hc103 : M79 c = some (xO c kn ch) := ((gb104 c (by omega)).trans (hf7 c (by omega) (by omega))).trans hc0
      have hc105 : stC G M79 (c + 1) f := hst.fr (fun x q8 q9 => (gb104 x (by omega)).trans (hf7 x (by omega) (by omega)))
      have hc106 : triC G M79 (c + 16) := htr.fr (fun x q8 q9 => (gb104 x (by omega)).trans (hf7 x (by omega) (by omega)))
      have hc107 : kpC G M79 (c + 31) kb kn ch fs := hkp.fr (fun x q8 => (gb104 x (by omega)).trans (hf7 x (by omega) (by omega)))
      have hc108 : M79 (c + 32) = some (sObj 7 [.ref (c + 33), .int (sI tn), .int (sI te)]) := ((gb104 ((c + 32)) (by omega)).trans (hf7 (c + 32) (by omega) (by omega))).trans ht0
      have hc109 : M79 (c + 33) = some (sArr G 300 t) := ((gb104 ((c + 33)) (by omega)).trans (hf7 (c + 33) (by omega) (by omega))).trans ht1
      have hc110 : catC G M79 (c + 34) wc T := hct.fr (fun x q8 q9 => (gb104 x (by omega)).trans (hf7 x (by omega) (by omega)))
      have hc111 : orfC G M79 (c + 38) := hc6.fr (fun x q8 q9 => gb104 x (by omega))
      have hc112 : layC G M79 (c + 48) := hly.fr (fun x q8 q9 => (gb104 x (by omega)).trans (hf7 x (by omega) (by omega)))
      have hc113 : knoC G M79 (c + 54) := hkn.fr (fun x q8 q9 => (gb104 x (by omega)).trans (hf7 x (by omega) (by omega)))
      have hc114 : excC G M79 (c + 57) := hex.fr (fun x q8 q9 => (gb104 x (by omega)).trans (hf7 x (by omega) (by omega)))
      have hc115 : M79 (m + 1) = some (sArr G 574 f) := (hf90 (m + 1) (by omega) (by omega) (by omega) (by omega)).trans hc75
      have hc116 : svC G M79 (m + 2) ch fs := hsv.fr (fun x q8 q9 => (hf90 x (by omega) (by omega) (by omega) (by omega)).trans (ga74 x (by omega) (by omega)))
      have hc117 : M79 (m + 3) = some (sArr G 300 t) := ((hf90 (m + 3) (by omega) (by omega) (by omega) (by omega)).trans (ga74 ((m + 3)) (by omega) (by omega))).trans hm3
      have hc118 : M79 (m + 4) = some (sArr G 11 A4) := ((hf90 (m + 4) (by omega) (by omega) (by omega) (by omega)).trans (ga74 ((m + 4)) (by omega) (by omega))).trans hm4
      have hc119 : M79 (m + 8) = some (sArr G 10 A8) := ((hf90 (m + 8) (by omega) (by omega) (by omega) (by omega)).trans (ga74 ((m + 8)) (by omega) (by omega))).trans hm8
      have hc120 : M79 (m + 9) = some (sArr G 62 A9) := ((hf90 (m + 9) (by omega) (by omega) (by omega) (by omega)).trans (ga74 ((m + 9)) (by omega) (by omega))).trans hm9
      have hc121 : M79 (m + 10) = some (sArr G 8 A10) := ((hf90 (m + 10) (by omega) (by omega) (by omega) (by omega)).trans (ga74 ((m + 10)) (by omega) (by omega))).trans hm10
      have hc122 : M79 (m + 11) = some (sArr G 8 A11) := ((hf90 (m + 11) (by omega) (by omega) (by omega) (by omega)).trans (ga74 ((m + 11)) (by omega) (by omega))).trans hm11
      have hc123 : M79 (m + 12) = some (sArr G 60 A12) := ((hf90 (m + 12) (by omega) (by omega) (by omega) (by omega)).trans (ga74 ((m + 12)) (by omega) (by omega))).trans hm12
      have hc124 : M79 (m + 13) = some (sArr G 240 A13) := ((hf90 (m + 13) (by omega) (by omega) (by omega) (by omega)).trans (ga74 ((m + 13)) (by omega) (by omega))).trans hm13
      have hc125 : M79 (m + 14) = some (sArr G 574 A14) := ((hf90 (m + 14) (by omega) (by omega) (by omega) (by omega)).trans (ga74 ((m + 14)) (by omega) (by omega))).trans hm14
      have hc126 : M79 (m + 15) = some (sArr G 200 T2) := ((hf90 (m + 15) (by omega) (by omega) (by omega) (by omega)).trans (ga74 ((m + 15)) (by omega) (by omega))).trans hm15
      have hc127 : M79 o = some (sArL G 1 g0) := (gb104 o (by omega)).trans hc14
      exact W.widen (by omega) (by omega) (hk _ _ _ _ _ (by omega) ⟨_, _, _, _, _, _, _, _, _, _, _, _, _, _, _, _, _, _, _, _, _, _, _, _, _, _, hc103, hc105, hc106, hc107, hc108, hc109, hc110, hc111, hc112, hc113, hc114, hc97, hc115, hc116, hc117, hc118, hc88, hc89, hc87, hc119, hc120, hc121, hc122, hc123, hc124, hc125, hc126, hc127, lF_s hlF, htp, hwr⟩ hV (lv_sub hl [2, 3, 4, 5, 6] rfl))
    · rw [ez99]
      exact (nx_withRank_1_2 c12 c98).elim
  · rw [ez16]
    refine lv_istore (lv' := [(5, .int (sI 0)), (0, .ref z), (1, .ref c), (2, .ref m), (3, .ref o), (4, .int (sI i))]) hx_ hb_ dL_law_858 hl (by decide) rfl (fun ls hl => ?_)
    refine lv_aload_n hx_ hb_ dL_law_860 rfl (lv_at hl 3 rfl) ?_
    refine lv_aload_n hx_ hb_ dL_law_861 rfl (lv_at hl 1 rfl) ?_
    refine lv_iload hx_ hb_ dL_law_862 (lv_at hl 5 rfl) ?_
    refine si_const S dL_law_864 ?_
    refine si_add S dL_law_865 ?_
    refine sc_sld S hV hX hzb (by omega) dL_law_866 ?_
    refine lv_aload_n hx_ hb_ dL_law_867 rfl (lv_at hl 1 rfl) ?_
    refine lv_iload hx_ hb_ dL_law_868 (lv_at hl 5 rfl) ?_
    refine si_const S dL_law_870 ?_
    refine si_add S dL_law_871 ?_
    refine sc_sld S hV hX hzb (by omega) dL_law_872 ?_
    have ga129 : ∀ x : Nat, m ≤ x → x < m + 16 → M1 x = M x := fun x u1 u2 => hf7 x (by omega) (by omega)
    have hc128 : M1 m = some (mO m th ch tn te sn nm wn) := (ga129 m (by omega) (by omega)).trans hm0
    have hc130 : M1 (m + 1) = some (sArr G 574 f) := (ga129 ((m + 1)) (by omega) (by omega)).trans hm1
    have hc131 : M1 (m + 7) = some (sArr G 10 A7) := (ga129 ((m + 7)) (by omega) (by omega)).trans hm7
    have hc132 : M1 (m + 5) = some (sArr G 1024 A5) := (ga129 ((m + 5)) (by omega) (by omega)).trans hm5
    have hc133 : M1 (m + 6) = some (sArr G 1024 A6) := (ga129 ((m + 6)) (by omega) (by omega)).trans hm6
    refine sk_Vi E hV (As := [.int (sI (lX xs (i + 1))), .int (sI (lX xs (i + 2)))]) (rest := []) (kX11_withRank l_ G b_ M1 N2 m th ch tn te sn nm wn f A7 A5 A6 (lX xs (i + 1)) (lX xs (i + 2)) hc128 hc130 hc131 hc132 hc133 (hok) (⟨lX_r xs _, lX_r xs _⟩)) (cwV 2 S.2.2.2.2 gL_law_X11_withRank rfl rfl rfl (by decide +kernel) ⟨Nat.le_of_ble_eq_true rfl, Nat.le_of_ble_eq_true rfl⟩) (ci := 9) hc128 rfl rfl rfl hl.1 (Nat.le_of_ble_eq_true rfl) dL_law_873 (c1 := cc_ + 8) (s1 := ss_ + 50) ⟨⟨rfl, rfl⟩, by omega, by omega⟩ (fun z137 M134 N135 H locs hp136 hV => ?_)
    obtain ⟨A9138, W9139, R9140, hN141, hc142, hc143, hc144, hf145, hq146⟩ := hp136
    rw [hN141] at hV
    rcases hq146 with ⟨c147, ez148, hc149⟩ | ⟨c150, ez151, hc152⟩ | ⟨c153, ez154, hc155⟩
    · rw [ez148]
      exact (nx_withRank_2_0 c15 c147).elim
    · rw [ez151]
      exact (nx_withRank_2_1 c15 c150).elim
    · rw [ez154]
      refine lv_istore (lv' := [(6, .int (sI (rkI f (lX xs (i + 1)) (lX xs (i + 2))))), (5, .int (sI 0)), (0, .ref z), (1, .ref c), (2, .ref m), (3, .ref o), (4, .int (sI i))]) hx_ hb_ dL_law_876 hl (by decide) rfl (fun ls hl => ?_)
      refine lv_aload_n hx_ hb_ dL_law_878 rfl (lv_at hl 4 rfl) ?_
      refine sk_VP E hV (As := []) (rest := []) (kX11_thrown l_ G b_ M134 N2 m 0 ch tn te sn nm wn hc155) (cwV 0 S.2.2.2.2 gL_law_X11_thrown rfl rfl rfl (by decide +kernel) ⟨Nat.le_of_ble_eq_true rfl, Nat.le_of_ble_eq_true rfl⟩) (ci := 9) hc155 rfl rfl rfl hl.1 (Nat.le_of_ble_eq_true rfl) dL_law_879 (c1 := cc_ + 8) (s1 := ss_ + 50) ⟨⟨rfl, rfl⟩, by omega, by omega⟩ (fun H locs hV => ?_)
      refine lv_iload hx_ hb_ dL_law_882 (lv_at hl 1 rfl) ?_
      refine sb_eq (tgt := 889) S dL_law_884 (by decide) (by omega) (fun _ => ?_) (fun c156 => absurd c156 (by omega))
      refine lv_iload hx_ hb_ dL_law_889 (lv_at hl 1 rfl) ?_
      refine sz_ne (tgt := 906) S dL_law_891 (by decide) (by omega) (fun c157 => absurd c157 (by omega)) (fun _ => ?_)
      refine lv_aload_n hx_ hb_ dL_law_894 rfl (lv_at hl 5 rfl) ?_
      refine si_const S dL_law_895 ?_
      have gb159 : ∀ x : Nat, (x < m ∨ m + 16 ≤ x) → M134 x = M1 x := fun x u1 => hf145 x (by omega) (by omega) (by omega) (by omega)
      have hc158 : M134 o = some (sArL G 1 (iup g0 0 (sW (rkI f (lX xs (i + 1)) (lX xs (i + 2)))))) := (gb159 o (by omega)).trans hc17
      refine sc_lald S hK hV hc158 (by omega) dL_law_896 ?_
      rw [show (iup g0 0 (sW (rkI f (lX xs (i + 1)) (lX xs (i + 2))))) 0 = sW (rkI f (lX xs (i + 1)) (lX xs (i + 2))) from if_pos rfl]
      refine lv_iload hx_ hb_ dL_law_897 (lv_at hl 0 rfl) ?_
      refine sl_i2w S dL_law_899 ?_
      refine sl_cmp0 S (rfl) dL_law_900 ?_
      refine sz_eq (tgt := 906) S dL_law_901 (by decide) (by omega) (fun _ => ?_) (fun c160 => absurd c160 (by omega))
      refine lv_goto (tgt := 2853) hx_ hb_ dL_law_906 (by decide) ?_
      have hc161 : M134 c = some (xO c kn ch) := ((gb159 c (by omega)).trans (hf7 c (by omega) (by omega))).trans hc0
      have hc162 : stC G M134 (c + 1) f := hst.fr (fun x q8 q9 => (gb159 x (by omega)).trans (hf7 x (by omega) (by omega)))
      have hc163 : triC G M134 (c + 16) := htr.fr (fun x q8 q9 => (gb159 x (by omega)).trans (hf7 x (by omega) (by omega)))
      have hc164 : kpC G M134 (c + 31) kb kn ch fs := hkp.fr (fun x q8 => (gb159 x (by omega)).trans (hf7 x (by omega) (by omega)))
      have hc165 : M134 (c + 32) = some (sObj 7 [.ref (c + 33), .int (sI tn), .int (sI te)]) := ((gb159 ((c + 32)) (by omega)).trans (hf7 (c + 32) (by omega) (by omega))).trans ht0
      have hc166 : M134 (c + 33) = some (sArr G 300 t) := ((gb159 ((c + 33)) (by omega)).trans (hf7 (c + 33) (by omega) (by omega))).trans ht1
      have hc167 : catC G M134 (c + 34) wc T := hct.fr (fun x q8 q9 => (gb159 x (by omega)).trans (hf7 x (by omega) (by omega)))
      have hc168 : orfC G M134 (c + 38) := hc6.fr (fun x q8 q9 => gb159 x (by omega))
      have hc169 : layC G M134 (c + 48) := hly.fr (fun x q8 q9 => (gb159 x (by omega)).trans (hf7 x (by omega) (by omega)))
      have hc170 : knoC G M134 (c + 54) := hkn.fr (fun x q8 q9 => (gb159 x (by omega)).trans (hf7 x (by omega) (by omega)))
      have hc171 : excC G M134 (c + 57) := hex.fr (fun x q8 q9 => (gb159 x (by omega)).trans (hf7 x (by omega) (by omega)))
      have hc172 : M134 (m + 1) = some (sArr G 574 f) := (hf145 (m + 1) (by omega) (by omega) (by omega) (by omega)).trans hc130
      have hc173 : svC G M134 (m + 2) ch fs := hsv.fr (fun x q8 q9 => (hf145 x (by omega) (by omega) (by omega) (by omega)).trans (ga129 x (by omega) (by omega)))
      have hc174 : M134 (m + 3) = some (sArr G 300 t) := ((hf145 (m + 3) (by omega) (by omega) (by omega) (by omega)).trans (ga129 ((m + 3)) (by omega) (by omega))).trans hm3
      have hc175 : M134 (m + 4) = some (sArr G 11 A4) := ((hf145 (m + 4) (by omega) (by omega) (by omega) (by omega)).trans (ga129 ((m + 4)) (by omega) (by omega))).trans hm4
      have hc176 : M134 (m + 8) = some (sArr G 10 A8) := ((hf145 (m + 8) (by omega) (by omega) (by omega) (by omega)).trans (ga129 ((m + 8)) (by omega) (by omega))).trans hm8
      have hc177 : M134 (m + 9) = some (sArr G 62 A9) := ((hf145 (m + 9) (by omega) (by omega) (by omega) (by omega)).trans (ga129 ((m + 9)) (by omega) (by omega))).trans hm9
      have hc178 : M134 (m + 10) = some (sArr G 8 A10) := ((hf145 (m + 10) (by omega) (by omega) (by omega) (by omega)).trans (ga129 ((m + 10)) (by omega) (by omega))).trans hm10
      have hc179 : M134 (m + 11) = some (sArr G 8 A11) := ((hf145 (m + 11) (by omega) (by omega) (by omega) (by omega)).trans (ga129 ((m + 11)) (by omega) (by omega))).trans hm11
      have hc180 : M134 (m + 12) = some (sArr G 60 A12) := ((hf145 (m + 12) (by omega) (by omega) (by omega) (by omega)).trans (ga129 ((m + 12)) (by omega) (by omega))).trans hm12
      have hc181 : M134 (m + 13) = some (sArr G 240 A13) := ((hf145 (m + 13) (by omega) (by omega) (by omega) (by omega)).trans (ga129 ((m + 13)) (by omega) (by omega))).trans hm13
      have hc182 : M134 (m + 14) = some (sArr G 574 A14) := ((hf145 (m + 14) (by omega) (by omega) (by omega) (by omega)).trans (ga129 ((m + 14)) (by omega) (by omega))).trans hm14
      have hc183 : M134 (m + 15) = some (sArr G 200 T2) := ((hf145 (m + 15) (by omega) (by omega) (by omega) (by omega)).trans (ga129 ((m + 15)) (by omega) (by omega))).trans hm15
      exact W.widen (by omega) (by omega) (hk _ _ _ _ _ (by omega) ⟨_, _, _, _, _, _, _, _, _, _, _, _, _, _, _, _, _, _, _, _, _, _, _, _, _, _, hc161, hc162, hc163, hc164, hc165, hc166, hc167, hc168, hc169, hc170, hc171, hc155, hc172, hc173, hc174, hc175, hc143, hc144, hc142, hc176, hc177, hc178, hc179, hc180, hc181, hc182, hc183, hc158, lF_s hlF, htp, hwr⟩ hV (lv_sub hl [2, 3, 4, 5, 6] rfl))

theorem nx_harder_0_1 {a : Int} {f : sF} {b : Int} (h1 : ¬ ((0 ≤ a ∧ a < f 568) ∧ (0 ≤ b ∧ b < f 568))) (h2 : ((0 ≤ a ∧ a < f 568) ∧ (0 ≤ b ∧ b < f 568)) ∧ a = b) : False := by
  first
  | omega
  | (simp_all; done)
  | (simp_all; omega)
theorem nx_harder_0_2 {a : Int} {f : sF} {b : Int} (h1 : ¬ ((0 ≤ a ∧ a < f 568) ∧ (0 ≤ b ∧ b < f 568))) (h2 : ((0 ≤ a ∧ a < f 568) ∧ (0 ≤ b ∧ b < f 568)) ∧ a ≠ b) : False := by
  first
  | omega
  | (simp_all; done)
  | (simp_all; omega)
theorem nx_harder_1_0 {a : Int} {f : sF} {b : Int} (h1 : ((0 ≤ a ∧ a < f 568) ∧ (0 ≤ b ∧ b < f 568)) ∧ a = b) (h2 : ¬ ((0 ≤ a ∧ a < f 568) ∧ (0 ≤ b ∧ b < f 568))) : False := by
  first
  | omega
  | (simp_all; done)
  | (simp_all; omega)
theorem nx_harder_1_2 {a : Int} {f : sF} {b : Int} (h1 : ((0 ≤ a ∧ a < f 568) ∧ (0 ≤ b ∧ b < f 568)) ∧ a = b) (h2 : ((0 ≤ a ∧ a < f 568) ∧ (0 ≤ b ∧ b < f 568)) ∧ a ≠ b) : False := by
  first
  | omega
  | (simp_all; done)
  | (simp_all; omega)
theorem nx_harder_2_0 {a : Int} {f : sF} {b : Int} (h1 : ((0 ≤ a ∧ a < f 568) ∧ (0 ≤ b ∧ b < f 568)) ∧ a ≠ b) (h2 : ¬ ((0 ≤ a ∧ a < f 568) ∧ (0 ≤ b ∧ b < f 568))) : False := by
  first
  | omega
  | (simp_all; done)
  | (simp_all; omega)
theorem nx_harder_2_1 {a : Int} {f : sF} {b : Int} (h1 : ((0 ≤ a ∧ a < f 568) ∧ (0 ≤ b ∧ b < f 568)) ∧ a ≠ b) (h2 : ((0 ≤ a ∧ a < f 568) ∧ (0 ≤ b ∧ b < f 568)) ∧ a = b) : False := by
  first
  | omega
  | (simp_all; done)
  | (simp_all; omega)
set_option maxHeartbeats 4000000 in
set_option maxRecDepth 100000 in
theorem law_13 {p_ : Program} {l_ : Launch} {e_ : Env} {s_ : State} {m_ : MethodId} {args_ : Array Value} {below_ : List Frame} {meth_ : Method} {c_ : Code} {nm_ : String} {G : sG} {b_ : Nat} {M0 : sM} {N0 : Nat} {Q : State → Prop} (E : sE p_ l_ e_ room_1 s_ m_ args_ below_ meth_ c_ cL_law 9 wsL_law RL nm_ (some .boolean) G b_ M0 N0) (hF_ : xcF s_) (hlt : l_.stackTraces = false) {z L : Nat} {xs : Nat → Int32} (hX : va_X z L xs s_ s_.heap) (hzb : z < b_) {c m o kb : Nat} (hg : c + 60 ≤ m ∧ m + 16 ≤ o ∧ o < kb) {cc_ ss_ : Nat} (hcc : cc_ + 1170 ≤ room_1.cells ∧ ss_ + 14000 ≤ room_1.slots) {q i : Int} (hi : 0 ≤ i ∧ i + 6 ≤ L ∧ (L : Int) ≤ 3072) (hq : 0 ≤ q ∧ q ≤ 600) {M : sM} {N : Nat} (hkN : kb ≤ N) (hI : lI G M c m o kb q) {H : Heap} {locs : List Loc} {ls : Array Slot} (hV : sV G b_ M N s_ H locs) (hl : lv_has ls 9 [(0, .ref z), (1, .ref c), (2, .ref m), (3, .ref o), (4, .int (sI i))])
    (hk : ∀ (M1 : sM) (N1 : Nat) (H1 : Heap) (locs1 : List Loc) (ls1 : Array Slot), kb ≤ N1 → lI G M1 c m o kb (q + 1) → sV G b_ M1 N1 s_ H1 locs1 → lv_has ls1 9 [(0, .ref z), (1, .ref c), (2, .ref m), (3, .ref o), (4, .int (sI i))] → W p_ l_ e_ room_1 s_ m_ args_ below_ meth_ c_ H1 locs1 (cc_ + 1170) (ss_ + 14000) Q (F0 m_ 2853 ls1 [])) : W p_ l_ e_ room_1 s_ m_ args_ below_ meth_ c_ H locs cc_ ss_ Q (F0 m_ 909 ls []) := by
  have S := E.1
  have hx_ := S.1
  have hb_ := S.2.1
  have hK := E.2.2.2.2.1
  have hI2 := hI
  obtain ⟨kn, ch, f, fs, tn, te, t, wc, wn, T, T2, th, sn, nm, g0, A4, A5, A6, A7, A8, A9, A10, A11, A12, A13, A14, hc0, hst, htr, hkp, ht0, ht1, hct, hft, hly, hkn, hex, hm0, hm1, hsv, hm3, hm4, hm5, hm6, hm7, hm8, hm9, hm10, hm11, hm12, hm13, hm14, hm15, ho9, hlF, htp, hwr⟩ := hI2
  have hok := hlF.1.1
  have hdI := hlF.1.2.1
  have hsL := hlF.1.2.2.1
  have hclk := hlF.1.2.2.2
  have hchr : 0 ≤ ch ∧ ch ≤ 15 := ⟨hkp.r.2.2.1, hkp.r.2.2.2⟩
  have htp1 := htp.1
  have htp2 := htp.2.1
  have hwq := wrQ_e hwr
  have hwq1 := hwq.1
  have hwq2 := hwq.2.1
  have kn0 := sOk_N hok
  refine lv_aload_n hx_ hb_ dL_law_909 rfl (lv_at hl 1 rfl) ?_
  refine lv_aload_n hx_ hb_ dL_law_910 rfl (lv_at hl 0 rfl) ?_
  refine lv_iload hx_ hb_ dL_law_911 (lv_at hl 4 rfl) ?_
  refine si_const S dL_law_913 ?_
  refine si_add S dL_law_914 ?_
  refine sc_sld S hV hX hzb (by omega) dL_law_915 ?_
  refine lv_aload_n hx_ hb_ dL_law_916 rfl (lv_at hl 0 rfl) ?_
  refine lv_iload hx_ hb_ dL_law_917 (lv_at hl 4 rfl) ?_
  refine si_const S dL_law_919 ?_
  refine si_add S dL_law_920 ?_
  refine sc_sld S hV hX hzb (by omega) dL_law_921 ?_
  refine lv_aload_n hx_ hb_ dL_law_922 rfl (lv_at hl 3 rfl) ?_
  refine yk_Si (hh := [(0, 10, 13, 25), (0, 10, 17, 19)]) E hF_ hV (As := [.ref c, .int (sI (lX xs (i + 1))), .int (sI (lX xs (i + 2))), .ref o]) (rest := []) (kL_harder l_ G b_ M N o g0 c kn ch f (lX xs (i + 1)) (lX xs (i + 2)) hc0 hst hft ho9 (hlt) (hok) (⟨lX_r xs _, lX_r xs _⟩) (by omega)) (vx_cwSW 4 S.2.2.2.2 gL_law_L_harder rfl rfl rfl (by decide +kernel) ⟨Nat.le_of_ble_eq_true rfl, Nat.le_of_ble_eq_true rfl⟩) rfl rfl hl.1 (Nat.le_of_ble_eq_true rfl) dL_law_923 (c1 := cc_ + 8) (s1 := ss_ + 50) ⟨⟨rfl, rfl⟩, by omega, by omega⟩ (fun z4 M1 N2 H locs hp3 hV => ?_)
  obtain ⟨hN5, hc6, hf7, hq8⟩ := hp3
  rcases hq8 with ⟨c9, ez10, hc11⟩ | ⟨c12, ez13, hc14⟩ | ⟨c15, ez16, hc17⟩
  · rw [ez10]
    refine lv_istore (lv' := [(5, .int (sI 1)), (0, .ref z), (1, .ref c), (2, .ref m), (3, .ref o), (4, .int (sI i))]) hx_ hb_ dL_law_926 hl (by decide) rfl (fun ls hl => ?_)
    refine lv_aload_n hx_ hb_ dL_law_928 rfl (lv_at hl 3 rfl) ?_
    refine lv_aload_n hx_ hb_ dL_law_929 rfl (lv_at hl 1 rfl) ?_
    refine lv_iload hx_ hb_ dL_law_930 (lv_at hl 5 rfl) ?_
    refine si_const S dL_law_932 ?_
    refine si_add S dL_law_933 ?_
    refine sc_sld S hV hX hzb (by omega) dL_law_934 ?_
    refine lv_aload_n hx_ hb_ dL_law_935 rfl (lv_at hl 1 rfl) ?_
    refine lv_iload hx_ hb_ dL_law_936 (lv_at hl 5 rfl) ?_
    refine si_const S dL_law_938 ?_
    refine si_add S dL_law_939 ?_
    refine sc_sld S hV hX hzb (by omega) dL_law_940 ?_
    have ga19 : ∀ x : Nat, m ≤ x → x < m + 16 → M1 x = M x := fun x u1 u2 => hf7 x (by omega) (by omega)
    have hc18 : M1 m = some (mO m th ch tn te sn nm wn) := (ga19 m (by omega) (by omega)).trans hm0
    have hc20 : M1 (m + 1) = some (sArr G 574 f) := (ga19 ((m + 1)) (by omega) (by omega)).trans hm1
    have hc21 : M1 (m + 7) = some (sArr G 10 A7) := (ga19 ((m + 7)) (by omega) (by omega)).trans hm7
    have hc22 : M1 (m + 5) = some (sArr G 1024 A5) := (ga19 ((m + 5)) (by omega) (by omega)).trans hm5
    have hc23 : M1 (m + 6) = some (sArr G 1024 A6) := (ga19 ((m + 6)) (by omega) (by omega)).trans hm6
    refine sk_Vi E hV (As := [.int (sI (lX xs (i + 1))), .int (sI (lX xs (i + 2)))]) (rest := []) (kX11_harder l_ G b_ M1 N2 m th ch tn te sn nm wn f A7 A5 A6 (lX xs (i + 1)) (lX xs (i + 2)) hc18 hc20 hc21 hc22 hc23 (hok) (⟨lX_r xs _, lX_r xs _⟩)) (cwV 2 S.2.2.2.2 gL_law_X11_harder rfl rfl rfl (by decide +kernel) ⟨Nat.le_of_ble_eq_true rfl, Nat.le_of_ble_eq_true rfl⟩) (ci := 9) hc18 rfl rfl rfl hl.1 (Nat.le_of_ble_eq_true rfl) dL_law_941 (c1 := cc_ + 8) (s1 := ss_ + 50) ⟨⟨rfl, rfl⟩, by omega, by omega⟩ (fun z27 M24 N25 H locs hp26 hV => ?_)
    obtain ⟨A928, W929, R930, hN31, hc32, hc33, hc34, hf35, hq36⟩ := hp26
    rw [hN31] at hV
    rcases hq36 with ⟨c37, ez38, hc39⟩ | ⟨c40, ez41, hc42⟩ | ⟨c43, ez44, hc45⟩
    · rw [ez38]
      refine lv_istore (lv' := [(6, .int (sI 0)), (5, .int (sI 1)), (0, .ref z), (1, .ref c), (2, .ref m), (3, .ref o), (4, .int (sI i))]) hx_ hb_ dL_law_944 hl (by decide) rfl (fun ls hl => ?_)
      refine lv_aload_n hx_ hb_ dL_law_946 rfl (lv_at hl 4 rfl) ?_
      refine sk_VP E hV (As := []) (rest := []) (kX11_thrown l_ G b_ M24 N2 m 1 ch tn te sn nm wn hc39) (cwV 0 S.2.2.2.2 gL_law_X11_thrown rfl rfl rfl (by decide +kernel) ⟨Nat.le_of_ble_eq_true rfl, Nat.le_of_ble_eq_true rfl⟩) (ci := 9) hc39 rfl rfl rfl hl.1 (Nat.le_of_ble_eq_true rfl) dL_law_947 (c1 := cc_ + 8) (s1 := ss_ + 50) ⟨⟨rfl, rfl⟩, by omega, by omega⟩ (fun H locs hV => ?_)
      refine lv_iload hx_ hb_ dL_law_950 (lv_at hl 1 rfl) ?_
      refine sb_eq (tgt := 957) S dL_law_952 (by decide) (by omega) (fun _ => ?_) (fun c46 => absurd c46 (by omega))
      refine lv_iload hx_ hb_ dL_law_957 (lv_at hl 1 rfl) ?_
      refine sz_ne (tgt := 974) S dL_law_959 (by decide) (by omega) (fun _ => ?_) (fun c47 => absurd c47 (by omega))
      refine lv_goto (tgt := 2853) hx_ hb_ dL_law_974 (by decide) ?_
      have gb49 : ∀ x : Nat, (x < m ∨ m + 16 ≤ x) → M24 x = M1 x := fun x u1 => hf35 x (by omega) (by omega) (by omega) (by omega)
      have hc48 : M24 c = some (xO c kn ch) := ((gb49 c (by omega)).trans (hf7 c (by omega) (by omega))).trans hc0
      have hc50 : stC G M24 (c + 1) f := hst.fr (fun x q8 q9 => (gb49 x (by omega)).trans (hf7 x (by omega) (by omega)))
      have hc51 : triC G M24 (c + 16) := htr.fr (fun x q8 q9 => (gb49 x (by omega)).trans (hf7 x (by omega) (by omega)))
      have hc52 : kpC G M24 (c + 31) kb kn ch fs := hkp.fr (fun x q8 => (gb49 x (by omega)).trans (hf7 x (by omega) (by omega)))
      have hc53 : M24 (c + 32) = some (sObj 7 [.ref (c + 33), .int (sI tn), .int (sI te)]) := ((gb49 ((c + 32)) (by omega)).trans (hf7 (c + 32) (by omega) (by omega))).trans ht0
      have hc54 : M24 (c + 33) = some (sArr G 300 t) := ((gb49 ((c + 33)) (by omega)).trans (hf7 (c + 33) (by omega) (by omega))).trans ht1
      have hc55 : catC G M24 (c + 34) wc T := hct.fr (fun x q8 q9 => (gb49 x (by omega)).trans (hf7 x (by omega) (by omega)))
      have hc56 : orfC G M24 (c + 38) := hc6.fr (fun x q8 q9 => gb49 x (by omega))
      have hc57 : layC G M24 (c + 48) := hly.fr (fun x q8 q9 => (gb49 x (by omega)).trans (hf7 x (by omega) (by omega)))
      have hc58 : knoC G M24 (c + 54) := hkn.fr (fun x q8 q9 => (gb49 x (by omega)).trans (hf7 x (by omega) (by omega)))
      have hc59 : excC G M24 (c + 57) := hex.fr (fun x q8 q9 => (gb49 x (by omega)).trans (hf7 x (by omega) (by omega)))
      have hc60 : M24 (m + 1) = some (sArr G 574 f) := (hf35 (m + 1) (by omega) (by omega) (by omega) (by omega)).trans hc20
      have hc61 : svC G M24 (m + 2) ch fs := hsv.fr (fun x q8 q9 => (hf35 x (by omega) (by omega) (by omega) (by omega)).trans (ga19 x (by omega) (by omega)))
      have hc62 : M24 (m + 3) = some (sArr G 300 t) := ((hf35 (m + 3) (by omega) (by omega) (by omega) (by omega)).trans (ga19 ((m + 3)) (by omega) (by omega))).trans hm3
      have hc63 : M24 (m + 4) = some (sArr G 11 A4) := ((hf35 (m + 4) (by omega) (by omega) (by omega) (by omega)).trans (ga19 ((m + 4)) (by omega) (by omega))).trans hm4
      have hc64 : M24 (m + 8) = some (sArr G 10 A8) := ((hf35 (m + 8) (by omega) (by omega) (by omega) (by omega)).trans (ga19 ((m + 8)) (by omega) (by omega))).trans hm8
      have hc65 : M24 (m + 9) = some (sArr G 62 A9) := ((hf35 (m + 9) (by omega) (by omega) (by omega) (by omega)).trans (ga19 ((m + 9)) (by omega) (by omega))).trans hm9
      have hc66 : M24 (m + 10) = some (sArr G 8 A10) := ((hf35 (m + 10) (by omega) (by omega) (by omega) (by omega)).trans (ga19 ((m + 10)) (by omega) (by omega))).trans hm10
      have hc67 : M24 (m + 11) = some (sArr G 8 A11) := ((hf35 (m + 11) (by omega) (by omega) (by omega) (by omega)).trans (ga19 ((m + 11)) (by omega) (by omega))).trans hm11
      have hc68 : M24 (m + 12) = some (sArr G 60 A12) := ((hf35 (m + 12) (by omega) (by omega) (by omega) (by omega)).trans (ga19 ((m + 12)) (by omega) (by omega))).trans hm12
      have hc69 : M24 (m + 13) = some (sArr G 240 A13) := ((hf35 (m + 13) (by omega) (by omega) (by omega) (by omega)).trans (ga19 ((m + 13)) (by omega) (by omega))).trans hm13
      have hc70 : M24 (m + 14) = some (sArr G 574 A14) := ((hf35 (m + 14) (by omega) (by omega) (by omega) (by omega)).trans (ga19 ((m + 14)) (by omega) (by omega))).trans hm14
      have hc71 : M24 (m + 15) = some (sArr G 200 T2) := ((hf35 (m + 15) (by omega) (by omega) (by omega) (by omega)).trans (ga19 ((m + 15)) (by omega) (by omega))).trans hm15
      have hc72 : M24 o = some (sArL G 1 g0) := (gb49 o (by omega)).trans hc11
      exact W.widen (by omega) (by omega) (hk _ _ _ _ _ (by omega) ⟨_, _, _, _, _, _, _, _, _, _, _, _, _, _, _, _, _, _, _, _, _, _, _, _, _, _, hc48, hc50, hc51, hc52, hc53, hc54, hc55, hc56, hc57, hc58, hc59, hc39, hc60, hc61, hc62, hc63, hc33, hc34, hc32, hc64, hc65, hc66, hc67, hc68, hc69, hc70, hc71, hc72, lF_s hlF, htp, hwr⟩ hV (lv_sub hl [2, 3, 4, 5, 6] rfl))
    · rw [ez41]
      exact (nx_harder_0_1 c9 c40).elim
    · rw [ez44]
      exact (nx_harder_0_2 c9 c43).elim
  · rw [ez13]
    refine lv_istore (lv' := [(5, .int (sI 2)), (0, .ref z), (1, .ref c), (2, .ref m), (3, .ref o), (4, .int (sI i))]) hx_ hb_ dL_law_926 hl (by decide) rfl (fun ls hl => ?_)
    refine lv_aload_n hx_ hb_ dL_law_928 rfl (lv_at hl 3 rfl) ?_
    refine lv_aload_n hx_ hb_ dL_law_929 rfl (lv_at hl 1 rfl) ?_
    refine lv_iload hx_ hb_ dL_law_930 (lv_at hl 5 rfl) ?_
    refine si_const S dL_law_932 ?_
    refine si_add S dL_law_933 ?_
    refine sc_sld S hV hX hzb (by omega) dL_law_934 ?_
    refine lv_aload_n hx_ hb_ dL_law_935 rfl (lv_at hl 1 rfl) ?_
    refine lv_iload hx_ hb_ dL_law_936 (lv_at hl 5 rfl) ?_
    refine si_const S dL_law_938 ?_
    refine si_add S dL_law_939 ?_
    refine sc_sld S hV hX hzb (by omega) dL_law_940 ?_
    have ga74 : ∀ x : Nat, m ≤ x → x < m + 16 → M1 x = M x := fun x u1 u2 => hf7 x (by omega) (by omega)
    have hc73 : M1 m = some (mO m th ch tn te sn nm wn) := (ga74 m (by omega) (by omega)).trans hm0
    have hc75 : M1 (m + 1) = some (sArr G 574 f) := (ga74 ((m + 1)) (by omega) (by omega)).trans hm1
    have hc76 : M1 (m + 7) = some (sArr G 10 A7) := (ga74 ((m + 7)) (by omega) (by omega)).trans hm7
    have hc77 : M1 (m + 5) = some (sArr G 1024 A5) := (ga74 ((m + 5)) (by omega) (by omega)).trans hm5
    have hc78 : M1 (m + 6) = some (sArr G 1024 A6) := (ga74 ((m + 6)) (by omega) (by omega)).trans hm6
    refine sk_Vi E hV (As := [.int (sI (lX xs (i + 1))), .int (sI (lX xs (i + 2)))]) (rest := []) (kX11_harder l_ G b_ M1 N2 m th ch tn te sn nm wn f A7 A5 A6 (lX xs (i + 1)) (lX xs (i + 2)) hc73 hc75 hc76 hc77 hc78 (hok) (⟨lX_r xs _, lX_r xs _⟩)) (cwV 2 S.2.2.2.2 gL_law_X11_harder rfl rfl rfl (by decide +kernel) ⟨Nat.le_of_ble_eq_true rfl, Nat.le_of_ble_eq_true rfl⟩) (ci := 9) hc73 rfl rfl rfl hl.1 (Nat.le_of_ble_eq_true rfl) dL_law_941 (c1 := cc_ + 8) (s1 := ss_ + 50) ⟨⟨rfl, rfl⟩, by omega, by omega⟩ (fun z82 M79 N80 H locs hp81 hV => ?_)
    obtain ⟨A983, W984, R985, hN86, hc87, hc88, hc89, hf90, hq91⟩ := hp81
    rw [hN86] at hV
    rcases hq91 with ⟨c92, ez93, hc94⟩ | ⟨c95, ez96, hc97⟩ | ⟨c98, ez99, hc100⟩
    · rw [ez93]
      exact (nx_harder_1_0 c12 c92).elim
    · rw [ez96]
      refine lv_istore (lv' := [(6, .int (sI 0)), (5, .int (sI 2)), (0, .ref z), (1, .ref c), (2, .ref m), (3, .ref o), (4, .int (sI i))]) hx_ hb_ dL_law_944 hl (by decide) rfl (fun ls hl => ?_)
      refine lv_aload_n hx_ hb_ dL_law_946 rfl (lv_at hl 4 rfl) ?_
      refine sk_VP E hV (As := []) (rest := []) (kX11_thrown l_ G b_ M79 N2 m 2 ch tn te sn nm wn hc97) (cwV 0 S.2.2.2.2 gL_law_X11_thrown rfl rfl rfl (by decide +kernel) ⟨Nat.le_of_ble_eq_true rfl, Nat.le_of_ble_eq_true rfl⟩) (ci := 9) hc97 rfl rfl rfl hl.1 (Nat.le_of_ble_eq_true rfl) dL_law_947 (c1 := cc_ + 8) (s1 := ss_ + 50) ⟨⟨rfl, rfl⟩, by omega, by omega⟩ (fun H locs hV => ?_)
      refine lv_iload hx_ hb_ dL_law_950 (lv_at hl 1 rfl) ?_
      refine sb_eq (tgt := 957) S dL_law_952 (by decide) (by omega) (fun _ => ?_) (fun c101 => absurd c101 (by omega))
      refine lv_iload hx_ hb_ dL_law_957 (lv_at hl 1 rfl) ?_
      refine sz_ne (tgt := 974) S dL_law_959 (by decide) (by omega) (fun _ => ?_) (fun c102 => absurd c102 (by omega))
      refine lv_goto (tgt := 2853) hx_ hb_ dL_law_974 (by decide) ?_
      have gb104 : ∀ x : Nat, (x < m ∨ m + 16 ≤ x) → M79 x = M1 x := fun x u1 => hf90 x (by omega) (by omega) (by omega) (by omega)
      have hc103 : M79 c = some (xO c kn ch) := ((gb104 c (by omega)).trans (hf7 c (by omega) (by omega))).trans hc0
      have hc105 : stC G M79 (c + 1) f := hst.fr (fun x q8 q9 => (gb104 x (by omega)).trans (hf7 x (by omega) (by omega)))
      have hc106 : triC G M79 (c + 16) := htr.fr (fun x q8 q9 => (gb104 x (by omega)).trans (hf7 x (by omega) (by omega)))
      have hc107 : kpC G M79 (c + 31) kb kn ch fs := hkp.fr (fun x q8 => (gb104 x (by omega)).trans (hf7 x (by omega) (by omega)))
      have hc108 : M79 (c + 32) = some (sObj 7 [.ref (c + 33), .int (sI tn), .int (sI te)]) := ((gb104 ((c + 32)) (by omega)).trans (hf7 (c + 32) (by omega) (by omega))).trans ht0
      have hc109 : M79 (c + 33) = some (sArr G 300 t) := ((gb104 ((c + 33)) (by omega)).trans (hf7 (c + 33) (by omega) (by omega))).trans ht1
      have hc110 : catC G M79 (c + 34) wc T := hct.fr (fun x q8 q9 => (gb104 x (by omega)).trans (hf7 x (by omega) (by omega)))
      have hc111 : orfC G M79 (c + 38) := hc6.fr (fun x q8 q9 => gb104 x (by omega))
      have hc112 : layC G M79 (c + 48) := hly.fr (fun x q8 q9 => (gb104 x (by omega)).trans (hf7 x (by omega) (by omega)))
      have hc113 : knoC G M79 (c + 54) := hkn.fr (fun x q8 q9 => (gb104 x (by omega)).trans (hf7 x (by omega) (by omega)))
      have hc114 : excC G M79 (c + 57) := hex.fr (fun x q8 q9 => (gb104 x (by omega)).trans (hf7 x (by omega) (by omega)))
      have hc115 : M79 (m + 1) = some (sArr G 574 f) := (hf90 (m + 1) (by omega) (by omega) (by omega) (by omega)).trans hc75
      have hc116 : svC G M79 (m + 2) ch fs := hsv.fr (fun x q8 q9 => (hf90 x (by omega) (by omega) (by omega) (by omega)).trans (ga74 x (by omega) (by omega)))
      have hc117 : M79 (m + 3) = some (sArr G 300 t) := ((hf90 (m + 3) (by omega) (by omega) (by omega) (by omega)).trans (ga74 ((m + 3)) (by omega) (by omega))).trans hm3
      have hc118 : M79 (m + 4) = some (sArr G 11 A4) := ((hf90 (m + 4) (by omega) (by omega) (by omega) (by omega)).trans (ga74 ((m + 4)) (by omega) (by omega))).trans hm4
      have hc119 : M79 (m + 8) = some (sArr G 10 A8) := ((hf90 (m + 8) (by omega) (by omega) (by omega) (by omega)).trans (ga74 ((m + 8)) (by omega) (by omega))).trans hm8
      have hc120 : M79 (m + 9) = some (sArr G 62 A9) := ((hf90 (m + 9) (by omega) (by omega) (by omega) (by omega)).trans (ga74 ((m + 9)) (by omega) (by omega))).trans hm9
      have hc121 : M79 (m + 10) = some (sArr G 8 A10) := ((hf90 (m + 10) (by omega) (by omega) (by omega) (by omega)).trans (ga74 ((m + 10)) (by omega) (by omega))).trans hm10
      have hc122 : M79 (m + 11) = some (sArr G 8 A11) := ((hf90 (m + 11) (by omega) (by omega) (by omega) (by omega)).trans (ga74 ((m + 11)) (by omega) (by omega))).trans hm11
      have hc123 : M79 (m + 12) = some (sArr G 60 A12) := ((hf90 (m + 12) (by omega) (by omega) (by omega) (by omega)).trans (ga74 ((m + 12)) (by omega) (by omega))).trans hm12
      have hc124 : M79 (m + 13) = some (sArr G 240 A13) := ((hf90 (m + 13) (by omega) (by omega) (by omega) (by omega)).trans (ga74 ((m + 13)) (by omega) (by omega))).trans hm13
      have hc125 : M79 (m + 14) = some (sArr G 574 A14) := ((hf90 (m + 14) (by omega) (by omega) (by omega) (by omega)).trans (ga74 ((m + 14)) (by omega) (by omega))).trans hm14
      have hc126 : M79 (m + 15) = some (sArr G 200 T2) := ((hf90 (m + 15) (by omega) (by omega) (by omega) (by omega)).trans (ga74 ((m + 15)) (by omega) (by omega))).trans hm15
      have hc127 : M79 o = some (sArL G 1 g0) := (gb104 o (by omega)).trans hc14
      exact W.widen (by omega) (by omega) (hk _ _ _ _ _ (by omega) ⟨_, _, _, _, _, _, _, _, _, _, _, _, _, _, _, _, _, _, _, _, _, _, _, _, _, _, hc103, hc105, hc106, hc107, hc108, hc109, hc110, hc111, hc112, hc113, hc114, hc97, hc115, hc116, hc117, hc118, hc88, hc89, hc87, hc119, hc120, hc121, hc122, hc123, hc124, hc125, hc126, hc127, lF_s hlF, htp, hwr⟩ hV (lv_sub hl [2, 3, 4, 5, 6] rfl))
    · rw [ez99]
      exact (nx_harder_1_2 c12 c98).elim
  · rw [ez16]
    refine lv_istore (lv' := [(5, .int (sI 0)), (0, .ref z), (1, .ref c), (2, .ref m), (3, .ref o), (4, .int (sI i))]) hx_ hb_ dL_law_926 hl (by decide) rfl (fun ls hl => ?_)
    refine lv_aload_n hx_ hb_ dL_law_928 rfl (lv_at hl 3 rfl) ?_
    refine lv_aload_n hx_ hb_ dL_law_929 rfl (lv_at hl 1 rfl) ?_
    refine lv_iload hx_ hb_ dL_law_930 (lv_at hl 5 rfl) ?_
    refine si_const S dL_law_932 ?_
    refine si_add S dL_law_933 ?_
    refine sc_sld S hV hX hzb (by omega) dL_law_934 ?_
    refine lv_aload_n hx_ hb_ dL_law_935 rfl (lv_at hl 1 rfl) ?_
    refine lv_iload hx_ hb_ dL_law_936 (lv_at hl 5 rfl) ?_
    refine si_const S dL_law_938 ?_
    refine si_add S dL_law_939 ?_
    refine sc_sld S hV hX hzb (by omega) dL_law_940 ?_
    have ga129 : ∀ x : Nat, m ≤ x → x < m + 16 → M1 x = M x := fun x u1 u2 => hf7 x (by omega) (by omega)
    have hc128 : M1 m = some (mO m th ch tn te sn nm wn) := (ga129 m (by omega) (by omega)).trans hm0
    have hc130 : M1 (m + 1) = some (sArr G 574 f) := (ga129 ((m + 1)) (by omega) (by omega)).trans hm1
    have hc131 : M1 (m + 7) = some (sArr G 10 A7) := (ga129 ((m + 7)) (by omega) (by omega)).trans hm7
    have hc132 : M1 (m + 5) = some (sArr G 1024 A5) := (ga129 ((m + 5)) (by omega) (by omega)).trans hm5
    have hc133 : M1 (m + 6) = some (sArr G 1024 A6) := (ga129 ((m + 6)) (by omega) (by omega)).trans hm6
    refine sk_Vi E hV (As := [.int (sI (lX xs (i + 1))), .int (sI (lX xs (i + 2)))]) (rest := []) (kX11_harder l_ G b_ M1 N2 m th ch tn te sn nm wn f A7 A5 A6 (lX xs (i + 1)) (lX xs (i + 2)) hc128 hc130 hc131 hc132 hc133 (hok) (⟨lX_r xs _, lX_r xs _⟩)) (cwV 2 S.2.2.2.2 gL_law_X11_harder rfl rfl rfl (by decide +kernel) ⟨Nat.le_of_ble_eq_true rfl, Nat.le_of_ble_eq_true rfl⟩) (ci := 9) hc128 rfl rfl rfl hl.1 (Nat.le_of_ble_eq_true rfl) dL_law_941 (c1 := cc_ + 8) (s1 := ss_ + 50) ⟨⟨rfl, rfl⟩, by omega, by omega⟩ (fun z137 M134 N135 H locs hp136 hV => ?_)
    obtain ⟨A9138, W9139, R9140, hN141, hc142, hc143, hc144, hf145, hq146⟩ := hp136
    rw [hN141] at hV
    rcases hq146 with ⟨c147, ez148, hc149⟩ | ⟨c150, ez151, hc152⟩ | ⟨c153, ez154, hc155⟩
    · rw [ez148]
      exact (nx_harder_2_0 c15 c147).elim
    · rw [ez151]
      exact (nx_harder_2_1 c15 c150).elim
    · rw [ez154]
      refine lv_istore (lv' := [(6, .int (sI (abI f (lX xs (i + 1)) (lX xs (i + 2))))), (5, .int (sI 0)), (0, .ref z), (1, .ref c), (2, .ref m), (3, .ref o), (4, .int (sI i))]) hx_ hb_ dL_law_944 hl (by decide) rfl (fun ls hl => ?_)
      refine lv_aload_n hx_ hb_ dL_law_946 rfl (lv_at hl 4 rfl) ?_
      refine sk_VP E hV (As := []) (rest := []) (kX11_thrown l_ G b_ M134 N2 m 0 ch tn te sn nm wn hc155) (cwV 0 S.2.2.2.2 gL_law_X11_thrown rfl rfl rfl (by decide +kernel) ⟨Nat.le_of_ble_eq_true rfl, Nat.le_of_ble_eq_true rfl⟩) (ci := 9) hc155 rfl rfl rfl hl.1 (Nat.le_of_ble_eq_true rfl) dL_law_947 (c1 := cc_ + 8) (s1 := ss_ + 50) ⟨⟨rfl, rfl⟩, by omega, by omega⟩ (fun H locs hV => ?_)
      refine lv_iload hx_ hb_ dL_law_950 (lv_at hl 1 rfl) ?_
      refine sb_eq (tgt := 957) S dL_law_952 (by decide) (by omega) (fun _ => ?_) (fun c156 => absurd c156 (by omega))
      refine lv_iload hx_ hb_ dL_law_957 (lv_at hl 1 rfl) ?_
      refine sz_ne (tgt := 974) S dL_law_959 (by decide) (by omega) (fun c157 => absurd c157 (by omega)) (fun _ => ?_)
      refine lv_aload_n hx_ hb_ dL_law_962 rfl (lv_at hl 5 rfl) ?_
      refine si_const S dL_law_963 ?_
      have gb159 : ∀ x : Nat, (x < m ∨ m + 16 ≤ x) → M134 x = M1 x := fun x u1 => hf145 x (by omega) (by omega) (by omega) (by omega)
      have hc158 : M134 o = some (sArL G 1 (iup g0 0 (sW (abI f (lX xs (i + 1)) (lX xs (i + 2)))))) := (gb159 o (by omega)).trans hc17
      refine sc_lald S hK hV hc158 (by omega) dL_law_964 ?_
      rw [show (iup g0 0 (sW (abI f (lX xs (i + 1)) (lX xs (i + 2))))) 0 = sW (abI f (lX xs (i + 1)) (lX xs (i + 2))) from if_pos rfl]
      refine lv_iload hx_ hb_ dL_law_965 (lv_at hl 0 rfl) ?_
      refine sl_i2w S dL_law_967 ?_
      refine sl_cmp0 S (rfl) dL_law_968 ?_
      refine sz_eq (tgt := 974) S dL_law_969 (by decide) (by omega) (fun _ => ?_) (fun c160 => absurd c160 (by omega))
      refine lv_goto (tgt := 2853) hx_ hb_ dL_law_974 (by decide) ?_
      have hc161 : M134 c = some (xO c kn ch) := ((gb159 c (by omega)).trans (hf7 c (by omega) (by omega))).trans hc0
      have hc162 : stC G M134 (c + 1) f := hst.fr (fun x q8 q9 => (gb159 x (by omega)).trans (hf7 x (by omega) (by omega)))
      have hc163 : triC G M134 (c + 16) := htr.fr (fun x q8 q9 => (gb159 x (by omega)).trans (hf7 x (by omega) (by omega)))
      have hc164 : kpC G M134 (c + 31) kb kn ch fs := hkp.fr (fun x q8 => (gb159 x (by omega)).trans (hf7 x (by omega) (by omega)))
      have hc165 : M134 (c + 32) = some (sObj 7 [.ref (c + 33), .int (sI tn), .int (sI te)]) := ((gb159 ((c + 32)) (by omega)).trans (hf7 (c + 32) (by omega) (by omega))).trans ht0
      have hc166 : M134 (c + 33) = some (sArr G 300 t) := ((gb159 ((c + 33)) (by omega)).trans (hf7 (c + 33) (by omega) (by omega))).trans ht1
      have hc167 : catC G M134 (c + 34) wc T := hct.fr (fun x q8 q9 => (gb159 x (by omega)).trans (hf7 x (by omega) (by omega)))
      have hc168 : orfC G M134 (c + 38) := hc6.fr (fun x q8 q9 => gb159 x (by omega))
      have hc169 : layC G M134 (c + 48) := hly.fr (fun x q8 q9 => (gb159 x (by omega)).trans (hf7 x (by omega) (by omega)))
      have hc170 : knoC G M134 (c + 54) := hkn.fr (fun x q8 q9 => (gb159 x (by omega)).trans (hf7 x (by omega) (by omega)))
      have hc171 : excC G M134 (c + 57) := hex.fr (fun x q8 q9 => (gb159 x (by omega)).trans (hf7 x (by omega) (by omega)))
      have hc172 : M134 (m + 1) = some (sArr G 574 f) := (hf145 (m + 1) (by omega) (by omega) (by omega) (by omega)).trans hc130
      have hc173 : svC G M134 (m + 2) ch fs := hsv.fr (fun x q8 q9 => (hf145 x (by omega) (by omega) (by omega) (by omega)).trans (ga129 x (by omega) (by omega)))
      have hc174 : M134 (m + 3) = some (sArr G 300 t) := ((hf145 (m + 3) (by omega) (by omega) (by omega) (by omega)).trans (ga129 ((m + 3)) (by omega) (by omega))).trans hm3
      have hc175 : M134 (m + 4) = some (sArr G 11 A4) := ((hf145 (m + 4) (by omega) (by omega) (by omega) (by omega)).trans (ga129 ((m + 4)) (by omega) (by omega))).trans hm4
      have hc176 : M134 (m + 8) = some (sArr G 10 A8) := ((hf145 (m + 8) (by omega) (by omega) (by omega) (by omega)).trans (ga129 ((m + 8)) (by omega) (by omega))).trans hm8
      have hc177 : M134 (m + 9) = some (sArr G 62 A9) := ((hf145 (m + 9) (by omega) (by omega) (by omega) (by omega)).trans (ga129 ((m + 9)) (by omega) (by omega))).trans hm9
      have hc178 : M134 (m + 10) = some (sArr G 8 A10) := ((hf145 (m + 10) (by omega) (by omega) (by omega) (by omega)).trans (ga129 ((m + 10)) (by omega) (by omega))).trans hm10
      have hc179 : M134 (m + 11) = some (sArr G 8 A11) := ((hf145 (m + 11) (by omega) (by omega) (by omega) (by omega)).trans (ga129 ((m + 11)) (by omega) (by omega))).trans hm11
      have hc180 : M134 (m + 12) = some (sArr G 60 A12) := ((hf145 (m + 12) (by omega) (by omega) (by omega) (by omega)).trans (ga129 ((m + 12)) (by omega) (by omega))).trans hm12
      have hc181 : M134 (m + 13) = some (sArr G 240 A13) := ((hf145 (m + 13) (by omega) (by omega) (by omega) (by omega)).trans (ga129 ((m + 13)) (by omega) (by omega))).trans hm13
      have hc182 : M134 (m + 14) = some (sArr G 574 A14) := ((hf145 (m + 14) (by omega) (by omega) (by omega) (by omega)).trans (ga129 ((m + 14)) (by omega) (by omega))).trans hm14
      have hc183 : M134 (m + 15) = some (sArr G 200 T2) := ((hf145 (m + 15) (by omega) (by omega) (by omega) (by omega)).trans (ga129 ((m + 15)) (by omega) (by omega))).trans hm15
      exact W.widen (by omega) (by omega) (hk _ _ _ _ _ (by omega) ⟨_, _, _, _, _, _, _, _, _, _, _, _, _, _, _, _, _, _, _, _, _, _, _, _, _, _, hc161, hc162, hc163, hc164, hc165, hc166, hc167, hc168, hc169, hc170, hc171, hc155, hc172, hc173, hc174, hc175, hc143, hc144, hc142, hc176, hc177, hc178, hc179, hc180, hc181, hc182, hc183, hc158, lF_s hlF, htp, hwr⟩ hV (lv_sub hl [2, 3, 4, 5, 6] rfl))

theorem nx_shareOf_0_1 {a : Int} {f : sF} {b : Int} (h1 : ¬ ((0 ≤ a ∧ a < f 568) ∧ (0 ≤ b ∧ b < f 568))) (h2 : ((0 ≤ a ∧ a < f 568) ∧ (0 ≤ b ∧ b < f 568)) ∧ a = b) : False := by
  first
  | omega
  | (simp_all; done)
  | (simp_all; omega)
theorem nx_shareOf_0_2 {a : Int} {f : sF} {b : Int} (h1 : ¬ ((0 ≤ a ∧ a < f 568) ∧ (0 ≤ b ∧ b < f 568))) (h2 : ((0 ≤ a ∧ a < f 568) ∧ (0 ≤ b ∧ b < f 568)) ∧ a ≠ b ∧ totI f = 0) : False := by
  first
  | omega
  | (simp_all; done)
  | (simp_all; omega)
theorem nx_shareOf_0_3 {a : Int} {f : sF} {b : Int} (h1 : ¬ ((0 ≤ a ∧ a < f 568) ∧ (0 ≤ b ∧ b < f 568))) (h2 : ((0 ≤ a ∧ a < f 568) ∧ (0 ≤ b ∧ b < f 568)) ∧ a ≠ b ∧ totI f ≠ 0) : False := by
  first
  | omega
  | (simp_all; done)
  | (simp_all; omega)
theorem nx_shareOf_1_0 {a : Int} {f : sF} {b : Int} (h1 : ((0 ≤ a ∧ a < f 568) ∧ (0 ≤ b ∧ b < f 568)) ∧ a = b) (h2 : ¬ ((0 ≤ a ∧ a < f 568) ∧ (0 ≤ b ∧ b < f 568))) : False := by
  first
  | omega
  | (simp_all; done)
  | (simp_all; omega)
theorem nx_shareOf_1_2 {a : Int} {f : sF} {b : Int} (h1 : ((0 ≤ a ∧ a < f 568) ∧ (0 ≤ b ∧ b < f 568)) ∧ a = b) (h2 : ((0 ≤ a ∧ a < f 568) ∧ (0 ≤ b ∧ b < f 568)) ∧ a ≠ b ∧ totI f = 0) : False := by
  first
  | omega
  | (simp_all; done)
  | (simp_all; omega)
theorem nx_shareOf_1_3 {a : Int} {f : sF} {b : Int} (h1 : ((0 ≤ a ∧ a < f 568) ∧ (0 ≤ b ∧ b < f 568)) ∧ a = b) (h2 : ((0 ≤ a ∧ a < f 568) ∧ (0 ≤ b ∧ b < f 568)) ∧ a ≠ b ∧ totI f ≠ 0) : False := by
  first
  | omega
  | (simp_all; done)
  | (simp_all; omega)
theorem nx_shareOf_2_0 {a : Int} {f : sF} {b : Int} (h1 : ((0 ≤ a ∧ a < f 568) ∧ (0 ≤ b ∧ b < f 568)) ∧ a ≠ b ∧ totI f = 0) (h2 : ¬ ((0 ≤ a ∧ a < f 568) ∧ (0 ≤ b ∧ b < f 568))) : False := by
  first
  | omega
  | (simp_all; done)
  | (simp_all; omega)
theorem nx_shareOf_2_1 {a : Int} {f : sF} {b : Int} (h1 : ((0 ≤ a ∧ a < f 568) ∧ (0 ≤ b ∧ b < f 568)) ∧ a ≠ b ∧ totI f = 0) (h2 : ((0 ≤ a ∧ a < f 568) ∧ (0 ≤ b ∧ b < f 568)) ∧ a = b) : False := by
  first
  | omega
  | (simp_all; done)
  | (simp_all; omega)
theorem nx_shareOf_2_3 {a : Int} {f : sF} {b : Int} (h1 : ((0 ≤ a ∧ a < f 568) ∧ (0 ≤ b ∧ b < f 568)) ∧ a ≠ b ∧ totI f = 0) (h2 : ((0 ≤ a ∧ a < f 568) ∧ (0 ≤ b ∧ b < f 568)) ∧ a ≠ b ∧ totI f ≠ 0) : False := by
  first
  | omega
  | (simp_all; done)
  | (simp_all; omega)
theorem nx_shareOf_3_0 {a : Int} {f : sF} {b : Int} (h1 : ((0 ≤ a ∧ a < f 568) ∧ (0 ≤ b ∧ b < f 568)) ∧ a ≠ b ∧ totI f ≠ 0) (h2 : ¬ ((0 ≤ a ∧ a < f 568) ∧ (0 ≤ b ∧ b < f 568))) : False := by
  first
  | omega
  | (simp_all; done)
  | (simp_all; omega)
theorem nx_shareOf_3_1 {a : Int} {f : sF} {b : Int} (h1 : ((0 ≤ a ∧ a < f 568) ∧ (0 ≤ b ∧ b < f 568)) ∧ a ≠ b ∧ totI f ≠ 0) (h2 : ((0 ≤ a ∧ a < f 568) ∧ (0 ≤ b ∧ b < f 568)) ∧ a = b) : False := by
  first
  | omega
  | (simp_all; done)
  | (simp_all; omega)
theorem nx_shareOf_3_2 {a : Int} {f : sF} {b : Int} (h1 : ((0 ≤ a ∧ a < f 568) ∧ (0 ≤ b ∧ b < f 568)) ∧ a ≠ b ∧ totI f ≠ 0) (h2 : ((0 ≤ a ∧ a < f 568) ∧ (0 ≤ b ∧ b < f 568)) ∧ a ≠ b ∧ totI f = 0) : False := by
  first
  | omega
  | (simp_all; done)
  | (simp_all; omega)
set_option maxHeartbeats 4000000 in
set_option maxRecDepth 100000 in
theorem law_14 {p_ : Program} {l_ : Launch} {e_ : Env} {s_ : State} {m_ : MethodId} {args_ : Array Value} {below_ : List Frame} {meth_ : Method} {c_ : Code} {nm_ : String} {G : sG} {b_ : Nat} {M0 : sM} {N0 : Nat} {Q : State → Prop} (E : sE p_ l_ e_ room_1 s_ m_ args_ below_ meth_ c_ cL_law 9 wsL_law RL nm_ (some .boolean) G b_ M0 N0) (hF_ : xcF s_) (hlt : l_.stackTraces = false) {z L : Nat} {xs : Nat → Int32} (hX : va_X z L xs s_ s_.heap) (hzb : z < b_) {c m o kb : Nat} (hg : c + 60 ≤ m ∧ m + 16 ≤ o ∧ o < kb) {cc_ ss_ : Nat} (hcc : cc_ + 1170 ≤ room_1.cells ∧ ss_ + 14000 ≤ room_1.slots) {q i : Int} (hi : 0 ≤ i ∧ i + 6 ≤ L ∧ (L : Int) ≤ 3072) (hq : 0 ≤ q ∧ q ≤ 600) {M : sM} {N : Nat} (hkN : kb ≤ N) (hI : lI G M c m o kb q) {H : Heap} {locs : List Loc} {ls : Array Slot} (hV : sV G b_ M N s_ H locs) (hl : lv_has ls 9 [(0, .ref z), (1, .ref c), (2, .ref m), (3, .ref o), (4, .int (sI i))])
    (hk : ∀ (M1 : sM) (N1 : Nat) (H1 : Heap) (locs1 : List Loc) (ls1 : Array Slot), kb ≤ N1 → lI G M1 c m o kb (q + 1) → sV G b_ M1 N1 s_ H1 locs1 → lv_has ls1 9 [(0, .ref z), (1, .ref c), (2, .ref m), (3, .ref o), (4, .int (sI i))] → W p_ l_ e_ room_1 s_ m_ args_ below_ meth_ c_ H1 locs1 (cc_ + 1170) (ss_ + 14000) Q (F0 m_ 2853 ls1 [])) : W p_ l_ e_ room_1 s_ m_ args_ below_ meth_ c_ H locs cc_ ss_ Q (F0 m_ 977 ls []) := by
  have S := E.1
  have hx_ := S.1
  have hb_ := S.2.1
  have hK := E.2.2.2.2.1
  have hI2 := hI
  obtain ⟨kn, ch, f, fs, tn, te, t, wc, wn, T, T2, th, sn, nm, g0, A4, A5, A6, A7, A8, A9, A10, A11, A12, A13, A14, hc0, hst, htr, hkp, ht0, ht1, hct, hft, hly, hkn, hex, hm0, hm1, hsv, hm3, hm4, hm5, hm6, hm7, hm8, hm9, hm10, hm11, hm12, hm13, hm14, hm15, ho9, hlF, htp, hwr⟩ := hI2
  have hok := hlF.1.1
  have hdI := hlF.1.2.1
  have hsL := hlF.1.2.2.1
  have hclk := hlF.1.2.2.2
  have hchr : 0 ≤ ch ∧ ch ≤ 15 := ⟨hkp.r.2.2.1, hkp.r.2.2.2⟩
  have htp1 := htp.1
  have htp2 := htp.2.1
  have hwq := wrQ_e hwr
  have hwq1 := hwq.1
  have hwq2 := hwq.2.1
  have kn0 := sOk_N hok
  refine lv_aload_n hx_ hb_ dL_law_977 rfl (lv_at hl 1 rfl) ?_
  refine lv_aload_n hx_ hb_ dL_law_978 rfl (lv_at hl 0 rfl) ?_
  refine lv_iload hx_ hb_ dL_law_979 (lv_at hl 4 rfl) ?_
  refine si_const S dL_law_981 ?_
  refine si_add S dL_law_982 ?_
  refine sc_sld S hV hX hzb (by omega) dL_law_983 ?_
  refine lv_aload_n hx_ hb_ dL_law_984 rfl (lv_at hl 0 rfl) ?_
  refine lv_iload hx_ hb_ dL_law_985 (lv_at hl 4 rfl) ?_
  refine si_const S dL_law_987 ?_
  refine si_add S dL_law_988 ?_
  refine sc_sld S hV hX hzb (by omega) dL_law_989 ?_
  refine lv_aload_n hx_ hb_ dL_law_990 rfl (lv_at hl 0 rfl) ?_
  refine lv_iload hx_ hb_ dL_law_991 (lv_at hl 4 rfl) ?_
  refine si_const S dL_law_993 ?_
  refine si_add S dL_law_994 ?_
  refine sc_sld S hV hX hzb (by omega) dL_law_995 ?_
  refine sb_bool (t0 := 1003) (t1 := 1004) S (lX_r xs _) dL_law_996 (by decide) dL_law_999 dL_law_1000 (by decide) dL_law_1003 rfl ?_
  refine lv_aload_n hx_ hb_ dL_law_1004 rfl (lv_at hl 3 rfl) ?_
  refine yk_Si (hh := [(0, 12, 15, 25), (0, 12, 19, 19)]) E hF_ hV (As := [.ref c, .int (sI (lX xs (i + 1))), .int (sI (lX xs (i + 2))), .int (sI (bI (lX xs (i + 3) ≠ 0))), .ref o]) (rest := []) (kL_shareOf l_ G b_ M N o g0 c kn ch f (lX xs (i + 1)) (lX xs (i + 2)) (lX xs (i + 3) ≠ 0) hc0 hst hft ho9 (hlt) (hok) (⟨lX_r xs _, lX_r xs _⟩) (by omega)) (vx_cwSW 5 S.2.2.2.2 gL_law_L_shareOf rfl rfl rfl (by decide +kernel) ⟨Nat.le_of_ble_eq_true rfl, Nat.le_of_ble_eq_true rfl⟩) rfl rfl hl.1 (Nat.le_of_ble_eq_true rfl) dL_law_1005 (c1 := cc_ + 8) (s1 := ss_ + 50) ⟨⟨rfl, rfl⟩, by omega, by omega⟩ (fun z4 M1 N2 H locs hp3 hV => ?_)
  obtain ⟨hN5, hc6, hf7, hq8⟩ := hp3
  rcases hq8 with ⟨c9, ez10, hc11⟩ | ⟨c12, ez13, hc14⟩ | ⟨c15, ez16, hc17⟩ | ⟨c18, ez19, hc20⟩
  · rw [ez10]
    refine lv_istore (lv' := [(5, .int (sI 1)), (0, .ref z), (1, .ref c), (2, .ref m), (3, .ref o), (4, .int (sI i))]) hx_ hb_ dL_law_1008 hl (by decide) rfl (fun ls hl => ?_)
    refine lv_aload_n hx_ hb_ dL_law_1010 rfl (lv_at hl 3 rfl) ?_
    refine lv_aload_n hx_ hb_ dL_law_1011 rfl (lv_at hl 1 rfl) ?_
    refine lv_iload hx_ hb_ dL_law_1012 (lv_at hl 5 rfl) ?_
    refine si_const S dL_law_1014 ?_
    refine si_add S dL_law_1015 ?_
    refine sc_sld S hV hX hzb (by omega) dL_law_1016 ?_
    refine lv_aload_n hx_ hb_ dL_law_1017 rfl (lv_at hl 1 rfl) ?_
    refine lv_iload hx_ hb_ dL_law_1018 (lv_at hl 5 rfl) ?_
    refine si_const S dL_law_1020 ?_
    refine si_add S dL_law_1021 ?_
    refine sc_sld S hV hX hzb (by omega) dL_law_1022 ?_
    refine lv_aload_n hx_ hb_ dL_law_1023 rfl (lv_at hl 1 rfl) ?_
    refine lv_iload hx_ hb_ dL_law_1024 (lv_at hl 5 rfl) ?_
    refine si_const S dL_law_1026 ?_
    refine si_add S dL_law_1027 ?_
    refine sc_sld S hV hX hzb (by omega) dL_law_1028 ?_
    refine sb_bool (t0 := 1036) (t1 := 1037) S (lX_r xs _) dL_law_1029 (by decide) dL_law_1032 dL_law_1033 (by decide) dL_law_1036 rfl ?_
    have ga22 : ∀ x : Nat, m ≤ x → x < m + 16 → M1 x = M x := fun x u1 u2 => hf7 x (by omega) (by omega)
    have hc21 : M1 m = some (mO m th ch tn te sn nm wn) := (ga22 m (by omega) (by omega)).trans hm0
    have hc23 : M1 (m + 1) = some (sArr G 574 f) := (ga22 ((m + 1)) (by omega) (by omega)).trans hm1
    have hc24 : M1 (m + 7) = some (sArr G 10 A7) := (ga22 ((m + 7)) (by omega) (by omega)).trans hm7
    have hc25 : M1 (m + 5) = some (sArr G 1024 A5) := (ga22 ((m + 5)) (by omega) (by omega)).trans hm5
    have hc26 : M1 (m + 6) = some (sArr G 1024 A6) := (ga22 ((m + 6)) (by omega) (by omega)).trans hm6
    refine sk_Vi E hV (As := [.int (sI (lX xs (i + 1))), .int (sI (lX xs (i + 2))), .int (sI (bI (lX xs (i + 3) ≠ 0)))]) (rest := []) (kX11_shareOf l_ G b_ M1 N2 m th ch tn te sn nm wn f A7 A5 A6 (lX xs (i + 1)) (lX xs (i + 2)) (lX xs (i + 3) ≠ 0) hc21 hc23 hc24 hc25 hc26 (hok) (⟨lX_r xs _, lX_r xs _⟩)) (cwV 3 S.2.2.2.2 gL_law_X11_shareOf rfl rfl rfl (by decide +kernel) ⟨Nat.le_of_ble_eq_true rfl, Nat.le_of_ble_eq_true rfl⟩) (ci := 9) hc21 rfl rfl rfl hl.1 (Nat.le_of_ble_eq_true rfl) dL_law_1037 (c1 := cc_ + 8) (s1 := ss_ + 50) ⟨⟨rfl, rfl⟩, by omega, by omega⟩ (fun z30 M27 N28 H locs hp29 hV => ?_)
    obtain ⟨A931, W932, R933, hN34, hc35, hc36, hc37, hf38, hq39⟩ := hp29
    rw [hN34] at hV
    rcases hq39 with ⟨c40, ez41, hc42⟩ | ⟨c43, ez44, hc45⟩ | ⟨c46, ez47, hc48⟩ | ⟨c49, ez50, hc51⟩
    · rw [ez41]
      refine lv_istore (lv' := [(6, .int (sI 0)), (5, .int (sI 1)), (0, .ref z), (1, .ref c), (2, .ref m), (3, .ref o), (4, .int (sI i))]) hx_ hb_ dL_law_1040 hl (by decide) rfl (fun ls hl => ?_)
      refine lv_aload_n hx_ hb_ dL_law_1042 rfl (lv_at hl 4 rfl) ?_
      refine sk_VP E hV (As := []) (rest := []) (kX11_thrown l_ G b_ M27 N2 m 1 ch tn te sn nm wn hc42) (cwV 0 S.2.2.2.2 gL_law_X11_thrown rfl rfl rfl (by decide +kernel) ⟨Nat.le_of_ble_eq_true rfl, Nat.le_of_ble_eq_true rfl⟩) (ci := 9) hc42 rfl rfl rfl hl.1 (Nat.le_of_ble_eq_true rfl) dL_law_1043 (c1 := cc_ + 8) (s1 := ss_ + 50) ⟨⟨rfl, rfl⟩, by omega, by omega⟩ (fun H locs hV => ?_)
      refine lv_iload hx_ hb_ dL_law_1046 (lv_at hl 1 rfl) ?_
      refine sb_eq (tgt := 1053) S dL_law_1048 (by decide) (by omega) (fun _ => ?_) (fun c52 => absurd c52 (by omega))
      refine lv_iload hx_ hb_ dL_law_1053 (lv_at hl 1 rfl) ?_
      refine sz_ne (tgt := 1070) S dL_law_1055 (by decide) (by omega) (fun _ => ?_) (fun c53 => absurd c53 (by omega))
      refine lv_goto (tgt := 2853) hx_ hb_ dL_law_1070 (by decide) ?_
      have gb55 : ∀ x : Nat, (x < m ∨ m + 16 ≤ x) → M27 x = M1 x := fun x u1 => hf38 x (by omega) (by omega) (by omega) (by omega)
      have hc54 : M27 c = some (xO c kn ch) := ((gb55 c (by omega)).trans (hf7 c (by omega) (by omega))).trans hc0
      have hc56 : stC G M27 (c + 1) f := hst.fr (fun x q8 q9 => (gb55 x (by omega)).trans (hf7 x (by omega) (by omega)))
      have hc57 : triC G M27 (c + 16) := htr.fr (fun x q8 q9 => (gb55 x (by omega)).trans (hf7 x (by omega) (by omega)))
      have hc58 : kpC G M27 (c + 31) kb kn ch fs := hkp.fr (fun x q8 => (gb55 x (by omega)).trans (hf7 x (by omega) (by omega)))
      have hc59 : M27 (c + 32) = some (sObj 7 [.ref (c + 33), .int (sI tn), .int (sI te)]) := ((gb55 ((c + 32)) (by omega)).trans (hf7 (c + 32) (by omega) (by omega))).trans ht0
      have hc60 : M27 (c + 33) = some (sArr G 300 t) := ((gb55 ((c + 33)) (by omega)).trans (hf7 (c + 33) (by omega) (by omega))).trans ht1
      have hc61 : catC G M27 (c + 34) wc T := hct.fr (fun x q8 q9 => (gb55 x (by omega)).trans (hf7 x (by omega) (by omega)))
      have hc62 : orfC G M27 (c + 38) := hc6.fr (fun x q8 q9 => gb55 x (by omega))
      have hc63 : layC G M27 (c + 48) := hly.fr (fun x q8 q9 => (gb55 x (by omega)).trans (hf7 x (by omega) (by omega)))
      have hc64 : knoC G M27 (c + 54) := hkn.fr (fun x q8 q9 => (gb55 x (by omega)).trans (hf7 x (by omega) (by omega)))
      have hc65 : excC G M27 (c + 57) := hex.fr (fun x q8 q9 => (gb55 x (by omega)).trans (hf7 x (by omega) (by omega)))
      have hc66 : M27 (m + 1) = some (sArr G 574 f) := (hf38 (m + 1) (by omega) (by omega) (by omega) (by omega)).trans hc23
      have hc67 : svC G M27 (m + 2) ch fs := hsv.fr (fun x q8 q9 => (hf38 x (by omega) (by omega) (by omega) (by omega)).trans (ga22 x (by omega) (by omega)))
      have hc68 : M27 (m + 3) = some (sArr G 300 t) := ((hf38 (m + 3) (by omega) (by omega) (by omega) (by omega)).trans (ga22 ((m + 3)) (by omega) (by omega))).trans hm3
      have hc69 : M27 (m + 4) = some (sArr G 11 A4) := ((hf38 (m + 4) (by omega) (by omega) (by omega) (by omega)).trans (ga22 ((m + 4)) (by omega) (by omega))).trans hm4
      have hc70 : M27 (m + 8) = some (sArr G 10 A8) := ((hf38 (m + 8) (by omega) (by omega) (by omega) (by omega)).trans (ga22 ((m + 8)) (by omega) (by omega))).trans hm8
      have hc71 : M27 (m + 9) = some (sArr G 62 A9) := ((hf38 (m + 9) (by omega) (by omega) (by omega) (by omega)).trans (ga22 ((m + 9)) (by omega) (by omega))).trans hm9
      have hc72 : M27 (m + 10) = some (sArr G 8 A10) := ((hf38 (m + 10) (by omega) (by omega) (by omega) (by omega)).trans (ga22 ((m + 10)) (by omega) (by omega))).trans hm10
      have hc73 : M27 (m + 11) = some (sArr G 8 A11) := ((hf38 (m + 11) (by omega) (by omega) (by omega) (by omega)).trans (ga22 ((m + 11)) (by omega) (by omega))).trans hm11
      have hc74 : M27 (m + 12) = some (sArr G 60 A12) := ((hf38 (m + 12) (by omega) (by omega) (by omega) (by omega)).trans (ga22 ((m + 12)) (by omega) (by omega))).trans hm12
      have hc75 : M27 (m + 13) = some (sArr G 240 A13) := ((hf38 (m + 13) (by omega) (by omega) (by omega) (by omega)).trans (ga22 ((m + 13)) (by omega) (by omega))).trans hm13
      have hc76 : M27 (m + 14) = some (sArr G 574 A14) := ((hf38 (m + 14) (by omega) (by omega) (by omega) (by omega)).trans (ga22 ((m + 14)) (by omega) (by omega))).trans hm14
      have hc77 : M27 (m + 15) = some (sArr G 200 T2) := ((hf38 (m + 15) (by omega) (by omega) (by omega) (by omega)).trans (ga22 ((m + 15)) (by omega) (by omega))).trans hm15
      have hc78 : M27 o = some (sArL G 1 g0) := (gb55 o (by omega)).trans hc11
      exact W.widen (by omega) (by omega) (hk _ _ _ _ _ (by omega) ⟨_, _, _, _, _, _, _, _, _, _, _, _, _, _, _, _, _, _, _, _, _, _, _, _, _, _, hc54, hc56, hc57, hc58, hc59, hc60, hc61, hc62, hc63, hc64, hc65, hc42, hc66, hc67, hc68, hc69, hc36, hc37, hc35, hc70, hc71, hc72, hc73, hc74, hc75, hc76, hc77, hc78, lF_s hlF, htp, hwr⟩ hV (lv_sub hl [2, 3, 4, 5, 6] rfl))
    · rw [ez44]
      exact (nx_shareOf_0_1 c9 c43).elim
    · rw [ez47]
      exact (nx_shareOf_0_2 c9 c46).elim
    · rw [ez50]
      exact (nx_shareOf_0_3 c9 c49).elim
  · rw [ez13]
    refine lv_istore (lv' := [(5, .int (sI 2)), (0, .ref z), (1, .ref c), (2, .ref m), (3, .ref o), (4, .int (sI i))]) hx_ hb_ dL_law_1008 hl (by decide) rfl (fun ls hl => ?_)
    refine lv_aload_n hx_ hb_ dL_law_1010 rfl (lv_at hl 3 rfl) ?_
    refine lv_aload_n hx_ hb_ dL_law_1011 rfl (lv_at hl 1 rfl) ?_
    refine lv_iload hx_ hb_ dL_law_1012 (lv_at hl 5 rfl) ?_
    refine si_const S dL_law_1014 ?_
    refine si_add S dL_law_1015 ?_
    refine sc_sld S hV hX hzb (by omega) dL_law_1016 ?_
    refine lv_aload_n hx_ hb_ dL_law_1017 rfl (lv_at hl 1 rfl) ?_
    refine lv_iload hx_ hb_ dL_law_1018 (lv_at hl 5 rfl) ?_
    refine si_const S dL_law_1020 ?_
    refine si_add S dL_law_1021 ?_
    refine sc_sld S hV hX hzb (by omega) dL_law_1022 ?_
    refine lv_aload_n hx_ hb_ dL_law_1023 rfl (lv_at hl 1 rfl) ?_
    refine lv_iload hx_ hb_ dL_law_1024 (lv_at hl 5 rfl) ?_
    refine si_const S dL_law_1026 ?_
    refine si_add S dL_law_1027 ?_
    refine sc_sld S hV hX hzb (by omega) dL_law_1028 ?_
    refine sb_bool (t0 := 1036) (t1 := 1037) S (lX_r xs _) dL_law_1029 (by decide) dL_law_1032 dL_law_1033 (by decide) dL_law_1036 rfl ?_
    have ga80 : ∀ x : Nat, m ≤ x → x < m + 16 → M1 x = M x := fun x u1 u2 => hf7 x (by omega) (by omega)
    have hc79 : M1 m = some (mO m th ch tn te sn nm wn) := (ga80 m (by omega) (by omega)).trans hm0
    have hc81 : M1 (m + 1) = some (sArr G 574 f) := (ga80 ((m + 1)) (by omega) (by omega)).trans hm1
    have hc82 : M1 (m + 7) = some (sArr G 10 A7) := (ga80 ((m + 7)) (by omega) (by omega)).trans hm7
    have hc83 : M1 (m + 5) = some (sArr G 1024 A5) := (ga80 ((m + 5)) (by omega) (by omega)).trans hm5
    have hc84 : M1 (m + 6) = some (sArr G 1024 A6) := (ga80 ((m + 6)) (by omega) (by omega)).trans hm6
    refine sk_Vi E hV (As := [.int (sI (lX xs (i + 1))), .int (sI (lX xs (i + 2))), .int (sI (bI (lX xs (i + 3) ≠ 0)))]) (rest := []) (kX11_shareOf l_ G b_ M1 N2 m th ch tn te sn nm wn f A7 A5 A6 (lX xs (i + 1)) (lX xs (i + 2)) (lX xs (i + 3) ≠ 0) hc79 hc81 hc82 hc83 hc84 (hok) (⟨lX_r xs _, lX_r xs _⟩)) (cwV 3 S.2.2.2.2 gL_law_X11_shareOf rfl rfl rfl (by decide +kernel) ⟨Nat.le_of_ble_eq_true rfl, Nat.le_of_ble_eq_true rfl⟩) (ci := 9) hc79 rfl rfl rfl hl.1 (Nat.le_of_ble_eq_true rfl) dL_law_1037 (c1 := cc_ + 8) (s1 := ss_ + 50) ⟨⟨rfl, rfl⟩, by omega, by omega⟩ (fun z88 M85 N86 H locs hp87 hV => ?_)
    obtain ⟨A989, W990, R991, hN92, hc93, hc94, hc95, hf96, hq97⟩ := hp87
    rw [hN92] at hV
    rcases hq97 with ⟨c98, ez99, hc100⟩ | ⟨c101, ez102, hc103⟩ | ⟨c104, ez105, hc106⟩ | ⟨c107, ez108, hc109⟩
    · rw [ez99]
      exact (nx_shareOf_1_0 c12 c98).elim
    · rw [ez102]
      refine lv_istore (lv' := [(6, .int (sI 0)), (5, .int (sI 2)), (0, .ref z), (1, .ref c), (2, .ref m), (3, .ref o), (4, .int (sI i))]) hx_ hb_ dL_law_1040 hl (by decide) rfl (fun ls hl => ?_)
      refine lv_aload_n hx_ hb_ dL_law_1042 rfl (lv_at hl 4 rfl) ?_
      refine sk_VP E hV (As := []) (rest := []) (kX11_thrown l_ G b_ M85 N2 m 2 ch tn te sn nm wn hc103) (cwV 0 S.2.2.2.2 gL_law_X11_thrown rfl rfl rfl (by decide +kernel) ⟨Nat.le_of_ble_eq_true rfl, Nat.le_of_ble_eq_true rfl⟩) (ci := 9) hc103 rfl rfl rfl hl.1 (Nat.le_of_ble_eq_true rfl) dL_law_1043 (c1 := cc_ + 8) (s1 := ss_ + 50) ⟨⟨rfl, rfl⟩, by omega, by omega⟩ (fun H locs hV => ?_)
      refine lv_iload hx_ hb_ dL_law_1046 (lv_at hl 1 rfl) ?_
      refine sb_eq (tgt := 1053) S dL_law_1048 (by decide) (by omega) (fun _ => ?_) (fun c110 => absurd c110 (by omega))
      refine lv_iload hx_ hb_ dL_law_1053 (lv_at hl 1 rfl) ?_
      refine sz_ne (tgt := 1070) S dL_law_1055 (by decide) (by omega) (fun _ => ?_) (fun c111 => absurd c111 (by omega))
      refine lv_goto (tgt := 2853) hx_ hb_ dL_law_1070 (by decide) ?_
      have gb113 : ∀ x : Nat, (x < m ∨ m + 16 ≤ x) → M85 x = M1 x := fun x u1 => hf96 x (by omega) (by omega) (by omega) (by omega)
      have hc112 : M85 c = some (xO c kn ch) := ((gb113 c (by omega)).trans (hf7 c (by omega) (by omega))).trans hc0
      have hc114 : stC G M85 (c + 1) f := hst.fr (fun x q8 q9 => (gb113 x (by omega)).trans (hf7 x (by omega) (by omega)))
      have hc115 : triC G M85 (c + 16) := htr.fr (fun x q8 q9 => (gb113 x (by omega)).trans (hf7 x (by omega) (by omega)))
      have hc116 : kpC G M85 (c + 31) kb kn ch fs := hkp.fr (fun x q8 => (gb113 x (by omega)).trans (hf7 x (by omega) (by omega)))
      have hc117 : M85 (c + 32) = some (sObj 7 [.ref (c + 33), .int (sI tn), .int (sI te)]) := ((gb113 ((c + 32)) (by omega)).trans (hf7 (c + 32) (by omega) (by omega))).trans ht0
      have hc118 : M85 (c + 33) = some (sArr G 300 t) := ((gb113 ((c + 33)) (by omega)).trans (hf7 (c + 33) (by omega) (by omega))).trans ht1
      have hc119 : catC G M85 (c + 34) wc T := hct.fr (fun x q8 q9 => (gb113 x (by omega)).trans (hf7 x (by omega) (by omega)))
      have hc120 : orfC G M85 (c + 38) := hc6.fr (fun x q8 q9 => gb113 x (by omega))
      have hc121 : layC G M85 (c + 48) := hly.fr (fun x q8 q9 => (gb113 x (by omega)).trans (hf7 x (by omega) (by omega)))
      have hc122 : knoC G M85 (c + 54) := hkn.fr (fun x q8 q9 => (gb113 x (by omega)).trans (hf7 x (by omega) (by omega)))
      have hc123 : excC G M85 (c + 57) := hex.fr (fun x q8 q9 => (gb113 x (by omega)).trans (hf7 x (by omega) (by omega)))
      have hc124 : M85 (m + 1) = some (sArr G 574 f) := (hf96 (m + 1) (by omega) (by omega) (by omega) (by omega)).trans hc81
      have hc125 : svC G M85 (m + 2) ch fs := hsv.fr (fun x q8 q9 => (hf96 x (by omega) (by omega) (by omega) (by omega)).trans (ga80 x (by omega) (by omega)))
      have hc126 : M85 (m + 3) = some (sArr G 300 t) := ((hf96 (m + 3) (by omega) (by omega) (by omega) (by omega)).trans (ga80 ((m + 3)) (by omega) (by omega))).trans hm3
      have hc127 : M85 (m + 4) = some (sArr G 11 A4) := ((hf96 (m + 4) (by omega) (by omega) (by omega) (by omega)).trans (ga80 ((m + 4)) (by omega) (by omega))).trans hm4
      have hc128 : M85 (m + 8) = some (sArr G 10 A8) := ((hf96 (m + 8) (by omega) (by omega) (by omega) (by omega)).trans (ga80 ((m + 8)) (by omega) (by omega))).trans hm8
      have hc129 : M85 (m + 9) = some (sArr G 62 A9) := ((hf96 (m + 9) (by omega) (by omega) (by omega) (by omega)).trans (ga80 ((m + 9)) (by omega) (by omega))).trans hm9
      have hc130 : M85 (m + 10) = some (sArr G 8 A10) := ((hf96 (m + 10) (by omega) (by omega) (by omega) (by omega)).trans (ga80 ((m + 10)) (by omega) (by omega))).trans hm10
      have hc131 : M85 (m + 11) = some (sArr G 8 A11) := ((hf96 (m + 11) (by omega) (by omega) (by omega) (by omega)).trans (ga80 ((m + 11)) (by omega) (by omega))).trans hm11
      have hc132 : M85 (m + 12) = some (sArr G 60 A12) := ((hf96 (m + 12) (by omega) (by omega) (by omega) (by omega)).trans (ga80 ((m + 12)) (by omega) (by omega))).trans hm12
      have hc133 : M85 (m + 13) = some (sArr G 240 A13) := ((hf96 (m + 13) (by omega) (by omega) (by omega) (by omega)).trans (ga80 ((m + 13)) (by omega) (by omega))).trans hm13
      have hc134 : M85 (m + 14) = some (sArr G 574 A14) := ((hf96 (m + 14) (by omega) (by omega) (by omega) (by omega)).trans (ga80 ((m + 14)) (by omega) (by omega))).trans hm14
      have hc135 : M85 (m + 15) = some (sArr G 200 T2) := ((hf96 (m + 15) (by omega) (by omega) (by omega) (by omega)).trans (ga80 ((m + 15)) (by omega) (by omega))).trans hm15
      have hc136 : M85 o = some (sArL G 1 g0) := (gb113 o (by omega)).trans hc14
      exact W.widen (by omega) (by omega) (hk _ _ _ _ _ (by omega) ⟨_, _, _, _, _, _, _, _, _, _, _, _, _, _, _, _, _, _, _, _, _, _, _, _, _, _, hc112, hc114, hc115, hc116, hc117, hc118, hc119, hc120, hc121, hc122, hc123, hc103, hc124, hc125, hc126, hc127, hc94, hc95, hc93, hc128, hc129, hc130, hc131, hc132, hc133, hc134, hc135, hc136, lF_s hlF, htp, hwr⟩ hV (lv_sub hl [2, 3, 4, 5, 6] rfl))
    · rw [ez105]
      exact (nx_shareOf_1_2 c12 c104).elim
    · rw [ez108]
      exact (nx_shareOf_1_3 c12 c107).elim
  · rw [ez16]
    refine lv_istore (lv' := [(5, .int (sI 0)), (0, .ref z), (1, .ref c), (2, .ref m), (3, .ref o), (4, .int (sI i))]) hx_ hb_ dL_law_1008 hl (by decide) rfl (fun ls hl => ?_)
    refine lv_aload_n hx_ hb_ dL_law_1010 rfl (lv_at hl 3 rfl) ?_
    refine lv_aload_n hx_ hb_ dL_law_1011 rfl (lv_at hl 1 rfl) ?_
    refine lv_iload hx_ hb_ dL_law_1012 (lv_at hl 5 rfl) ?_
    refine si_const S dL_law_1014 ?_
    refine si_add S dL_law_1015 ?_
    refine sc_sld S hV hX hzb (by omega) dL_law_1016 ?_
    refine lv_aload_n hx_ hb_ dL_law_1017 rfl (lv_at hl 1 rfl) ?_
    refine lv_iload hx_ hb_ dL_law_1018 (lv_at hl 5 rfl) ?_
    refine si_const S dL_law_1020 ?_
    refine si_add S dL_law_1021 ?_
    refine sc_sld S hV hX hzb (by omega) dL_law_1022 ?_
    refine lv_aload_n hx_ hb_ dL_law_1023 rfl (lv_at hl 1 rfl) ?_
    refine lv_iload hx_ hb_ dL_law_1024 (lv_at hl 5 rfl) ?_
    refine si_const S dL_law_1026 ?_
    refine si_add S dL_law_1027 ?_
    refine sc_sld S hV hX hzb (by omega) dL_law_1028 ?_
    refine sb_bool (t0 := 1036) (t1 := 1037) S (lX_r xs _) dL_law_1029 (by decide) dL_law_1032 dL_law_1033 (by decide) dL_law_1036 rfl ?_
    have ga138 : ∀ x : Nat, m ≤ x → x < m + 16 → M1 x = M x := fun x u1 u2 => hf7 x (by omega) (by omega)
    have hc137 : M1 m = some (mO m th ch tn te sn nm wn) := (ga138 m (by omega) (by omega)).trans hm0
    have hc139 : M1 (m + 1) = some (sArr G 574 f) := (ga138 ((m + 1)) (by omega) (by omega)).trans hm1
    have hc140 : M1 (m + 7) = some (sArr G 10 A7) := (ga138 ((m + 7)) (by omega) (by omega)).trans hm7
    have hc141 : M1 (m + 5) = some (sArr G 1024 A5) := (ga138 ((m + 5)) (by omega) (by omega)).trans hm5
    have hc142 : M1 (m + 6) = some (sArr G 1024 A6) := (ga138 ((m + 6)) (by omega) (by omega)).trans hm6
    refine sk_Vi E hV (As := [.int (sI (lX xs (i + 1))), .int (sI (lX xs (i + 2))), .int (sI (bI (lX xs (i + 3) ≠ 0)))]) (rest := []) (kX11_shareOf l_ G b_ M1 N2 m th ch tn te sn nm wn f A7 A5 A6 (lX xs (i + 1)) (lX xs (i + 2)) (lX xs (i + 3) ≠ 0) hc137 hc139 hc140 hc141 hc142 (hok) (⟨lX_r xs _, lX_r xs _⟩)) (cwV 3 S.2.2.2.2 gL_law_X11_shareOf rfl rfl rfl (by decide +kernel) ⟨Nat.le_of_ble_eq_true rfl, Nat.le_of_ble_eq_true rfl⟩) (ci := 9) hc137 rfl rfl rfl hl.1 (Nat.le_of_ble_eq_true rfl) dL_law_1037 (c1 := cc_ + 8) (s1 := ss_ + 50) ⟨⟨rfl, rfl⟩, by omega, by omega⟩ (fun z146 M143 N144 H locs hp145 hV => ?_)
    obtain ⟨A9147, W9148, R9149, hN150, hc151, hc152, hc153, hf154, hq155⟩ := hp145
    rw [hN150] at hV
    rcases hq155 with ⟨c156, ez157, hc158⟩ | ⟨c159, ez160, hc161⟩ | ⟨c162, ez163, hc164⟩ | ⟨c165, ez166, hc167⟩
    · rw [ez157]
      exact (nx_shareOf_2_0 c15 c156).elim
    · rw [ez160]
      exact (nx_shareOf_2_1 c15 c159).elim
    · rw [ez163]
      refine lv_istore (lv' := [(6, .int (sI (bI (lX xs (i + 3) ≠ 0)))), (5, .int (sI 0)), (0, .ref z), (1, .ref c), (2, .ref m), (3, .ref o), (4, .int (sI i))]) hx_ hb_ dL_law_1040 hl (by decide) rfl (fun ls hl => ?_)
      refine lv_aload_n hx_ hb_ dL_law_1042 rfl (lv_at hl 4 rfl) ?_
      refine sk_VP E hV (As := []) (rest := []) (kX11_thrown l_ G b_ M143 N2 m 0 ch tn te sn nm wn hc164) (cwV 0 S.2.2.2.2 gL_law_X11_thrown rfl rfl rfl (by decide +kernel) ⟨Nat.le_of_ble_eq_true rfl, Nat.le_of_ble_eq_true rfl⟩) (ci := 9) hc164 rfl rfl rfl hl.1 (Nat.le_of_ble_eq_true rfl) dL_law_1043 (c1 := cc_ + 8) (s1 := ss_ + 50) ⟨⟨rfl, rfl⟩, by omega, by omega⟩ (fun H locs hV => ?_)
      refine lv_iload hx_ hb_ dL_law_1046 (lv_at hl 1 rfl) ?_
      refine sb_eq (tgt := 1053) S dL_law_1048 (by decide) (by omega) (fun _ => ?_) (fun c168 => absurd c168 (by omega))
      refine lv_iload hx_ hb_ dL_law_1053 (lv_at hl 1 rfl) ?_
      refine sz_ne (tgt := 1070) S dL_law_1055 (by decide) (by omega) (fun c169 => absurd c169 (by omega)) (fun _ => ?_)
      refine lv_aload_n hx_ hb_ dL_law_1058 rfl (lv_at hl 5 rfl) ?_
      refine si_const S dL_law_1059 ?_
      have gb171 : ∀ x : Nat, (x < m ∨ m + 16 ≤ x) → M143 x = M1 x := fun x u1 => hf154 x (by omega) (by omega) (by omega) (by omega)
      have hc170 : M143 o = some (sArL G 1 (iup g0 0 (sW (bI (lX xs (i + 3) ≠ 0))))) := (gb171 o (by omega)).trans hc17
      refine sc_lald S hK hV hc170 (by omega) dL_law_1060 ?_
      rw [show (iup g0 0 (sW (bI (lX xs (i + 3) ≠ 0)))) 0 = sW (bI (lX xs (i + 3) ≠ 0)) from if_pos rfl]
      refine lv_iload hx_ hb_ dL_law_1061 (lv_at hl 0 rfl) ?_
      refine sl_i2w S dL_law_1063 ?_
      refine sl_cmp0 S (rfl) dL_law_1064 ?_
      refine sz_eq (tgt := 1070) S dL_law_1065 (by decide) (by omega) (fun _ => ?_) (fun c172 => absurd c172 (by omega))
      refine lv_goto (tgt := 2853) hx_ hb_ dL_law_1070 (by decide) ?_
      have hc173 : M143 c = some (xO c kn ch) := ((gb171 c (by omega)).trans (hf7 c (by omega) (by omega))).trans hc0
      have hc174 : stC G M143 (c + 1) f := hst.fr (fun x q8 q9 => (gb171 x (by omega)).trans (hf7 x (by omega) (by omega)))
      have hc175 : triC G M143 (c + 16) := htr.fr (fun x q8 q9 => (gb171 x (by omega)).trans (hf7 x (by omega) (by omega)))
      have hc176 : kpC G M143 (c + 31) kb kn ch fs := hkp.fr (fun x q8 => (gb171 x (by omega)).trans (hf7 x (by omega) (by omega)))
      have hc177 : M143 (c + 32) = some (sObj 7 [.ref (c + 33), .int (sI tn), .int (sI te)]) := ((gb171 ((c + 32)) (by omega)).trans (hf7 (c + 32) (by omega) (by omega))).trans ht0
      have hc178 : M143 (c + 33) = some (sArr G 300 t) := ((gb171 ((c + 33)) (by omega)).trans (hf7 (c + 33) (by omega) (by omega))).trans ht1
      have hc179 : catC G M143 (c + 34) wc T := hct.fr (fun x q8 q9 => (gb171 x (by omega)).trans (hf7 x (by omega) (by omega)))
      have hc180 : orfC G M143 (c + 38) := hc6.fr (fun x q8 q9 => gb171 x (by omega))
      have hc181 : layC G M143 (c + 48) := hly.fr (fun x q8 q9 => (gb171 x (by omega)).trans (hf7 x (by omega) (by omega)))
      have hc182 : knoC G M143 (c + 54) := hkn.fr (fun x q8 q9 => (gb171 x (by omega)).trans (hf7 x (by omega) (by omega)))
      have hc183 : excC G M143 (c + 57) := hex.fr (fun x q8 q9 => (gb171 x (by omega)).trans (hf7 x (by omega) (by omega)))
      have hc184 : M143 (m + 1) = some (sArr G 574 f) := (hf154 (m + 1) (by omega) (by omega) (by omega) (by omega)).trans hc139
      have hc185 : svC G M143 (m + 2) ch fs := hsv.fr (fun x q8 q9 => (hf154 x (by omega) (by omega) (by omega) (by omega)).trans (ga138 x (by omega) (by omega)))
      have hc186 : M143 (m + 3) = some (sArr G 300 t) := ((hf154 (m + 3) (by omega) (by omega) (by omega) (by omega)).trans (ga138 ((m + 3)) (by omega) (by omega))).trans hm3
      have hc187 : M143 (m + 4) = some (sArr G 11 A4) := ((hf154 (m + 4) (by omega) (by omega) (by omega) (by omega)).trans (ga138 ((m + 4)) (by omega) (by omega))).trans hm4
      have hc188 : M143 (m + 8) = some (sArr G 10 A8) := ((hf154 (m + 8) (by omega) (by omega) (by omega) (by omega)).trans (ga138 ((m + 8)) (by omega) (by omega))).trans hm8
      have hc189 : M143 (m + 9) = some (sArr G 62 A9) := ((hf154 (m + 9) (by omega) (by omega) (by omega) (by omega)).trans (ga138 ((m + 9)) (by omega) (by omega))).trans hm9
      have hc190 : M143 (m + 10) = some (sArr G 8 A10) := ((hf154 (m + 10) (by omega) (by omega) (by omega) (by omega)).trans (ga138 ((m + 10)) (by omega) (by omega))).trans hm10
      have hc191 : M143 (m + 11) = some (sArr G 8 A11) := ((hf154 (m + 11) (by omega) (by omega) (by omega) (by omega)).trans (ga138 ((m + 11)) (by omega) (by omega))).trans hm11
      have hc192 : M143 (m + 12) = some (sArr G 60 A12) := ((hf154 (m + 12) (by omega) (by omega) (by omega) (by omega)).trans (ga138 ((m + 12)) (by omega) (by omega))).trans hm12
      have hc193 : M143 (m + 13) = some (sArr G 240 A13) := ((hf154 (m + 13) (by omega) (by omega) (by omega) (by omega)).trans (ga138 ((m + 13)) (by omega) (by omega))).trans hm13
      have hc194 : M143 (m + 14) = some (sArr G 574 A14) := ((hf154 (m + 14) (by omega) (by omega) (by omega) (by omega)).trans (ga138 ((m + 14)) (by omega) (by omega))).trans hm14
      have hc195 : M143 (m + 15) = some (sArr G 200 T2) := ((hf154 (m + 15) (by omega) (by omega) (by omega) (by omega)).trans (ga138 ((m + 15)) (by omega) (by omega))).trans hm15
      exact W.widen (by omega) (by omega) (hk _ _ _ _ _ (by omega) ⟨_, _, _, _, _, _, _, _, _, _, _, _, _, _, _, _, _, _, _, _, _, _, _, _, _, _, hc173, hc174, hc175, hc176, hc177, hc178, hc179, hc180, hc181, hc182, hc183, hc164, hc184, hc185, hc186, hc187, hc152, hc153, hc151, hc188, hc189, hc190, hc191, hc192, hc193, hc194, hc195, hc170, lF_s hlF, htp, hwr⟩ hV (lv_sub hl [2, 3, 4, 5, 6] rfl))
    · rw [ez166]
      exact (nx_shareOf_2_3 c15 c165).elim
  · rw [ez19]
    refine lv_istore (lv' := [(5, .int (sI 0)), (0, .ref z), (1, .ref c), (2, .ref m), (3, .ref o), (4, .int (sI i))]) hx_ hb_ dL_law_1008 hl (by decide) rfl (fun ls hl => ?_)
    refine lv_aload_n hx_ hb_ dL_law_1010 rfl (lv_at hl 3 rfl) ?_
    refine lv_aload_n hx_ hb_ dL_law_1011 rfl (lv_at hl 1 rfl) ?_
    refine lv_iload hx_ hb_ dL_law_1012 (lv_at hl 5 rfl) ?_
    refine si_const S dL_law_1014 ?_
    refine si_add S dL_law_1015 ?_
    refine sc_sld S hV hX hzb (by omega) dL_law_1016 ?_
    refine lv_aload_n hx_ hb_ dL_law_1017 rfl (lv_at hl 1 rfl) ?_
    refine lv_iload hx_ hb_ dL_law_1018 (lv_at hl 5 rfl) ?_
    refine si_const S dL_law_1020 ?_
    refine si_add S dL_law_1021 ?_
    refine sc_sld S hV hX hzb (by omega) dL_law_1022 ?_
    refine lv_aload_n hx_ hb_ dL_law_1023 rfl (lv_at hl 1 rfl) ?_
    refine lv_iload hx_ hb_ dL_law_1024 (lv_at hl 5 rfl) ?_
    refine si_const S dL_law_1026 ?_
    refine si_add S dL_law_1027 ?_
    refine sc_sld S hV hX hzb (by omega) dL_law_1028 ?_
    refine sb_bool (t0 := 1036) (t1 := 1037) S (lX_r xs _) dL_law_1029 (by decide) dL_law_1032 dL_law_1033 (by decide) dL_law_1036 rfl ?_
    have ga197 : ∀ x : Nat, m ≤ x → x < m + 16 → M1 x = M x := fun x u1 u2 => hf7 x (by omega) (by omega)
    have hc196 : M1 m = some (mO m th ch tn te sn nm wn) := (ga197 m (by omega) (by omega)).trans hm0
    have hc198 : M1 (m + 1) = some (sArr G 574 f) := (ga197 ((m + 1)) (by omega) (by omega)).trans hm1
    have hc199 : M1 (m + 7) = some (sArr G 10 A7) := (ga197 ((m + 7)) (by omega) (by omega)).trans hm7
    have hc200 : M1 (m + 5) = some (sArr G 1024 A5) := (ga197 ((m + 5)) (by omega) (by omega)).trans hm5
    have hc201 : M1 (m + 6) = some (sArr G 1024 A6) := (ga197 ((m + 6)) (by omega) (by omega)).trans hm6
    refine sk_Vi E hV (As := [.int (sI (lX xs (i + 1))), .int (sI (lX xs (i + 2))), .int (sI (bI (lX xs (i + 3) ≠ 0)))]) (rest := []) (kX11_shareOf l_ G b_ M1 N2 m th ch tn te sn nm wn f A7 A5 A6 (lX xs (i + 1)) (lX xs (i + 2)) (lX xs (i + 3) ≠ 0) hc196 hc198 hc199 hc200 hc201 (hok) (⟨lX_r xs _, lX_r xs _⟩)) (cwV 3 S.2.2.2.2 gL_law_X11_shareOf rfl rfl rfl (by decide +kernel) ⟨Nat.le_of_ble_eq_true rfl, Nat.le_of_ble_eq_true rfl⟩) (ci := 9) hc196 rfl rfl rfl hl.1 (Nat.le_of_ble_eq_true rfl) dL_law_1037 (c1 := cc_ + 8) (s1 := ss_ + 50) ⟨⟨rfl, rfl⟩, by omega, by omega⟩ (fun z205 M202 N203 H locs hp204 hV => ?_)
    obtain ⟨A9206, W9207, R9208, hN209, hc210, hc211, hc212, hf213, hq214⟩ := hp204
    rw [hN209] at hV
    rcases hq214 with ⟨c215, ez216, hc217⟩ | ⟨c218, ez219, hc220⟩ | ⟨c221, ez222, hc223⟩ | ⟨c224, ez225, hc226⟩
    · rw [ez216]
      exact (nx_shareOf_3_0 c18 c215).elim
    · rw [ez219]
      exact (nx_shareOf_3_1 c18 c218).elim
    · rw [ez222]
      exact (nx_shareOf_3_2 c18 c221).elim
    · rw [ez225]
      refine lv_istore (lv' := [(6, .int (sI (pif (lX xs (i + 3) ≠ 0) (totI f) (abI f (lX xs (i + 1)) (lX xs (i + 2))) / cmI (totI f) (abI f (lX xs (i + 1)) (lX xs (i + 2)))))), (5, .int (sI 0)), (0, .ref z), (1, .ref c), (2, .ref m), (3, .ref o), (4, .int (sI i))]) hx_ hb_ dL_law_1040 hl (by decide) rfl (fun ls hl => ?_)
      refine lv_aload_n hx_ hb_ dL_law_1042 rfl (lv_at hl 4 rfl) ?_
      refine sk_VP E hV (As := []) (rest := []) (kX11_thrown l_ G b_ M202 N2 m 0 ch tn te sn nm wn hc226) (cwV 0 S.2.2.2.2 gL_law_X11_thrown rfl rfl rfl (by decide +kernel) ⟨Nat.le_of_ble_eq_true rfl, Nat.le_of_ble_eq_true rfl⟩) (ci := 9) hc226 rfl rfl rfl hl.1 (Nat.le_of_ble_eq_true rfl) dL_law_1043 (c1 := cc_ + 8) (s1 := ss_ + 50) ⟨⟨rfl, rfl⟩, by omega, by omega⟩ (fun H locs hV => ?_)
      refine lv_iload hx_ hb_ dL_law_1046 (lv_at hl 1 rfl) ?_
      refine sb_eq (tgt := 1053) S dL_law_1048 (by decide) (by omega) (fun _ => ?_) (fun c227 => absurd c227 (by omega))
      refine lv_iload hx_ hb_ dL_law_1053 (lv_at hl 1 rfl) ?_
      refine sz_ne (tgt := 1070) S dL_law_1055 (by decide) (by omega) (fun c228 => absurd c228 (by omega)) (fun _ => ?_)
      refine lv_aload_n hx_ hb_ dL_law_1058 rfl (lv_at hl 5 rfl) ?_
      refine si_const S dL_law_1059 ?_
      have gb230 : ∀ x : Nat, (x < m ∨ m + 16 ≤ x) → M202 x = M1 x := fun x u1 => hf213 x (by omega) (by omega) (by omega) (by omega)
      have hc229 : M202 o = some (sArL G 1 (iup g0 0 (sW (pif (lX xs (i + 3) ≠ 0) (totI f) (abI f (lX xs (i + 1)) (lX xs (i + 2))) / cmI (totI f) (abI f (lX xs (i + 1)) (lX xs (i + 2))))))) := (gb230 o (by omega)).trans hc20
      refine sc_lald S hK hV hc229 (by omega) dL_law_1060 ?_
      rw [show (iup g0 0 (sW (pif (lX xs (i + 3) ≠ 0) (totI f) (abI f (lX xs (i + 1)) (lX xs (i + 2))) / cmI (totI f) (abI f (lX xs (i + 1)) (lX xs (i + 2)))))) 0 = sW (pif (lX xs (i + 3) ≠ 0) (totI f) (abI f (lX xs (i + 1)) (lX xs (i + 2))) / cmI (totI f) (abI f (lX xs (i + 1)) (lX xs (i + 2)))) from if_pos rfl]
      refine lv_iload hx_ hb_ dL_law_1061 (lv_at hl 0 rfl) ?_
      refine sl_i2w S dL_law_1063 ?_
      refine sl_cmp0 S (rfl) dL_law_1064 ?_
      refine sz_eq (tgt := 1070) S dL_law_1065 (by decide) (by omega) (fun _ => ?_) (fun c231 => absurd c231 (by omega))
      refine lv_goto (tgt := 2853) hx_ hb_ dL_law_1070 (by decide) ?_
      have hc232 : M202 c = some (xO c kn ch) := ((gb230 c (by omega)).trans (hf7 c (by omega) (by omega))).trans hc0
      have hc233 : stC G M202 (c + 1) f := hst.fr (fun x q8 q9 => (gb230 x (by omega)).trans (hf7 x (by omega) (by omega)))
      have hc234 : triC G M202 (c + 16) := htr.fr (fun x q8 q9 => (gb230 x (by omega)).trans (hf7 x (by omega) (by omega)))
      have hc235 : kpC G M202 (c + 31) kb kn ch fs := hkp.fr (fun x q8 => (gb230 x (by omega)).trans (hf7 x (by omega) (by omega)))
      have hc236 : M202 (c + 32) = some (sObj 7 [.ref (c + 33), .int (sI tn), .int (sI te)]) := ((gb230 ((c + 32)) (by omega)).trans (hf7 (c + 32) (by omega) (by omega))).trans ht0
      have hc237 : M202 (c + 33) = some (sArr G 300 t) := ((gb230 ((c + 33)) (by omega)).trans (hf7 (c + 33) (by omega) (by omega))).trans ht1
      have hc238 : catC G M202 (c + 34) wc T := hct.fr (fun x q8 q9 => (gb230 x (by omega)).trans (hf7 x (by omega) (by omega)))
      have hc239 : orfC G M202 (c + 38) := hc6.fr (fun x q8 q9 => gb230 x (by omega))
      have hc240 : layC G M202 (c + 48) := hly.fr (fun x q8 q9 => (gb230 x (by omega)).trans (hf7 x (by omega) (by omega)))
      have hc241 : knoC G M202 (c + 54) := hkn.fr (fun x q8 q9 => (gb230 x (by omega)).trans (hf7 x (by omega) (by omega)))
      have hc242 : excC G M202 (c + 57) := hex.fr (fun x q8 q9 => (gb230 x (by omega)).trans (hf7 x (by omega) (by omega)))
      have hc243 : M202 (m + 1) = some (sArr G 574 f) := (hf213 (m + 1) (by omega) (by omega) (by omega) (by omega)).trans hc198
      have hc244 : svC G M202 (m + 2) ch fs := hsv.fr (fun x q8 q9 => (hf213 x (by omega) (by omega) (by omega) (by omega)).trans (ga197 x (by omega) (by omega)))
      have hc245 : M202 (m + 3) = some (sArr G 300 t) := ((hf213 (m + 3) (by omega) (by omega) (by omega) (by omega)).trans (ga197 ((m + 3)) (by omega) (by omega))).trans hm3
      have hc246 : M202 (m + 4) = some (sArr G 11 A4) := ((hf213 (m + 4) (by omega) (by omega) (by omega) (by omega)).trans (ga197 ((m + 4)) (by omega) (by omega))).trans hm4
      have hc247 : M202 (m + 8) = some (sArr G 10 A8) := ((hf213 (m + 8) (by omega) (by omega) (by omega) (by omega)).trans (ga197 ((m + 8)) (by omega) (by omega))).trans hm8
      have hc248 : M202 (m + 9) = some (sArr G 62 A9) := ((hf213 (m + 9) (by omega) (by omega) (by omega) (by omega)).trans (ga197 ((m + 9)) (by omega) (by omega))).trans hm9
      have hc249 : M202 (m + 10) = some (sArr G 8 A10) := ((hf213 (m + 10) (by omega) (by omega) (by omega) (by omega)).trans (ga197 ((m + 10)) (by omega) (by omega))).trans hm10
      have hc250 : M202 (m + 11) = some (sArr G 8 A11) := ((hf213 (m + 11) (by omega) (by omega) (by omega) (by omega)).trans (ga197 ((m + 11)) (by omega) (by omega))).trans hm11
      have hc251 : M202 (m + 12) = some (sArr G 60 A12) := ((hf213 (m + 12) (by omega) (by omega) (by omega) (by omega)).trans (ga197 ((m + 12)) (by omega) (by omega))).trans hm12
      have hc252 : M202 (m + 13) = some (sArr G 240 A13) := ((hf213 (m + 13) (by omega) (by omega) (by omega) (by omega)).trans (ga197 ((m + 13)) (by omega) (by omega))).trans hm13
      have hc253 : M202 (m + 14) = some (sArr G 574 A14) := ((hf213 (m + 14) (by omega) (by omega) (by omega) (by omega)).trans (ga197 ((m + 14)) (by omega) (by omega))).trans hm14
      have hc254 : M202 (m + 15) = some (sArr G 200 T2) := ((hf213 (m + 15) (by omega) (by omega) (by omega) (by omega)).trans (ga197 ((m + 15)) (by omega) (by omega))).trans hm15
      exact W.widen (by omega) (by omega) (hk _ _ _ _ _ (by omega) ⟨_, _, _, _, _, _, _, _, _, _, _, _, _, _, _, _, _, _, _, _, _, _, _, _, _, _, hc232, hc233, hc234, hc235, hc236, hc237, hc238, hc239, hc240, hc241, hc242, hc226, hc243, hc244, hc245, hc246, hc211, hc212, hc210, hc247, hc248, hc249, hc250, hc251, hc252, hc253, hc254, hc229, lF_s hlF, htp, hwr⟩ hV (lv_sub hl [2, 3, 4, 5, 6] rfl))

set_option maxHeartbeats 4000000 in
set_option maxRecDepth 100000 in
theorem law_15 {p_ : Program} {l_ : Launch} {e_ : Env} {s_ : State} {m_ : MethodId} {args_ : Array Value} {below_ : List Frame} {meth_ : Method} {c_ : Code} {nm_ : String} {G : sG} {b_ : Nat} {M0 : sM} {N0 : Nat} {Q : State → Prop} (E : sE p_ l_ e_ room_1 s_ m_ args_ below_ meth_ c_ cL_law 9 wsL_law RL nm_ (some .boolean) G b_ M0 N0) (hF_ : xcF s_) (hlt : l_.stackTraces = false) {z L : Nat} {xs : Nat → Int32} (hX : va_X z L xs s_ s_.heap) (hzb : z < b_) {c m o kb : Nat} (hg : c + 60 ≤ m ∧ m + 16 ≤ o ∧ o < kb) {cc_ ss_ : Nat} (hcc : cc_ + 1170 ≤ room_1.cells ∧ ss_ + 14000 ≤ room_1.slots) {q i : Int} (hi : 0 ≤ i ∧ i + 6 ≤ L ∧ (L : Int) ≤ 3072) (hq : 0 ≤ q ∧ q ≤ 600) {M : sM} {N : Nat} (hkN : kb ≤ N) (hI : lI G M c m o kb q) {H : Heap} {locs : List Loc} {ls : Array Slot} (hV : sV G b_ M N s_ H locs) (hl : lv_has ls 9 [(0, .ref z), (1, .ref c), (2, .ref m), (3, .ref o), (4, .int (sI i))])
    (hk : ∀ (M1 : sM) (N1 : Nat) (H1 : Heap) (locs1 : List Loc) (ls1 : Array Slot), kb ≤ N1 → lI G M1 c m o kb (q + 1) → sV G b_ M1 N1 s_ H1 locs1 → lv_has ls1 9 [(0, .ref z), (1, .ref c), (2, .ref m), (3, .ref o), (4, .int (sI i))] → W p_ l_ e_ room_1 s_ m_ args_ below_ meth_ c_ H1 locs1 (cc_ + 1170) (ss_ + 14000) Q (F0 m_ 2853 ls1 [])) : W p_ l_ e_ room_1 s_ m_ args_ below_ meth_ c_ H locs cc_ ss_ Q (F0 m_ 1073 ls []) := by
  have S := E.1
  have hx_ := S.1
  have hb_ := S.2.1
  have hK := E.2.2.2.2.1
  have hI2 := hI
  obtain ⟨kn, ch, f, fs, tn, te, t, wc, wn, T, T2, th, sn, nm, g0, A4, A5, A6, A7, A8, A9, A10, A11, A12, A13, A14, hc0, hst, htr, hkp, ht0, ht1, hct, hft, hly, hkn, hex, hm0, hm1, hsv, hm3, hm4, hm5, hm6, hm7, hm8, hm9, hm10, hm11, hm12, hm13, hm14, hm15, ho9, hlF, htp, hwr⟩ := hI2
  have hok := hlF.1.1
  have hdI := hlF.1.2.1
  have hsL := hlF.1.2.2.1
  have hclk := hlF.1.2.2.2
  have hchr : 0 ≤ ch ∧ ch ≤ 15 := ⟨hkp.r.2.2.1, hkp.r.2.2.2⟩
  have htp1 := htp.1
  have htp2 := htp.2.1
  have hwq := wrQ_e hwr
  have hwq1 := hwq.1
  have hwq2 := hwq.2.1
  have kn0 := sOk_N hok
  refine lv_aload_n hx_ hb_ dL_law_1073 rfl (lv_at hl 1 rfl) ?_
  refine lv_aload_n hx_ hb_ dL_law_1074 rfl (lv_at hl 0 rfl) ?_
  refine lv_iload hx_ hb_ dL_law_1075 (lv_at hl 4 rfl) ?_
  refine si_const S dL_law_1077 ?_
  refine si_add S dL_law_1078 ?_
  refine sc_sld S hV hX hzb (by omega) dL_law_1079 ?_
  refine sb_bool (t0 := 1087) (t1 := 1088) S (lX_r xs _) dL_law_1080 (by decide) dL_law_1083 dL_law_1084 (by decide) dL_law_1087 rfl ?_
  refine sk_Vi E hV (As := [.int (sI (bI (lX xs (i + 1) ≠ 0)))]) (rest := []) (kX10_nextTest l_ G b_ M N c kn ch f (lX xs (i + 1) ≠ 0) hc0 hst hft (hok)) (cwV 1 S.2.2.2.2 gL_law_X10_nextTest rfl rfl rfl (by decide +kernel) ⟨Nat.le_of_ble_eq_true rfl, Nat.le_of_ble_eq_true rfl⟩) (ci := 8) hc0 rfl rfl rfl hl.1 (Nat.le_of_ble_eq_true rfl) dL_law_1088 (c1 := cc_ + 8) (s1 := ss_ + 50) ⟨⟨rfl, rfl⟩, by omega, by omega⟩ (fun z4 M1 N2 H locs hp3 hV => ?_)
  obtain ⟨ez5, hN6, hc7, hf8⟩ := hp3
  rw [hN6] at hV
  rw [ez5]
  refine lv_aload_n hx_ hb_ dL_law_1091 rfl (lv_at hl 2 rfl) ?_
  refine lv_aload_n hx_ hb_ dL_law_1092 rfl (lv_at hl 0 rfl) ?_
  refine lv_iload hx_ hb_ dL_law_1093 (lv_at hl 4 rfl) ?_
  refine si_const S dL_law_1095 ?_
  refine si_add S dL_law_1096 ?_
  refine sc_sld S hV hX hzb (by omega) dL_law_1097 ?_
  refine sb_bool (t0 := 1105) (t1 := 1106) S (lX_r xs _) dL_law_1098 (by decide) dL_law_1101 dL_law_1102 (by decide) dL_law_1105 rfl ?_
  have ga10 : ∀ x : Nat, m ≤ x → x < m + 16 → M1 x = M x := fun x u1 u2 => hf8 x (by omega)
  have hc9 : M1 m = some (mO m th ch tn te sn nm wn) := (ga10 m (by omega) (by omega)).trans hm0
  have hc11 : M1 (m + 1) = some (sArr G 574 f) := (ga10 ((m + 1)) (by omega) (by omega)).trans hm1
  have hc12 : M1 (m + 7) = some (sArr G 10 A7) := (ga10 ((m + 7)) (by omega) (by omega)).trans hm7
  have hc13 : M1 (m + 5) = some (sArr G 1024 A5) := (ga10 ((m + 5)) (by omega) (by omega)).trans hm5
  have hc14 : M1 (m + 6) = some (sArr G 1024 A6) := (ga10 ((m + 6)) (by omega) (by omega)).trans hm6
  refine sk_Vi E hV (As := [.int (sI (bI (lX xs (i + 1) ≠ 0)))]) (rest := [.int (sI (pif (totI f = 0 ∨ f 568 < 2) (-1) (pif (lX xs (i + 1) ≠ 0) (ntM f) (ntT f))))]) (kX11_nextTest l_ G b_ M1 N m th ch tn te sn nm wn f A7 A5 A6 (lX xs (i + 1) ≠ 0) hc9 hc11 hc12 hc13 hc14 (hok)) (cwV 1 S.2.2.2.2 gL_law_X11_nextTest rfl rfl rfl (by decide +kernel) ⟨Nat.le_of_ble_eq_true rfl, Nat.le_of_ble_eq_true rfl⟩) (ci := 9) hc9 rfl rfl rfl hl.1 (Nat.le_of_ble_eq_true rfl) dL_law_1106 (c1 := cc_ + 8) (s1 := ss_ + 50) ⟨⟨rfl, rfl⟩, by omega, by omega⟩ (fun z18 M15 N16 H locs hp17 hV => ?_)
  obtain ⟨A919, W920, R921, hN22, hc23, hc24, hc25, hf26, hq27⟩ := hp17
  rw [hN22] at hV
  rcases hq27 with ⟨c28, ez29, hc30⟩ | ⟨c31, ez32, hc33⟩ | ⟨c34, ez35, hc36⟩
  · rw [ez29]
    refine sb_eq1 (tgt := 2853) S (pif_t c28) dL_law_1109 (by decide) ?_
    have gb38 : ∀ x : Nat, (x < m ∨ m + 16 ≤ x) → M15 x = M1 x := fun x u1 => hf26 x (by omega) (by omega) (by omega) (by omega)
    have hc37 : M15 c = some (xO c kn ch) := ((gb38 c (by omega)).trans (hf8 c (by omega))).trans hc0
    have hc39 : stC G M15 (c + 1) f := hst.fr (fun x q8 q9 => (gb38 x (by omega)).trans (hf8 x (by omega)))
    have hc40 : triC G M15 (c + 16) := htr.fr (fun x q8 q9 => (gb38 x (by omega)).trans (hf8 x (by omega)))
    have hc41 : kpC G M15 (c + 31) kb kn ch fs := hkp.fr (fun x q8 => (gb38 x (by omega)).trans (hf8 x (by omega)))
    have hc42 : M15 (c + 32) = some (sObj 7 [.ref (c + 33), .int (sI tn), .int (sI te)]) := ((gb38 ((c + 32)) (by omega)).trans (hf8 (c + 32) (by omega))).trans ht0
    have hc43 : M15 (c + 33) = some (sArr G 300 t) := ((gb38 ((c + 33)) (by omega)).trans (hf8 (c + 33) (by omega))).trans ht1
    have hc44 : catC G M15 (c + 34) wc T := hct.fr (fun x q8 q9 => (gb38 x (by omega)).trans (hf8 x (by omega)))
    have hc45 : orfC G M15 (c + 38) := hc7.fr (fun x q8 q9 => gb38 x (by omega))
    have hc46 : layC G M15 (c + 48) := hly.fr (fun x q8 q9 => (gb38 x (by omega)).trans (hf8 x (by omega)))
    have hc47 : knoC G M15 (c + 54) := hkn.fr (fun x q8 q9 => (gb38 x (by omega)).trans (hf8 x (by omega)))
    have hc48 : excC G M15 (c + 57) := hex.fr (fun x q8 q9 => (gb38 x (by omega)).trans (hf8 x (by omega)))
    have hc49 : M15 (m + 1) = some (sArr G 574 f) := (hf26 (m + 1) (by omega) (by omega) (by omega) (by omega)).trans hc11
    have hc50 : svC G M15 (m + 2) ch fs := hsv.fr (fun x q8 q9 => (hf26 x (by omega) (by omega) (by omega) (by omega)).trans (ga10 x (by omega) (by omega)))
    have hc51 : M15 (m + 3) = some (sArr G 300 t) := ((hf26 (m + 3) (by omega) (by omega) (by omega) (by omega)).trans (ga10 ((m + 3)) (by omega) (by omega))).trans hm3
    have hc52 : M15 (m + 4) = some (sArr G 11 A4) := ((hf26 (m + 4) (by omega) (by omega) (by omega) (by omega)).trans (ga10 ((m + 4)) (by omega) (by omega))).trans hm4
    have hc53 : M15 (m + 8) = some (sArr G 10 A8) := ((hf26 (m + 8) (by omega) (by omega) (by omega) (by omega)).trans (ga10 ((m + 8)) (by omega) (by omega))).trans hm8
    have hc54 : M15 (m + 9) = some (sArr G 62 A9) := ((hf26 (m + 9) (by omega) (by omega) (by omega) (by omega)).trans (ga10 ((m + 9)) (by omega) (by omega))).trans hm9
    have hc55 : M15 (m + 10) = some (sArr G 8 A10) := ((hf26 (m + 10) (by omega) (by omega) (by omega) (by omega)).trans (ga10 ((m + 10)) (by omega) (by omega))).trans hm10
    have hc56 : M15 (m + 11) = some (sArr G 8 A11) := ((hf26 (m + 11) (by omega) (by omega) (by omega) (by omega)).trans (ga10 ((m + 11)) (by omega) (by omega))).trans hm11
    have hc57 : M15 (m + 12) = some (sArr G 60 A12) := ((hf26 (m + 12) (by omega) (by omega) (by omega) (by omega)).trans (ga10 ((m + 12)) (by omega) (by omega))).trans hm12
    have hc58 : M15 (m + 13) = some (sArr G 240 A13) := ((hf26 (m + 13) (by omega) (by omega) (by omega) (by omega)).trans (ga10 ((m + 13)) (by omega) (by omega))).trans hm13
    have hc59 : M15 (m + 14) = some (sArr G 574 A14) := ((hf26 (m + 14) (by omega) (by omega) (by omega) (by omega)).trans (ga10 ((m + 14)) (by omega) (by omega))).trans hm14
    have hc60 : M15 (m + 15) = some (sArr G 200 T2) := ((hf26 (m + 15) (by omega) (by omega) (by omega) (by omega)).trans (ga10 ((m + 15)) (by omega) (by omega))).trans hm15
    have hc61 : M15 o = some (sArL G 1 g0) := ((gb38 o (by omega)).trans (hf8 o (by omega))).trans ho9
    exact W.widen (by omega) (by omega) (hk _ _ _ _ _ (by omega) ⟨_, _, _, _, _, _, _, _, _, _, _, _, _, _, _, _, _, _, _, _, _, _, _, _, _, _, hc37, hc39, hc40, hc41, hc42, hc43, hc44, hc45, hc46, hc47, hc48, hc30, hc49, hc50, hc51, hc52, hc24, hc25, hc23, hc53, hc54, hc55, hc56, hc57, hc58, hc59, hc60, hc61, lF_s hlF, htp, hwr⟩ hV (lv_sub hl [0, 1, 2, 3, 4] rfl))
  · rw [ez32]
    refine sb_eq1 (tgt := 2853) S ((pif_f (by omega)).trans (pif_t c31.2.2)) dL_law_1109 (by decide) ?_
    have gb63 : ∀ x : Nat, (x < m ∨ m + 16 ≤ x) → M15 x = M1 x := fun x u1 => hf26 x (by omega) (by omega) (by omega) (by omega)
    have hc62 : M15 c = some (xO c kn ch) := ((gb63 c (by omega)).trans (hf8 c (by omega))).trans hc0
    have hc64 : stC G M15 (c + 1) f := hst.fr (fun x q8 q9 => (gb63 x (by omega)).trans (hf8 x (by omega)))
    have hc65 : triC G M15 (c + 16) := htr.fr (fun x q8 q9 => (gb63 x (by omega)).trans (hf8 x (by omega)))
    have hc66 : kpC G M15 (c + 31) kb kn ch fs := hkp.fr (fun x q8 => (gb63 x (by omega)).trans (hf8 x (by omega)))
    have hc67 : M15 (c + 32) = some (sObj 7 [.ref (c + 33), .int (sI tn), .int (sI te)]) := ((gb63 ((c + 32)) (by omega)).trans (hf8 (c + 32) (by omega))).trans ht0
    have hc68 : M15 (c + 33) = some (sArr G 300 t) := ((gb63 ((c + 33)) (by omega)).trans (hf8 (c + 33) (by omega))).trans ht1
    have hc69 : catC G M15 (c + 34) wc T := hct.fr (fun x q8 q9 => (gb63 x (by omega)).trans (hf8 x (by omega)))
    have hc70 : orfC G M15 (c + 38) := hc7.fr (fun x q8 q9 => gb63 x (by omega))
    have hc71 : layC G M15 (c + 48) := hly.fr (fun x q8 q9 => (gb63 x (by omega)).trans (hf8 x (by omega)))
    have hc72 : knoC G M15 (c + 54) := hkn.fr (fun x q8 q9 => (gb63 x (by omega)).trans (hf8 x (by omega)))
    have hc73 : excC G M15 (c + 57) := hex.fr (fun x q8 q9 => (gb63 x (by omega)).trans (hf8 x (by omega)))
    have hc74 : M15 (m + 1) = some (sArr G 574 f) := (hf26 (m + 1) (by omega) (by omega) (by omega) (by omega)).trans hc11
    have hc75 : svC G M15 (m + 2) ch fs := hsv.fr (fun x q8 q9 => (hf26 x (by omega) (by omega) (by omega) (by omega)).trans (ga10 x (by omega) (by omega)))
    have hc76 : M15 (m + 3) = some (sArr G 300 t) := ((hf26 (m + 3) (by omega) (by omega) (by omega) (by omega)).trans (ga10 ((m + 3)) (by omega) (by omega))).trans hm3
    have hc77 : M15 (m + 4) = some (sArr G 11 A4) := ((hf26 (m + 4) (by omega) (by omega) (by omega) (by omega)).trans (ga10 ((m + 4)) (by omega) (by omega))).trans hm4
    have hc78 : M15 (m + 8) = some (sArr G 10 A8) := ((hf26 (m + 8) (by omega) (by omega) (by omega) (by omega)).trans (ga10 ((m + 8)) (by omega) (by omega))).trans hm8
    have hc79 : M15 (m + 9) = some (sArr G 62 A9) := ((hf26 (m + 9) (by omega) (by omega) (by omega) (by omega)).trans (ga10 ((m + 9)) (by omega) (by omega))).trans hm9
    have hc80 : M15 (m + 10) = some (sArr G 8 A10) := ((hf26 (m + 10) (by omega) (by omega) (by omega) (by omega)).trans (ga10 ((m + 10)) (by omega) (by omega))).trans hm10
    have hc81 : M15 (m + 11) = some (sArr G 8 A11) := ((hf26 (m + 11) (by omega) (by omega) (by omega) (by omega)).trans (ga10 ((m + 11)) (by omega) (by omega))).trans hm11
    have hc82 : M15 (m + 12) = some (sArr G 60 A12) := ((hf26 (m + 12) (by omega) (by omega) (by omega) (by omega)).trans (ga10 ((m + 12)) (by omega) (by omega))).trans hm12
    have hc83 : M15 (m + 13) = some (sArr G 240 A13) := ((hf26 (m + 13) (by omega) (by omega) (by omega) (by omega)).trans (ga10 ((m + 13)) (by omega) (by omega))).trans hm13
    have hc84 : M15 (m + 14) = some (sArr G 574 A14) := ((hf26 (m + 14) (by omega) (by omega) (by omega) (by omega)).trans (ga10 ((m + 14)) (by omega) (by omega))).trans hm14
    have hc85 : M15 (m + 15) = some (sArr G 200 T2) := ((hf26 (m + 15) (by omega) (by omega) (by omega) (by omega)).trans (ga10 ((m + 15)) (by omega) (by omega))).trans hm15
    have hc86 : M15 o = some (sArL G 1 g0) := ((gb63 o (by omega)).trans (hf8 o (by omega))).trans ho9
    exact W.widen (by omega) (by omega) (hk _ _ _ _ _ (by omega) ⟨_, _, _, _, _, _, _, _, _, _, _, _, _, _, _, _, _, _, _, _, _, _, _, _, _, _, hc62, hc64, hc65, hc66, hc67, hc68, hc69, hc70, hc71, hc72, hc73, hc33, hc74, hc75, hc76, hc77, hc24, hc25, hc23, hc78, hc79, hc80, hc81, hc82, hc83, hc84, hc85, hc86, lF_s hlF, htp, hwr⟩ hV (lv_sub hl [0, 1, 2, 3, 4] rfl))
  · rw [ez35]
    refine sb_eq1 (tgt := 2853) S ((pif_f (by omega)).trans (pif_f c34.2.2)) dL_law_1109 (by decide) ?_
    have gb88 : ∀ x : Nat, (x < m ∨ m + 16 ≤ x) → M15 x = M1 x := fun x u1 => hf26 x (by omega) (by omega) (by omega) (by omega)
    have hc87 : M15 c = some (xO c kn ch) := ((gb88 c (by omega)).trans (hf8 c (by omega))).trans hc0
    have hc89 : stC G M15 (c + 1) f := hst.fr (fun x q8 q9 => (gb88 x (by omega)).trans (hf8 x (by omega)))
    have hc90 : triC G M15 (c + 16) := htr.fr (fun x q8 q9 => (gb88 x (by omega)).trans (hf8 x (by omega)))
    have hc91 : kpC G M15 (c + 31) kb kn ch fs := hkp.fr (fun x q8 => (gb88 x (by omega)).trans (hf8 x (by omega)))
    have hc92 : M15 (c + 32) = some (sObj 7 [.ref (c + 33), .int (sI tn), .int (sI te)]) := ((gb88 ((c + 32)) (by omega)).trans (hf8 (c + 32) (by omega))).trans ht0
    have hc93 : M15 (c + 33) = some (sArr G 300 t) := ((gb88 ((c + 33)) (by omega)).trans (hf8 (c + 33) (by omega))).trans ht1
    have hc94 : catC G M15 (c + 34) wc T := hct.fr (fun x q8 q9 => (gb88 x (by omega)).trans (hf8 x (by omega)))
    have hc95 : orfC G M15 (c + 38) := hc7.fr (fun x q8 q9 => gb88 x (by omega))
    have hc96 : layC G M15 (c + 48) := hly.fr (fun x q8 q9 => (gb88 x (by omega)).trans (hf8 x (by omega)))
    have hc97 : knoC G M15 (c + 54) := hkn.fr (fun x q8 q9 => (gb88 x (by omega)).trans (hf8 x (by omega)))
    have hc98 : excC G M15 (c + 57) := hex.fr (fun x q8 q9 => (gb88 x (by omega)).trans (hf8 x (by omega)))
    have hc99 : M15 (m + 1) = some (sArr G 574 f) := (hf26 (m + 1) (by omega) (by omega) (by omega) (by omega)).trans hc11
    have hc100 : svC G M15 (m + 2) ch fs := hsv.fr (fun x q8 q9 => (hf26 x (by omega) (by omega) (by omega) (by omega)).trans (ga10 x (by omega) (by omega)))
    have hc101 : M15 (m + 3) = some (sArr G 300 t) := ((hf26 (m + 3) (by omega) (by omega) (by omega) (by omega)).trans (ga10 ((m + 3)) (by omega) (by omega))).trans hm3
    have hc102 : M15 (m + 4) = some (sArr G 11 A4) := ((hf26 (m + 4) (by omega) (by omega) (by omega) (by omega)).trans (ga10 ((m + 4)) (by omega) (by omega))).trans hm4
    have hc103 : M15 (m + 8) = some (sArr G 10 A8) := ((hf26 (m + 8) (by omega) (by omega) (by omega) (by omega)).trans (ga10 ((m + 8)) (by omega) (by omega))).trans hm8
    have hc104 : M15 (m + 9) = some (sArr G 62 A9) := ((hf26 (m + 9) (by omega) (by omega) (by omega) (by omega)).trans (ga10 ((m + 9)) (by omega) (by omega))).trans hm9
    have hc105 : M15 (m + 10) = some (sArr G 8 A10) := ((hf26 (m + 10) (by omega) (by omega) (by omega) (by omega)).trans (ga10 ((m + 10)) (by omega) (by omega))).trans hm10
    have hc106 : M15 (m + 11) = some (sArr G 8 A11) := ((hf26 (m + 11) (by omega) (by omega) (by omega) (by omega)).trans (ga10 ((m + 11)) (by omega) (by omega))).trans hm11
    have hc107 : M15 (m + 12) = some (sArr G 60 A12) := ((hf26 (m + 12) (by omega) (by omega) (by omega) (by omega)).trans (ga10 ((m + 12)) (by omega) (by omega))).trans hm12
    have hc108 : M15 (m + 13) = some (sArr G 240 A13) := ((hf26 (m + 13) (by omega) (by omega) (by omega) (by omega)).trans (ga10 ((m + 13)) (by omega) (by omega))).trans hm13
    have hc109 : M15 (m + 14) = some (sArr G 574 A14) := ((hf26 (m + 14) (by omega) (by omega) (by omega) (by omega)).trans (ga10 ((m + 14)) (by omega) (by omega))).trans hm14
    have hc110 : M15 (m + 15) = some (sArr G 200 T2) := ((hf26 (m + 15) (by omega) (by omega) (by omega) (by omega)).trans (ga10 ((m + 15)) (by omega) (by omega))).trans hm15
    have hc111 : M15 o = some (sArL G 1 g0) := ((gb88 o (by omega)).trans (hf8 o (by omega))).trans ho9
    exact W.widen (by omega) (by omega) (hk _ _ _ _ _ (by omega) ⟨_, _, _, _, _, _, _, _, _, _, _, _, _, _, _, _, _, _, _, _, _, _, _, _, _, _, hc87, hc89, hc90, hc91, hc92, hc93, hc94, hc95, hc96, hc97, hc98, hc36, hc99, hc100, hc101, hc102, hc24, hc25, hc23, hc103, hc104, hc105, hc106, hc107, hc108, hc109, hc110, hc111, lF_s hlF, htp, hwr⟩ hV (lv_sub hl [0, 1, 2, 3, 4] rfl))
