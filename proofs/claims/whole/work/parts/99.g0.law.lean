theorem nx_append_0_1 {tn : Int} {v1 : Int} {v2 : Int} {v3 : Int} {v4 : Int} {v5 : Int} (h1 : 300 < tn + apB v1 v2 v3 v4 v5) (h2 : tn + apB v1 v2 v3 v4 v5 ≤ 300) : False := by
  first
  | omega
  | (simp_all; done)
  | (simp_all; omega)
theorem nx_append_1_0 {tn : Int} {v1 : Int} {v2 : Int} {v3 : Int} {v4 : Int} {v5 : Int} (h1 : tn + apB v1 v2 v3 v4 v5 ≤ 300) (h2 : 300 < tn + apB v1 v2 v3 v4 v5) : False := by
  first
  | omega
  | (simp_all; done)
  | (simp_all; omega)
set_option maxHeartbeats 4000000 in
set_option maxRecDepth 100000 in
theorem law_0 {p_ : Program} {l_ : Launch} {e_ : Env} {s_ : State} {m_ : MethodId} {args_ : Array Value} {below_ : List Frame} {meth_ : Method} {c_ : Code} {nm_ : String} {G : sG} {b_ : Nat} {M0 : sM} {N0 : Nat} {Q : State → Prop} (E : sE p_ l_ e_ room_1 s_ m_ args_ below_ meth_ c_ cL_law 9 wsL_law RL nm_ (some .boolean) G b_ M0 N0) (hF_ : xcF s_) (hlt : l_.stackTraces = false) {z L : Nat} {xs : Nat → Int32} (hX : va_X z L xs s_ s_.heap) (hzb : z < b_) {c m o kb : Nat} (hg : c + 60 ≤ m ∧ m + 16 ≤ o ∧ o < kb) {cc_ ss_ : Nat} (hcc : cc_ + 1170 ≤ room_1.cells ∧ ss_ + 14000 ≤ room_1.slots) {q i : Int} (hi : 0 ≤ i ∧ i + 6 ≤ L ∧ (L : Int) ≤ 3072) (hq : 0 ≤ q ∧ q ≤ 600) {M : sM} {N : Nat} (hkN : kb ≤ N) (hI : lI G M c m o kb q) {H : Heap} {locs : List Loc} {ls : Array Slot} (hV : sV G b_ M N s_ H locs) (hl : lv_has ls 9 [(0, .ref z), (1, .ref c), (2, .ref m), (3, .ref o), (4, .int (sI i))])
    (hk : ∀ (M1 : sM) (N1 : Nat) (H1 : Heap) (locs1 : List Loc) (ls1 : Array Slot), kb ≤ N1 → lI G M1 c m o kb (q + 1) → sV G b_ M1 N1 s_ H1 locs1 → lv_has ls1 9 [(0, .ref z), (1, .ref c), (2, .ref m), (3, .ref o), (4, .int (sI i))] → W p_ l_ e_ room_1 s_ m_ args_ below_ meth_ c_ H1 locs1 (cc_ + 1170) (ss_ + 14000) Q (F0 m_ 2853 ls1 [])) : W p_ l_ e_ room_1 s_ m_ args_ below_ meth_ c_ H locs cc_ ss_ Q (F0 m_ 248 ls []) := by
  have S := E.1
  have hx_ := S.1
  have hb_ := S.2.1
  have hK := E.2.2.2.2.1
  have hI2 := hI
  obtain ⟨kn, ch, f, fs, tn, te, t, wc, wn, T, T2, th, sn, nm, g0, A4, A5, A6, A7, A8, A9, A10, A11, A12, A13, A14, hc0, hst, htr, hkp, ht0, ht1, hct, hft, hly, hkn, hex, hm0, hm1, hsv, hm3, hm4, hm5, hm6, hm7, hm8, hm9, hm10, hm11, hm12, hm13, hm14, hm15, ho9, hlF, htp, hwr⟩ := hI2
  have hok := hlF.1.1
  have hdI := hlF.1.2.1
  have hsL := hlF.1.2.2.1
  have hclk := hlF.1.2.2.2
  have hchr : 0 ≤ ch ∧ ch ≤ 15 := ⟨hkp.r.2.2.1, hkp.r.2.2.2⟩
  have htp1 := htp.1
  have htp2 := htp.2.1
  have hwq := wrQ_e hwr
  have hwq1 := hwq.1
  have hwq2 := hwq.2.1
  have kn0 := sOk_N hok
  refine lv_aload_n hx_ hb_ dL_law_248 rfl (lv_at hl 1 rfl) ?_
  refine lv_aload_n hx_ hb_ dL_law_249 rfl (lv_at hl 0 rfl) ?_
  refine lv_iload hx_ hb_ dL_law_250 (lv_at hl 4 rfl) ?_
  refine si_const S dL_law_252 ?_
  refine si_add S dL_law_253 ?_
  refine sc_sld S hV hX hzb (by omega) dL_law_254 ?_
  refine lv_aload_n hx_ hb_ dL_law_255 rfl (lv_at hl 0 rfl) ?_
  refine lv_iload hx_ hb_ dL_law_256 (lv_at hl 4 rfl) ?_
  refine si_const S dL_law_258 ?_
  refine si_add S dL_law_259 ?_
  refine sc_sld S hV hX hzb (by omega) dL_law_260 ?_
  refine lv_aload_n hx_ hb_ dL_law_261 rfl (lv_at hl 0 rfl) ?_
  refine lv_iload hx_ hb_ dL_law_262 (lv_at hl 4 rfl) ?_
  refine si_const S dL_law_264 ?_
  refine si_add S dL_law_265 ?_
  refine sc_sld S hV hX hzb (by omega) dL_law_266 ?_
  refine lv_aload_n hx_ hb_ dL_law_267 rfl (lv_at hl 0 rfl) ?_
  refine lv_iload hx_ hb_ dL_law_268 (lv_at hl 4 rfl) ?_
  refine si_const S dL_law_270 ?_
  refine si_add S dL_law_271 ?_
  refine sc_sld S hV hX hzb (by omega) dL_law_272 ?_
  refine lv_aload_n hx_ hb_ dL_law_273 rfl (lv_at hl 0 rfl) ?_
  refine lv_iload hx_ hb_ dL_law_274 (lv_at hl 4 rfl) ?_
  refine si_const S dL_law_276 ?_
  refine si_add S dL_law_277 ?_
  refine sc_sld S hV hX hzb (by omega) dL_law_278 ?_
  refine lv_aload_n hx_ hb_ dL_law_279 rfl (lv_at hl 3 rfl) ?_
  refine yk_Si (hh := [(0, 16, 19, 13)]) E hF_ hV (As := [.ref c, .int (sI (lX xs (i + 1))), .int (sI (lX xs (i + 2))), .int (sI (lX xs (i + 3))), .int (sI (lX xs (i + 4))), .int (sI (lX xs (i + 5))), .ref o]) (rest := []) (kL_append l_ G b_ M N o g0 c kn ch tn te t (lX xs (i + 1)) (lX xs (i + 2)) (lX xs (i + 3)) (lX xs (i + 4)) (lX xs (i + 5)) hc0 ht0 ht1 ho9 (hlt) (by omega) (by omega)) (vx_cwSW 7 S.2.2.2.2 gL_law_L_append rfl rfl rfl (by decide +kernel) ⟨Nat.le_of_ble_eq_true rfl, Nat.le_of_ble_eq_true rfl⟩) rfl rfl hl.1 (Nat.le_of_ble_eq_true rfl) dL_law_280 (c1 := cc_ + 1) (s1 := ss_ + 6) ⟨⟨rfl, rfl⟩, by omega, by omega⟩ (fun z4 M1 N2 H locs hp3 hV => ?_)
  obtain ⟨hN5, hf6, hq7⟩ := hp3
  rcases hq7 with ⟨c8, ez9, hc10, hc11, hc12⟩ | ⟨c13, ez14, hc15, hc16, hc17⟩
  · rw [ez9]
    refine lv_istore (lv' := [(5, .int (sI 1)), (0, .ref z), (1, .ref c), (2, .ref m), (3, .ref o), (4, .int (sI i))]) hx_ hb_ dL_law_283 hl (by decide) rfl (fun ls hl => ?_)
    refine lv_aload_n hx_ hb_ dL_law_285 rfl (lv_at hl 3 rfl) ?_
    refine lv_aload_n hx_ hb_ dL_law_286 rfl (lv_at hl 1 rfl) ?_
    refine lv_iload hx_ hb_ dL_law_287 (lv_at hl 5 rfl) ?_
    refine si_const S dL_law_289 ?_
    refine si_add S dL_law_290 ?_
    refine sc_sld S hV hX hzb (by omega) dL_law_291 ?_
    refine lv_aload_n hx_ hb_ dL_law_292 rfl (lv_at hl 1 rfl) ?_
    refine lv_iload hx_ hb_ dL_law_293 (lv_at hl 5 rfl) ?_
    refine si_const S dL_law_295 ?_
    refine si_add S dL_law_296 ?_
    refine sc_sld S hV hX hzb (by omega) dL_law_297 ?_
    refine lv_aload_n hx_ hb_ dL_law_298 rfl (lv_at hl 1 rfl) ?_
    refine lv_iload hx_ hb_ dL_law_299 (lv_at hl 5 rfl) ?_
    refine si_const S dL_law_301 ?_
    refine si_add S dL_law_302 ?_
    refine sc_sld S hV hX hzb (by omega) dL_law_303 ?_
    refine lv_aload_n hx_ hb_ dL_law_304 rfl (lv_at hl 1 rfl) ?_
    refine lv_iload hx_ hb_ dL_law_305 (lv_at hl 5 rfl) ?_
    refine si_const S dL_law_307 ?_
    refine si_add S dL_law_308 ?_
    refine sc_sld S hV hX hzb (by omega) dL_law_309 ?_
    refine lv_aload_n hx_ hb_ dL_law_310 rfl (lv_at hl 1 rfl) ?_
    refine lv_iload hx_ hb_ dL_law_311 (lv_at hl 5 rfl) ?_
    refine si_const S dL_law_313 ?_
    refine si_add S dL_law_314 ?_
    refine sc_sld S hV hX hzb (by omega) dL_law_315 ?_
    have ga19 : ∀ x : Nat, m ≤ x → x < m + 16 → M1 x = M x := fun x u1 u2 => hf6 x (by omega) (by omega) (by omega)
    have hc18 : M1 m = some (mO m th ch tn te sn nm wn) := (ga19 m (by omega) (by omega)).trans hm0
    have hc20 : M1 (m + 3) = some (sArr G 300 t) := (ga19 ((m + 3)) (by omega) (by omega)).trans hm3
    refine sk_Vi E hV (As := [.int (sI (lX xs (i + 1))), .int (sI (lX xs (i + 2))), .int (sI (lX xs (i + 3))), .int (sI (lX xs (i + 4))), .int (sI (lX xs (i + 5)))]) (rest := []) (kX11_append l_ G b_ M1 N2 m th ch tn te sn nm wn t (lX xs (i + 1)) (lX xs (i + 2)) (lX xs (i + 3)) (lX xs (i + 4)) (lX xs (i + 5)) hc18 hc20 (by omega)) (cwV 5 S.2.2.2.2 gL_law_X11_append rfl rfl rfl (by decide +kernel) ⟨Nat.le_of_ble_eq_true rfl, Nat.le_of_ble_eq_true rfl⟩) (ci := 9) hc18 rfl rfl rfl hl.1 (Nat.le_of_ble_eq_true rfl) dL_law_316 (c1 := cc_ + 1) (s1 := ss_ + 6) ⟨⟨rfl, rfl⟩, by omega, by omega⟩ (fun z24 M21 N22 H locs hp23 hV => ?_)
    obtain ⟨hN25, hf26, hq27⟩ := hp23
    rw [hN25] at hV
    rcases hq27 with ⟨c28, ez29, hc30, hc31⟩ | ⟨c32, ez33, hc34, hc35⟩
    · rw [ez29]
      refine lv_istore (lv' := [(6, .int (sI 0)), (5, .int (sI 1)), (0, .ref z), (1, .ref c), (2, .ref m), (3, .ref o), (4, .int (sI i))]) hx_ hb_ dL_law_319 hl (by decide) rfl (fun ls hl => ?_)
      refine lv_aload_n hx_ hb_ dL_law_321 rfl (lv_at hl 4 rfl) ?_
      refine sk_VP E hV (As := []) (rest := []) (kX11_thrown l_ G b_ M21 N2 m 1 ch tn te sn nm wn hc30) (cwV 0 S.2.2.2.2 gL_law_X11_thrown rfl rfl rfl (by decide +kernel) ⟨Nat.le_of_ble_eq_true rfl, Nat.le_of_ble_eq_true rfl⟩) (ci := 9) hc30 rfl rfl rfl hl.1 (Nat.le_of_ble_eq_true rfl) dL_law_322 (c1 := cc_ + 1) (s1 := ss_ + 6) ⟨⟨rfl, rfl⟩, by omega, by omega⟩ (fun H locs hV => ?_)
      refine lv_iload hx_ hb_ dL_law_325 (lv_at hl 1 rfl) ?_
      refine sb_eq (tgt := 332) S dL_law_327 (by decide) (by omega) (fun _ => ?_) (fun c36 => absurd c36 (by omega))
      refine lv_iload hx_ hb_ dL_law_332 (lv_at hl 1 rfl) ?_
      refine sz_ne (tgt := 349) S dL_law_334 (by decide) (by omega) (fun _ => ?_) (fun c37 => absurd c37 (by omega))
      refine lv_goto (tgt := 2853) hx_ hb_ dL_law_349 (by decide) ?_
      have gb39 : ∀ x : Nat, (x < m ∨ m + 16 ≤ x) → M21 x = M1 x := fun x u1 => hf26 x (by omega) (by omega)
      have hc38 : M21 c = some (xO c kn ch) := ((gb39 c (by omega)).trans (hf6 c (by omega) (by omega) (by omega))).trans hc0
      have hc40 : stC G M21 (c + 1) f := hst.fr (fun x q8 q9 => (gb39 x (by omega)).trans (hf6 x (by omega) (by omega) (by omega)))
      have hc41 : triC G M21 (c + 16) := htr.fr (fun x q8 q9 => (gb39 x (by omega)).trans (hf6 x (by omega) (by omega) (by omega)))
      have hc42 : kpC G M21 (c + 31) kb kn ch fs := hkp.fr (fun x q8 => (gb39 x (by omega)).trans (hf6 x (by omega) (by omega) (by omega)))
      have hc43 : M21 (c + 32) = some (sObj 7 [.ref (c + 33), .int (sI tn), .int (sI te)]) := (gb39 ((c + 32)) (by omega)).trans hc10
      have hc44 : M21 (c + 33) = some (sArr G 300 t) := (gb39 ((c + 33)) (by omega)).trans hc11
      have hc45 : catC G M21 (c + 34) wc T := hct.fr (fun x q8 q9 => (gb39 x (by omega)).trans (hf6 x (by omega) (by omega) (by omega)))
      have hc46 : orfC G M21 (c + 38) := hft.fr (fun x q8 q9 => (gb39 x (by omega)).trans (hf6 x (by omega) (by omega) (by omega)))
      have hc47 : layC G M21 (c + 48) := hly.fr (fun x q8 q9 => (gb39 x (by omega)).trans (hf6 x (by omega) (by omega) (by omega)))
      have hc48 : knoC G M21 (c + 54) := hkn.fr (fun x q8 q9 => (gb39 x (by omega)).trans (hf6 x (by omega) (by omega) (by omega)))
      have hc49 : excC G M21 (c + 57) := hex.fr (fun x q8 q9 => (gb39 x (by omega)).trans (hf6 x (by omega) (by omega) (by omega)))
      have hc50 : M21 (m + 1) = some (sArr G 574 f) := ((hf26 (m + 1) (by omega) (by omega)).trans (ga19 ((m + 1)) (by omega) (by omega))).trans hm1
      have hc51 : svC G M21 (m + 2) ch fs := hsv.fr (fun x q8 q9 => (hf26 x (by omega) (by omega)).trans (ga19 x (by omega) (by omega)))
      have hc52 : M21 (m + 4) = some (sArr G 11 A4) := ((hf26 (m + 4) (by omega) (by omega)).trans (ga19 ((m + 4)) (by omega) (by omega))).trans hm4
      have hc53 : M21 (m + 5) = some (sArr G 1024 A5) := ((hf26 (m + 5) (by omega) (by omega)).trans (ga19 ((m + 5)) (by omega) (by omega))).trans hm5
      have hc54 : M21 (m + 6) = some (sArr G 1024 A6) := ((hf26 (m + 6) (by omega) (by omega)).trans (ga19 ((m + 6)) (by omega) (by omega))).trans hm6
      have hc55 : M21 (m + 7) = some (sArr G 10 A7) := ((hf26 (m + 7) (by omega) (by omega)).trans (ga19 ((m + 7)) (by omega) (by omega))).trans hm7
      have hc56 : M21 (m + 8) = some (sArr G 10 A8) := ((hf26 (m + 8) (by omega) (by omega)).trans (ga19 ((m + 8)) (by omega) (by omega))).trans hm8
      have hc57 : M21 (m + 9) = some (sArr G 62 A9) := ((hf26 (m + 9) (by omega) (by omega)).trans (ga19 ((m + 9)) (by omega) (by omega))).trans hm9
      have hc58 : M21 (m + 10) = some (sArr G 8 A10) := ((hf26 (m + 10) (by omega) (by omega)).trans (ga19 ((m + 10)) (by omega) (by omega))).trans hm10
      have hc59 : M21 (m + 11) = some (sArr G 8 A11) := ((hf26 (m + 11) (by omega) (by omega)).trans (ga19 ((m + 11)) (by omega) (by omega))).trans hm11
      have hc60 : M21 (m + 12) = some (sArr G 60 A12) := ((hf26 (m + 12) (by omega) (by omega)).trans (ga19 ((m + 12)) (by omega) (by omega))).trans hm12
      have hc61 : M21 (m + 13) = some (sArr G 240 A13) := ((hf26 (m + 13) (by omega) (by omega)).trans (ga19 ((m + 13)) (by omega) (by omega))).trans hm13
      have hc62 : M21 (m + 14) = some (sArr G 574 A14) := ((hf26 (m + 14) (by omega) (by omega)).trans (ga19 ((m + 14)) (by omega) (by omega))).trans hm14
      have hc63 : M21 (m + 15) = some (sArr G 200 T2) := ((hf26 (m + 15) (by omega) (by omega)).trans (ga19 ((m + 15)) (by omega) (by omega))).trans hm15
      have hc64 : M21 o = some (sArL G 1 g0) := (gb39 o (by omega)).trans hc12
      exact W.widen (by omega) (by omega) (hk _ _ _ _ _ (by omega) ⟨_, _, _, _, _, _, _, _, _, _, _, _, _, _, _, _, _, _, _, _, _, _, _, _, _, _, hc38, hc40, hc41, hc42, hc43, hc44, hc45, hc46, hc47, hc48, hc49, hc30, hc50, hc51, hc31, hc52, hc53, hc54, hc55, hc56, hc57, hc58, hc59, hc60, hc61, hc62, hc63, hc64, lF_s hlF, htp, hwr⟩ hV (lv_sub hl [2, 3, 4, 5, 6] rfl))
    · rw [ez33]
      exact (nx_append_0_1 c8 c32).elim
  · rw [ez14]
    refine lv_istore (lv' := [(5, .int (sI 0)), (0, .ref z), (1, .ref c), (2, .ref m), (3, .ref o), (4, .int (sI i))]) hx_ hb_ dL_law_283 hl (by decide) rfl (fun ls hl => ?_)
    refine lv_aload_n hx_ hb_ dL_law_285 rfl (lv_at hl 3 rfl) ?_
    refine lv_aload_n hx_ hb_ dL_law_286 rfl (lv_at hl 1 rfl) ?_
    refine lv_iload hx_ hb_ dL_law_287 (lv_at hl 5 rfl) ?_
    refine si_const S dL_law_289 ?_
    refine si_add S dL_law_290 ?_
    refine sc_sld S hV hX hzb (by omega) dL_law_291 ?_
    refine lv_aload_n hx_ hb_ dL_law_292 rfl (lv_at hl 1 rfl) ?_
    refine lv_iload hx_ hb_ dL_law_293 (lv_at hl 5 rfl) ?_
    refine si_const S dL_law_295 ?_
    refine si_add S dL_law_296 ?_
    refine sc_sld S hV hX hzb (by omega) dL_law_297 ?_
    refine lv_aload_n hx_ hb_ dL_law_298 rfl (lv_at hl 1 rfl) ?_
    refine lv_iload hx_ hb_ dL_law_299 (lv_at hl 5 rfl) ?_
    refine si_const S dL_law_301 ?_
    refine si_add S dL_law_302 ?_
    refine sc_sld S hV hX hzb (by omega) dL_law_303 ?_
    refine lv_aload_n hx_ hb_ dL_law_304 rfl (lv_at hl 1 rfl) ?_
    refine lv_iload hx_ hb_ dL_law_305 (lv_at hl 5 rfl) ?_
    refine si_const S dL_law_307 ?_
    refine si_add S dL_law_308 ?_
    refine sc_sld S hV hX hzb (by omega) dL_law_309 ?_
    refine lv_aload_n hx_ hb_ dL_law_310 rfl (lv_at hl 1 rfl) ?_
    refine lv_iload hx_ hb_ dL_law_311 (lv_at hl 5 rfl) ?_
    refine si_const S dL_law_313 ?_
    refine si_add S dL_law_314 ?_
    refine sc_sld S hV hX hzb (by omega) dL_law_315 ?_
    have ga66 : ∀ x : Nat, m ≤ x → x < m + 16 → M1 x = M x := fun x u1 u2 => hf6 x (by omega) (by omega) (by omega)
    have hc65 : M1 m = some (mO m th ch tn te sn nm wn) := (ga66 m (by omega) (by omega)).trans hm0
    have hc67 : M1 (m + 3) = some (sArr G 300 t) := (ga66 ((m + 3)) (by omega) (by omega)).trans hm3
    refine sk_Vi E hV (As := [.int (sI (lX xs (i + 1))), .int (sI (lX xs (i + 2))), .int (sI (lX xs (i + 3))), .int (sI (lX xs (i + 4))), .int (sI (lX xs (i + 5)))]) (rest := []) (kX11_append l_ G b_ M1 N2 m th ch tn te sn nm wn t (lX xs (i + 1)) (lX xs (i + 2)) (lX xs (i + 3)) (lX xs (i + 4)) (lX xs (i + 5)) hc65 hc67 (by omega)) (cwV 5 S.2.2.2.2 gL_law_X11_append rfl rfl rfl (by decide +kernel) ⟨Nat.le_of_ble_eq_true rfl, Nat.le_of_ble_eq_true rfl⟩) (ci := 9) hc65 rfl rfl rfl hl.1 (Nat.le_of_ble_eq_true rfl) dL_law_316 (c1 := cc_ + 1) (s1 := ss_ + 6) ⟨⟨rfl, rfl⟩, by omega, by omega⟩ (fun z71 M68 N69 H locs hp70 hV => ?_)
    obtain ⟨hN72, hf73, hq74⟩ := hp70
    rw [hN72] at hV
    rcases hq74 with ⟨c75, ez76, hc77, hc78⟩ | ⟨c79, ez80, hc81, hc82⟩
    · rw [ez76]
      exact (nx_append_1_0 c13 c75).elim
    · rw [ez80]
      refine lv_istore (lv' := [(6, .int (sI (tn + apB (lX xs (i + 1)) (lX xs (i + 2)) (lX xs (i + 3)) (lX xs (i + 4)) (lX xs (i + 5))))), (5, .int (sI 0)), (0, .ref z), (1, .ref c), (2, .ref m), (3, .ref o), (4, .int (sI i))]) hx_ hb_ dL_law_319 hl (by decide) rfl (fun ls hl => ?_)
      refine lv_aload_n hx_ hb_ dL_law_321 rfl (lv_at hl 4 rfl) ?_
      refine sk_VP E hV (As := []) (rest := []) (kX11_thrown l_ G b_ M68 N2 m 0 ch (tn + apB (lX xs (i + 1)) (lX xs (i + 2)) (lX xs (i + 3)) (lX xs (i + 4)) (lX xs (i + 5))) te sn nm wn hc81) (cwV 0 S.2.2.2.2 gL_law_X11_thrown rfl rfl rfl (by decide +kernel) ⟨Nat.le_of_ble_eq_true rfl, Nat.le_of_ble_eq_true rfl⟩) (ci := 9) hc81 rfl rfl rfl hl.1 (Nat.le_of_ble_eq_true rfl) dL_law_322 (c1 := cc_ + 1) (s1 := ss_ + 6) ⟨⟨rfl, rfl⟩, by omega, by omega⟩ (fun H locs hV => ?_)
      refine lv_iload hx_ hb_ dL_law_325 (lv_at hl 1 rfl) ?_
      refine sb_eq (tgt := 332) S dL_law_327 (by decide) (by omega) (fun _ => ?_) (fun c83 => absurd c83 (by omega))
      refine lv_iload hx_ hb_ dL_law_332 (lv_at hl 1 rfl) ?_
      refine sz_ne (tgt := 349) S dL_law_334 (by decide) (by omega) (fun c84 => absurd c84 (by omega)) (fun _ => ?_)
      refine lv_aload_n hx_ hb_ dL_law_337 rfl (lv_at hl 5 rfl) ?_
      refine si_const S dL_law_338 ?_
      have gb86 : ∀ x : Nat, (x < m ∨ m + 16 ≤ x) → M68 x = M1 x := fun x u1 => hf73 x (by omega) (by omega)
      have hc85 : M68 o = some (sArL G 1 (iup g0 0 (sW (tn + apB (lX xs (i + 1)) (lX xs (i + 2)) (lX xs (i + 3)) (lX xs (i + 4)) (lX xs (i + 5)))))) := (gb86 o (by omega)).trans hc17
      refine sc_lald S hK hV hc85 (by omega) dL_law_339 ?_
      rw [show (iup g0 0 (sW (tn + apB (lX xs (i + 1)) (lX xs (i + 2)) (lX xs (i + 3)) (lX xs (i + 4)) (lX xs (i + 5))))) 0 = sW (tn + apB (lX xs (i + 1)) (lX xs (i + 2)) (lX xs (i + 3)) (lX xs (i + 4)) (lX xs (i + 5))) from if_pos rfl]
      refine lv_iload hx_ hb_ dL_law_340 (lv_at hl 0 rfl) ?_
      refine sl_i2w S dL_law_342 ?_
      refine sl_cmp0 S (rfl) dL_law_343 ?_
      refine sz_eq (tgt := 349) S dL_law_344 (by decide) (by omega) (fun _ => ?_) (fun c87 => absurd c87 (by omega))
      refine lv_goto (tgt := 2853) hx_ hb_ dL_law_349 (by decide) ?_
      have hc88 : M68 c = some (xO c kn ch) := ((gb86 c (by omega)).trans (hf6 c (by omega) (by omega) (by omega))).trans hc0
      have hc89 : stC G M68 (c + 1) f := hst.fr (fun x q8 q9 => (gb86 x (by omega)).trans (hf6 x (by omega) (by omega) (by omega)))
      have hc90 : triC G M68 (c + 16) := htr.fr (fun x q8 q9 => (gb86 x (by omega)).trans (hf6 x (by omega) (by omega) (by omega)))
      have hc91 : kpC G M68 (c + 31) kb kn ch fs := hkp.fr (fun x q8 => (gb86 x (by omega)).trans (hf6 x (by omega) (by omega) (by omega)))
      have hc92 : M68 (c + 32) = some (sObj 7 [.ref (c + 33), .int (sI (tn + apB (lX xs (i + 1)) (lX xs (i + 2)) (lX xs (i + 3)) (lX xs (i + 4)) (lX xs (i + 5)))), .int (sI te)]) := (gb86 ((c + 32)) (by omega)).trans hc15
      have hc93 : M68 (c + 33) = some (sArr G 300 (apT t tn (lX xs (i + 1)) (lX xs (i + 2)) (lX xs (i + 3)) (lX xs (i + 4)) (lX xs (i + 5)))) := (gb86 ((c + 33)) (by omega)).trans hc16
      have hc94 : catC G M68 (c + 34) wc T := hct.fr (fun x q8 q9 => (gb86 x (by omega)).trans (hf6 x (by omega) (by omega) (by omega)))
      have hc95 : orfC G M68 (c + 38) := hft.fr (fun x q8 q9 => (gb86 x (by omega)).trans (hf6 x (by omega) (by omega) (by omega)))
      have hc96 : layC G M68 (c + 48) := hly.fr (fun x q8 q9 => (gb86 x (by omega)).trans (hf6 x (by omega) (by omega) (by omega)))
      have hc97 : knoC G M68 (c + 54) := hkn.fr (fun x q8 q9 => (gb86 x (by omega)).trans (hf6 x (by omega) (by omega) (by omega)))
      have hc98 : excC G M68 (c + 57) := hex.fr (fun x q8 q9 => (gb86 x (by omega)).trans (hf6 x (by omega) (by omega) (by omega)))
      have hc99 : M68 (m + 1) = some (sArr G 574 f) := ((hf73 (m + 1) (by omega) (by omega)).trans (ga66 ((m + 1)) (by omega) (by omega))).trans hm1
      have hc100 : svC G M68 (m + 2) ch fs := hsv.fr (fun x q8 q9 => (hf73 x (by omega) (by omega)).trans (ga66 x (by omega) (by omega)))
      have hc101 : M68 (m + 4) = some (sArr G 11 A4) := ((hf73 (m + 4) (by omega) (by omega)).trans (ga66 ((m + 4)) (by omega) (by omega))).trans hm4
      have hc102 : M68 (m + 5) = some (sArr G 1024 A5) := ((hf73 (m + 5) (by omega) (by omega)).trans (ga66 ((m + 5)) (by omega) (by omega))).trans hm5
      have hc103 : M68 (m + 6) = some (sArr G 1024 A6) := ((hf73 (m + 6) (by omega) (by omega)).trans (ga66 ((m + 6)) (by omega) (by omega))).trans hm6
      have hc104 : M68 (m + 7) = some (sArr G 10 A7) := ((hf73 (m + 7) (by omega) (by omega)).trans (ga66 ((m + 7)) (by omega) (by omega))).trans hm7
      have hc105 : M68 (m + 8) = some (sArr G 10 A8) := ((hf73 (m + 8) (by omega) (by omega)).trans (ga66 ((m + 8)) (by omega) (by omega))).trans hm8
      have hc106 : M68 (m + 9) = some (sArr G 62 A9) := ((hf73 (m + 9) (by omega) (by omega)).trans (ga66 ((m + 9)) (by omega) (by omega))).trans hm9
      have hc107 : M68 (m + 10) = some (sArr G 8 A10) := ((hf73 (m + 10) (by omega) (by omega)).trans (ga66 ((m + 10)) (by omega) (by omega))).trans hm10
      have hc108 : M68 (m + 11) = some (sArr G 8 A11) := ((hf73 (m + 11) (by omega) (by omega)).trans (ga66 ((m + 11)) (by omega) (by omega))).trans hm11
      have hc109 : M68 (m + 12) = some (sArr G 60 A12) := ((hf73 (m + 12) (by omega) (by omega)).trans (ga66 ((m + 12)) (by omega) (by omega))).trans hm12
      have hc110 : M68 (m + 13) = some (sArr G 240 A13) := ((hf73 (m + 13) (by omega) (by omega)).trans (ga66 ((m + 13)) (by omega) (by omega))).trans hm13
      have hc111 : M68 (m + 14) = some (sArr G 574 A14) := ((hf73 (m + 14) (by omega) (by omega)).trans (ga66 ((m + 14)) (by omega) (by omega))).trans hm14
      have hc112 : M68 (m + 15) = some (sArr G 200 T2) := ((hf73 (m + 15) (by omega) (by omega)).trans (ga66 ((m + 15)) (by omega) (by omega))).trans hm15
      exact W.widen (by omega) (by omega) (hk _ _ _ _ _ (by omega) ⟨_, _, _, _, _, _, _, _, _, _, _, _, _, _, _, _, _, _, _, _, _, _, _, _, _, _, hc88, hc89, hc90, hc91, hc92, hc93, hc94, hc95, hc96, hc97, hc98, hc81, hc99, hc100, hc82, hc101, hc102, hc103, hc104, hc105, hc106, hc107, hc108, hc109, hc110, hc111, hc112, hc85, lF_s hlF, ap_ok htp (by omega), hwr⟩ hV (lv_sub hl [2, 3, 4, 5, 6] rfl))

set_option maxHeartbeats 4000000 in
set_option maxRecDepth 100000 in
theorem law_1 {p_ : Program} {l_ : Launch} {e_ : Env} {s_ : State} {m_ : MethodId} {args_ : Array Value} {below_ : List Frame} {meth_ : Method} {c_ : Code} {nm_ : String} {G : sG} {b_ : Nat} {M0 : sM} {N0 : Nat} {Q : State → Prop} (E : sE p_ l_ e_ room_1 s_ m_ args_ below_ meth_ c_ cL_law 9 wsL_law RL nm_ (some .boolean) G b_ M0 N0) (hF_ : xcF s_) (hlt : l_.stackTraces = false) {z L : Nat} {xs : Nat → Int32} (hX : va_X z L xs s_ s_.heap) (hzb : z < b_) {c m o kb : Nat} (hg : c + 60 ≤ m ∧ m + 16 ≤ o ∧ o < kb) {cc_ ss_ : Nat} (hcc : cc_ + 1170 ≤ room_1.cells ∧ ss_ + 14000 ≤ room_1.slots) {q i : Int} (hi : 0 ≤ i ∧ i + 6 ≤ L ∧ (L : Int) ≤ 3072) (hq : 0 ≤ q ∧ q ≤ 600) {M : sM} {N : Nat} (hkN : kb ≤ N) (hI : lI G M c m o kb q) {H : Heap} {locs : List Loc} {ls : Array Slot} (hV : sV G b_ M N s_ H locs) (hl : lv_has ls 9 [(0, .ref z), (1, .ref c), (2, .ref m), (3, .ref o), (4, .int (sI i))])
    (hk : ∀ (M1 : sM) (N1 : Nat) (H1 : Heap) (locs1 : List Loc) (ls1 : Array Slot), kb ≤ N1 → lI G M1 c m o kb (q + 1) → sV G b_ M1 N1 s_ H1 locs1 → lv_has ls1 9 [(0, .ref z), (1, .ref c), (2, .ref m), (3, .ref o), (4, .int (sI i))] → W p_ l_ e_ room_1 s_ m_ args_ below_ meth_ c_ H1 locs1 (cc_ + 1170) (ss_ + 14000) Q (F0 m_ 2853 ls1 [])) : W p_ l_ e_ room_1 s_ m_ args_ below_ meth_ c_ H locs cc_ ss_ Q (F0 m_ 352 ls []) := by
  have S := E.1
  have hx_ := S.1
  have hb_ := S.2.1
  have hK := E.2.2.2.2.1
  have hI2 := hI
  obtain ⟨kn, ch, f, fs, tn, te, t, wc, wn, T, T2, th, sn, nm, g0, A4, A5, A6, A7, A8, A9, A10, A11, A12, A13, A14, hc0, hst, htr, hkp, ht0, ht1, hct, hft, hly, hkn, hex, hm0, hm1, hsv, hm3, hm4, hm5, hm6, hm7, hm8, hm9, hm10, hm11, hm12, hm13, hm14, hm15, ho9, hlF, htp, hwr⟩ := hI2
  have hok := hlF.1.1
  have hdI := hlF.1.2.1
  have hsL := hlF.1.2.2.1
  have hclk := hlF.1.2.2.2
  have hchr : 0 ≤ ch ∧ ch ≤ 15 := ⟨hkp.r.2.2.1, hkp.r.2.2.2⟩
  have htp1 := htp.1
  have htp2 := htp.2.1
  have hwq := wrQ_e hwr
  have hwq1 := hwq.1
  have hwq2 := hwq.2.1
  have kn0 := sOk_N hok
  refine lv_aload_n hx_ hb_ dL_law_352 rfl (lv_at hl 1 rfl) ?_
  refine sk_Vi E hV (As := []) (rest := []) (kX10_clearTape l_ G b_ M N c kn ch tn te hc0 ht0) (cwV 0 S.2.2.2.2 gL_law_X10_clearTape rfl rfl rfl (by decide +kernel) ⟨Nat.le_of_ble_eq_true rfl, Nat.le_of_ble_eq_true rfl⟩) (ci := 8) hc0 rfl rfl rfl hl.1 (Nat.le_of_ble_eq_true rfl) dL_law_353 (c1 := cc_ + 0) (s1 := ss_ + 0) ⟨⟨rfl, rfl⟩, by omega, by omega⟩ (fun z4 M1 N2 H locs hp3 hV => ?_)
  obtain ⟨ez5, hN6, hc7, hf8⟩ := hp3
  rw [hN6] at hV
  rw [ez5]
  refine lv_aload_n hx_ hb_ dL_law_356 rfl (lv_at hl 2 rfl) ?_
  have ga10 : ∀ x : Nat, m ≤ x → x < m + 16 → M1 x = M x := fun x u1 u2 => hf8 x (by omega)
  have hc9 : M1 m = some (mO m th ch tn te sn nm wn) := (ga10 m (by omega) (by omega)).trans hm0
  refine sk_Vi E hV (As := []) (rest := [.int (sI tn)]) (kX11_clearTape l_ G b_ M1 N m th ch tn te sn nm wn hc9) (cwV 0 S.2.2.2.2 gL_law_X11_clearTape rfl rfl rfl (by decide +kernel) ⟨Nat.le_of_ble_eq_true rfl, Nat.le_of_ble_eq_true rfl⟩) (ci := 9) hc9 rfl rfl rfl hl.1 (Nat.le_of_ble_eq_true rfl) dL_law_357 (c1 := cc_ + 0) (s1 := ss_ + 0) ⟨⟨rfl, rfl⟩, by omega, by omega⟩ (fun z14 M11 N12 H locs hp13 hV => ?_)
  obtain ⟨ez15, hN16, hc17, hf18⟩ := hp13
  rw [hN16] at hV
  rw [ez15]
  refine sb_eq1 (tgt := 2853) S (rfl) dL_law_360 (by decide) ?_
  have gb20 : ∀ x : Nat, (x < m ∨ m + 16 ≤ x) → M11 x = M1 x := fun x u1 => hf18 x (by omega)
  have hc19 : M11 c = some (xO c kn ch) := ((gb20 c (by omega)).trans (hf8 c (by omega))).trans hc0
  have hc21 : stC G M11 (c + 1) f := hst.fr (fun x q8 q9 => (gb20 x (by omega)).trans (hf8 x (by omega)))
  have hc22 : triC G M11 (c + 16) := htr.fr (fun x q8 q9 => (gb20 x (by omega)).trans (hf8 x (by omega)))
  have hc23 : kpC G M11 (c + 31) kb kn ch fs := hkp.fr (fun x q8 => (gb20 x (by omega)).trans (hf8 x (by omega)))
  have hc24 : M11 (c + 32) = some (sObj 7 [.ref (c + 33), .int (sI 0), .int (sI te)]) := (gb20 ((c + 32)) (by omega)).trans hc7
  have hc25 : M11 (c + 33) = some (sArr G 300 t) := ((gb20 ((c + 33)) (by omega)).trans (hf8 (c + 33) (by omega))).trans ht1
  have hc26 : catC G M11 (c + 34) wc T := hct.fr (fun x q8 q9 => (gb20 x (by omega)).trans (hf8 x (by omega)))
  have hc27 : orfC G M11 (c + 38) := hft.fr (fun x q8 q9 => (gb20 x (by omega)).trans (hf8 x (by omega)))
  have hc28 : layC G M11 (c + 48) := hly.fr (fun x q8 q9 => (gb20 x (by omega)).trans (hf8 x (by omega)))
  have hc29 : knoC G M11 (c + 54) := hkn.fr (fun x q8 q9 => (gb20 x (by omega)).trans (hf8 x (by omega)))
  have hc30 : excC G M11 (c + 57) := hex.fr (fun x q8 q9 => (gb20 x (by omega)).trans (hf8 x (by omega)))
  have hc31 : M11 (m + 1) = some (sArr G 574 f) := ((hf18 (m + 1) (by omega)).trans (ga10 ((m + 1)) (by omega) (by omega))).trans hm1
  have hc32 : svC G M11 (m + 2) ch fs := hsv.fr (fun x q8 q9 => (hf18 x (by omega)).trans (ga10 x (by omega) (by omega)))
  have hc33 : M11 (m + 3) = some (sArr G 300 t) := ((hf18 (m + 3) (by omega)).trans (ga10 ((m + 3)) (by omega) (by omega))).trans hm3
  have hc34 : M11 (m + 4) = some (sArr G 11 A4) := ((hf18 (m + 4) (by omega)).trans (ga10 ((m + 4)) (by omega) (by omega))).trans hm4
  have hc35 : M11 (m + 5) = some (sArr G 1024 A5) := ((hf18 (m + 5) (by omega)).trans (ga10 ((m + 5)) (by omega) (by omega))).trans hm5
  have hc36 : M11 (m + 6) = some (sArr G 1024 A6) := ((hf18 (m + 6) (by omega)).trans (ga10 ((m + 6)) (by omega) (by omega))).trans hm6
  have hc37 : M11 (m + 7) = some (sArr G 10 A7) := ((hf18 (m + 7) (by omega)).trans (ga10 ((m + 7)) (by omega) (by omega))).trans hm7
  have hc38 : M11 (m + 8) = some (sArr G 10 A8) := ((hf18 (m + 8) (by omega)).trans (ga10 ((m + 8)) (by omega) (by omega))).trans hm8
  have hc39 : M11 (m + 9) = some (sArr G 62 A9) := ((hf18 (m + 9) (by omega)).trans (ga10 ((m + 9)) (by omega) (by omega))).trans hm9
  have hc40 : M11 (m + 10) = some (sArr G 8 A10) := ((hf18 (m + 10) (by omega)).trans (ga10 ((m + 10)) (by omega) (by omega))).trans hm10
  have hc41 : M11 (m + 11) = some (sArr G 8 A11) := ((hf18 (m + 11) (by omega)).trans (ga10 ((m + 11)) (by omega) (by omega))).trans hm11
  have hc42 : M11 (m + 12) = some (sArr G 60 A12) := ((hf18 (m + 12) (by omega)).trans (ga10 ((m + 12)) (by omega) (by omega))).trans hm12
  have hc43 : M11 (m + 13) = some (sArr G 240 A13) := ((hf18 (m + 13) (by omega)).trans (ga10 ((m + 13)) (by omega) (by omega))).trans hm13
  have hc44 : M11 (m + 14) = some (sArr G 574 A14) := ((hf18 (m + 14) (by omega)).trans (ga10 ((m + 14)) (by omega) (by omega))).trans hm14
  have hc45 : M11 (m + 15) = some (sArr G 200 T2) := ((hf18 (m + 15) (by omega)).trans (ga10 ((m + 15)) (by omega) (by omega))).trans hm15
  have hc46 : M11 o = some (sArL G 1 g0) := ((gb20 o (by omega)).trans (hf8 o (by omega))).trans ho9
  exact W.widen (by omega) (by omega) (hk _ _ _ _ _ (by omega) ⟨_, _, _, _, _, _, _, _, _, _, _, _, _, _, _, _, _, _, _, _, _, _, _, _, _, _, hc19, hc21, hc22, hc23, hc24, hc25, hc26, hc27, hc28, hc29, hc30, hc17, hc31, hc32, hc33, hc34, hc35, hc36, hc37, hc38, hc39, hc40, hc41, hc42, hc43, hc44, hc45, hc46, lF_s hlF, tp_0 _, hwr⟩ hV (lv_sub hl [0, 1, 2, 3, 4] rfl))

set_option maxHeartbeats 4000000 in
set_option maxRecDepth 100000 in
theorem law_2 {p_ : Program} {l_ : Launch} {e_ : Env} {s_ : State} {m_ : MethodId} {args_ : Array Value} {below_ : List Frame} {meth_ : Method} {c_ : Code} {nm_ : String} {G : sG} {b_ : Nat} {M0 : sM} {N0 : Nat} {Q : State → Prop} (E : sE p_ l_ e_ room_1 s_ m_ args_ below_ meth_ c_ cL_law 9 wsL_law RL nm_ (some .boolean) G b_ M0 N0) (hF_ : xcF s_) (hlt : l_.stackTraces = false) {z L : Nat} {xs : Nat → Int32} (hX : va_X z L xs s_ s_.heap) (hzb : z < b_) {c m o kb : Nat} (hg : c + 60 ≤ m ∧ m + 16 ≤ o ∧ o < kb) {cc_ ss_ : Nat} (hcc : cc_ + 1170 ≤ room_1.cells ∧ ss_ + 14000 ≤ room_1.slots) {q i : Int} (hi : 0 ≤ i ∧ i + 6 ≤ L ∧ (L : Int) ≤ 3072) (hq : 0 ≤ q ∧ q ≤ 600) {M : sM} {N : Nat} (hkN : kb ≤ N) (hI : lI G M c m o kb q) {H : Heap} {locs : List Loc} {ls : Array Slot} (hV : sV G b_ M N s_ H locs) (hl : lv_has ls 9 [(0, .ref z), (1, .ref c), (2, .ref m), (3, .ref o), (4, .int (sI i))])
    (hk : ∀ (M1 : sM) (N1 : Nat) (H1 : Heap) (locs1 : List Loc) (ls1 : Array Slot), kb ≤ N1 → lI G M1 c m o kb (q + 1) → sV G b_ M1 N1 s_ H1 locs1 → lv_has ls1 9 [(0, .ref z), (1, .ref c), (2, .ref m), (3, .ref o), (4, .int (sI i))] → W p_ l_ e_ room_1 s_ m_ args_ below_ meth_ c_ H1 locs1 (cc_ + 1170) (ss_ + 14000) Q (F0 m_ 2853 ls1 [])) : W p_ l_ e_ room_1 s_ m_ args_ below_ meth_ c_ H locs cc_ ss_ Q (F0 m_ 365 ls []) := by
  have S := E.1
  have hx_ := S.1
  have hb_ := S.2.1
  have hK := E.2.2.2.2.1
  have hI2 := hI
  obtain ⟨kn, ch, f, fs, tn, te, t, wc, wn, T, T2, th, sn, nm, g0, A4, A5, A6, A7, A8, A9, A10, A11, A12, A13, A14, hc0, hst, htr, hkp, ht0, ht1, hct, hft, hly, hkn, hex, hm0, hm1, hsv, hm3, hm4, hm5, hm6, hm7, hm8, hm9, hm10, hm11, hm12, hm13, hm14, hm15, ho9, hlF, htp, hwr⟩ := hI2
  have hok := hlF.1.1
  have hdI := hlF.1.2.1
  have hsL := hlF.1.2.2.1
  have hclk := hlF.1.2.2.2
  have hchr : 0 ≤ ch ∧ ch ≤ 15 := ⟨hkp.r.2.2.1, hkp.r.2.2.2⟩
  have htp1 := htp.1
  have htp2 := htp.2.1
  have hwq := wrQ_e hwr
  have hwq1 := hwq.1
  have hwq2 := hwq.2.1
  have kn0 := sOk_N hok
  refine lv_aload_n hx_ hb_ dL_law_365 rfl (lv_at hl 1 rfl) ?_
  refine sk_VP E hV (As := []) (rest := []) (kX10_errorPosition l_ G b_ M N c kn ch tn te hc0 ht0) (cwV 0 S.2.2.2.2 gL_law_X10_errorPosition rfl rfl rfl (by decide +kernel) ⟨Nat.le_of_ble_eq_true rfl, Nat.le_of_ble_eq_true rfl⟩) (ci := 8) hc0 rfl rfl rfl hl.1 (Nat.le_of_ble_eq_true rfl) dL_law_366 (c1 := cc_ + 0) (s1 := ss_ + 0) ⟨⟨rfl, rfl⟩, by omega, by omega⟩ (fun H locs hV => ?_)
  refine lv_aload_n hx_ hb_ dL_law_369 rfl (lv_at hl 2 rfl) ?_
  refine sk_Vi E hV (As := []) (rest := [.int (sI te)]) (kX11_errorPosition l_ G b_ M N m th ch tn te sn nm wn hm0) (cwV 0 S.2.2.2.2 gL_law_X11_errorPosition rfl rfl rfl (by decide +kernel) ⟨Nat.le_of_ble_eq_true rfl, Nat.le_of_ble_eq_true rfl⟩) (ci := 9) hm0 rfl rfl rfl hl.1 (Nat.le_of_ble_eq_true rfl) dL_law_370 (c1 := cc_ + 0) (s1 := ss_ + 0) ⟨⟨rfl, rfl⟩, by omega, by omega⟩ (fun z4 M1 N2 H locs hp3 hV => ?_)
  obtain ⟨ez5, hN6, hc7, hf8⟩ := hp3
  rw [hN6] at hV
  rw [ez5]
  refine sb_eq1 (tgt := 2853) S (rfl) dL_law_373 (by decide) ?_
  have gb10 : ∀ x : Nat, (x < m ∨ m + 16 ≤ x) → M1 x = M x := fun x u1 => hf8 x (by omega)
  have hc9 : M1 c = some (xO c kn ch) := (gb10 c (by omega)).trans hc0
  have hc11 : stC G M1 (c + 1) f := hst.fr (fun x q8 q9 => gb10 x (by omega))
  have hc12 : triC G M1 (c + 16) := htr.fr (fun x q8 q9 => gb10 x (by omega))
  have hc13 : kpC G M1 (c + 31) kb kn ch fs := hkp.fr (fun x q8 => gb10 x (by omega))
  have hc14 : M1 (c + 32) = some (sObj 7 [.ref (c + 33), .int (sI tn), .int (sI te)]) := (gb10 ((c + 32)) (by omega)).trans ht0
  have hc15 : M1 (c + 33) = some (sArr G 300 t) := (gb10 ((c + 33)) (by omega)).trans ht1
  have hc16 : catC G M1 (c + 34) wc T := hct.fr (fun x q8 q9 => gb10 x (by omega))
  have hc17 : orfC G M1 (c + 38) := hft.fr (fun x q8 q9 => gb10 x (by omega))
  have hc18 : layC G M1 (c + 48) := hly.fr (fun x q8 q9 => gb10 x (by omega))
  have hc19 : knoC G M1 (c + 54) := hkn.fr (fun x q8 q9 => gb10 x (by omega))
  have hc20 : excC G M1 (c + 57) := hex.fr (fun x q8 q9 => gb10 x (by omega))
  have hc21 : M1 (m + 1) = some (sArr G 574 f) := (hf8 (m + 1) (by omega)).trans hm1
  have hc22 : svC G M1 (m + 2) ch fs := hsv.fr (fun x q8 q9 => hf8 x (by omega))
  have hc23 : M1 (m + 3) = some (sArr G 300 t) := (hf8 (m + 3) (by omega)).trans hm3
  have hc24 : M1 (m + 4) = some (sArr G 11 A4) := (hf8 (m + 4) (by omega)).trans hm4
  have hc25 : M1 (m + 5) = some (sArr G 1024 A5) := (hf8 (m + 5) (by omega)).trans hm5
  have hc26 : M1 (m + 6) = some (sArr G 1024 A6) := (hf8 (m + 6) (by omega)).trans hm6
  have hc27 : M1 (m + 7) = some (sArr G 10 A7) := (hf8 (m + 7) (by omega)).trans hm7
  have hc28 : M1 (m + 8) = some (sArr G 10 A8) := (hf8 (m + 8) (by omega)).trans hm8
  have hc29 : M1 (m + 9) = some (sArr G 62 A9) := (hf8 (m + 9) (by omega)).trans hm9
  have hc30 : M1 (m + 10) = some (sArr G 8 A10) := (hf8 (m + 10) (by omega)).trans hm10
  have hc31 : M1 (m + 11) = some (sArr G 8 A11) := (hf8 (m + 11) (by omega)).trans hm11
  have hc32 : M1 (m + 12) = some (sArr G 60 A12) := (hf8 (m + 12) (by omega)).trans hm12
  have hc33 : M1 (m + 13) = some (sArr G 240 A13) := (hf8 (m + 13) (by omega)).trans hm13
  have hc34 : M1 (m + 14) = some (sArr G 574 A14) := (hf8 (m + 14) (by omega)).trans hm14
  have hc35 : M1 (m + 15) = some (sArr G 200 T2) := (hf8 (m + 15) (by omega)).trans hm15
  have hc36 : M1 o = some (sArL G 1 g0) := (gb10 o (by omega)).trans ho9
  exact W.widen (by omega) (by omega) (hk _ _ _ _ _ (by omega) ⟨_, _, _, _, _, _, _, _, _, _, _, _, _, _, _, _, _, _, _, _, _, _, _, _, _, _, hc9, hc11, hc12, hc13, hc14, hc15, hc16, hc17, hc18, hc19, hc20, hc7, hc21, hc22, hc23, hc24, hc25, hc26, hc27, hc28, hc29, hc30, hc31, hc32, hc33, hc34, hc35, hc36, lF_s hlF, htp, hwr⟩ hV (lv_sub hl [0, 1, 2, 3, 4] rfl))

theorem nx_stone_0_1 {k : Int} {z : Int} {u : Int} {v : Int} {t : sF} {tn : Int} (h1 : ¬ nuP k z u v) (h2 : nuP k z u v ∧ ¬ isC t tn) : False := by
  first
  | omega
  | (simp_all; done)
  | (simp_all; omega)
theorem nx_stone_0_2 {k : Int} {z : Int} {u : Int} {v : Int} {t : sF} {tn : Int} {f : sF} (h1 : ¬ nuP k z u v) (h2 : nuP k z u v ∧ isC t tn ∧ idx (fun q => f q = coA t tn 0) (f 568) ≠ -1) : False := by
  first
  | omega
  | (simp_all; done)
  | (simp_all; omega)
theorem nx_stone_0_3 {k : Int} {z : Int} {u : Int} {v : Int} {t : sF} {tn : Int} {f : sF} (h1 : ¬ nuP k z u v) (h2 : nuP k z u v ∧ isC t tn ∧ idx (fun q => f q = coA t tn 0) (f 568) = -1 ∧ 10 ≤ f 568) : False := by
  first
  | omega
  | (simp_all; done)
  | (simp_all; omega)
theorem nx_stone_0_4 {k : Int} {z : Int} {u : Int} {v : Int} {t : sF} {tn : Int} {f : sF} (h1 : ¬ nuP k z u v) (h2 : nuP k z u v ∧ isC t tn ∧ idx (fun q => f q = coA t tn 0) (f 568) = -1 ∧ f 568 < 10) : False := by
  first
  | omega
  | (simp_all; done)
  | (simp_all; omega)
theorem nx_stone_1_0 {k : Int} {z : Int} {u : Int} {v : Int} {t : sF} {tn : Int} (h1 : nuP k z u v ∧ ¬ isC t tn) (h2 : ¬ nuP k z u v) : False := by
  first
  | omega
  | (simp_all; done)
  | (simp_all; omega)
theorem nx_stone_1_2 {k : Int} {z : Int} {u : Int} {v : Int} {t : sF} {tn : Int} {f : sF} (h1 : nuP k z u v ∧ ¬ isC t tn) (h2 : nuP k z u v ∧ isC t tn ∧ idx (fun q => f q = coA t tn 0) (f 568) ≠ -1) : False := by
  first
  | omega
  | (simp_all; done)
  | (simp_all; omega)
theorem nx_stone_1_3 {k : Int} {z : Int} {u : Int} {v : Int} {t : sF} {tn : Int} {f : sF} (h1 : nuP k z u v ∧ ¬ isC t tn) (h2 : nuP k z u v ∧ isC t tn ∧ idx (fun q => f q = coA t tn 0) (f 568) = -1 ∧ 10 ≤ f 568) : False := by
  first
  | omega
  | (simp_all; done)
  | (simp_all; omega)
theorem nx_stone_1_4 {k : Int} {z : Int} {u : Int} {v : Int} {t : sF} {tn : Int} {f : sF} (h1 : nuP k z u v ∧ ¬ isC t tn) (h2 : nuP k z u v ∧ isC t tn ∧ idx (fun q => f q = coA t tn 0) (f 568) = -1 ∧ f 568 < 10) : False := by
  first
  | omega
  | (simp_all; done)
  | (simp_all; omega)
theorem nx_stone_2_0 {k : Int} {z : Int} {u : Int} {v : Int} {t : sF} {tn : Int} {f : sF} (h1 : nuP k z u v ∧ isC t tn ∧ idx (fun q => f q = coA t tn 0) (f 568) ≠ -1) (h2 : ¬ nuP k z u v) : False := by
  first
  | omega
  | (simp_all; done)
  | (simp_all; omega)
theorem nx_stone_2_1 {k : Int} {z : Int} {u : Int} {v : Int} {t : sF} {tn : Int} {f : sF} (h1 : nuP k z u v ∧ isC t tn ∧ idx (fun q => f q = coA t tn 0) (f 568) ≠ -1) (h2 : nuP k z u v ∧ ¬ isC t tn) : False := by
  first
  | omega
  | (simp_all; done)
  | (simp_all; omega)
theorem nx_stone_2_3 {k : Int} {z : Int} {u : Int} {v : Int} {t : sF} {tn : Int} {f : sF} (h1 : nuP k z u v ∧ isC t tn ∧ idx (fun q => f q = coA t tn 0) (f 568) ≠ -1) (h2 : nuP k z u v ∧ isC t tn ∧ idx (fun q => f q = coA t tn 0) (f 568) = -1 ∧ 10 ≤ f 568) : False := by
  first
  | omega
  | (simp_all; done)
  | (simp_all; omega)
theorem nx_stone_2_4 {k : Int} {z : Int} {u : Int} {v : Int} {t : sF} {tn : Int} {f : sF} (h1 : nuP k z u v ∧ isC t tn ∧ idx (fun q => f q = coA t tn 0) (f 568) ≠ -1) (h2 : nuP k z u v ∧ isC t tn ∧ idx (fun q => f q = coA t tn 0) (f 568) = -1 ∧ f 568 < 10) : False := by
  first
  | omega
  | (simp_all; done)
  | (simp_all; omega)
theorem nx_stone_3_0 {k : Int} {z : Int} {u : Int} {v : Int} {t : sF} {tn : Int} {f : sF} (h1 : nuP k z u v ∧ isC t tn ∧ idx (fun q => f q = coA t tn 0) (f 568) = -1 ∧ 10 ≤ f 568) (h2 : ¬ nuP k z u v) : False := by
  first
  | omega
  | (simp_all; done)
  | (simp_all; omega)
theorem nx_stone_3_1 {k : Int} {z : Int} {u : Int} {v : Int} {t : sF} {tn : Int} {f : sF} (h1 : nuP k z u v ∧ isC t tn ∧ idx (fun q => f q = coA t tn 0) (f 568) = -1 ∧ 10 ≤ f 568) (h2 : nuP k z u v ∧ ¬ isC t tn) : False := by
  first
  | omega
  | (simp_all; done)
  | (simp_all; omega)
theorem nx_stone_3_2 {k : Int} {z : Int} {u : Int} {v : Int} {t : sF} {tn : Int} {f : sF} (h1 : nuP k z u v ∧ isC t tn ∧ idx (fun q => f q = coA t tn 0) (f 568) = -1 ∧ 10 ≤ f 568) (h2 : nuP k z u v ∧ isC t tn ∧ idx (fun q => f q = coA t tn 0) (f 568) ≠ -1) : False := by
  first
  | omega
  | (simp_all; done)
  | (simp_all; omega)
theorem nx_stone_3_4 {k : Int} {z : Int} {u : Int} {v : Int} {t : sF} {tn : Int} {f : sF} (h1 : nuP k z u v ∧ isC t tn ∧ idx (fun q => f q = coA t tn 0) (f 568) = -1 ∧ 10 ≤ f 568) (h2 : nuP k z u v ∧ isC t tn ∧ idx (fun q => f q = coA t tn 0) (f 568) = -1 ∧ f 568 < 10) : False := by
  first
  | omega
  | (simp_all; done)
  | (simp_all; omega)
theorem nx_stone_4_0 {k : Int} {z : Int} {u : Int} {v : Int} {t : sF} {tn : Int} {f : sF} (h1 : nuP k z u v ∧ isC t tn ∧ idx (fun q => f q = coA t tn 0) (f 568) = -1 ∧ f 568 < 10) (h2 : ¬ nuP k z u v) : False := by
  first
  | omega
  | (simp_all; done)
  | (simp_all; omega)
theorem nx_stone_4_1 {k : Int} {z : Int} {u : Int} {v : Int} {t : sF} {tn : Int} {f : sF} (h1 : nuP k z u v ∧ isC t tn ∧ idx (fun q => f q = coA t tn 0) (f 568) = -1 ∧ f 568 < 10) (h2 : nuP k z u v ∧ ¬ isC t tn) : False := by
  first
  | omega
  | (simp_all; done)
  | (simp_all; omega)
theorem nx_stone_4_2 {k : Int} {z : Int} {u : Int} {v : Int} {t : sF} {tn : Int} {f : sF} (h1 : nuP k z u v ∧ isC t tn ∧ idx (fun q => f q = coA t tn 0) (f 568) = -1 ∧ f 568 < 10) (h2 : nuP k z u v ∧ isC t tn ∧ idx (fun q => f q = coA t tn 0) (f 568) ≠ -1) : False := by
  first
  | omega
  | (simp_all; done)
  | (simp_all; omega)
theorem nx_stone_4_3 {k : Int} {z : Int} {u : Int} {v : Int} {t : sF} {tn : Int} {f : sF} (h1 : nuP k z u v ∧ isC t tn ∧ idx (fun q => f q = coA t tn 0) (f 568) = -1 ∧ f 568 < 10) (h2 : nuP k z u v ∧ isC t tn ∧ idx (fun q => f q = coA t tn 0) (f 568) = -1 ∧ 10 ≤ f 568) : False := by
  first
  | omega
  | (simp_all; done)
  | (simp_all; omega)
set_option maxHeartbeats 4000000 in
set_option maxRecDepth 100000 in
theorem law_3 {p_ : Program} {l_ : Launch} {e_ : Env} {s_ : State} {m_ : MethodId} {args_ : Array Value} {below_ : List Frame} {meth_ : Method} {c_ : Code} {nm_ : String} {G : sG} {b_ : Nat} {M0 : sM} {N0 : Nat} {Q : State → Prop} (E : sE p_ l_ e_ room_1 s_ m_ args_ below_ meth_ c_ cL_law 9 wsL_law RL nm_ (some .boolean) G b_ M0 N0) (hF_ : xcF s_) (hlt : l_.stackTraces = false) {z L : Nat} {xs : Nat → Int32} (hX : va_X z L xs s_ s_.heap) (hzb : z < b_) {c m o kb : Nat} (hg : c + 60 ≤ m ∧ m + 16 ≤ o ∧ o < kb) {cc_ ss_ : Nat} (hcc : cc_ + 1170 ≤ room_1.cells ∧ ss_ + 14000 ≤ room_1.slots) {q i : Int} (hi : 0 ≤ i ∧ i + 6 ≤ L ∧ (L : Int) ≤ 3072) (hq : 0 ≤ q ∧ q ≤ 600) {M : sM} {N : Nat} (hkN : kb ≤ N) (hI : lI G M c m o kb q) {H : Heap} {locs : List Loc} {ls : Array Slot} (hV : sV G b_ M N s_ H locs) (hl : lv_has ls 9 [(0, .ref z), (1, .ref c), (2, .ref m), (3, .ref o), (4, .int (sI i))])
    (hk : ∀ (M1 : sM) (N1 : Nat) (H1 : Heap) (locs1 : List Loc) (ls1 : Array Slot), kb ≤ N1 → lI G M1 c m o kb (q + 1) → sV G b_ M1 N1 s_ H1 locs1 → lv_has ls1 9 [(0, .ref z), (1, .ref c), (2, .ref m), (3, .ref o), (4, .int (sI i))] → W p_ l_ e_ room_1 s_ m_ args_ below_ meth_ c_ H1 locs1 (cc_ + 1170) (ss_ + 14000) Q (F0 m_ 2853 ls1 [])) : W p_ l_ e_ room_1 s_ m_ args_ below_ meth_ c_ H locs cc_ ss_ Q (F0 m_ 378 ls []) := by
  have S := E.1
  have hx_ := S.1
  have hb_ := S.2.1
  have hK := E.2.2.2.2.1
  have hI2 := hI
  obtain ⟨kn, ch, f, fs, tn, te, t, wc, wn, T, T2, th, sn, nm, g0, A4, A5, A6, A7, A8, A9, A10, A11, A12, A13, A14, hc0, hst, htr, hkp, ht0, ht1, hct, hft, hly, hkn, hex, hm0, hm1, hsv, hm3, hm4, hm5, hm6, hm7, hm8, hm9, hm10, hm11, hm12, hm13, hm14, hm15, ho9, hlF, htp, hwr⟩ := hI2
  have hok := hlF.1.1
  have hdI := hlF.1.2.1
  have hsL := hlF.1.2.2.1
  have hclk := hlF.1.2.2.2
  have hchr : 0 ≤ ch ∧ ch ≤ 15 := ⟨hkp.r.2.2.1, hkp.r.2.2.2⟩
  have htp1 := htp.1
  have htp2 := htp.2.1
  have hwq := wrQ_e hwr
  have hwq1 := hwq.1
  have hwq2 := hwq.2.1
  have kn0 := sOk_N hok
  refine lv_aload_n hx_ hb_ dL_law_378 rfl (lv_at hl 1 rfl) ?_
  refine lv_aload_n hx_ hb_ dL_law_379 rfl (lv_at hl 0 rfl) ?_
  refine lv_iload hx_ hb_ dL_law_380 (lv_at hl 4 rfl) ?_
  refine si_const S dL_law_382 ?_
  refine si_add S dL_law_383 ?_
  refine sc_sld S hV hX hzb (by omega) dL_law_384 ?_
  refine lv_aload_n hx_ hb_ dL_law_385 rfl (lv_at hl 0 rfl) ?_
  refine lv_iload hx_ hb_ dL_law_386 (lv_at hl 4 rfl) ?_
  refine si_const S dL_law_388 ?_
  refine si_add S dL_law_389 ?_
  refine sc_sld S hV hX hzb (by omega) dL_law_390 ?_
  refine lv_aload_n hx_ hb_ dL_law_391 rfl (lv_at hl 0 rfl) ?_
  refine lv_iload hx_ hb_ dL_law_392 (lv_at hl 4 rfl) ?_
  refine si_const S dL_law_394 ?_
  refine si_add S dL_law_395 ?_
  refine sc_sld S hV hX hzb (by omega) dL_law_396 ?_
  refine lv_aload_n hx_ hb_ dL_law_397 rfl (lv_at hl 0 rfl) ?_
  refine lv_iload hx_ hb_ dL_law_398 (lv_at hl 4 rfl) ?_
  refine si_const S dL_law_400 ?_
  refine si_add S dL_law_401 ?_
  refine sc_sld S hV hX hzb (by omega) dL_law_402 ?_
  refine lv_aload_n hx_ hb_ dL_law_403 rfl (lv_at hl 3 rfl) ?_
  refine yk_Si (hh := [(0, 14, 17, 19), (0, 14, 21, 13)]) E hF_ hV (As := [.ref c, .int (sI (lX xs (i + 1))), .int (sI (lX xs (i + 2))), .int (sI (lX xs (i + 3))), .int (sI (lX xs (i + 4))), .ref o]) (rest := []) (kL_stone l_ G b_ M N o g0 c kn ch f kb fs tn te t (lX xs (i + 1)) (lX xs (i + 2)) (lX xs (i + 3)) (lX xs (i + 4)) hc0 hst hkp ht0 ht1 ho9 (hlt) (hok) (by omega) (by omega) (htp) (⟨lX_r xs _, lX_r xs _, lX_r xs _, lX_r xs _⟩) (by omega) (by omega)) (vx_cwSW 6 S.2.2.2.2 gL_law_L_stone rfl rfl rfl (by decide +kernel) ⟨Nat.le_of_ble_eq_true rfl, Nat.le_of_ble_eq_true rfl⟩) rfl rfl hl.1 (Nat.le_of_ble_eq_true rfl) dL_law_404 (c1 := cc_ + 25) (s1 := ss_ + 3000) ⟨⟨rfl, rfl⟩, by omega, by omega⟩ (fun z4 M1 N2 H locs hp3 hV => ?_)
  obtain ⟨kn15, hN6, hf7, hq8⟩ := hp3
  rcases hq8 with ⟨c9, ez10, hc11, hc12, hc13, hc14, hc15, hc16⟩ | ⟨c17, ez18, hc19, hc20, hc21, hc22, hc23, hc24⟩ | ⟨c25, ez26, hc27, hc28, hc29, hc30, hc31, hc32⟩ | ⟨c33, ez34, hc35, hc36, hc37, hc38, hc39, hc40⟩ | ⟨c41, ez42, hc43, hc44, hc45, hc46, hc47, hc48⟩
  · rw [ez10]
    refine lv_istore (lv' := [(5, .int (sI 1)), (0, .ref z), (1, .ref c), (2, .ref m), (3, .ref o), (4, .int (sI i))]) hx_ hb_ dL_law_407 hl (by decide) rfl (fun ls hl => ?_)
    refine lv_aload_n hx_ hb_ dL_law_409 rfl (lv_at hl 3 rfl) ?_
    refine lv_aload_n hx_ hb_ dL_law_410 rfl (lv_at hl 1 rfl) ?_
    refine lv_iload hx_ hb_ dL_law_411 (lv_at hl 5 rfl) ?_
    refine si_const S dL_law_413 ?_
    refine si_add S dL_law_414 ?_
    refine sc_sld S hV hX hzb (by omega) dL_law_415 ?_
    refine lv_aload_n hx_ hb_ dL_law_416 rfl (lv_at hl 1 rfl) ?_
    refine lv_iload hx_ hb_ dL_law_417 (lv_at hl 5 rfl) ?_
    refine si_const S dL_law_419 ?_
    refine si_add S dL_law_420 ?_
    refine sc_sld S hV hX hzb (by omega) dL_law_421 ?_
    refine lv_aload_n hx_ hb_ dL_law_422 rfl (lv_at hl 1 rfl) ?_
    refine lv_iload hx_ hb_ dL_law_423 (lv_at hl 5 rfl) ?_
    refine si_const S dL_law_425 ?_
    refine si_add S dL_law_426 ?_
    refine sc_sld S hV hX hzb (by omega) dL_law_427 ?_
    refine lv_aload_n hx_ hb_ dL_law_428 rfl (lv_at hl 1 rfl) ?_
    refine lv_iload hx_ hb_ dL_law_429 (lv_at hl 5 rfl) ?_
    refine si_const S dL_law_431 ?_
    refine si_add S dL_law_432 ?_
    refine sc_sld S hV hX hzb (by omega) dL_law_433 ?_
    have ga50 : ∀ x : Nat, m ≤ x → x < m + 16 → M1 x = M x := fun x u1 u2 => hf7 x (by omega) (by omega) (by omega) (by omega) (by omega) (by omega)
    have hc49 : M1 m = some (mO m th ch tn te sn nm wn) := (ga50 m (by omega) (by omega)).trans hm0
    have hc51 : M1 (m + 1) = some (sArr G 574 f) := (ga50 ((m + 1)) (by omega) (by omega)).trans hm1
    have hc52 : svC G M1 (m + 2) ch fs := hsv.fr (fun x q8 q9 => ga50 x (by omega) (by omega))
    have hc53 : M1 (m + 3) = some (sArr G 300 t) := (ga50 ((m + 3)) (by omega) (by omega)).trans hm3
    refine sk_Vi E hV (As := [.int (sI (lX xs (i + 1))), .int (sI (lX xs (i + 2))), .int (sI (lX xs (i + 3))), .int (sI (lX xs (i + 4)))]) (rest := []) (kX11_stone l_ G b_ M1 N2 m th ch tn te sn nm wn f fs t (lX xs (i + 1)) (lX xs (i + 2)) (lX xs (i + 3)) (lX xs (i + 4)) hc49 hc51 hc52 hc53 (hok) (hchr) (htp) (⟨lX_r xs _, lX_r xs _, lX_r xs _, lX_r xs _⟩)) (cwV 4 S.2.2.2.2 gL_law_X11_stone rfl rfl rfl (by decide +kernel) ⟨Nat.le_of_ble_eq_true rfl, Nat.le_of_ble_eq_true rfl⟩) (ci := 9) hc49 rfl rfl rfl hl.1 (Nat.le_of_ble_eq_true rfl) dL_law_434 (c1 := cc_ + 25) (s1 := ss_ + 3000) ⟨⟨rfl, rfl⟩, by omega, by omega⟩ (fun z57 M54 N55 H locs hp56 hV => ?_)
    obtain ⟨hN58, hf59, hq60⟩ := hp56
    rw [hN58] at hV
    rcases hq60 with ⟨c61, ez62, hc63, hc64, hc65⟩ | ⟨c66, ez67, hc68, hc69, hc70⟩ | ⟨c71, ez72, hc73, hc74, hc75⟩ | ⟨c76, ez77, hc78, hc79, hc80⟩ | ⟨c81, ez82, hc83, hc84, hc85⟩
    · rw [ez62]
      refine lv_istore (lv' := [(6, .int (sI 0)), (5, .int (sI 1)), (0, .ref z), (1, .ref c), (2, .ref m), (3, .ref o), (4, .int (sI i))]) hx_ hb_ dL_law_437 hl (by decide) rfl (fun ls hl => ?_)
      refine lv_aload_n hx_ hb_ dL_law_439 rfl (lv_at hl 4 rfl) ?_
      refine sk_VP E hV (As := []) (rest := []) (kX11_thrown l_ G b_ M54 N2 m 1 ch 0 (-1) sn nm wn hc63) (cwV 0 S.2.2.2.2 gL_law_X11_thrown rfl rfl rfl (by decide +kernel) ⟨Nat.le_of_ble_eq_true rfl, Nat.le_of_ble_eq_true rfl⟩) (ci := 9) hc63 rfl rfl rfl hl.1 (Nat.le_of_ble_eq_true rfl) dL_law_440 (c1 := cc_ + 25) (s1 := ss_ + 3000) ⟨⟨rfl, rfl⟩, by omega, by omega⟩ (fun H locs hV => ?_)
      refine lv_iload hx_ hb_ dL_law_443 (lv_at hl 1 rfl) ?_
      refine sb_eq (tgt := 450) S dL_law_445 (by decide) (by omega) (fun _ => ?_) (fun c86 => absurd c86 (by omega))
      refine lv_iload hx_ hb_ dL_law_450 (lv_at hl 1 rfl) ?_
      refine sz_ne (tgt := 467) S dL_law_452 (by decide) (by omega) (fun _ => ?_) (fun c87 => absurd c87 (by omega))
      refine lv_goto (tgt := 2853) hx_ hb_ dL_law_467 (by decide) ?_
      have gb89 : ∀ x : Nat, (x < m ∨ m + 16 ≤ x) → M54 x = M1 x := fun x u1 => hf59 x (by omega) (by omega) (by omega)
      have hc88 : M54 c = some (xO c kn15 ch) := (gb89 c (by omega)).trans hc11
      have hc90 : stC G M54 (c + 1) f := hc12.fr (fun x q8 q9 => gb89 x (by omega))
      have hc91 : triC G M54 (c + 16) := htr.fr (fun x q8 q9 => (gb89 x (by omega)).trans (hf7 x (by omega) (by omega) (by omega) (by omega) (by omega) (by omega)))
      have hc92 : kpC G M54 (c + 31) kb kn15 ch fs := hc13.fr (fun x q8 => gb89 x (by omega))
      have hc93 : M54 (c + 32) = some (sObj 7 [.ref (c + 33), .int (sI 0), .int (sI (-1))]) := (gb89 ((c + 32)) (by omega)).trans hc14
      have hc94 : M54 (c + 33) = some (sArr G 300 t) := (gb89 ((c + 33)) (by omega)).trans hc15
      have hc95 : catC G M54 (c + 34) wc T := hct.fr (fun x q8 q9 => (gb89 x (by omega)).trans (hf7 x (by omega) (by omega) (by omega) (by omega) (by omega) (by omega)))
      have hc96 : orfC G M54 (c + 38) := hft.fr (fun x q8 q9 => (gb89 x (by omega)).trans (hf7 x (by omega) (by omega) (by omega) (by omega) (by omega) (by omega)))
      have hc97 : layC G M54 (c + 48) := hly.fr (fun x q8 q9 => (gb89 x (by omega)).trans (hf7 x (by omega) (by omega) (by omega) (by omega) (by omega) (by omega)))
      have hc98 : knoC G M54 (c + 54) := hkn.fr (fun x q8 q9 => (gb89 x (by omega)).trans (hf7 x (by omega) (by omega) (by omega) (by omega) (by omega) (by omega)))
      have hc99 : excC G M54 (c + 57) := hex.fr (fun x q8 q9 => (gb89 x (by omega)).trans (hf7 x (by omega) (by omega) (by omega) (by omega) (by omega) (by omega)))
      have hc100 : M54 (m + 3) = some (sArr G 300 t) := (hf59 (m + 3) (by omega) (by omega) (by omega)).trans hc53
      have hc101 : M54 (m + 4) = some (sArr G 11 A4) := ((hf59 (m + 4) (by omega) (by omega) (by omega)).trans (ga50 ((m + 4)) (by omega) (by omega))).trans hm4
      have hc102 : M54 (m + 5) = some (sArr G 1024 A5) := ((hf59 (m + 5) (by omega) (by omega) (by omega)).trans (ga50 ((m + 5)) (by omega) (by omega))).trans hm5
      have hc103 : M54 (m + 6) = some (sArr G 1024 A6) := ((hf59 (m + 6) (by omega) (by omega) (by omega)).trans (ga50 ((m + 6)) (by omega) (by omega))).trans hm6
      have hc104 : M54 (m + 7) = some (sArr G 10 A7) := ((hf59 (m + 7) (by omega) (by omega) (by omega)).trans (ga50 ((m + 7)) (by omega) (by omega))).trans hm7
      have hc105 : M54 (m + 8) = some (sArr G 10 A8) := ((hf59 (m + 8) (by omega) (by omega) (by omega)).trans (ga50 ((m + 8)) (by omega) (by omega))).trans hm8
      have hc106 : M54 (m + 9) = some (sArr G 62 A9) := ((hf59 (m + 9) (by omega) (by omega) (by omega)).trans (ga50 ((m + 9)) (by omega) (by omega))).trans hm9
      have hc107 : M54 (m + 10) = some (sArr G 8 A10) := ((hf59 (m + 10) (by omega) (by omega) (by omega)).trans (ga50 ((m + 10)) (by omega) (by omega))).trans hm10
      have hc108 : M54 (m + 11) = some (sArr G 8 A11) := ((hf59 (m + 11) (by omega) (by omega) (by omega)).trans (ga50 ((m + 11)) (by omega) (by omega))).trans hm11
      have hc109 : M54 (m + 12) = some (sArr G 60 A12) := ((hf59 (m + 12) (by omega) (by omega) (by omega)).trans (ga50 ((m + 12)) (by omega) (by omega))).trans hm12
      have hc110 : M54 (m + 13) = some (sArr G 240 A13) := ((hf59 (m + 13) (by omega) (by omega) (by omega)).trans (ga50 ((m + 13)) (by omega) (by omega))).trans hm13
      have hc111 : M54 (m + 14) = some (sArr G 574 A14) := ((hf59 (m + 14) (by omega) (by omega) (by omega)).trans (ga50 ((m + 14)) (by omega) (by omega))).trans hm14
      have hc112 : M54 (m + 15) = some (sArr G 200 T2) := ((hf59 (m + 15) (by omega) (by omega) (by omega)).trans (ga50 ((m + 15)) (by omega) (by omega))).trans hm15
      have hc113 : M54 o = some (sArL G 1 g0) := (gb89 o (by omega)).trans hc16
      exact W.widen (by omega) (by omega) (hk _ _ _ _ _ (by omega) ⟨_, _, _, _, _, _, _, _, _, _, _, _, _, _, _, _, _, _, _, _, _, _, _, _, _, _, hc88, hc90, hc91, hc92, hc93, hc94, hc95, hc96, hc97, hc98, hc99, hc63, hc64, hc65, hc100, hc101, hc102, hc103, hc104, hc105, hc106, hc107, hc108, hc109, hc110, hc111, hc112, hc113, lF_s hlF, tp_0 _, hwr⟩ hV (lv_sub hl [2, 3, 4, 5, 6] rfl))
    · rw [ez67]
      exact (nx_stone_0_1 c9 c66).elim
    · rw [ez72]
      exact (nx_stone_0_2 c9 c71).elim
    · rw [ez77]
      exact (nx_stone_0_3 c9 c76).elim
    · rw [ez82]
      exact (nx_stone_0_4 c9 c81).elim
  · rw [ez18]
    refine lv_istore (lv' := [(5, .int (sI 1)), (0, .ref z), (1, .ref c), (2, .ref m), (3, .ref o), (4, .int (sI i))]) hx_ hb_ dL_law_407 hl (by decide) rfl (fun ls hl => ?_)
    refine lv_aload_n hx_ hb_ dL_law_409 rfl (lv_at hl 3 rfl) ?_
    refine lv_aload_n hx_ hb_ dL_law_410 rfl (lv_at hl 1 rfl) ?_
    refine lv_iload hx_ hb_ dL_law_411 (lv_at hl 5 rfl) ?_
    refine si_const S dL_law_413 ?_
    refine si_add S dL_law_414 ?_
    refine sc_sld S hV hX hzb (by omega) dL_law_415 ?_
    refine lv_aload_n hx_ hb_ dL_law_416 rfl (lv_at hl 1 rfl) ?_
    refine lv_iload hx_ hb_ dL_law_417 (lv_at hl 5 rfl) ?_
    refine si_const S dL_law_419 ?_
    refine si_add S dL_law_420 ?_
    refine sc_sld S hV hX hzb (by omega) dL_law_421 ?_
    refine lv_aload_n hx_ hb_ dL_law_422 rfl (lv_at hl 1 rfl) ?_
    refine lv_iload hx_ hb_ dL_law_423 (lv_at hl 5 rfl) ?_
    refine si_const S dL_law_425 ?_
    refine si_add S dL_law_426 ?_
    refine sc_sld S hV hX hzb (by omega) dL_law_427 ?_
    refine lv_aload_n hx_ hb_ dL_law_428 rfl (lv_at hl 1 rfl) ?_
    refine lv_iload hx_ hb_ dL_law_429 (lv_at hl 5 rfl) ?_
    refine si_const S dL_law_431 ?_
    refine si_add S dL_law_432 ?_
    refine sc_sld S hV hX hzb (by omega) dL_law_433 ?_
    have ga115 : ∀ x : Nat, m ≤ x → x < m + 16 → M1 x = M x := fun x u1 u2 => hf7 x (by omega) (by omega) (by omega) (by omega) (by omega) (by omega)
    have hc114 : M1 m = some (mO m th ch tn te sn nm wn) := (ga115 m (by omega) (by omega)).trans hm0
    have hc116 : M1 (m + 1) = some (sArr G 574 f) := (ga115 ((m + 1)) (by omega) (by omega)).trans hm1
    have hc117 : svC G M1 (m + 2) ch fs := hsv.fr (fun x q8 q9 => ga115 x (by omega) (by omega))
    have hc118 : M1 (m + 3) = some (sArr G 300 t) := (ga115 ((m + 3)) (by omega) (by omega)).trans hm3
    refine sk_Vi E hV (As := [.int (sI (lX xs (i + 1))), .int (sI (lX xs (i + 2))), .int (sI (lX xs (i + 3))), .int (sI (lX xs (i + 4)))]) (rest := []) (kX11_stone l_ G b_ M1 N2 m th ch tn te sn nm wn f fs t (lX xs (i + 1)) (lX xs (i + 2)) (lX xs (i + 3)) (lX xs (i + 4)) hc114 hc116 hc117 hc118 (hok) (hchr) (htp) (⟨lX_r xs _, lX_r xs _, lX_r xs _, lX_r xs _⟩)) (cwV 4 S.2.2.2.2 gL_law_X11_stone rfl rfl rfl (by decide +kernel) ⟨Nat.le_of_ble_eq_true rfl, Nat.le_of_ble_eq_true rfl⟩) (ci := 9) hc114 rfl rfl rfl hl.1 (Nat.le_of_ble_eq_true rfl) dL_law_434 (c1 := cc_ + 25) (s1 := ss_ + 3000) ⟨⟨rfl, rfl⟩, by omega, by omega⟩ (fun z122 M119 N120 H locs hp121 hV => ?_)
    obtain ⟨hN123, hf124, hq125⟩ := hp121
    rw [hN123] at hV
    rcases hq125 with ⟨c126, ez127, hc128, hc129, hc130⟩ | ⟨c131, ez132, hc133, hc134, hc135⟩ | ⟨c136, ez137, hc138, hc139, hc140⟩ | ⟨c141, ez142, hc143, hc144, hc145⟩ | ⟨c146, ez147, hc148, hc149, hc150⟩
    · rw [ez127]
      exact (nx_stone_1_0 c17 c126).elim
    · rw [ez132]
      refine lv_istore (lv' := [(6, .int (sI 0)), (5, .int (sI 1)), (0, .ref z), (1, .ref c), (2, .ref m), (3, .ref o), (4, .int (sI i))]) hx_ hb_ dL_law_437 hl (by decide) rfl (fun ls hl => ?_)
      refine lv_aload_n hx_ hb_ dL_law_439 rfl (lv_at hl 4 rfl) ?_
      refine sk_VP E hV (As := []) (rest := []) (kX11_thrown l_ G b_ M119 N2 m 1 ch 0 (ltc t tn) sn nm wn hc133) (cwV 0 S.2.2.2.2 gL_law_X11_thrown rfl rfl rfl (by decide +kernel) ⟨Nat.le_of_ble_eq_true rfl, Nat.le_of_ble_eq_true rfl⟩) (ci := 9) hc133 rfl rfl rfl hl.1 (Nat.le_of_ble_eq_true rfl) dL_law_440 (c1 := cc_ + 25) (s1 := ss_ + 3000) ⟨⟨rfl, rfl⟩, by omega, by omega⟩ (fun H locs hV => ?_)
      refine lv_iload hx_ hb_ dL_law_443 (lv_at hl 1 rfl) ?_
      refine sb_eq (tgt := 450) S dL_law_445 (by decide) (by omega) (fun _ => ?_) (fun c151 => absurd c151 (by omega))
      refine lv_iload hx_ hb_ dL_law_450 (lv_at hl 1 rfl) ?_
      refine sz_ne (tgt := 467) S dL_law_452 (by decide) (by omega) (fun _ => ?_) (fun c152 => absurd c152 (by omega))
      refine lv_goto (tgt := 2853) hx_ hb_ dL_law_467 (by decide) ?_
      have gb154 : ∀ x : Nat, (x < m ∨ m + 16 ≤ x) → M119 x = M1 x := fun x u1 => hf124 x (by omega) (by omega) (by omega)
      have hc153 : M119 c = some (xO c kn15 ch) := (gb154 c (by omega)).trans hc19
      have hc155 : stC G M119 (c + 1) f := hc20.fr (fun x q8 q9 => gb154 x (by omega))
      have hc156 : triC G M119 (c + 16) := htr.fr (fun x q8 q9 => (gb154 x (by omega)).trans (hf7 x (by omega) (by omega) (by omega) (by omega) (by omega) (by omega)))
      have hc157 : kpC G M119 (c + 31) kb kn15 ch fs := hc21.fr (fun x q8 => gb154 x (by omega))
      have hc158 : M119 (c + 32) = some (sObj 7 [.ref (c + 33), .int (sI 0), .int (sI (ltc t tn))]) := (gb154 ((c + 32)) (by omega)).trans hc22
      have hc159 : M119 (c + 33) = some (sArr G 300 t) := (gb154 ((c + 33)) (by omega)).trans hc23
      have hc160 : catC G M119 (c + 34) wc T := hct.fr (fun x q8 q9 => (gb154 x (by omega)).trans (hf7 x (by omega) (by omega) (by omega) (by omega) (by omega) (by omega)))
      have hc161 : orfC G M119 (c + 38) := hft.fr (fun x q8 q9 => (gb154 x (by omega)).trans (hf7 x (by omega) (by omega) (by omega) (by omega) (by omega) (by omega)))
      have hc162 : layC G M119 (c + 48) := hly.fr (fun x q8 q9 => (gb154 x (by omega)).trans (hf7 x (by omega) (by omega) (by omega) (by omega) (by omega) (by omega)))
      have hc163 : knoC G M119 (c + 54) := hkn.fr (fun x q8 q9 => (gb154 x (by omega)).trans (hf7 x (by omega) (by omega) (by omega) (by omega) (by omega) (by omega)))
      have hc164 : excC G M119 (c + 57) := hex.fr (fun x q8 q9 => (gb154 x (by omega)).trans (hf7 x (by omega) (by omega) (by omega) (by omega) (by omega) (by omega)))
      have hc165 : M119 (m + 3) = some (sArr G 300 t) := (hf124 (m + 3) (by omega) (by omega) (by omega)).trans hc118
      have hc166 : M119 (m + 4) = some (sArr G 11 A4) := ((hf124 (m + 4) (by omega) (by omega) (by omega)).trans (ga115 ((m + 4)) (by omega) (by omega))).trans hm4
      have hc167 : M119 (m + 5) = some (sArr G 1024 A5) := ((hf124 (m + 5) (by omega) (by omega) (by omega)).trans (ga115 ((m + 5)) (by omega) (by omega))).trans hm5
      have hc168 : M119 (m + 6) = some (sArr G 1024 A6) := ((hf124 (m + 6) (by omega) (by omega) (by omega)).trans (ga115 ((m + 6)) (by omega) (by omega))).trans hm6
      have hc169 : M119 (m + 7) = some (sArr G 10 A7) := ((hf124 (m + 7) (by omega) (by omega) (by omega)).trans (ga115 ((m + 7)) (by omega) (by omega))).trans hm7
      have hc170 : M119 (m + 8) = some (sArr G 10 A8) := ((hf124 (m + 8) (by omega) (by omega) (by omega)).trans (ga115 ((m + 8)) (by omega) (by omega))).trans hm8
      have hc171 : M119 (m + 9) = some (sArr G 62 A9) := ((hf124 (m + 9) (by omega) (by omega) (by omega)).trans (ga115 ((m + 9)) (by omega) (by omega))).trans hm9
      have hc172 : M119 (m + 10) = some (sArr G 8 A10) := ((hf124 (m + 10) (by omega) (by omega) (by omega)).trans (ga115 ((m + 10)) (by omega) (by omega))).trans hm10
      have hc173 : M119 (m + 11) = some (sArr G 8 A11) := ((hf124 (m + 11) (by omega) (by omega) (by omega)).trans (ga115 ((m + 11)) (by omega) (by omega))).trans hm11
      have hc174 : M119 (m + 12) = some (sArr G 60 A12) := ((hf124 (m + 12) (by omega) (by omega) (by omega)).trans (ga115 ((m + 12)) (by omega) (by omega))).trans hm12
      have hc175 : M119 (m + 13) = some (sArr G 240 A13) := ((hf124 (m + 13) (by omega) (by omega) (by omega)).trans (ga115 ((m + 13)) (by omega) (by omega))).trans hm13
      have hc176 : M119 (m + 14) = some (sArr G 574 A14) := ((hf124 (m + 14) (by omega) (by omega) (by omega)).trans (ga115 ((m + 14)) (by omega) (by omega))).trans hm14
      have hc177 : M119 (m + 15) = some (sArr G 200 T2) := ((hf124 (m + 15) (by omega) (by omega) (by omega)).trans (ga115 ((m + 15)) (by omega) (by omega))).trans hm15
      have hc178 : M119 o = some (sArL G 1 g0) := (gb154 o (by omega)).trans hc24
      exact W.widen (by omega) (by omega) (hk _ _ _ _ _ (by omega) ⟨_, _, _, _, _, _, _, _, _, _, _, _, _, _, _, _, _, _, _, _, _, _, _, _, _, _, hc153, hc155, hc156, hc157, hc158, hc159, hc160, hc161, hc162, hc163, hc164, hc133, hc134, hc135, hc165, hc166, hc167, hc168, hc169, hc170, hc171, hc172, hc173, hc174, hc175, hc176, hc177, hc178, lF_s hlF, tp_0 _, hwr⟩ hV (lv_sub hl [2, 3, 4, 5, 6] rfl))
    · rw [ez137]
      exact (nx_stone_1_2 c17 c136).elim
    · rw [ez142]
      exact (nx_stone_1_3 c17 c141).elim
    · rw [ez147]
      exact (nx_stone_1_4 c17 c146).elim
  · rw [ez26]
    refine lv_istore (lv' := [(5, .int (sI 1)), (0, .ref z), (1, .ref c), (2, .ref m), (3, .ref o), (4, .int (sI i))]) hx_ hb_ dL_law_407 hl (by decide) rfl (fun ls hl => ?_)
    refine lv_aload_n hx_ hb_ dL_law_409 rfl (lv_at hl 3 rfl) ?_
    refine lv_aload_n hx_ hb_ dL_law_410 rfl (lv_at hl 1 rfl) ?_
    refine lv_iload hx_ hb_ dL_law_411 (lv_at hl 5 rfl) ?_
    refine si_const S dL_law_413 ?_
    refine si_add S dL_law_414 ?_
    refine sc_sld S hV hX hzb (by omega) dL_law_415 ?_
    refine lv_aload_n hx_ hb_ dL_law_416 rfl (lv_at hl 1 rfl) ?_
    refine lv_iload hx_ hb_ dL_law_417 (lv_at hl 5 rfl) ?_
    refine si_const S dL_law_419 ?_
    refine si_add S dL_law_420 ?_
    refine sc_sld S hV hX hzb (by omega) dL_law_421 ?_
    refine lv_aload_n hx_ hb_ dL_law_422 rfl (lv_at hl 1 rfl) ?_
    refine lv_iload hx_ hb_ dL_law_423 (lv_at hl 5 rfl) ?_
    refine si_const S dL_law_425 ?_
    refine si_add S dL_law_426 ?_
    refine sc_sld S hV hX hzb (by omega) dL_law_427 ?_
    refine lv_aload_n hx_ hb_ dL_law_428 rfl (lv_at hl 1 rfl) ?_
    refine lv_iload hx_ hb_ dL_law_429 (lv_at hl 5 rfl) ?_
    refine si_const S dL_law_431 ?_
    refine si_add S dL_law_432 ?_
    refine sc_sld S hV hX hzb (by omega) dL_law_433 ?_
    have ga180 : ∀ x : Nat, m ≤ x → x < m + 16 → M1 x = M x := fun x u1 u2 => hf7 x (by omega) (by omega) (by omega) (by omega) (by omega) (by omega)
    have hc179 : M1 m = some (mO m th ch tn te sn nm wn) := (ga180 m (by omega) (by omega)).trans hm0
    have hc181 : M1 (m + 1) = some (sArr G 574 f) := (ga180 ((m + 1)) (by omega) (by omega)).trans hm1
    have hc182 : svC G M1 (m + 2) ch fs := hsv.fr (fun x q8 q9 => ga180 x (by omega) (by omega))
    have hc183 : M1 (m + 3) = some (sArr G 300 t) := (ga180 ((m + 3)) (by omega) (by omega)).trans hm3
    refine sk_Vi E hV (As := [.int (sI (lX xs (i + 1))), .int (sI (lX xs (i + 2))), .int (sI (lX xs (i + 3))), .int (sI (lX xs (i + 4)))]) (rest := []) (kX11_stone l_ G b_ M1 N2 m th ch tn te sn nm wn f fs t (lX xs (i + 1)) (lX xs (i + 2)) (lX xs (i + 3)) (lX xs (i + 4)) hc179 hc181 hc182 hc183 (hok) (hchr) (htp) (⟨lX_r xs _, lX_r xs _, lX_r xs _, lX_r xs _⟩)) (cwV 4 S.2.2.2.2 gL_law_X11_stone rfl rfl rfl (by decide +kernel) ⟨Nat.le_of_ble_eq_true rfl, Nat.le_of_ble_eq_true rfl⟩) (ci := 9) hc179 rfl rfl rfl hl.1 (Nat.le_of_ble_eq_true rfl) dL_law_434 (c1 := cc_ + 25) (s1 := ss_ + 3000) ⟨⟨rfl, rfl⟩, by omega, by omega⟩ (fun z187 M184 N185 H locs hp186 hV => ?_)
    obtain ⟨hN188, hf189, hq190⟩ := hp186
    rw [hN188] at hV
    rcases hq190 with ⟨c191, ez192, hc193, hc194, hc195⟩ | ⟨c196, ez197, hc198, hc199, hc200⟩ | ⟨c201, ez202, hc203, hc204, hc205⟩ | ⟨c206, ez207, hc208, hc209, hc210⟩ | ⟨c211, ez212, hc213, hc214, hc215⟩
    · rw [ez192]
      exact (nx_stone_2_0 c25 c191).elim
    · rw [ez197]
      exact (nx_stone_2_1 c25 c196).elim
    · rw [ez202]
      refine lv_istore (lv' := [(6, .int (sI 0)), (5, .int (sI 1)), (0, .ref z), (1, .ref c), (2, .ref m), (3, .ref o), (4, .int (sI i))]) hx_ hb_ dL_law_437 hl (by decide) rfl (fun ls hl => ?_)
      refine lv_aload_n hx_ hb_ dL_law_439 rfl (lv_at hl 4 rfl) ?_
      refine sk_VP E hV (As := []) (rest := []) (kX11_thrown l_ G b_ M184 N2 m 1 ch 0 0 sn nm wn hc203) (cwV 0 S.2.2.2.2 gL_law_X11_thrown rfl rfl rfl (by decide +kernel) ⟨Nat.le_of_ble_eq_true rfl, Nat.le_of_ble_eq_true rfl⟩) (ci := 9) hc203 rfl rfl rfl hl.1 (Nat.le_of_ble_eq_true rfl) dL_law_440 (c1 := cc_ + 25) (s1 := ss_ + 3000) ⟨⟨rfl, rfl⟩, by omega, by omega⟩ (fun H locs hV => ?_)
      refine lv_iload hx_ hb_ dL_law_443 (lv_at hl 1 rfl) ?_
      refine sb_eq (tgt := 450) S dL_law_445 (by decide) (by omega) (fun _ => ?_) (fun c216 => absurd c216 (by omega))
      refine lv_iload hx_ hb_ dL_law_450 (lv_at hl 1 rfl) ?_
      refine sz_ne (tgt := 467) S dL_law_452 (by decide) (by omega) (fun _ => ?_) (fun c217 => absurd c217 (by omega))
      refine lv_goto (tgt := 2853) hx_ hb_ dL_law_467 (by decide) ?_
      have gb219 : ∀ x : Nat, (x < m ∨ m + 16 ≤ x) → M184 x = M1 x := fun x u1 => hf189 x (by omega) (by omega) (by omega)
      have hc218 : M184 c = some (xO c kn15 ch) := (gb219 c (by omega)).trans hc27
      have hc220 : stC G M184 (c + 1) f := hc28.fr (fun x q8 q9 => gb219 x (by omega))
      have hc221 : triC G M184 (c + 16) := htr.fr (fun x q8 q9 => (gb219 x (by omega)).trans (hf7 x (by omega) (by omega) (by omega) (by omega) (by omega) (by omega)))
      have hc222 : kpC G M184 (c + 31) kb kn15 ch fs := hc29.fr (fun x q8 => gb219 x (by omega))
      have hc223 : M184 (c + 32) = some (sObj 7 [.ref (c + 33), .int (sI 0), .int (sI 0)]) := (gb219 ((c + 32)) (by omega)).trans hc30
      have hc224 : M184 (c + 33) = some (sArr G 300 t) := (gb219 ((c + 33)) (by omega)).trans hc31
      have hc225 : catC G M184 (c + 34) wc T := hct.fr (fun x q8 q9 => (gb219 x (by omega)).trans (hf7 x (by omega) (by omega) (by omega) (by omega) (by omega) (by omega)))
      have hc226 : orfC G M184 (c + 38) := hft.fr (fun x q8 q9 => (gb219 x (by omega)).trans (hf7 x (by omega) (by omega) (by omega) (by omega) (by omega) (by omega)))
      have hc227 : layC G M184 (c + 48) := hly.fr (fun x q8 q9 => (gb219 x (by omega)).trans (hf7 x (by omega) (by omega) (by omega) (by omega) (by omega) (by omega)))
      have hc228 : knoC G M184 (c + 54) := hkn.fr (fun x q8 q9 => (gb219 x (by omega)).trans (hf7 x (by omega) (by omega) (by omega) (by omega) (by omega) (by omega)))
      have hc229 : excC G M184 (c + 57) := hex.fr (fun x q8 q9 => (gb219 x (by omega)).trans (hf7 x (by omega) (by omega) (by omega) (by omega) (by omega) (by omega)))
      have hc230 : M184 (m + 3) = some (sArr G 300 t) := (hf189 (m + 3) (by omega) (by omega) (by omega)).trans hc183
      have hc231 : M184 (m + 4) = some (sArr G 11 A4) := ((hf189 (m + 4) (by omega) (by omega) (by omega)).trans (ga180 ((m + 4)) (by omega) (by omega))).trans hm4
      have hc232 : M184 (m + 5) = some (sArr G 1024 A5) := ((hf189 (m + 5) (by omega) (by omega) (by omega)).trans (ga180 ((m + 5)) (by omega) (by omega))).trans hm5
      have hc233 : M184 (m + 6) = some (sArr G 1024 A6) := ((hf189 (m + 6) (by omega) (by omega) (by omega)).trans (ga180 ((m + 6)) (by omega) (by omega))).trans hm6
      have hc234 : M184 (m + 7) = some (sArr G 10 A7) := ((hf189 (m + 7) (by omega) (by omega) (by omega)).trans (ga180 ((m + 7)) (by omega) (by omega))).trans hm7
      have hc235 : M184 (m + 8) = some (sArr G 10 A8) := ((hf189 (m + 8) (by omega) (by omega) (by omega)).trans (ga180 ((m + 8)) (by omega) (by omega))).trans hm8
      have hc236 : M184 (m + 9) = some (sArr G 62 A9) := ((hf189 (m + 9) (by omega) (by omega) (by omega)).trans (ga180 ((m + 9)) (by omega) (by omega))).trans hm9
      have hc237 : M184 (m + 10) = some (sArr G 8 A10) := ((hf189 (m + 10) (by omega) (by omega) (by omega)).trans (ga180 ((m + 10)) (by omega) (by omega))).trans hm10
      have hc238 : M184 (m + 11) = some (sArr G 8 A11) := ((hf189 (m + 11) (by omega) (by omega) (by omega)).trans (ga180 ((m + 11)) (by omega) (by omega))).trans hm11
      have hc239 : M184 (m + 12) = some (sArr G 60 A12) := ((hf189 (m + 12) (by omega) (by omega) (by omega)).trans (ga180 ((m + 12)) (by omega) (by omega))).trans hm12
      have hc240 : M184 (m + 13) = some (sArr G 240 A13) := ((hf189 (m + 13) (by omega) (by omega) (by omega)).trans (ga180 ((m + 13)) (by omega) (by omega))).trans hm13
      have hc241 : M184 (m + 14) = some (sArr G 574 A14) := ((hf189 (m + 14) (by omega) (by omega) (by omega)).trans (ga180 ((m + 14)) (by omega) (by omega))).trans hm14
      have hc242 : M184 (m + 15) = some (sArr G 200 T2) := ((hf189 (m + 15) (by omega) (by omega) (by omega)).trans (ga180 ((m + 15)) (by omega) (by omega))).trans hm15
      have hc243 : M184 o = some (sArL G 1 g0) := (gb219 o (by omega)).trans hc32
      exact W.widen (by omega) (by omega) (hk _ _ _ _ _ (by omega) ⟨_, _, _, _, _, _, _, _, _, _, _, _, _, _, _, _, _, _, _, _, _, _, _, _, _, _, hc218, hc220, hc221, hc222, hc223, hc224, hc225, hc226, hc227, hc228, hc229, hc203, hc204, hc205, hc230, hc231, hc232, hc233, hc234, hc235, hc236, hc237, hc238, hc239, hc240, hc241, hc242, hc243, lF_s hlF, tp_0 _, hwr⟩ hV (lv_sub hl [2, 3, 4, 5, 6] rfl))
    · rw [ez207]
      exact (nx_stone_2_3 c25 c206).elim
    · rw [ez212]
      exact (nx_stone_2_4 c25 c211).elim
  · rw [ez34]
    refine lv_istore (lv' := [(5, .int (sI 2)), (0, .ref z), (1, .ref c), (2, .ref m), (3, .ref o), (4, .int (sI i))]) hx_ hb_ dL_law_407 hl (by decide) rfl (fun ls hl => ?_)
    refine lv_aload_n hx_ hb_ dL_law_409 rfl (lv_at hl 3 rfl) ?_
    refine lv_aload_n hx_ hb_ dL_law_410 rfl (lv_at hl 1 rfl) ?_
    refine lv_iload hx_ hb_ dL_law_411 (lv_at hl 5 rfl) ?_
    refine si_const S dL_law_413 ?_
    refine si_add S dL_law_414 ?_
    refine sc_sld S hV hX hzb (by omega) dL_law_415 ?_
    refine lv_aload_n hx_ hb_ dL_law_416 rfl (lv_at hl 1 rfl) ?_
    refine lv_iload hx_ hb_ dL_law_417 (lv_at hl 5 rfl) ?_
    refine si_const S dL_law_419 ?_
    refine si_add S dL_law_420 ?_
    refine sc_sld S hV hX hzb (by omega) dL_law_421 ?_
    refine lv_aload_n hx_ hb_ dL_law_422 rfl (lv_at hl 1 rfl) ?_
    refine lv_iload hx_ hb_ dL_law_423 (lv_at hl 5 rfl) ?_
    refine si_const S dL_law_425 ?_
    refine si_add S dL_law_426 ?_
    refine sc_sld S hV hX hzb (by omega) dL_law_427 ?_
    refine lv_aload_n hx_ hb_ dL_law_428 rfl (lv_at hl 1 rfl) ?_
    refine lv_iload hx_ hb_ dL_law_429 (lv_at hl 5 rfl) ?_
    refine si_const S dL_law_431 ?_
    refine si_add S dL_law_432 ?_
    refine sc_sld S hV hX hzb (by omega) dL_law_433 ?_
    have ga245 : ∀ x : Nat, m ≤ x → x < m + 16 → M1 x = M x := fun x u1 u2 => hf7 x (by omega) (by omega) (by omega) (by omega) (by omega) (by omega)
    have hc244 : M1 m = some (mO m th ch tn te sn nm wn) := (ga245 m (by omega) (by omega)).trans hm0
    have hc246 : M1 (m + 1) = some (sArr G 574 f) := (ga245 ((m + 1)) (by omega) (by omega)).trans hm1
    have hc247 : svC G M1 (m + 2) ch fs := hsv.fr (fun x q8 q9 => ga245 x (by omega) (by omega))
    have hc248 : M1 (m + 3) = some (sArr G 300 t) := (ga245 ((m + 3)) (by omega) (by omega)).trans hm3
    refine sk_Vi E hV (As := [.int (sI (lX xs (i + 1))), .int (sI (lX xs (i + 2))), .int (sI (lX xs (i + 3))), .int (sI (lX xs (i + 4)))]) (rest := []) (kX11_stone l_ G b_ M1 N2 m th ch tn te sn nm wn f fs t (lX xs (i + 1)) (lX xs (i + 2)) (lX xs (i + 3)) (lX xs (i + 4)) hc244 hc246 hc247 hc248 (hok) (hchr) (htp) (⟨lX_r xs _, lX_r xs _, lX_r xs _, lX_r xs _⟩)) (cwV 4 S.2.2.2.2 gL_law_X11_stone rfl rfl rfl (by decide +kernel) ⟨Nat.le_of_ble_eq_true rfl, Nat.le_of_ble_eq_true rfl⟩) (ci := 9) hc244 rfl rfl rfl hl.1 (Nat.le_of_ble_eq_true rfl) dL_law_434 (c1 := cc_ + 25) (s1 := ss_ + 3000) ⟨⟨rfl, rfl⟩, by omega, by omega⟩ (fun z252 M249 N250 H locs hp251 hV => ?_)
    obtain ⟨hN253, hf254, hq255⟩ := hp251
    rw [hN253] at hV
    rcases hq255 with ⟨c256, ez257, hc258, hc259, hc260⟩ | ⟨c261, ez262, hc263, hc264, hc265⟩ | ⟨c266, ez267, hc268, hc269, hc270⟩ | ⟨c271, ez272, hc273, hc274, hc275⟩ | ⟨c276, ez277, hc278, hc279, hc280⟩
    · rw [ez257]
      exact (nx_stone_3_0 c33 c256).elim
    · rw [ez262]
      exact (nx_stone_3_1 c33 c261).elim
    · rw [ez267]
      exact (nx_stone_3_2 c33 c266).elim
    · rw [ez272]
      refine lv_istore (lv' := [(6, .int (sI 0)), (5, .int (sI 2)), (0, .ref z), (1, .ref c), (2, .ref m), (3, .ref o), (4, .int (sI i))]) hx_ hb_ dL_law_437 hl (by decide) rfl (fun ls hl => ?_)
      refine lv_aload_n hx_ hb_ dL_law_439 rfl (lv_at hl 4 rfl) ?_
      refine sk_VP E hV (As := []) (rest := []) (kX11_thrown l_ G b_ M249 N2 m 2 ch 0 (-1) sn nm wn hc273) (cwV 0 S.2.2.2.2 gL_law_X11_thrown rfl rfl rfl (by decide +kernel) ⟨Nat.le_of_ble_eq_true rfl, Nat.le_of_ble_eq_true rfl⟩) (ci := 9) hc273 rfl rfl rfl hl.1 (Nat.le_of_ble_eq_true rfl) dL_law_440 (c1 := cc_ + 25) (s1 := ss_ + 3000) ⟨⟨rfl, rfl⟩, by omega, by omega⟩ (fun H locs hV => ?_)
      refine lv_iload hx_ hb_ dL_law_443 (lv_at hl 1 rfl) ?_
      refine sb_eq (tgt := 450) S dL_law_445 (by decide) (by omega) (fun _ => ?_) (fun c281 => absurd c281 (by omega))
      refine lv_iload hx_ hb_ dL_law_450 (lv_at hl 1 rfl) ?_
      refine sz_ne (tgt := 467) S dL_law_452 (by decide) (by omega) (fun _ => ?_) (fun c282 => absurd c282 (by omega))
      refine lv_goto (tgt := 2853) hx_ hb_ dL_law_467 (by decide) ?_
      have gb284 : ∀ x : Nat, (x < m ∨ m + 16 ≤ x) → M249 x = M1 x := fun x u1 => hf254 x (by omega) (by omega) (by omega)
      have hc283 : M249 c = some (xO c kn15 ch) := (gb284 c (by omega)).trans hc35
      have hc285 : stC G M249 (c + 1) f := hc36.fr (fun x q8 q9 => gb284 x (by omega))
      have hc286 : triC G M249 (c + 16) := htr.fr (fun x q8 q9 => (gb284 x (by omega)).trans (hf7 x (by omega) (by omega) (by omega) (by omega) (by omega) (by omega)))
      have hc287 : kpC G M249 (c + 31) kb kn15 ch fs := hc37.fr (fun x q8 => gb284 x (by omega))
      have hc288 : M249 (c + 32) = some (sObj 7 [.ref (c + 33), .int (sI 0), .int (sI (-1))]) := (gb284 ((c + 32)) (by omega)).trans hc38
      have hc289 : M249 (c + 33) = some (sArr G 300 t) := (gb284 ((c + 33)) (by omega)).trans hc39
      have hc290 : catC G M249 (c + 34) wc T := hct.fr (fun x q8 q9 => (gb284 x (by omega)).trans (hf7 x (by omega) (by omega) (by omega) (by omega) (by omega) (by omega)))
      have hc291 : orfC G M249 (c + 38) := hft.fr (fun x q8 q9 => (gb284 x (by omega)).trans (hf7 x (by omega) (by omega) (by omega) (by omega) (by omega) (by omega)))
      have hc292 : layC G M249 (c + 48) := hly.fr (fun x q8 q9 => (gb284 x (by omega)).trans (hf7 x (by omega) (by omega) (by omega) (by omega) (by omega) (by omega)))
      have hc293 : knoC G M249 (c + 54) := hkn.fr (fun x q8 q9 => (gb284 x (by omega)).trans (hf7 x (by omega) (by omega) (by omega) (by omega) (by omega) (by omega)))
      have hc294 : excC G M249 (c + 57) := hex.fr (fun x q8 q9 => (gb284 x (by omega)).trans (hf7 x (by omega) (by omega) (by omega) (by omega) (by omega) (by omega)))
      have hc295 : M249 (m + 3) = some (sArr G 300 t) := (hf254 (m + 3) (by omega) (by omega) (by omega)).trans hc248
      have hc296 : M249 (m + 4) = some (sArr G 11 A4) := ((hf254 (m + 4) (by omega) (by omega) (by omega)).trans (ga245 ((m + 4)) (by omega) (by omega))).trans hm4
      have hc297 : M249 (m + 5) = some (sArr G 1024 A5) := ((hf254 (m + 5) (by omega) (by omega) (by omega)).trans (ga245 ((m + 5)) (by omega) (by omega))).trans hm5
      have hc298 : M249 (m + 6) = some (sArr G 1024 A6) := ((hf254 (m + 6) (by omega) (by omega) (by omega)).trans (ga245 ((m + 6)) (by omega) (by omega))).trans hm6
      have hc299 : M249 (m + 7) = some (sArr G 10 A7) := ((hf254 (m + 7) (by omega) (by omega) (by omega)).trans (ga245 ((m + 7)) (by omega) (by omega))).trans hm7
      have hc300 : M249 (m + 8) = some (sArr G 10 A8) := ((hf254 (m + 8) (by omega) (by omega) (by omega)).trans (ga245 ((m + 8)) (by omega) (by omega))).trans hm8
      have hc301 : M249 (m + 9) = some (sArr G 62 A9) := ((hf254 (m + 9) (by omega) (by omega) (by omega)).trans (ga245 ((m + 9)) (by omega) (by omega))).trans hm9
      have hc302 : M249 (m + 10) = some (sArr G 8 A10) := ((hf254 (m + 10) (by omega) (by omega) (by omega)).trans (ga245 ((m + 10)) (by omega) (by omega))).trans hm10
      have hc303 : M249 (m + 11) = some (sArr G 8 A11) := ((hf254 (m + 11) (by omega) (by omega) (by omega)).trans (ga245 ((m + 11)) (by omega) (by omega))).trans hm11
      have hc304 : M249 (m + 12) = some (sArr G 60 A12) := ((hf254 (m + 12) (by omega) (by omega) (by omega)).trans (ga245 ((m + 12)) (by omega) (by omega))).trans hm12
      have hc305 : M249 (m + 13) = some (sArr G 240 A13) := ((hf254 (m + 13) (by omega) (by omega) (by omega)).trans (ga245 ((m + 13)) (by omega) (by omega))).trans hm13
      have hc306 : M249 (m + 14) = some (sArr G 574 A14) := ((hf254 (m + 14) (by omega) (by omega) (by omega)).trans (ga245 ((m + 14)) (by omega) (by omega))).trans hm14
      have hc307 : M249 (m + 15) = some (sArr G 200 T2) := ((hf254 (m + 15) (by omega) (by omega) (by omega)).trans (ga245 ((m + 15)) (by omega) (by omega))).trans hm15
      have hc308 : M249 o = some (sArL G 1 g0) := (gb284 o (by omega)).trans hc40
      exact W.widen (by omega) (by omega) (hk _ _ _ _ _ (by omega) ⟨_, _, _, _, _, _, _, _, _, _, _, _, _, _, _, _, _, _, _, _, _, _, _, _, _, _, hc283, hc285, hc286, hc287, hc288, hc289, hc290, hc291, hc292, hc293, hc294, hc273, hc274, hc275, hc295, hc296, hc297, hc298, hc299, hc300, hc301, hc302, hc303, hc304, hc305, hc306, hc307, hc308, lF_s hlF, tp_0 _, hwr⟩ hV (lv_sub hl [2, 3, 4, 5, 6] rfl))
    · rw [ez277]
      exact (nx_stone_3_4 c33 c276).elim
  · rw [ez42]
    refine lv_istore (lv' := [(5, .int (sI 0)), (0, .ref z), (1, .ref c), (2, .ref m), (3, .ref o), (4, .int (sI i))]) hx_ hb_ dL_law_407 hl (by decide) rfl (fun ls hl => ?_)
    refine lv_aload_n hx_ hb_ dL_law_409 rfl (lv_at hl 3 rfl) ?_
    refine lv_aload_n hx_ hb_ dL_law_410 rfl (lv_at hl 1 rfl) ?_
    refine lv_iload hx_ hb_ dL_law_411 (lv_at hl 5 rfl) ?_
    refine si_const S dL_law_413 ?_
    refine si_add S dL_law_414 ?_
    refine sc_sld S hV hX hzb (by omega) dL_law_415 ?_
    refine lv_aload_n hx_ hb_ dL_law_416 rfl (lv_at hl 1 rfl) ?_
    refine lv_iload hx_ hb_ dL_law_417 (lv_at hl 5 rfl) ?_
    refine si_const S dL_law_419 ?_
    refine si_add S dL_law_420 ?_
    refine sc_sld S hV hX hzb (by omega) dL_law_421 ?_
    refine lv_aload_n hx_ hb_ dL_law_422 rfl (lv_at hl 1 rfl) ?_
    refine lv_iload hx_ hb_ dL_law_423 (lv_at hl 5 rfl) ?_
    refine si_const S dL_law_425 ?_
    refine si_add S dL_law_426 ?_
    refine sc_sld S hV hX hzb (by omega) dL_law_427 ?_
    refine lv_aload_n hx_ hb_ dL_law_428 rfl (lv_at hl 1 rfl) ?_
    refine lv_iload hx_ hb_ dL_law_429 (lv_at hl 5 rfl) ?_
    refine si_const S dL_law_431 ?_
    refine si_add S dL_law_432 ?_
    refine sc_sld S hV hX hzb (by omega) dL_law_433 ?_
    have ga310 : ∀ x : Nat, m ≤ x → x < m + 16 → M1 x = M x := fun x u1 u2 => hf7 x (by omega) (by omega) (by omega) (by omega) (by omega) (by omega)
    have hc309 : M1 m = some (mO m th ch tn te sn nm wn) := (ga310 m (by omega) (by omega)).trans hm0
    have hc311 : M1 (m + 1) = some (sArr G 574 f) := (ga310 ((m + 1)) (by omega) (by omega)).trans hm1
    have hc312 : svC G M1 (m + 2) ch fs := hsv.fr (fun x q8 q9 => ga310 x (by omega) (by omega))
    have hc313 : M1 (m + 3) = some (sArr G 300 t) := (ga310 ((m + 3)) (by omega) (by omega)).trans hm3
    refine sk_Vi E hV (As := [.int (sI (lX xs (i + 1))), .int (sI (lX xs (i + 2))), .int (sI (lX xs (i + 3))), .int (sI (lX xs (i + 4)))]) (rest := []) (kX11_stone l_ G b_ M1 N2 m th ch tn te sn nm wn f fs t (lX xs (i + 1)) (lX xs (i + 2)) (lX xs (i + 3)) (lX xs (i + 4)) hc309 hc311 hc312 hc313 (hok) (hchr) (htp) (⟨lX_r xs _, lX_r xs _, lX_r xs _, lX_r xs _⟩)) (cwV 4 S.2.2.2.2 gL_law_X11_stone rfl rfl rfl (by decide +kernel) ⟨Nat.le_of_ble_eq_true rfl, Nat.le_of_ble_eq_true rfl⟩) (ci := 9) hc309 rfl rfl rfl hl.1 (Nat.le_of_ble_eq_true rfl) dL_law_434 (c1 := cc_ + 25) (s1 := ss_ + 3000) ⟨⟨rfl, rfl⟩, by omega, by omega⟩ (fun z317 M314 N315 H locs hp316 hV => ?_)
    obtain ⟨hN318, hf319, hq320⟩ := hp316
    rw [hN318] at hV
    rcases hq320 with ⟨c321, ez322, hc323, hc324, hc325⟩ | ⟨c326, ez327, hc328, hc329, hc330⟩ | ⟨c331, ez332, hc333, hc334, hc335⟩ | ⟨c336, ez337, hc338, hc339, hc340⟩ | ⟨c341, ez342, hc343, hc344, hc345⟩
    · rw [ez322]
      exact (nx_stone_4_0 c41 c321).elim
    · rw [ez327]
      exact (nx_stone_4_1 c41 c326).elim
    · rw [ez332]
      exact (nx_stone_4_2 c41 c331).elim
    · rw [ez337]
      exact (nx_stone_4_3 c41 c336).elim
    · rw [ez342]
      refine lv_istore (lv' := [(6, .int (sI (f 568))), (5, .int (sI 0)), (0, .ref z), (1, .ref c), (2, .ref m), (3, .ref o), (4, .int (sI i))]) hx_ hb_ dL_law_437 hl (by decide) rfl (fun ls hl => ?_)
      refine lv_aload_n hx_ hb_ dL_law_439 rfl (lv_at hl 4 rfl) ?_
      refine sk_VP E hV (As := []) (rest := []) (kX11_thrown l_ G b_ M314 N2 m 0 (chn ch) 0 (-1) sn nm wn hc343) (cwV 0 S.2.2.2.2 gL_law_X11_thrown rfl rfl rfl (by decide +kernel) ⟨Nat.le_of_ble_eq_true rfl, Nat.le_of_ble_eq_true rfl⟩) (ci := 9) hc343 rfl rfl rfl hl.1 (Nat.le_of_ble_eq_true rfl) dL_law_440 (c1 := cc_ + 25) (s1 := ss_ + 3000) ⟨⟨rfl, rfl⟩, by omega, by omega⟩ (fun H locs hV => ?_)
      refine lv_iload hx_ hb_ dL_law_443 (lv_at hl 1 rfl) ?_
      refine sb_eq (tgt := 450) S dL_law_445 (by decide) (by omega) (fun _ => ?_) (fun c346 => absurd c346 (by omega))
      refine lv_iload hx_ hb_ dL_law_450 (lv_at hl 1 rfl) ?_
      refine sz_ne (tgt := 467) S dL_law_452 (by decide) (by omega) (fun c347 => absurd c347 (by omega)) (fun _ => ?_)
      refine lv_aload_n hx_ hb_ dL_law_455 rfl (lv_at hl 5 rfl) ?_
      refine si_const S dL_law_456 ?_
      have gb349 : ∀ x : Nat, (x < m ∨ m + 16 ≤ x) → M314 x = M1 x := fun x u1 => hf319 x (by omega) (by omega) (by omega)
      have hc348 : M314 o = some (sArL G 1 (iup g0 0 (sW (f 568)))) := (gb349 o (by omega)).trans hc48
      refine sc_lald S hK hV hc348 (by omega) dL_law_457 ?_
      rw [show (iup g0 0 (sW (f 568))) 0 = sW (f 568) from if_pos rfl]
      refine lv_iload hx_ hb_ dL_law_458 (lv_at hl 0 rfl) ?_
      refine sl_i2w S dL_law_460 ?_
      refine sl_cmp0 S (rfl) dL_law_461 ?_
      refine sz_eq (tgt := 467) S dL_law_462 (by decide) (by omega) (fun _ => ?_) (fun c350 => absurd c350 (by omega))
      refine lv_goto (tgt := 2853) hx_ hb_ dL_law_467 (by decide) ?_
      have hc351 : M314 c = some (xO c kn15 (chn ch)) := (gb349 c (by omega)).trans hc43
      have hc352 : stC G M314 (c + 1) (comF f (coA t tn 0) (lX xs (i + 1)) (lX xs (i + 2)) (lX xs (i + 3)) (lX xs (i + 4))) := hc44.fr (fun x q8 q9 => gb349 x (by omega))
      have hc353 : triC G M314 (c + 16) := htr.fr (fun x q8 q9 => (gb349 x (by omega)).trans (hf7 x (by omega) (by omega) (by omega) (by omega) (by omega) (by omega)))
      have hc354 : kpC G M314 (c + 31) kb kn15 (chn ch) (fsn ch fs f) := hc45.fr (fun x q8 => gb349 x (by omega))
      have hc355 : M314 (c + 32) = some (sObj 7 [.ref (c + 33), .int (sI 0), .int (sI (-1))]) := (gb349 ((c + 32)) (by omega)).trans hc46
      have hc356 : M314 (c + 33) = some (sArr G 300 t) := (gb349 ((c + 33)) (by omega)).trans hc47
      have hc357 : catC G M314 (c + 34) wc T := hct.fr (fun x q8 q9 => (gb349 x (by omega)).trans (hf7 x (by omega) (by omega) (by omega) (by omega) (by omega) (by omega)))
      have hc358 : orfC G M314 (c + 38) := hft.fr (fun x q8 q9 => (gb349 x (by omega)).trans (hf7 x (by omega) (by omega) (by omega) (by omega) (by omega) (by omega)))
      have hc359 : layC G M314 (c + 48) := hly.fr (fun x q8 q9 => (gb349 x (by omega)).trans (hf7 x (by omega) (by omega) (by omega) (by omega) (by omega) (by omega)))
      have hc360 : knoC G M314 (c + 54) := hkn.fr (fun x q8 q9 => (gb349 x (by omega)).trans (hf7 x (by omega) (by omega) (by omega) (by omega) (by omega) (by omega)))
      have hc361 : excC G M314 (c + 57) := hex.fr (fun x q8 q9 => (gb349 x (by omega)).trans (hf7 x (by omega) (by omega) (by omega) (by omega) (by omega) (by omega)))
      have hc362 : M314 (m + 3) = some (sArr G 300 t) := (hf319 (m + 3) (by omega) (by omega) (by omega)).trans hc313
      have hc363 : M314 (m + 4) = some (sArr G 11 A4) := ((hf319 (m + 4) (by omega) (by omega) (by omega)).trans (ga310 ((m + 4)) (by omega) (by omega))).trans hm4
      have hc364 : M314 (m + 5) = some (sArr G 1024 A5) := ((hf319 (m + 5) (by omega) (by omega) (by omega)).trans (ga310 ((m + 5)) (by omega) (by omega))).trans hm5
      have hc365 : M314 (m + 6) = some (sArr G 1024 A6) := ((hf319 (m + 6) (by omega) (by omega) (by omega)).trans (ga310 ((m + 6)) (by omega) (by omega))).trans hm6
      have hc366 : M314 (m + 7) = some (sArr G 10 A7) := ((hf319 (m + 7) (by omega) (by omega) (by omega)).trans (ga310 ((m + 7)) (by omega) (by omega))).trans hm7
      have hc367 : M314 (m + 8) = some (sArr G 10 A8) := ((hf319 (m + 8) (by omega) (by omega) (by omega)).trans (ga310 ((m + 8)) (by omega) (by omega))).trans hm8
      have hc368 : M314 (m + 9) = some (sArr G 62 A9) := ((hf319 (m + 9) (by omega) (by omega) (by omega)).trans (ga310 ((m + 9)) (by omega) (by omega))).trans hm9
      have hc369 : M314 (m + 10) = some (sArr G 8 A10) := ((hf319 (m + 10) (by omega) (by omega) (by omega)).trans (ga310 ((m + 10)) (by omega) (by omega))).trans hm10
      have hc370 : M314 (m + 11) = some (sArr G 8 A11) := ((hf319 (m + 11) (by omega) (by omega) (by omega)).trans (ga310 ((m + 11)) (by omega) (by omega))).trans hm11
      have hc371 : M314 (m + 12) = some (sArr G 60 A12) := ((hf319 (m + 12) (by omega) (by omega) (by omega)).trans (ga310 ((m + 12)) (by omega) (by omega))).trans hm12
      have hc372 : M314 (m + 13) = some (sArr G 240 A13) := ((hf319 (m + 13) (by omega) (by omega) (by omega)).trans (ga310 ((m + 13)) (by omega) (by omega))).trans hm13
      have hc373 : M314 (m + 14) = some (sArr G 574 A14) := ((hf319 (m + 14) (by omega) (by omega) (by omega)).trans (ga310 ((m + 14)) (by omega) (by omega))).trans hm14
      have hc374 : M314 (m + 15) = some (sArr G 200 T2) := ((hf319 (m + 15) (by omega) (by omega) (by omega)).trans (ga310 ((m + 15)) (by omega) (by omega))).trans hm15
      exact W.widen (by omega) (by omega) (hk _ _ _ _ _ (by omega) ⟨_, _, _, _, _, _, _, _, _, _, _, _, _, _, _, _, _, _, _, _, _, _, _, _, _, _, hc351, hc352, hc353, hc354, hc355, hc356, hc357, hc358, hc359, hc360, hc361, hc343, hc344, hc345, hc362, hc363, hc364, hc365, hc366, hc367, hc368, hc369, hc370, hc371, hc372, hc373, hc374, hc348, lF_k hchr hlF (g_com hlF.1 c41.1 c41.2.1 (by omega) (by omega)), tp_0 _, hwr⟩ hV (lv_sub hl [2, 3, 4, 5, 6] rfl))

set_option maxHeartbeats 4000000 in
set_option maxRecDepth 100000 in
theorem law_4 {p_ : Program} {l_ : Launch} {e_ : Env} {s_ : State} {m_ : MethodId} {args_ : Array Value} {below_ : List Frame} {meth_ : Method} {c_ : Code} {nm_ : String} {G : sG} {b_ : Nat} {M0 : sM} {N0 : Nat} {Q : State → Prop} (E : sE p_ l_ e_ room_1 s_ m_ args_ below_ meth_ c_ cL_law 9 wsL_law RL nm_ (some .boolean) G b_ M0 N0) (hF_ : xcF s_) (hlt : l_.stackTraces = false) {z L : Nat} {xs : Nat → Int32} (hX : va_X z L xs s_ s_.heap) (hzb : z < b_) {c m o kb : Nat} (hg : c + 60 ≤ m ∧ m + 16 ≤ o ∧ o < kb) {cc_ ss_ : Nat} (hcc : cc_ + 1170 ≤ room_1.cells ∧ ss_ + 14000 ≤ room_1.slots) {q i : Int} (hi : 0 ≤ i ∧ i + 6 ≤ L ∧ (L : Int) ≤ 3072) (hq : 0 ≤ q ∧ q ≤ 600) {M : sM} {N : Nat} (hkN : kb ≤ N) (hI : lI G M c m o kb q) {H : Heap} {locs : List Loc} {ls : Array Slot} (hV : sV G b_ M N s_ H locs) (hl : lv_has ls 9 [(0, .ref z), (1, .ref c), (2, .ref m), (3, .ref o), (4, .int (sI i))])
    (hk : ∀ (M1 : sM) (N1 : Nat) (H1 : Heap) (locs1 : List Loc) (ls1 : Array Slot), kb ≤ N1 → lI G M1 c m o kb (q + 1) → sV G b_ M1 N1 s_ H1 locs1 → lv_has ls1 9 [(0, .ref z), (1, .ref c), (2, .ref m), (3, .ref o), (4, .int (sI i))] → W p_ l_ e_ room_1 s_ m_ args_ below_ meth_ c_ H1 locs1 (cc_ + 1170) (ss_ + 14000) Q (F0 m_ 2853 ls1 [])) : W p_ l_ e_ room_1 s_ m_ args_ below_ meth_ c_ H locs cc_ ss_ Q (F0 m_ 470 ls []) := by
  have S := E.1
  have hx_ := S.1
  have hb_ := S.2.1
  have hK := E.2.2.2.2.1
  have hI2 := hI
  obtain ⟨kn, ch, f, fs, tn, te, t, wc, wn, T, T2, th, sn, nm, g0, A4, A5, A6, A7, A8, A9, A10, A11, A12, A13, A14, hc0, hst, htr, hkp, ht0, ht1, hct, hft, hly, hkn, hex, hm0, hm1, hsv, hm3, hm4, hm5, hm6, hm7, hm8, hm9, hm10, hm11, hm12, hm13, hm14, hm15, ho9, hlF, htp, hwr⟩ := hI2
  have hok := hlF.1.1
  have hdI := hlF.1.2.1
  have hsL := hlF.1.2.2.1
  have hclk := hlF.1.2.2.2
  have hchr : 0 ≤ ch ∧ ch ≤ 15 := ⟨hkp.r.2.2.1, hkp.r.2.2.2⟩
  have htp1 := htp.1
  have htp2 := htp.2.1
  have hwq := wrQ_e hwr
  have hwq1 := hwq.1
  have hwq2 := hwq.2.1
  have kn0 := sOk_N hok
  refine lv_aload_n hx_ hb_ dL_law_470 rfl (lv_at hl 1 rfl) ?_
  refine sk_VP E hV (As := []) (rest := []) (kX10_stones l_ G b_ M N c kn ch f hc0 hst) (cwV 0 S.2.2.2.2 gL_law_X10_stones rfl rfl rfl (by decide +kernel) ⟨Nat.le_of_ble_eq_true rfl, Nat.le_of_ble_eq_true rfl⟩) (ci := 8) hc0 rfl rfl rfl hl.1 (Nat.le_of_ble_eq_true rfl) dL_law_471 (c1 := cc_ + 0) (s1 := ss_ + 0) ⟨⟨rfl, rfl⟩, by omega, by omega⟩ (fun H locs hV => ?_)
  refine lv_aload_n hx_ hb_ dL_law_474 rfl (lv_at hl 2 rfl) ?_
  refine sk_Vi E hV (As := []) (rest := [.int (sI (f 568))]) (kX11_stones l_ G b_ M N m th ch tn te sn nm wn f hm0 hm1) (cwV 0 S.2.2.2.2 gL_law_X11_stones rfl rfl rfl (by decide +kernel) ⟨Nat.le_of_ble_eq_true rfl, Nat.le_of_ble_eq_true rfl⟩) (ci := 9) hm0 rfl rfl rfl hl.1 (Nat.le_of_ble_eq_true rfl) dL_law_475 (c1 := cc_ + 0) (s1 := ss_ + 0) ⟨⟨rfl, rfl⟩, by omega, by omega⟩ (fun z4 M1 N2 H locs hp3 hV => ?_)
  obtain ⟨ez5, hN6, hc7, hf8⟩ := hp3
  rw [hN6] at hV
  rw [ez5]
  refine sb_eq1 (tgt := 2853) S (rfl) dL_law_478 (by decide) ?_
  have gb10 : ∀ x : Nat, (x < m ∨ m + 16 ≤ x) → M1 x = M x := fun x u1 => hf8 x (by omega)
  have hc9 : M1 c = some (xO c kn ch) := (gb10 c (by omega)).trans hc0
  have hc11 : stC G M1 (c + 1) f := hst.fr (fun x q8 q9 => gb10 x (by omega))
  have hc12 : triC G M1 (c + 16) := htr.fr (fun x q8 q9 => gb10 x (by omega))
  have hc13 : kpC G M1 (c + 31) kb kn ch fs := hkp.fr (fun x q8 => gb10 x (by omega))
  have hc14 : M1 (c + 32) = some (sObj 7 [.ref (c + 33), .int (sI tn), .int (sI te)]) := (gb10 ((c + 32)) (by omega)).trans ht0
  have hc15 : M1 (c + 33) = some (sArr G 300 t) := (gb10 ((c + 33)) (by omega)).trans ht1
  have hc16 : catC G M1 (c + 34) wc T := hct.fr (fun x q8 q9 => gb10 x (by omega))
  have hc17 : orfC G M1 (c + 38) := hft.fr (fun x q8 q9 => gb10 x (by omega))
  have hc18 : layC G M1 (c + 48) := hly.fr (fun x q8 q9 => gb10 x (by omega))
  have hc19 : knoC G M1 (c + 54) := hkn.fr (fun x q8 q9 => gb10 x (by omega))
  have hc20 : excC G M1 (c + 57) := hex.fr (fun x q8 q9 => gb10 x (by omega))
  have hc21 : M1 (m + 1) = some (sArr G 574 f) := (hf8 (m + 1) (by omega)).trans hm1
  have hc22 : svC G M1 (m + 2) ch fs := hsv.fr (fun x q8 q9 => hf8 x (by omega))
  have hc23 : M1 (m + 3) = some (sArr G 300 t) := (hf8 (m + 3) (by omega)).trans hm3
  have hc24 : M1 (m + 4) = some (sArr G 11 A4) := (hf8 (m + 4) (by omega)).trans hm4
  have hc25 : M1 (m + 5) = some (sArr G 1024 A5) := (hf8 (m + 5) (by omega)).trans hm5
  have hc26 : M1 (m + 6) = some (sArr G 1024 A6) := (hf8 (m + 6) (by omega)).trans hm6
  have hc27 : M1 (m + 7) = some (sArr G 10 A7) := (hf8 (m + 7) (by omega)).trans hm7
  have hc28 : M1 (m + 8) = some (sArr G 10 A8) := (hf8 (m + 8) (by omega)).trans hm8
  have hc29 : M1 (m + 9) = some (sArr G 62 A9) := (hf8 (m + 9) (by omega)).trans hm9
  have hc30 : M1 (m + 10) = some (sArr G 8 A10) := (hf8 (m + 10) (by omega)).trans hm10
  have hc31 : M1 (m + 11) = some (sArr G 8 A11) := (hf8 (m + 11) (by omega)).trans hm11
  have hc32 : M1 (m + 12) = some (sArr G 60 A12) := (hf8 (m + 12) (by omega)).trans hm12
  have hc33 : M1 (m + 13) = some (sArr G 240 A13) := (hf8 (m + 13) (by omega)).trans hm13
  have hc34 : M1 (m + 14) = some (sArr G 574 A14) := (hf8 (m + 14) (by omega)).trans hm14
  have hc35 : M1 (m + 15) = some (sArr G 200 T2) := (hf8 (m + 15) (by omega)).trans hm15
  have hc36 : M1 o = some (sArL G 1 g0) := (gb10 o (by omega)).trans ho9
  exact W.widen (by omega) (by omega) (hk _ _ _ _ _ (by omega) ⟨_, _, _, _, _, _, _, _, _, _, _, _, _, _, _, _, _, _, _, _, _, _, _, _, _, _, hc9, hc11, hc12, hc13, hc14, hc15, hc16, hc17, hc18, hc19, hc20, hc7, hc21, hc22, hc23, hc24, hc25, hc26, hc27, hc28, hc29, hc30, hc31, hc32, hc33, hc34, hc35, hc36, lF_s hlF, htp, hwr⟩ hV (lv_sub hl [0, 1, 2, 3, 4] rfl))

theorem nx_stoneOf_0_1 {s : Int} {f : sF} {j : Int} (h1 : ¬ (0 ≤ s ∧ s < f 568)) (h2 : (0 ≤ s ∧ s < f 568) ∧ ¬ (0 ≤ j ∧ j ≤ 5)) : False := by
  first
  | omega
  | (simp_all; done)
  | (simp_all; omega)
theorem nx_stoneOf_0_2 {s : Int} {f : sF} {j : Int} (h1 : ¬ (0 ≤ s ∧ s < f 568)) (h2 : (0 ≤ s ∧ s < f 568) ∧ j = 5) : False := by
  first
  | omega
  | (simp_all; done)
  | (simp_all; omega)
theorem nx_stoneOf_0_3 {s : Int} {f : sF} {j : Int} (h1 : ¬ (0 ≤ s ∧ s < f 568)) (h2 : (0 ≤ s ∧ s < f 568) ∧ 0 ≤ j ∧ j ≤ 4) : False := by
  first
  | omega
  | (simp_all; done)
  | (simp_all; omega)
theorem nx_stoneOf_1_0 {s : Int} {f : sF} {j : Int} (h1 : (0 ≤ s ∧ s < f 568) ∧ ¬ (0 ≤ j ∧ j ≤ 5)) (h2 : ¬ (0 ≤ s ∧ s < f 568)) : False := by
  first
  | omega
  | (simp_all; done)
  | (simp_all; omega)
theorem nx_stoneOf_1_2 {s : Int} {f : sF} {j : Int} (h1 : (0 ≤ s ∧ s < f 568) ∧ ¬ (0 ≤ j ∧ j ≤ 5)) (h2 : (0 ≤ s ∧ s < f 568) ∧ j = 5) : False := by
  first
  | omega
  | (simp_all; done)
  | (simp_all; omega)
theorem nx_stoneOf_1_3 {s : Int} {f : sF} {j : Int} (h1 : (0 ≤ s ∧ s < f 568) ∧ ¬ (0 ≤ j ∧ j ≤ 5)) (h2 : (0 ≤ s ∧ s < f 568) ∧ 0 ≤ j ∧ j ≤ 4) : False := by
  first
  | omega
  | (simp_all; done)
  | (simp_all; omega)
theorem nx_stoneOf_2_0 {s : Int} {f : sF} {j : Int} (h1 : (0 ≤ s ∧ s < f 568) ∧ j = 5) (h2 : ¬ (0 ≤ s ∧ s < f 568)) : False := by
  first
  | omega
  | (simp_all; done)
  | (simp_all; omega)
theorem nx_stoneOf_2_1 {s : Int} {f : sF} {j : Int} (h1 : (0 ≤ s ∧ s < f 568) ∧ j = 5) (h2 : (0 ≤ s ∧ s < f 568) ∧ ¬ (0 ≤ j ∧ j ≤ 5)) : False := by
  first
  | omega
  | (simp_all; done)
  | (simp_all; omega)
theorem nx_stoneOf_2_3 {s : Int} {f : sF} {j : Int} (h1 : (0 ≤ s ∧ s < f 568) ∧ j = 5) (h2 : (0 ≤ s ∧ s < f 568) ∧ 0 ≤ j ∧ j ≤ 4) : False := by
  first
  | omega
  | (simp_all; done)
  | (simp_all; omega)
theorem nx_stoneOf_3_0 {s : Int} {f : sF} {j : Int} (h1 : (0 ≤ s ∧ s < f 568) ∧ 0 ≤ j ∧ j ≤ 4) (h2 : ¬ (0 ≤ s ∧ s < f 568)) : False := by
  first
  | omega
  | (simp_all; done)
  | (simp_all; omega)
theorem nx_stoneOf_3_1 {s : Int} {f : sF} {j : Int} (h1 : (0 ≤ s ∧ s < f 568) ∧ 0 ≤ j ∧ j ≤ 4) (h2 : (0 ≤ s ∧ s < f 568) ∧ ¬ (0 ≤ j ∧ j ≤ 5)) : False := by
  first
  | omega
  | (simp_all; done)
  | (simp_all; omega)
theorem nx_stoneOf_3_2 {s : Int} {f : sF} {j : Int} (h1 : (0 ≤ s ∧ s < f 568) ∧ 0 ≤ j ∧ j ≤ 4) (h2 : (0 ≤ s ∧ s < f 568) ∧ j = 5) : False := by
  first
  | omega
  | (simp_all; done)
  | (simp_all; omega)
set_option maxHeartbeats 4000000 in
set_option maxRecDepth 100000 in
theorem law_5 {p_ : Program} {l_ : Launch} {e_ : Env} {s_ : State} {m_ : MethodId} {args_ : Array Value} {below_ : List Frame} {meth_ : Method} {c_ : Code} {nm_ : String} {G : sG} {b_ : Nat} {M0 : sM} {N0 : Nat} {Q : State → Prop} (E : sE p_ l_ e_ room_1 s_ m_ args_ below_ meth_ c_ cL_law 9 wsL_law RL nm_ (some .boolean) G b_ M0 N0) (hF_ : xcF s_) (hlt : l_.stackTraces = false) {z L : Nat} {xs : Nat → Int32} (hX : va_X z L xs s_ s_.heap) (hzb : z < b_) {c m o kb : Nat} (hg : c + 60 ≤ m ∧ m + 16 ≤ o ∧ o < kb) {cc_ ss_ : Nat} (hcc : cc_ + 1170 ≤ room_1.cells ∧ ss_ + 14000 ≤ room_1.slots) {q i : Int} (hi : 0 ≤ i ∧ i + 6 ≤ L ∧ (L : Int) ≤ 3072) (hq : 0 ≤ q ∧ q ≤ 600) {M : sM} {N : Nat} (hkN : kb ≤ N) (hI : lI G M c m o kb q) {H : Heap} {locs : List Loc} {ls : Array Slot} (hV : sV G b_ M N s_ H locs) (hl : lv_has ls 9 [(0, .ref z), (1, .ref c), (2, .ref m), (3, .ref o), (4, .int (sI i))])
    (hk : ∀ (M1 : sM) (N1 : Nat) (H1 : Heap) (locs1 : List Loc) (ls1 : Array Slot), kb ≤ N1 → lI G M1 c m o kb (q + 1) → sV G b_ M1 N1 s_ H1 locs1 → lv_has ls1 9 [(0, .ref z), (1, .ref c), (2, .ref m), (3, .ref o), (4, .int (sI i))] → W p_ l_ e_ room_1 s_ m_ args_ below_ meth_ c_ H1 locs1 (cc_ + 1170) (ss_ + 14000) Q (F0 m_ 2853 ls1 [])) : W p_ l_ e_ room_1 s_ m_ args_ below_ meth_ c_ H locs cc_ ss_ Q (F0 m_ 483 ls []) := by
  have S := E.1
  have hx_ := S.1
  have hb_ := S.2.1
  have hK := E.2.2.2.2.1
  have hI2 := hI
  obtain ⟨kn, ch, f, fs, tn, te, t, wc, wn, T, T2, th, sn, nm, g0, A4, A5, A6, A7, A8, A9, A10, A11, A12, A13, A14, hc0, hst, htr, hkp, ht0, ht1, hct, hft, hly, hkn, hex, hm0, hm1, hsv, hm3, hm4, hm5, hm6, hm7, hm8, hm9, hm10, hm11, hm12, hm13, hm14, hm15, ho9, hlF, htp, hwr⟩ := hI2
  have hok := hlF.1.1
  have hdI := hlF.1.2.1
  have hsL := hlF.1.2.2.1
  have hclk := hlF.1.2.2.2
  have hchr : 0 ≤ ch ∧ ch ≤ 15 := ⟨hkp.r.2.2.1, hkp.r.2.2.2⟩
  have htp1 := htp.1
  have htp2 := htp.2.1
  have hwq := wrQ_e hwr
  have hwq1 := hwq.1
  have hwq2 := hwq.2.1
  have kn0 := sOk_N hok
  refine lv_aload_n hx_ hb_ dL_law_483 rfl (lv_at hl 1 rfl) ?_
  refine lv_aload_n hx_ hb_ dL_law_484 rfl (lv_at hl 0 rfl) ?_
  refine lv_iload hx_ hb_ dL_law_485 (lv_at hl 4 rfl) ?_
  refine si_const S dL_law_487 ?_
  refine si_add S dL_law_488 ?_
  refine sc_sld S hV hX hzb (by omega) dL_law_489 ?_
  refine lv_aload_n hx_ hb_ dL_law_490 rfl (lv_at hl 0 rfl) ?_
  refine lv_iload hx_ hb_ dL_law_491 (lv_at hl 4 rfl) ?_
  refine si_const S dL_law_493 ?_
  refine si_add S dL_law_494 ?_
  refine sc_sld S hV hX hzb (by omega) dL_law_495 ?_
  refine lv_aload_n hx_ hb_ dL_law_496 rfl (lv_at hl 3 rfl) ?_
  refine yk_Si (hh := [(0, 10, 13, 25), (0, 10, 17, 19)]) E hF_ hV (As := [.ref c, .int (sI (lX xs (i + 1))), .int (sI (lX xs (i + 2))), .ref o]) (rest := []) (kL_stoneOf l_ G b_ M N o g0 c kn ch f (lX xs (i + 1)) (lX xs (i + 2)) hc0 hst ho9 (hlt) (hok) (⟨lX_r xs _, lX_r xs _⟩) (by omega)) (vx_cwSW 4 S.2.2.2.2 gL_law_L_stoneOf rfl rfl rfl (by decide +kernel) ⟨Nat.le_of_ble_eq_true rfl, Nat.le_of_ble_eq_true rfl⟩) rfl rfl hl.1 (Nat.le_of_ble_eq_true rfl) dL_law_497 (c1 := cc_ + 8) (s1 := ss_ + 50) ⟨⟨rfl, rfl⟩, by omega, by omega⟩ (fun z4 M1 N2 H locs hp3 hV => ?_)
  obtain ⟨hN5, hf6, hq7⟩ := hp3
  rcases hq7 with ⟨c8, ez9, hc10⟩ | ⟨c11, ez12, hc13⟩ | ⟨c14, ez15, hc16⟩ | ⟨c17, ez18, hc19⟩
  · rw [ez9]
    refine lv_istore (lv' := [(5, .int (sI 1)), (0, .ref z), (1, .ref c), (2, .ref m), (3, .ref o), (4, .int (sI i))]) hx_ hb_ dL_law_500 hl (by decide) rfl (fun ls hl => ?_)
    refine lv_aload_n hx_ hb_ dL_law_502 rfl (lv_at hl 3 rfl) ?_
    refine lv_aload_n hx_ hb_ dL_law_503 rfl (lv_at hl 1 rfl) ?_
    refine lv_iload hx_ hb_ dL_law_504 (lv_at hl 5 rfl) ?_
    refine si_const S dL_law_506 ?_
    refine si_add S dL_law_507 ?_
    refine sc_sld S hV hX hzb (by omega) dL_law_508 ?_
    refine lv_aload_n hx_ hb_ dL_law_509 rfl (lv_at hl 1 rfl) ?_
    refine lv_iload hx_ hb_ dL_law_510 (lv_at hl 5 rfl) ?_
    refine si_const S dL_law_512 ?_
    refine si_add S dL_law_513 ?_
    refine sc_sld S hV hX hzb (by omega) dL_law_514 ?_
    have ga21 : ∀ x : Nat, m ≤ x → x < m + 16 → M1 x = M x := fun x u1 u2 => hf6 x (by omega)
    have hc20 : M1 m = some (mO m th ch tn te sn nm wn) := (ga21 m (by omega) (by omega)).trans hm0
    have hc22 : M1 (m + 1) = some (sArr G 574 f) := (ga21 ((m + 1)) (by omega) (by omega)).trans hm1
    refine sk_Vi E hV (As := [.int (sI (lX xs (i + 1))), .int (sI (lX xs (i + 2)))]) (rest := []) (kX11_stoneOf l_ G b_ M1 N2 m th ch tn te sn nm wn f (lX xs (i + 1)) (lX xs (i + 2)) hc20 hc22 (hok) (⟨lX_r xs _, lX_r xs _⟩)) (cwV 2 S.2.2.2.2 gL_law_X11_stoneOf rfl rfl rfl (by decide +kernel) ⟨Nat.le_of_ble_eq_true rfl, Nat.le_of_ble_eq_true rfl⟩) (ci := 9) hc20 rfl rfl rfl hl.1 (Nat.le_of_ble_eq_true rfl) dL_law_515 (c1 := cc_ + 8) (s1 := ss_ + 50) ⟨⟨rfl, rfl⟩, by omega, by omega⟩ (fun z26 M23 N24 H locs hp25 hV => ?_)
    obtain ⟨hN27, hf28, hq29⟩ := hp25
    rw [hN27] at hV
    rcases hq29 with ⟨c30, ez31, hc32⟩ | ⟨c33, ez34, hc35⟩ | ⟨c36, ez37, hc38⟩ | ⟨c39, ez40, hc41⟩
    · rw [ez31]
      refine lv_istore (lv' := [(6, .int (sI 0)), (5, .int (sI 1)), (0, .ref z), (1, .ref c), (2, .ref m), (3, .ref o), (4, .int (sI i))]) hx_ hb_ dL_law_518 hl (by decide) rfl (fun ls hl => ?_)
      refine lv_aload_n hx_ hb_ dL_law_520 rfl (lv_at hl 4 rfl) ?_
      refine sk_VP E hV (As := []) (rest := []) (kX11_thrown l_ G b_ M23 N2 m 1 ch tn te sn nm wn hc32) (cwV 0 S.2.2.2.2 gL_law_X11_thrown rfl rfl rfl (by decide +kernel) ⟨Nat.le_of_ble_eq_true rfl, Nat.le_of_ble_eq_true rfl⟩) (ci := 9) hc32 rfl rfl rfl hl.1 (Nat.le_of_ble_eq_true rfl) dL_law_521 (c1 := cc_ + 8) (s1 := ss_ + 50) ⟨⟨rfl, rfl⟩, by omega, by omega⟩ (fun H locs hV => ?_)
      refine lv_iload hx_ hb_ dL_law_524 (lv_at hl 1 rfl) ?_
      refine sb_eq (tgt := 531) S dL_law_526 (by decide) (by omega) (fun _ => ?_) (fun c42 => absurd c42 (by omega))
      refine lv_iload hx_ hb_ dL_law_531 (lv_at hl 1 rfl) ?_
      refine sz_ne (tgt := 548) S dL_law_533 (by decide) (by omega) (fun _ => ?_) (fun c43 => absurd c43 (by omega))
      refine lv_goto (tgt := 2853) hx_ hb_ dL_law_548 (by decide) ?_
      have gb45 : ∀ x : Nat, (x < m ∨ m + 16 ≤ x) → M23 x = M1 x := fun x u1 => hf28 x (by omega)
      have hc44 : M23 c = some (xO c kn ch) := ((gb45 c (by omega)).trans (hf6 c (by omega))).trans hc0
      have hc46 : stC G M23 (c + 1) f := hst.fr (fun x q8 q9 => (gb45 x (by omega)).trans (hf6 x (by omega)))
      have hc47 : triC G M23 (c + 16) := htr.fr (fun x q8 q9 => (gb45 x (by omega)).trans (hf6 x (by omega)))
      have hc48 : kpC G M23 (c + 31) kb kn ch fs := hkp.fr (fun x q8 => (gb45 x (by omega)).trans (hf6 x (by omega)))
      have hc49 : M23 (c + 32) = some (sObj 7 [.ref (c + 33), .int (sI tn), .int (sI te)]) := ((gb45 ((c + 32)) (by omega)).trans (hf6 (c + 32) (by omega))).trans ht0
      have hc50 : M23 (c + 33) = some (sArr G 300 t) := ((gb45 ((c + 33)) (by omega)).trans (hf6 (c + 33) (by omega))).trans ht1
      have hc51 : catC G M23 (c + 34) wc T := hct.fr (fun x q8 q9 => (gb45 x (by omega)).trans (hf6 x (by omega)))
      have hc52 : orfC G M23 (c + 38) := hft.fr (fun x q8 q9 => (gb45 x (by omega)).trans (hf6 x (by omega)))
      have hc53 : layC G M23 (c + 48) := hly.fr (fun x q8 q9 => (gb45 x (by omega)).trans (hf6 x (by omega)))
      have hc54 : knoC G M23 (c + 54) := hkn.fr (fun x q8 q9 => (gb45 x (by omega)).trans (hf6 x (by omega)))
      have hc55 : excC G M23 (c + 57) := hex.fr (fun x q8 q9 => (gb45 x (by omega)).trans (hf6 x (by omega)))
      have hc56 : M23 (m + 1) = some (sArr G 574 f) := (hf28 (m + 1) (by omega)).trans hc22
      have hc57 : svC G M23 (m + 2) ch fs := hsv.fr (fun x q8 q9 => (hf28 x (by omega)).trans (ga21 x (by omega) (by omega)))
      have hc58 : M23 (m + 3) = some (sArr G 300 t) := ((hf28 (m + 3) (by omega)).trans (ga21 ((m + 3)) (by omega) (by omega))).trans hm3
      have hc59 : M23 (m + 4) = some (sArr G 11 A4) := ((hf28 (m + 4) (by omega)).trans (ga21 ((m + 4)) (by omega) (by omega))).trans hm4
      have hc60 : M23 (m + 5) = some (sArr G 1024 A5) := ((hf28 (m + 5) (by omega)).trans (ga21 ((m + 5)) (by omega) (by omega))).trans hm5
      have hc61 : M23 (m + 6) = some (sArr G 1024 A6) := ((hf28 (m + 6) (by omega)).trans (ga21 ((m + 6)) (by omega) (by omega))).trans hm6
      have hc62 : M23 (m + 7) = some (sArr G 10 A7) := ((hf28 (m + 7) (by omega)).trans (ga21 ((m + 7)) (by omega) (by omega))).trans hm7
      have hc63 : M23 (m + 8) = some (sArr G 10 A8) := ((hf28 (m + 8) (by omega)).trans (ga21 ((m + 8)) (by omega) (by omega))).trans hm8
      have hc64 : M23 (m + 9) = some (sArr G 62 A9) := ((hf28 (m + 9) (by omega)).trans (ga21 ((m + 9)) (by omega) (by omega))).trans hm9
      have hc65 : M23 (m + 10) = some (sArr G 8 A10) := ((hf28 (m + 10) (by omega)).trans (ga21 ((m + 10)) (by omega) (by omega))).trans hm10
      have hc66 : M23 (m + 11) = some (sArr G 8 A11) := ((hf28 (m + 11) (by omega)).trans (ga21 ((m + 11)) (by omega) (by omega))).trans hm11
      have hc67 : M23 (m + 12) = some (sArr G 60 A12) := ((hf28 (m + 12) (by omega)).trans (ga21 ((m + 12)) (by omega) (by omega))).trans hm12
      have hc68 : M23 (m + 13) = some (sArr G 240 A13) := ((hf28 (m + 13) (by omega)).trans (ga21 ((m + 13)) (by omega) (by omega))).trans hm13
      have hc69 : M23 (m + 14) = some (sArr G 574 A14) := ((hf28 (m + 14) (by omega)).trans (ga21 ((m + 14)) (by omega) (by omega))).trans hm14
      have hc70 : M23 (m + 15) = some (sArr G 200 T2) := ((hf28 (m + 15) (by omega)).trans (ga21 ((m + 15)) (by omega) (by omega))).trans hm15
      have hc71 : M23 o = some (sArL G 1 g0) := (gb45 o (by omega)).trans hc10
      exact W.widen (by omega) (by omega) (hk _ _ _ _ _ (by omega) ⟨_, _, _, _, _, _, _, _, _, _, _, _, _, _, _, _, _, _, _, _, _, _, _, _, _, _, hc44, hc46, hc47, hc48, hc49, hc50, hc51, hc52, hc53, hc54, hc55, hc32, hc56, hc57, hc58, hc59, hc60, hc61, hc62, hc63, hc64, hc65, hc66, hc67, hc68, hc69, hc70, hc71, lF_s hlF, htp, hwr⟩ hV (lv_sub hl [2, 3, 4, 5, 6] rfl))
    · rw [ez34]
      exact (nx_stoneOf_0_1 c8 c33).elim
    · rw [ez37]
      exact (nx_stoneOf_0_2 c8 c36).elim
    · rw [ez40]
      exact (nx_stoneOf_0_3 c8 c39).elim
  · rw [ez12]
    refine lv_istore (lv' := [(5, .int (sI 2)), (0, .ref z), (1, .ref c), (2, .ref m), (3, .ref o), (4, .int (sI i))]) hx_ hb_ dL_law_500 hl (by decide) rfl (fun ls hl => ?_)
    refine lv_aload_n hx_ hb_ dL_law_502 rfl (lv_at hl 3 rfl) ?_
    refine lv_aload_n hx_ hb_ dL_law_503 rfl (lv_at hl 1 rfl) ?_
    refine lv_iload hx_ hb_ dL_law_504 (lv_at hl 5 rfl) ?_
    refine si_const S dL_law_506 ?_
    refine si_add S dL_law_507 ?_
    refine sc_sld S hV hX hzb (by omega) dL_law_508 ?_
    refine lv_aload_n hx_ hb_ dL_law_509 rfl (lv_at hl 1 rfl) ?_
    refine lv_iload hx_ hb_ dL_law_510 (lv_at hl 5 rfl) ?_
    refine si_const S dL_law_512 ?_
    refine si_add S dL_law_513 ?_
    refine sc_sld S hV hX hzb (by omega) dL_law_514 ?_
    have ga73 : ∀ x : Nat, m ≤ x → x < m + 16 → M1 x = M x := fun x u1 u2 => hf6 x (by omega)
    have hc72 : M1 m = some (mO m th ch tn te sn nm wn) := (ga73 m (by omega) (by omega)).trans hm0
    have hc74 : M1 (m + 1) = some (sArr G 574 f) := (ga73 ((m + 1)) (by omega) (by omega)).trans hm1
    refine sk_Vi E hV (As := [.int (sI (lX xs (i + 1))), .int (sI (lX xs (i + 2)))]) (rest := []) (kX11_stoneOf l_ G b_ M1 N2 m th ch tn te sn nm wn f (lX xs (i + 1)) (lX xs (i + 2)) hc72 hc74 (hok) (⟨lX_r xs _, lX_r xs _⟩)) (cwV 2 S.2.2.2.2 gL_law_X11_stoneOf rfl rfl rfl (by decide +kernel) ⟨Nat.le_of_ble_eq_true rfl, Nat.le_of_ble_eq_true rfl⟩) (ci := 9) hc72 rfl rfl rfl hl.1 (Nat.le_of_ble_eq_true rfl) dL_law_515 (c1 := cc_ + 8) (s1 := ss_ + 50) ⟨⟨rfl, rfl⟩, by omega, by omega⟩ (fun z78 M75 N76 H locs hp77 hV => ?_)
    obtain ⟨hN79, hf80, hq81⟩ := hp77
    rw [hN79] at hV
    rcases hq81 with ⟨c82, ez83, hc84⟩ | ⟨c85, ez86, hc87⟩ | ⟨c88, ez89, hc90⟩ | ⟨c91, ez92, hc93⟩
    · rw [ez83]
      exact (nx_stoneOf_1_0 c11 c82).elim
    · rw [ez86]
      refine lv_istore (lv' := [(6, .int (sI 0)), (5, .int (sI 2)), (0, .ref z), (1, .ref c), (2, .ref m), (3, .ref o), (4, .int (sI i))]) hx_ hb_ dL_law_518 hl (by decide) rfl (fun ls hl => ?_)
      refine lv_aload_n hx_ hb_ dL_law_520 rfl (lv_at hl 4 rfl) ?_
      refine sk_VP E hV (As := []) (rest := []) (kX11_thrown l_ G b_ M75 N2 m 2 ch tn te sn nm wn hc87) (cwV 0 S.2.2.2.2 gL_law_X11_thrown rfl rfl rfl (by decide +kernel) ⟨Nat.le_of_ble_eq_true rfl, Nat.le_of_ble_eq_true rfl⟩) (ci := 9) hc87 rfl rfl rfl hl.1 (Nat.le_of_ble_eq_true rfl) dL_law_521 (c1 := cc_ + 8) (s1 := ss_ + 50) ⟨⟨rfl, rfl⟩, by omega, by omega⟩ (fun H locs hV => ?_)
      refine lv_iload hx_ hb_ dL_law_524 (lv_at hl 1 rfl) ?_
      refine sb_eq (tgt := 531) S dL_law_526 (by decide) (by omega) (fun _ => ?_) (fun c94 => absurd c94 (by omega))
      refine lv_iload hx_ hb_ dL_law_531 (lv_at hl 1 rfl) ?_
      refine sz_ne (tgt := 548) S dL_law_533 (by decide) (by omega) (fun _ => ?_) (fun c95 => absurd c95 (by omega))
      refine lv_goto (tgt := 2853) hx_ hb_ dL_law_548 (by decide) ?_
      have gb97 : ∀ x : Nat, (x < m ∨ m + 16 ≤ x) → M75 x = M1 x := fun x u1 => hf80 x (by omega)
      have hc96 : M75 c = some (xO c kn ch) := ((gb97 c (by omega)).trans (hf6 c (by omega))).trans hc0
      have hc98 : stC G M75 (c + 1) f := hst.fr (fun x q8 q9 => (gb97 x (by omega)).trans (hf6 x (by omega)))
      have hc99 : triC G M75 (c + 16) := htr.fr (fun x q8 q9 => (gb97 x (by omega)).trans (hf6 x (by omega)))
      have hc100 : kpC G M75 (c + 31) kb kn ch fs := hkp.fr (fun x q8 => (gb97 x (by omega)).trans (hf6 x (by omega)))
      have hc101 : M75 (c + 32) = some (sObj 7 [.ref (c + 33), .int (sI tn), .int (sI te)]) := ((gb97 ((c + 32)) (by omega)).trans (hf6 (c + 32) (by omega))).trans ht0
      have hc102 : M75 (c + 33) = some (sArr G 300 t) := ((gb97 ((c + 33)) (by omega)).trans (hf6 (c + 33) (by omega))).trans ht1
      have hc103 : catC G M75 (c + 34) wc T := hct.fr (fun x q8 q9 => (gb97 x (by omega)).trans (hf6 x (by omega)))
      have hc104 : orfC G M75 (c + 38) := hft.fr (fun x q8 q9 => (gb97 x (by omega)).trans (hf6 x (by omega)))
      have hc105 : layC G M75 (c + 48) := hly.fr (fun x q8 q9 => (gb97 x (by omega)).trans (hf6 x (by omega)))
      have hc106 : knoC G M75 (c + 54) := hkn.fr (fun x q8 q9 => (gb97 x (by omega)).trans (hf6 x (by omega)))
      have hc107 : excC G M75 (c + 57) := hex.fr (fun x q8 q9 => (gb97 x (by omega)).trans (hf6 x (by omega)))
      have hc108 : M75 (m + 1) = some (sArr G 574 f) := (hf80 (m + 1) (by omega)).trans hc74
      have hc109 : svC G M75 (m + 2) ch fs := hsv.fr (fun x q8 q9 => (hf80 x (by omega)).trans (ga73 x (by omega) (by omega)))
      have hc110 : M75 (m + 3) = some (sArr G 300 t) := ((hf80 (m + 3) (by omega)).trans (ga73 ((m + 3)) (by omega) (by omega))).trans hm3
      have hc111 : M75 (m + 4) = some (sArr G 11 A4) := ((hf80 (m + 4) (by omega)).trans (ga73 ((m + 4)) (by omega) (by omega))).trans hm4
      have hc112 : M75 (m + 5) = some (sArr G 1024 A5) := ((hf80 (m + 5) (by omega)).trans (ga73 ((m + 5)) (by omega) (by omega))).trans hm5
      have hc113 : M75 (m + 6) = some (sArr G 1024 A6) := ((hf80 (m + 6) (by omega)).trans (ga73 ((m + 6)) (by omega) (by omega))).trans hm6
      have hc114 : M75 (m + 7) = some (sArr G 10 A7) := ((hf80 (m + 7) (by omega)).trans (ga73 ((m + 7)) (by omega) (by omega))).trans hm7
      have hc115 : M75 (m + 8) = some (sArr G 10 A8) := ((hf80 (m + 8) (by omega)).trans (ga73 ((m + 8)) (by omega) (by omega))).trans hm8
      have hc116 : M75 (m + 9) = some (sArr G 62 A9) := ((hf80 (m + 9) (by omega)).trans (ga73 ((m + 9)) (by omega) (by omega))).trans hm9
      have hc117 : M75 (m + 10) = some (sArr G 8 A10) := ((hf80 (m + 10) (by omega)).trans (ga73 ((m + 10)) (by omega) (by omega))).trans hm10
      have hc118 : M75 (m + 11) = some (sArr G 8 A11) := ((hf80 (m + 11) (by omega)).trans (ga73 ((m + 11)) (by omega) (by omega))).trans hm11
      have hc119 : M75 (m + 12) = some (sArr G 60 A12) := ((hf80 (m + 12) (by omega)).trans (ga73 ((m + 12)) (by omega) (by omega))).trans hm12
      have hc120 : M75 (m + 13) = some (sArr G 240 A13) := ((hf80 (m + 13) (by omega)).trans (ga73 ((m + 13)) (by omega) (by omega))).trans hm13
      have hc121 : M75 (m + 14) = some (sArr G 574 A14) := ((hf80 (m + 14) (by omega)).trans (ga73 ((m + 14)) (by omega) (by omega))).trans hm14
      have hc122 : M75 (m + 15) = some (sArr G 200 T2) := ((hf80 (m + 15) (by omega)).trans (ga73 ((m + 15)) (by omega) (by omega))).trans hm15
      have hc123 : M75 o = some (sArL G 1 g0) := (gb97 o (by omega)).trans hc13
      exact W.widen (by omega) (by omega) (hk _ _ _ _ _ (by omega) ⟨_, _, _, _, _, _, _, _, _, _, _, _, _, _, _, _, _, _, _, _, _, _, _, _, _, _, hc96, hc98, hc99, hc100, hc101, hc102, hc103, hc104, hc105, hc106, hc107, hc87, hc108, hc109, hc110, hc111, hc112, hc113, hc114, hc115, hc116, hc117, hc118, hc119, hc120, hc121, hc122, hc123, lF_s hlF, htp, hwr⟩ hV (lv_sub hl [2, 3, 4, 5, 6] rfl))
    · rw [ez89]
      exact (nx_stoneOf_1_2 c11 c88).elim
    · rw [ez92]
      exact (nx_stoneOf_1_3 c11 c91).elim
  · rw [ez15]
    refine lv_istore (lv' := [(5, .int (sI 0)), (0, .ref z), (1, .ref c), (2, .ref m), (3, .ref o), (4, .int (sI i))]) hx_ hb_ dL_law_500 hl (by decide) rfl (fun ls hl => ?_)
    refine lv_aload_n hx_ hb_ dL_law_502 rfl (lv_at hl 3 rfl) ?_
    refine lv_aload_n hx_ hb_ dL_law_503 rfl (lv_at hl 1 rfl) ?_
    refine lv_iload hx_ hb_ dL_law_504 (lv_at hl 5 rfl) ?_
    refine si_const S dL_law_506 ?_
    refine si_add S dL_law_507 ?_
    refine sc_sld S hV hX hzb (by omega) dL_law_508 ?_
    refine lv_aload_n hx_ hb_ dL_law_509 rfl (lv_at hl 1 rfl) ?_
    refine lv_iload hx_ hb_ dL_law_510 (lv_at hl 5 rfl) ?_
    refine si_const S dL_law_512 ?_
    refine si_add S dL_law_513 ?_
    refine sc_sld S hV hX hzb (by omega) dL_law_514 ?_
    have ga125 : ∀ x : Nat, m ≤ x → x < m + 16 → M1 x = M x := fun x u1 u2 => hf6 x (by omega)
    have hc124 : M1 m = some (mO m th ch tn te sn nm wn) := (ga125 m (by omega) (by omega)).trans hm0
    have hc126 : M1 (m + 1) = some (sArr G 574 f) := (ga125 ((m + 1)) (by omega) (by omega)).trans hm1
    refine sk_Vi E hV (As := [.int (sI (lX xs (i + 1))), .int (sI (lX xs (i + 2)))]) (rest := []) (kX11_stoneOf l_ G b_ M1 N2 m th ch tn te sn nm wn f (lX xs (i + 1)) (lX xs (i + 2)) hc124 hc126 (hok) (⟨lX_r xs _, lX_r xs _⟩)) (cwV 2 S.2.2.2.2 gL_law_X11_stoneOf rfl rfl rfl (by decide +kernel) ⟨Nat.le_of_ble_eq_true rfl, Nat.le_of_ble_eq_true rfl⟩) (ci := 9) hc124 rfl rfl rfl hl.1 (Nat.le_of_ble_eq_true rfl) dL_law_515 (c1 := cc_ + 8) (s1 := ss_ + 50) ⟨⟨rfl, rfl⟩, by omega, by omega⟩ (fun z130 M127 N128 H locs hp129 hV => ?_)
    obtain ⟨hN131, hf132, hq133⟩ := hp129
    rw [hN131] at hV
    rcases hq133 with ⟨c134, ez135, hc136⟩ | ⟨c137, ez138, hc139⟩ | ⟨c140, ez141, hc142⟩ | ⟨c143, ez144, hc145⟩
    · rw [ez135]
      exact (nx_stoneOf_2_0 c14 c134).elim
    · rw [ez138]
      exact (nx_stoneOf_2_1 c14 c137).elim
    · rw [ez141]
      refine lv_istore (lv' := [(6, .int (sI (isum (f 568) (plT f (lX xs (i + 1)))))), (5, .int (sI 0)), (0, .ref z), (1, .ref c), (2, .ref m), (3, .ref o), (4, .int (sI i))]) hx_ hb_ dL_law_518 hl (by decide) rfl (fun ls hl => ?_)
      refine lv_aload_n hx_ hb_ dL_law_520 rfl (lv_at hl 4 rfl) ?_
      refine sk_VP E hV (As := []) (rest := []) (kX11_thrown l_ G b_ M127 N2 m 0 ch tn te sn nm wn hc142) (cwV 0 S.2.2.2.2 gL_law_X11_thrown rfl rfl rfl (by decide +kernel) ⟨Nat.le_of_ble_eq_true rfl, Nat.le_of_ble_eq_true rfl⟩) (ci := 9) hc142 rfl rfl rfl hl.1 (Nat.le_of_ble_eq_true rfl) dL_law_521 (c1 := cc_ + 8) (s1 := ss_ + 50) ⟨⟨rfl, rfl⟩, by omega, by omega⟩ (fun H locs hV => ?_)
      refine lv_iload hx_ hb_ dL_law_524 (lv_at hl 1 rfl) ?_
      refine sb_eq (tgt := 531) S dL_law_526 (by decide) (by omega) (fun _ => ?_) (fun c146 => absurd c146 (by omega))
      refine lv_iload hx_ hb_ dL_law_531 (lv_at hl 1 rfl) ?_
      refine sz_ne (tgt := 548) S dL_law_533 (by decide) (by omega) (fun c147 => absurd c147 (by omega)) (fun _ => ?_)
      refine lv_aload_n hx_ hb_ dL_law_536 rfl (lv_at hl 5 rfl) ?_
      refine si_const S dL_law_537 ?_
      have gb149 : ∀ x : Nat, (x < m ∨ m + 16 ≤ x) → M127 x = M1 x := fun x u1 => hf132 x (by omega)
      have hc148 : M127 o = some (sArL G 1 (iup g0 0 (sW (isum (f 568) (plT f (lX xs (i + 1))))))) := (gb149 o (by omega)).trans hc16
      refine sc_lald S hK hV hc148 (by omega) dL_law_538 ?_
      rw [show (iup g0 0 (sW (isum (f 568) (plT f (lX xs (i + 1)))))) 0 = sW (isum (f 568) (plT f (lX xs (i + 1)))) from if_pos rfl]
      refine lv_iload hx_ hb_ dL_law_539 (lv_at hl 0 rfl) ?_
      refine sl_i2w S dL_law_541 ?_
      refine sl_cmp0 S (rfl) dL_law_542 ?_
      refine sz_eq (tgt := 548) S dL_law_543 (by decide) (by omega) (fun _ => ?_) (fun c150 => absurd c150 (by omega))
      refine lv_goto (tgt := 2853) hx_ hb_ dL_law_548 (by decide) ?_
      have hc151 : M127 c = some (xO c kn ch) := ((gb149 c (by omega)).trans (hf6 c (by omega))).trans hc0
      have hc152 : stC G M127 (c + 1) f := hst.fr (fun x q8 q9 => (gb149 x (by omega)).trans (hf6 x (by omega)))
      have hc153 : triC G M127 (c + 16) := htr.fr (fun x q8 q9 => (gb149 x (by omega)).trans (hf6 x (by omega)))
      have hc154 : kpC G M127 (c + 31) kb kn ch fs := hkp.fr (fun x q8 => (gb149 x (by omega)).trans (hf6 x (by omega)))
      have hc155 : M127 (c + 32) = some (sObj 7 [.ref (c + 33), .int (sI tn), .int (sI te)]) := ((gb149 ((c + 32)) (by omega)).trans (hf6 (c + 32) (by omega))).trans ht0
      have hc156 : M127 (c + 33) = some (sArr G 300 t) := ((gb149 ((c + 33)) (by omega)).trans (hf6 (c + 33) (by omega))).trans ht1
      have hc157 : catC G M127 (c + 34) wc T := hct.fr (fun x q8 q9 => (gb149 x (by omega)).trans (hf6 x (by omega)))
      have hc158 : orfC G M127 (c + 38) := hft.fr (fun x q8 q9 => (gb149 x (by omega)).trans (hf6 x (by omega)))
      have hc159 : layC G M127 (c + 48) := hly.fr (fun x q8 q9 => (gb149 x (by omega)).trans (hf6 x (by omega)))
      have hc160 : knoC G M127 (c + 54) := hkn.fr (fun x q8 q9 => (gb149 x (by omega)).trans (hf6 x (by omega)))
      have hc161 : excC G M127 (c + 57) := hex.fr (fun x q8 q9 => (gb149 x (by omega)).trans (hf6 x (by omega)))
      have hc162 : M127 (m + 1) = some (sArr G 574 f) := (hf132 (m + 1) (by omega)).trans hc126
      have hc163 : svC G M127 (m + 2) ch fs := hsv.fr (fun x q8 q9 => (hf132 x (by omega)).trans (ga125 x (by omega) (by omega)))
      have hc164 : M127 (m + 3) = some (sArr G 300 t) := ((hf132 (m + 3) (by omega)).trans (ga125 ((m + 3)) (by omega) (by omega))).trans hm3
      have hc165 : M127 (m + 4) = some (sArr G 11 A4) := ((hf132 (m + 4) (by omega)).trans (ga125 ((m + 4)) (by omega) (by omega))).trans hm4
      have hc166 : M127 (m + 5) = some (sArr G 1024 A5) := ((hf132 (m + 5) (by omega)).trans (ga125 ((m + 5)) (by omega) (by omega))).trans hm5
      have hc167 : M127 (m + 6) = some (sArr G 1024 A6) := ((hf132 (m + 6) (by omega)).trans (ga125 ((m + 6)) (by omega) (by omega))).trans hm6
      have hc168 : M127 (m + 7) = some (sArr G 10 A7) := ((hf132 (m + 7) (by omega)).trans (ga125 ((m + 7)) (by omega) (by omega))).trans hm7
      have hc169 : M127 (m + 8) = some (sArr G 10 A8) := ((hf132 (m + 8) (by omega)).trans (ga125 ((m + 8)) (by omega) (by omega))).trans hm8
      have hc170 : M127 (m + 9) = some (sArr G 62 A9) := ((hf132 (m + 9) (by omega)).trans (ga125 ((m + 9)) (by omega) (by omega))).trans hm9
      have hc171 : M127 (m + 10) = some (sArr G 8 A10) := ((hf132 (m + 10) (by omega)).trans (ga125 ((m + 10)) (by omega) (by omega))).trans hm10
      have hc172 : M127 (m + 11) = some (sArr G 8 A11) := ((hf132 (m + 11) (by omega)).trans (ga125 ((m + 11)) (by omega) (by omega))).trans hm11
      have hc173 : M127 (m + 12) = some (sArr G 60 A12) := ((hf132 (m + 12) (by omega)).trans (ga125 ((m + 12)) (by omega) (by omega))).trans hm12
      have hc174 : M127 (m + 13) = some (sArr G 240 A13) := ((hf132 (m + 13) (by omega)).trans (ga125 ((m + 13)) (by omega) (by omega))).trans hm13
      have hc175 : M127 (m + 14) = some (sArr G 574 A14) := ((hf132 (m + 14) (by omega)).trans (ga125 ((m + 14)) (by omega) (by omega))).trans hm14
      have hc176 : M127 (m + 15) = some (sArr G 200 T2) := ((hf132 (m + 15) (by omega)).trans (ga125 ((m + 15)) (by omega) (by omega))).trans hm15
      exact W.widen (by omega) (by omega) (hk _ _ _ _ _ (by omega) ⟨_, _, _, _, _, _, _, _, _, _, _, _, _, _, _, _, _, _, _, _, _, _, _, _, _, _, hc151, hc152, hc153, hc154, hc155, hc156, hc157, hc158, hc159, hc160, hc161, hc142, hc162, hc163, hc164, hc165, hc166, hc167, hc168, hc169, hc170, hc171, hc172, hc173, hc174, hc175, hc176, hc148, lF_s hlF, htp, hwr⟩ hV (lv_sub hl [2, 3, 4, 5, 6] rfl))
    · rw [ez144]
      exact (nx_stoneOf_2_3 c14 c143).elim
  · rw [ez18]
    refine lv_istore (lv' := [(5, .int (sI 0)), (0, .ref z), (1, .ref c), (2, .ref m), (3, .ref o), (4, .int (sI i))]) hx_ hb_ dL_law_500 hl (by decide) rfl (fun ls hl => ?_)
    refine lv_aload_n hx_ hb_ dL_law_502 rfl (lv_at hl 3 rfl) ?_
    refine lv_aload_n hx_ hb_ dL_law_503 rfl (lv_at hl 1 rfl) ?_
    refine lv_iload hx_ hb_ dL_law_504 (lv_at hl 5 rfl) ?_
    refine si_const S dL_law_506 ?_
    refine si_add S dL_law_507 ?_
    refine sc_sld S hV hX hzb (by omega) dL_law_508 ?_
    refine lv_aload_n hx_ hb_ dL_law_509 rfl (lv_at hl 1 rfl) ?_
    refine lv_iload hx_ hb_ dL_law_510 (lv_at hl 5 rfl) ?_
    refine si_const S dL_law_512 ?_
    refine si_add S dL_law_513 ?_
    refine sc_sld S hV hX hzb (by omega) dL_law_514 ?_
    have ga178 : ∀ x : Nat, m ≤ x → x < m + 16 → M1 x = M x := fun x u1 u2 => hf6 x (by omega)
    have hc177 : M1 m = some (mO m th ch tn te sn nm wn) := (ga178 m (by omega) (by omega)).trans hm0
    have hc179 : M1 (m + 1) = some (sArr G 574 f) := (ga178 ((m + 1)) (by omega) (by omega)).trans hm1
    refine sk_Vi E hV (As := [.int (sI (lX xs (i + 1))), .int (sI (lX xs (i + 2)))]) (rest := []) (kX11_stoneOf l_ G b_ M1 N2 m th ch tn te sn nm wn f (lX xs (i + 1)) (lX xs (i + 2)) hc177 hc179 (hok) (⟨lX_r xs _, lX_r xs _⟩)) (cwV 2 S.2.2.2.2 gL_law_X11_stoneOf rfl rfl rfl (by decide +kernel) ⟨Nat.le_of_ble_eq_true rfl, Nat.le_of_ble_eq_true rfl⟩) (ci := 9) hc177 rfl rfl rfl hl.1 (Nat.le_of_ble_eq_true rfl) dL_law_515 (c1 := cc_ + 8) (s1 := ss_ + 50) ⟨⟨rfl, rfl⟩, by omega, by omega⟩ (fun z183 M180 N181 H locs hp182 hV => ?_)
    obtain ⟨hN184, hf185, hq186⟩ := hp182
    rw [hN184] at hV
    rcases hq186 with ⟨c187, ez188, hc189⟩ | ⟨c190, ez191, hc192⟩ | ⟨c193, ez194, hc195⟩ | ⟨c196, ez197, hc198⟩
    · rw [ez188]
      exact (nx_stoneOf_3_0 c17 c187).elim
    · rw [ez191]
      exact (nx_stoneOf_3_1 c17 c190).elim
    · rw [ez194]
      exact (nx_stoneOf_3_2 c17 c193).elim
    · rw [ez197]
      refine lv_istore (lv' := [(6, .int (sI (f (10 + 10 * (lX xs (i + 2)) + (lX xs (i + 1)))))), (5, .int (sI 0)), (0, .ref z), (1, .ref c), (2, .ref m), (3, .ref o), (4, .int (sI i))]) hx_ hb_ dL_law_518 hl (by decide) rfl (fun ls hl => ?_)
      refine lv_aload_n hx_ hb_ dL_law_520 rfl (lv_at hl 4 rfl) ?_
      refine sk_VP E hV (As := []) (rest := []) (kX11_thrown l_ G b_ M180 N2 m 0 ch tn te sn nm wn hc198) (cwV 0 S.2.2.2.2 gL_law_X11_thrown rfl rfl rfl (by decide +kernel) ⟨Nat.le_of_ble_eq_true rfl, Nat.le_of_ble_eq_true rfl⟩) (ci := 9) hc198 rfl rfl rfl hl.1 (Nat.le_of_ble_eq_true rfl) dL_law_521 (c1 := cc_ + 8) (s1 := ss_ + 50) ⟨⟨rfl, rfl⟩, by omega, by omega⟩ (fun H locs hV => ?_)
      refine lv_iload hx_ hb_ dL_law_524 (lv_at hl 1 rfl) ?_
      refine sb_eq (tgt := 531) S dL_law_526 (by decide) (by omega) (fun _ => ?_) (fun c199 => absurd c199 (by omega))
      refine lv_iload hx_ hb_ dL_law_531 (lv_at hl 1 rfl) ?_
      refine sz_ne (tgt := 548) S dL_law_533 (by decide) (by omega) (fun c200 => absurd c200 (by omega)) (fun _ => ?_)
      refine lv_aload_n hx_ hb_ dL_law_536 rfl (lv_at hl 5 rfl) ?_
      refine si_const S dL_law_537 ?_
      have gb202 : ∀ x : Nat, (x < m ∨ m + 16 ≤ x) → M180 x = M1 x := fun x u1 => hf185 x (by omega)
      have hc201 : M180 o = some (sArL G 1 (iup g0 0 (sW (f (10 + 10 * (lX xs (i + 2)) + (lX xs (i + 1))))))) := (gb202 o (by omega)).trans hc19
      refine sc_lald S hK hV hc201 (by omega) dL_law_538 ?_
      rw [show (iup g0 0 (sW (f (10 + 10 * (lX xs (i + 2)) + (lX xs (i + 1)))))) 0 = sW (f (10 + 10 * (lX xs (i + 2)) + (lX xs (i + 1)))) from if_pos rfl]
      refine lv_iload hx_ hb_ dL_law_539 (lv_at hl 0 rfl) ?_
      refine sl_i2w S dL_law_541 ?_
      refine sl_cmp0 S (rfl) dL_law_542 ?_
      refine sz_eq (tgt := 548) S dL_law_543 (by decide) (by omega) (fun _ => ?_) (fun c203 => absurd c203 (by omega))
      refine lv_goto (tgt := 2853) hx_ hb_ dL_law_548 (by decide) ?_
      have hc204 : M180 c = some (xO c kn ch) := ((gb202 c (by omega)).trans (hf6 c (by omega))).trans hc0
      have hc205 : stC G M180 (c + 1) f := hst.fr (fun x q8 q9 => (gb202 x (by omega)).trans (hf6 x (by omega)))
      have hc206 : triC G M180 (c + 16) := htr.fr (fun x q8 q9 => (gb202 x (by omega)).trans (hf6 x (by omega)))
      have hc207 : kpC G M180 (c + 31) kb kn ch fs := hkp.fr (fun x q8 => (gb202 x (by omega)).trans (hf6 x (by omega)))
      have hc208 : M180 (c + 32) = some (sObj 7 [.ref (c + 33), .int (sI tn), .int (sI te)]) := ((gb202 ((c + 32)) (by omega)).trans (hf6 (c + 32) (by omega))).trans ht0
      have hc209 : M180 (c + 33) = some (sArr G 300 t) := ((gb202 ((c + 33)) (by omega)).trans (hf6 (c + 33) (by omega))).trans ht1
      have hc210 : catC G M180 (c + 34) wc T := hct.fr (fun x q8 q9 => (gb202 x (by omega)).trans (hf6 x (by omega)))
      have hc211 : orfC G M180 (c + 38) := hft.fr (fun x q8 q9 => (gb202 x (by omega)).trans (hf6 x (by omega)))
      have hc212 : layC G M180 (c + 48) := hly.fr (fun x q8 q9 => (gb202 x (by omega)).trans (hf6 x (by omega)))
      have hc213 : knoC G M180 (c + 54) := hkn.fr (fun x q8 q9 => (gb202 x (by omega)).trans (hf6 x (by omega)))
      have hc214 : excC G M180 (c + 57) := hex.fr (fun x q8 q9 => (gb202 x (by omega)).trans (hf6 x (by omega)))
      have hc215 : M180 (m + 1) = some (sArr G 574 f) := (hf185 (m + 1) (by omega)).trans hc179
      have hc216 : svC G M180 (m + 2) ch fs := hsv.fr (fun x q8 q9 => (hf185 x (by omega)).trans (ga178 x (by omega) (by omega)))
      have hc217 : M180 (m + 3) = some (sArr G 300 t) := ((hf185 (m + 3) (by omega)).trans (ga178 ((m + 3)) (by omega) (by omega))).trans hm3
      have hc218 : M180 (m + 4) = some (sArr G 11 A4) := ((hf185 (m + 4) (by omega)).trans (ga178 ((m + 4)) (by omega) (by omega))).trans hm4
      have hc219 : M180 (m + 5) = some (sArr G 1024 A5) := ((hf185 (m + 5) (by omega)).trans (ga178 ((m + 5)) (by omega) (by omega))).trans hm5
      have hc220 : M180 (m + 6) = some (sArr G 1024 A6) := ((hf185 (m + 6) (by omega)).trans (ga178 ((m + 6)) (by omega) (by omega))).trans hm6
      have hc221 : M180 (m + 7) = some (sArr G 10 A7) := ((hf185 (m + 7) (by omega)).trans (ga178 ((m + 7)) (by omega) (by omega))).trans hm7
      have hc222 : M180 (m + 8) = some (sArr G 10 A8) := ((hf185 (m + 8) (by omega)).trans (ga178 ((m + 8)) (by omega) (by omega))).trans hm8
      have hc223 : M180 (m + 9) = some (sArr G 62 A9) := ((hf185 (m + 9) (by omega)).trans (ga178 ((m + 9)) (by omega) (by omega))).trans hm9
      have hc224 : M180 (m + 10) = some (sArr G 8 A10) := ((hf185 (m + 10) (by omega)).trans (ga178 ((m + 10)) (by omega) (by omega))).trans hm10
      have hc225 : M180 (m + 11) = some (sArr G 8 A11) := ((hf185 (m + 11) (by omega)).trans (ga178 ((m + 11)) (by omega) (by omega))).trans hm11
      have hc226 : M180 (m + 12) = some (sArr G 60 A12) := ((hf185 (m + 12) (by omega)).trans (ga178 ((m + 12)) (by omega) (by omega))).trans hm12
      have hc227 : M180 (m + 13) = some (sArr G 240 A13) := ((hf185 (m + 13) (by omega)).trans (ga178 ((m + 13)) (by omega) (by omega))).trans hm13
      have hc228 : M180 (m + 14) = some (sArr G 574 A14) := ((hf185 (m + 14) (by omega)).trans (ga178 ((m + 14)) (by omega) (by omega))).trans hm14
      have hc229 : M180 (m + 15) = some (sArr G 200 T2) := ((hf185 (m + 15) (by omega)).trans (ga178 ((m + 15)) (by omega) (by omega))).trans hm15
      exact W.widen (by omega) (by omega) (hk _ _ _ _ _ (by omega) ⟨_, _, _, _, _, _, _, _, _, _, _, _, _, _, _, _, _, _, _, _, _, _, _, _, _, _, hc204, hc205, hc206, hc207, hc208, hc209, hc210, hc211, hc212, hc213, hc214, hc198, hc215, hc216, hc217, hc218, hc219, hc220, hc221, hc222, hc223, hc224, hc225, hc226, hc227, hc228, hc229, hc201, lF_s hlF, htp, hwr⟩ hV (lv_sub hl [2, 3, 4, 5, 6] rfl))

theorem nx_scratch_0_1 {p : Int} {f : sF} {q : Int} (h1 : ¬ ((0 ≤ p ∧ p < f 568) ∧ (0 ≤ q ∧ q < f 568))) (h2 : ((0 ≤ p ∧ p < f 568) ∧ (0 ≤ q ∧ q < f 568)) ∧ p = q) : False := by
  first
  | omega
  | (simp_all; done)
  | (simp_all; omega)
theorem nx_scratch_0_2 {p : Int} {f : sF} {q : Int} (h1 : ¬ ((0 ≤ p ∧ p < f 568) ∧ (0 ≤ q ∧ q < f 568))) (h2 : ((0 ≤ p ∧ p < f 568) ∧ (0 ≤ q ∧ q < f 568)) ∧ p ≠ q ∧ 40 ≤ f 569) : False := by
  first
  | omega
  | (simp_all; done)
  | (simp_all; omega)
theorem nx_scratch_0_3 {p : Int} {f : sF} {q : Int} (h1 : ¬ ((0 ≤ p ∧ p < f 568) ∧ (0 ≤ q ∧ q < f 568))) (h2 : ((0 ≤ p ∧ p < f 568) ∧ (0 ≤ q ∧ q < f 568)) ∧ p ≠ q ∧ f 569 < 40) : False := by
  first
  | omega
  | (simp_all; done)
  | (simp_all; omega)
theorem nx_scratch_1_0 {p : Int} {f : sF} {q : Int} (h1 : ((0 ≤ p ∧ p < f 568) ∧ (0 ≤ q ∧ q < f 568)) ∧ p = q) (h2 : ¬ ((0 ≤ p ∧ p < f 568) ∧ (0 ≤ q ∧ q < f 568))) : False := by
  first
  | omega
  | (simp_all; done)
  | (simp_all; omega)
theorem nx_scratch_1_2 {p : Int} {f : sF} {q : Int} (h1 : ((0 ≤ p ∧ p < f 568) ∧ (0 ≤ q ∧ q < f 568)) ∧ p = q) (h2 : ((0 ≤ p ∧ p < f 568) ∧ (0 ≤ q ∧ q < f 568)) ∧ p ≠ q ∧ 40 ≤ f 569) : False := by
  first
  | omega
  | (simp_all; done)
  | (simp_all; omega)
theorem nx_scratch_1_3 {p : Int} {f : sF} {q : Int} (h1 : ((0 ≤ p ∧ p < f 568) ∧ (0 ≤ q ∧ q < f 568)) ∧ p = q) (h2 : ((0 ≤ p ∧ p < f 568) ∧ (0 ≤ q ∧ q < f 568)) ∧ p ≠ q ∧ f 569 < 40) : False := by
  first
  | omega
  | (simp_all; done)
  | (simp_all; omega)
theorem nx_scratch_2_0 {p : Int} {f : sF} {q : Int} (h1 : ((0 ≤ p ∧ p < f 568) ∧ (0 ≤ q ∧ q < f 568)) ∧ p ≠ q ∧ 40 ≤ f 569) (h2 : ¬ ((0 ≤ p ∧ p < f 568) ∧ (0 ≤ q ∧ q < f 568))) : False := by
  first
  | omega
  | (simp_all; done)
  | (simp_all; omega)
theorem nx_scratch_2_1 {p : Int} {f : sF} {q : Int} (h1 : ((0 ≤ p ∧ p < f 568) ∧ (0 ≤ q ∧ q < f 568)) ∧ p ≠ q ∧ 40 ≤ f 569) (h2 : ((0 ≤ p ∧ p < f 568) ∧ (0 ≤ q ∧ q < f 568)) ∧ p = q) : False := by
  first
  | omega
  | (simp_all; done)
  | (simp_all; omega)
theorem nx_scratch_2_3 {p : Int} {f : sF} {q : Int} (h1 : ((0 ≤ p ∧ p < f 568) ∧ (0 ≤ q ∧ q < f 568)) ∧ p ≠ q ∧ 40 ≤ f 569) (h2 : ((0 ≤ p ∧ p < f 568) ∧ (0 ≤ q ∧ q < f 568)) ∧ p ≠ q ∧ f 569 < 40) : False := by
  first
  | omega
  | (simp_all; done)
  | (simp_all; omega)
theorem nx_scratch_3_0 {p : Int} {f : sF} {q : Int} (h1 : ((0 ≤ p ∧ p < f 568) ∧ (0 ≤ q ∧ q < f 568)) ∧ p ≠ q ∧ f 569 < 40) (h2 : ¬ ((0 ≤ p ∧ p < f 568) ∧ (0 ≤ q ∧ q < f 568))) : False := by
  first
  | omega
  | (simp_all; done)
  | (simp_all; omega)
theorem nx_scratch_3_1 {p : Int} {f : sF} {q : Int} (h1 : ((0 ≤ p ∧ p < f 568) ∧ (0 ≤ q ∧ q < f 568)) ∧ p ≠ q ∧ f 569 < 40) (h2 : ((0 ≤ p ∧ p < f 568) ∧ (0 ≤ q ∧ q < f 568)) ∧ p = q) : False := by
  first
  | omega
  | (simp_all; done)
  | (simp_all; omega)
theorem nx_scratch_3_2 {p : Int} {f : sF} {q : Int} (h1 : ((0 ≤ p ∧ p < f 568) ∧ (0 ≤ q ∧ q < f 568)) ∧ p ≠ q ∧ f 569 < 40) (h2 : ((0 ≤ p ∧ p < f 568) ∧ (0 ≤ q ∧ q < f 568)) ∧ p ≠ q ∧ 40 ≤ f 569) : False := by
  first
  | omega
  | (simp_all; done)
  | (simp_all; omega)
set_option maxHeartbeats 4000000 in
set_option maxRecDepth 100000 in
theorem law_6 {p_ : Program} {l_ : Launch} {e_ : Env} {s_ : State} {m_ : MethodId} {args_ : Array Value} {below_ : List Frame} {meth_ : Method} {c_ : Code} {nm_ : String} {G : sG} {b_ : Nat} {M0 : sM} {N0 : Nat} {Q : State → Prop} (E : sE p_ l_ e_ room_1 s_ m_ args_ below_ meth_ c_ cL_law 9 wsL_law RL nm_ (some .boolean) G b_ M0 N0) (hF_ : xcF s_) (hlt : l_.stackTraces = false) {z L : Nat} {xs : Nat → Int32} (hX : va_X z L xs s_ s_.heap) (hzb : z < b_) {c m o kb : Nat} (hg : c + 60 ≤ m ∧ m + 16 ≤ o ∧ o < kb) {cc_ ss_ : Nat} (hcc : cc_ + 1170 ≤ room_1.cells ∧ ss_ + 14000 ≤ room_1.slots) {q i : Int} (hi : 0 ≤ i ∧ i + 6 ≤ L ∧ (L : Int) ≤ 3072) (hq : 0 ≤ q ∧ q ≤ 600) {M : sM} {N : Nat} (hkN : kb ≤ N) (hI : lI G M c m o kb q) {H : Heap} {locs : List Loc} {ls : Array Slot} (hV : sV G b_ M N s_ H locs) (hl : lv_has ls 9 [(0, .ref z), (1, .ref c), (2, .ref m), (3, .ref o), (4, .int (sI i))])
    (hk : ∀ (M1 : sM) (N1 : Nat) (H1 : Heap) (locs1 : List Loc) (ls1 : Array Slot), kb ≤ N1 → lI G M1 c m o kb (q + 1) → sV G b_ M1 N1 s_ H1 locs1 → lv_has ls1 9 [(0, .ref z), (1, .ref c), (2, .ref m), (3, .ref o), (4, .int (sI i))] → W p_ l_ e_ room_1 s_ m_ args_ below_ meth_ c_ H1 locs1 (cc_ + 1170) (ss_ + 14000) Q (F0 m_ 2853 ls1 [])) : W p_ l_ e_ room_1 s_ m_ args_ below_ meth_ c_ H locs cc_ ss_ Q (F0 m_ 551 ls []) := by
  have S := E.1
  have hx_ := S.1
  have hb_ := S.2.1
  have hK := E.2.2.2.2.1
  have hI2 := hI
  obtain ⟨kn, ch, f, fs, tn, te, t, wc, wn, T, T2, th, sn, nm, g0, A4, A5, A6, A7, A8, A9, A10, A11, A12, A13, A14, hc0, hst, htr, hkp, ht0, ht1, hct, hft, hly, hkn, hex, hm0, hm1, hsv, hm3, hm4, hm5, hm6, hm7, hm8, hm9, hm10, hm11, hm12, hm13, hm14, hm15, ho9, hlF, htp, hwr⟩ := hI2
  have hok := hlF.1.1
  have hdI := hlF.1.2.1
  have hsL := hlF.1.2.2.1
  have hclk := hlF.1.2.2.2
  have hchr : 0 ≤ ch ∧ ch ≤ 15 := ⟨hkp.r.2.2.1, hkp.r.2.2.2⟩
  have htp1 := htp.1
  have htp2 := htp.2.1
  have hwq := wrQ_e hwr
  have hwq1 := hwq.1
  have hwq2 := hwq.2.1
  have kn0 := sOk_N hok
  refine lv_aload_n hx_ hb_ dL_law_551 rfl (lv_at hl 1 rfl) ?_
  refine lv_aload_n hx_ hb_ dL_law_552 rfl (lv_at hl 0 rfl) ?_
  refine lv_iload hx_ hb_ dL_law_553 (lv_at hl 4 rfl) ?_
  refine si_const S dL_law_555 ?_
  refine si_add S dL_law_556 ?_
  refine sc_sld S hV hX hzb (by omega) dL_law_557 ?_
  refine lv_aload_n hx_ hb_ dL_law_558 rfl (lv_at hl 0 rfl) ?_
  refine lv_iload hx_ hb_ dL_law_559 (lv_at hl 4 rfl) ?_
  refine si_const S dL_law_561 ?_
  refine si_add S dL_law_562 ?_
  refine sc_sld S hV hX hzb (by omega) dL_law_563 ?_
  refine lv_aload_n hx_ hb_ dL_law_564 rfl (lv_at hl 3 rfl) ?_
  refine yk_Si (hh := [(0, 10, 13, 25), (0, 10, 17, 19), (0, 10, 21, 13)]) E hF_ hV (As := [.ref c, .int (sI (lX xs (i + 1))), .int (sI (lX xs (i + 2))), .ref o]) (rest := []) (kL_scratch l_ G b_ M N o g0 c kn ch f kb fs (lX xs (i + 1)) (lX xs (i + 2)) hc0 hst hkp ho9 (hlt) (hok) (by omega) (by omega) (⟨lX_r xs _, lX_r xs _⟩) (by omega) (by omega)) (vx_cwSW 4 S.2.2.2.2 gL_law_L_scratch rfl rfl rfl (by decide +kernel) ⟨Nat.le_of_ble_eq_true rfl, Nat.le_of_ble_eq_true rfl⟩) rfl rfl hl.1 (Nat.le_of_ble_eq_true rfl) dL_law_565 (c1 := cc_ + 25) (s1 := ss_ + 3000) ⟨⟨rfl, rfl⟩, by omega, by omega⟩ (fun z4 M1 N2 H locs hp3 hV => ?_)
  obtain ⟨kn15, hN6, hf7, hq8⟩ := hp3
  rcases hq8 with ⟨c9, ez10, hc11, hc12, hc13, hc14⟩ | ⟨c15, ez16, hc17, hc18, hc19, hc20⟩ | ⟨c21, ez22, hc23, hc24, hc25, hc26⟩ | ⟨c27, ez28, hc29, hc30, hc31, hc32⟩
  · rw [ez10]
    refine lv_istore (lv' := [(5, .int (sI 1)), (0, .ref z), (1, .ref c), (2, .ref m), (3, .ref o), (4, .int (sI i))]) hx_ hb_ dL_law_568 hl (by decide) rfl (fun ls hl => ?_)
    refine lv_aload_n hx_ hb_ dL_law_570 rfl (lv_at hl 3 rfl) ?_
    refine lv_aload_n hx_ hb_ dL_law_571 rfl (lv_at hl 1 rfl) ?_
    refine lv_iload hx_ hb_ dL_law_572 (lv_at hl 5 rfl) ?_
    refine si_const S dL_law_574 ?_
    refine si_add S dL_law_575 ?_
    refine sc_sld S hV hX hzb (by omega) dL_law_576 ?_
    refine lv_aload_n hx_ hb_ dL_law_577 rfl (lv_at hl 1 rfl) ?_
    refine lv_iload hx_ hb_ dL_law_578 (lv_at hl 5 rfl) ?_
    refine si_const S dL_law_580 ?_
    refine si_add S dL_law_581 ?_
    refine sc_sld S hV hX hzb (by omega) dL_law_582 ?_
    have ga34 : ∀ x : Nat, m ≤ x → x < m + 16 → M1 x = M x := fun x u1 u2 => hf7 x (by omega) (by omega) (by omega) (by omega) (by omega)
    have hc33 : M1 m = some (mO m th ch tn te sn nm wn) := (ga34 m (by omega) (by omega)).trans hm0
    have hc35 : M1 (m + 1) = some (sArr G 574 f) := (ga34 ((m + 1)) (by omega) (by omega)).trans hm1
    have hc36 : svC G M1 (m + 2) ch fs := hsv.fr (fun x q8 q9 => ga34 x (by omega) (by omega))
    refine sk_Vi E hV (As := [.int (sI (lX xs (i + 1))), .int (sI (lX xs (i + 2)))]) (rest := []) (kX11_scratch l_ G b_ M1 N2 m th ch tn te sn nm wn f fs (lX xs (i + 1)) (lX xs (i + 2)) hc33 hc35 hc36 (hok) (hchr) (⟨lX_r xs _, lX_r xs _⟩)) (cwV 2 S.2.2.2.2 gL_law_X11_scratch rfl rfl rfl (by decide +kernel) ⟨Nat.le_of_ble_eq_true rfl, Nat.le_of_ble_eq_true rfl⟩) (ci := 9) hc33 rfl rfl rfl hl.1 (Nat.le_of_ble_eq_true rfl) dL_law_583 (c1 := cc_ + 25) (s1 := ss_ + 3000) ⟨⟨rfl, rfl⟩, by omega, by omega⟩ (fun z40 M37 N38 H locs hp39 hV => ?_)
    obtain ⟨hN41, hf42, hq43⟩ := hp39
    rw [hN41] at hV
    rcases hq43 with ⟨c44, ez45, hc46, hc47, hc48⟩ | ⟨c49, ez50, hc51, hc52, hc53⟩ | ⟨c54, ez55, hc56, hc57, hc58⟩ | ⟨c59, ez60, hc61, hc62, hc63⟩
    · rw [ez45]
      refine lv_istore (lv' := [(6, .int (sI 0)), (5, .int (sI 1)), (0, .ref z), (1, .ref c), (2, .ref m), (3, .ref o), (4, .int (sI i))]) hx_ hb_ dL_law_586 hl (by decide) rfl (fun ls hl => ?_)
      refine lv_aload_n hx_ hb_ dL_law_588 rfl (lv_at hl 4 rfl) ?_
      refine sk_VP E hV (As := []) (rest := []) (kX11_thrown l_ G b_ M37 N2 m 1 ch tn te sn nm wn hc46) (cwV 0 S.2.2.2.2 gL_law_X11_thrown rfl rfl rfl (by decide +kernel) ⟨Nat.le_of_ble_eq_true rfl, Nat.le_of_ble_eq_true rfl⟩) (ci := 9) hc46 rfl rfl rfl hl.1 (Nat.le_of_ble_eq_true rfl) dL_law_589 (c1 := cc_ + 25) (s1 := ss_ + 3000) ⟨⟨rfl, rfl⟩, by omega, by omega⟩ (fun H locs hV => ?_)
      refine lv_iload hx_ hb_ dL_law_592 (lv_at hl 1 rfl) ?_
      refine sb_eq (tgt := 599) S dL_law_594 (by decide) (by omega) (fun _ => ?_) (fun c64 => absurd c64 (by omega))
      refine lv_iload hx_ hb_ dL_law_599 (lv_at hl 1 rfl) ?_
      refine sz_ne (tgt := 616) S dL_law_601 (by decide) (by omega) (fun _ => ?_) (fun c65 => absurd c65 (by omega))
      refine lv_goto (tgt := 2853) hx_ hb_ dL_law_616 (by decide) ?_
      have gb67 : ∀ x : Nat, (x < m ∨ m + 16 ≤ x) → M37 x = M1 x := fun x u1 => hf42 x (by omega) (by omega) (by omega)
      have hc66 : M37 c = some (xO c kn15 ch) := (gb67 c (by omega)).trans hc11
      have hc68 : stC G M37 (c + 1) f := hc12.fr (fun x q8 q9 => gb67 x (by omega))
      have hc69 : triC G M37 (c + 16) := htr.fr (fun x q8 q9 => (gb67 x (by omega)).trans (hf7 x (by omega) (by omega) (by omega) (by omega) (by omega)))
      have hc70 : kpC G M37 (c + 31) kb kn15 ch fs := hc13.fr (fun x q8 => gb67 x (by omega))
      have hc71 : M37 (c + 32) = some (sObj 7 [.ref (c + 33), .int (sI tn), .int (sI te)]) := ((gb67 ((c + 32)) (by omega)).trans (hf7 (c + 32) (by omega) (by omega) (by omega) (by omega) (by omega))).trans ht0
      have hc72 : M37 (c + 33) = some (sArr G 300 t) := ((gb67 ((c + 33)) (by omega)).trans (hf7 (c + 33) (by omega) (by omega) (by omega) (by omega) (by omega))).trans ht1
      have hc73 : catC G M37 (c + 34) wc T := hct.fr (fun x q8 q9 => (gb67 x (by omega)).trans (hf7 x (by omega) (by omega) (by omega) (by omega) (by omega)))
      have hc74 : orfC G M37 (c + 38) := hft.fr (fun x q8 q9 => (gb67 x (by omega)).trans (hf7 x (by omega) (by omega) (by omega) (by omega) (by omega)))
      have hc75 : layC G M37 (c + 48) := hly.fr (fun x q8 q9 => (gb67 x (by omega)).trans (hf7 x (by omega) (by omega) (by omega) (by omega) (by omega)))
      have hc76 : knoC G M37 (c + 54) := hkn.fr (fun x q8 q9 => (gb67 x (by omega)).trans (hf7 x (by omega) (by omega) (by omega) (by omega) (by omega)))
      have hc77 : excC G M37 (c + 57) := hex.fr (fun x q8 q9 => (gb67 x (by omega)).trans (hf7 x (by omega) (by omega) (by omega) (by omega) (by omega)))
      have hc78 : M37 (m + 3) = some (sArr G 300 t) := ((hf42 (m + 3) (by omega) (by omega) (by omega)).trans (ga34 ((m + 3)) (by omega) (by omega))).trans hm3
      have hc79 : M37 (m + 4) = some (sArr G 11 A4) := ((hf42 (m + 4) (by omega) (by omega) (by omega)).trans (ga34 ((m + 4)) (by omega) (by omega))).trans hm4
      have hc80 : M37 (m + 5) = some (sArr G 1024 A5) := ((hf42 (m + 5) (by omega) (by omega) (by omega)).trans (ga34 ((m + 5)) (by omega) (by omega))).trans hm5
      have hc81 : M37 (m + 6) = some (sArr G 1024 A6) := ((hf42 (m + 6) (by omega) (by omega) (by omega)).trans (ga34 ((m + 6)) (by omega) (by omega))).trans hm6
      have hc82 : M37 (m + 7) = some (sArr G 10 A7) := ((hf42 (m + 7) (by omega) (by omega) (by omega)).trans (ga34 ((m + 7)) (by omega) (by omega))).trans hm7
      have hc83 : M37 (m + 8) = some (sArr G 10 A8) := ((hf42 (m + 8) (by omega) (by omega) (by omega)).trans (ga34 ((m + 8)) (by omega) (by omega))).trans hm8
      have hc84 : M37 (m + 9) = some (sArr G 62 A9) := ((hf42 (m + 9) (by omega) (by omega) (by omega)).trans (ga34 ((m + 9)) (by omega) (by omega))).trans hm9
      have hc85 : M37 (m + 10) = some (sArr G 8 A10) := ((hf42 (m + 10) (by omega) (by omega) (by omega)).trans (ga34 ((m + 10)) (by omega) (by omega))).trans hm10
      have hc86 : M37 (m + 11) = some (sArr G 8 A11) := ((hf42 (m + 11) (by omega) (by omega) (by omega)).trans (ga34 ((m + 11)) (by omega) (by omega))).trans hm11
      have hc87 : M37 (m + 12) = some (sArr G 60 A12) := ((hf42 (m + 12) (by omega) (by omega) (by omega)).trans (ga34 ((m + 12)) (by omega) (by omega))).trans hm12
      have hc88 : M37 (m + 13) = some (sArr G 240 A13) := ((hf42 (m + 13) (by omega) (by omega) (by omega)).trans (ga34 ((m + 13)) (by omega) (by omega))).trans hm13
      have hc89 : M37 (m + 14) = some (sArr G 574 A14) := ((hf42 (m + 14) (by omega) (by omega) (by omega)).trans (ga34 ((m + 14)) (by omega) (by omega))).trans hm14
      have hc90 : M37 (m + 15) = some (sArr G 200 T2) := ((hf42 (m + 15) (by omega) (by omega) (by omega)).trans (ga34 ((m + 15)) (by omega) (by omega))).trans hm15
      have hc91 : M37 o = some (sArL G 1 g0) := (gb67 o (by omega)).trans hc14
      exact W.widen (by omega) (by omega) (hk _ _ _ _ _ (by omega) ⟨_, _, _, _, _, _, _, _, _, _, _, _, _, _, _, _, _, _, _, _, _, _, _, _, _, _, hc66, hc68, hc69, hc70, hc71, hc72, hc73, hc74, hc75, hc76, hc77, hc46, hc47, hc48, hc78, hc79, hc80, hc81, hc82, hc83, hc84, hc85, hc86, hc87, hc88, hc89, hc90, hc91, lF_s hlF, htp, hwr⟩ hV (lv_sub hl [2, 3, 4, 5, 6] rfl))
    · rw [ez50]
      exact (nx_scratch_0_1 c9 c49).elim
    · rw [ez55]
      exact (nx_scratch_0_2 c9 c54).elim
    · rw [ez60]
      exact (nx_scratch_0_3 c9 c59).elim
  · rw [ez16]
    refine lv_istore (lv' := [(5, .int (sI 2)), (0, .ref z), (1, .ref c), (2, .ref m), (3, .ref o), (4, .int (sI i))]) hx_ hb_ dL_law_568 hl (by decide) rfl (fun ls hl => ?_)
    refine lv_aload_n hx_ hb_ dL_law_570 rfl (lv_at hl 3 rfl) ?_
    refine lv_aload_n hx_ hb_ dL_law_571 rfl (lv_at hl 1 rfl) ?_
    refine lv_iload hx_ hb_ dL_law_572 (lv_at hl 5 rfl) ?_
    refine si_const S dL_law_574 ?_
    refine si_add S dL_law_575 ?_
    refine sc_sld S hV hX hzb (by omega) dL_law_576 ?_
    refine lv_aload_n hx_ hb_ dL_law_577 rfl (lv_at hl 1 rfl) ?_
    refine lv_iload hx_ hb_ dL_law_578 (lv_at hl 5 rfl) ?_
    refine si_const S dL_law_580 ?_
    refine si_add S dL_law_581 ?_
    refine sc_sld S hV hX hzb (by omega) dL_law_582 ?_
    have ga93 : ∀ x : Nat, m ≤ x → x < m + 16 → M1 x = M x := fun x u1 u2 => hf7 x (by omega) (by omega) (by omega) (by omega) (by omega)
    have hc92 : M1 m = some (mO m th ch tn te sn nm wn) := (ga93 m (by omega) (by omega)).trans hm0
    have hc94 : M1 (m + 1) = some (sArr G 574 f) := (ga93 ((m + 1)) (by omega) (by omega)).trans hm1
    have hc95 : svC G M1 (m + 2) ch fs := hsv.fr (fun x q8 q9 => ga93 x (by omega) (by omega))
    refine sk_Vi E hV (As := [.int (sI (lX xs (i + 1))), .int (sI (lX xs (i + 2)))]) (rest := []) (kX11_scratch l_ G b_ M1 N2 m th ch tn te sn nm wn f fs (lX xs (i + 1)) (lX xs (i + 2)) hc92 hc94 hc95 (hok) (hchr) (⟨lX_r xs _, lX_r xs _⟩)) (cwV 2 S.2.2.2.2 gL_law_X11_scratch rfl rfl rfl (by decide +kernel) ⟨Nat.le_of_ble_eq_true rfl, Nat.le_of_ble_eq_true rfl⟩) (ci := 9) hc92 rfl rfl rfl hl.1 (Nat.le_of_ble_eq_true rfl) dL_law_583 (c1 := cc_ + 25) (s1 := ss_ + 3000) ⟨⟨rfl, rfl⟩, by omega, by omega⟩ (fun z99 M96 N97 H locs hp98 hV => ?_)
    obtain ⟨hN100, hf101, hq102⟩ := hp98
    rw [hN100] at hV
    rcases hq102 with ⟨c103, ez104, hc105, hc106, hc107⟩ | ⟨c108, ez109, hc110, hc111, hc112⟩ | ⟨c113, ez114, hc115, hc116, hc117⟩ | ⟨c118, ez119, hc120, hc121, hc122⟩
    · rw [ez104]
      exact (nx_scratch_1_0 c15 c103).elim
    · rw [ez109]
      refine lv_istore (lv' := [(6, .int (sI 0)), (5, .int (sI 2)), (0, .ref z), (1, .ref c), (2, .ref m), (3, .ref o), (4, .int (sI i))]) hx_ hb_ dL_law_586 hl (by decide) rfl (fun ls hl => ?_)
      refine lv_aload_n hx_ hb_ dL_law_588 rfl (lv_at hl 4 rfl) ?_
      refine sk_VP E hV (As := []) (rest := []) (kX11_thrown l_ G b_ M96 N2 m 2 ch tn te sn nm wn hc110) (cwV 0 S.2.2.2.2 gL_law_X11_thrown rfl rfl rfl (by decide +kernel) ⟨Nat.le_of_ble_eq_true rfl, Nat.le_of_ble_eq_true rfl⟩) (ci := 9) hc110 rfl rfl rfl hl.1 (Nat.le_of_ble_eq_true rfl) dL_law_589 (c1 := cc_ + 25) (s1 := ss_ + 3000) ⟨⟨rfl, rfl⟩, by omega, by omega⟩ (fun H locs hV => ?_)
      refine lv_iload hx_ hb_ dL_law_592 (lv_at hl 1 rfl) ?_
      refine sb_eq (tgt := 599) S dL_law_594 (by decide) (by omega) (fun _ => ?_) (fun c123 => absurd c123 (by omega))
      refine lv_iload hx_ hb_ dL_law_599 (lv_at hl 1 rfl) ?_
      refine sz_ne (tgt := 616) S dL_law_601 (by decide) (by omega) (fun _ => ?_) (fun c124 => absurd c124 (by omega))
      refine lv_goto (tgt := 2853) hx_ hb_ dL_law_616 (by decide) ?_
      have gb126 : ∀ x : Nat, (x < m ∨ m + 16 ≤ x) → M96 x = M1 x := fun x u1 => hf101 x (by omega) (by omega) (by omega)
      have hc125 : M96 c = some (xO c kn15 ch) := (gb126 c (by omega)).trans hc17
      have hc127 : stC G M96 (c + 1) f := hc18.fr (fun x q8 q9 => gb126 x (by omega))
      have hc128 : triC G M96 (c + 16) := htr.fr (fun x q8 q9 => (gb126 x (by omega)).trans (hf7 x (by omega) (by omega) (by omega) (by omega) (by omega)))
      have hc129 : kpC G M96 (c + 31) kb kn15 ch fs := hc19.fr (fun x q8 => gb126 x (by omega))
      have hc130 : M96 (c + 32) = some (sObj 7 [.ref (c + 33), .int (sI tn), .int (sI te)]) := ((gb126 ((c + 32)) (by omega)).trans (hf7 (c + 32) (by omega) (by omega) (by omega) (by omega) (by omega))).trans ht0
      have hc131 : M96 (c + 33) = some (sArr G 300 t) := ((gb126 ((c + 33)) (by omega)).trans (hf7 (c + 33) (by omega) (by omega) (by omega) (by omega) (by omega))).trans ht1
      have hc132 : catC G M96 (c + 34) wc T := hct.fr (fun x q8 q9 => (gb126 x (by omega)).trans (hf7 x (by omega) (by omega) (by omega) (by omega) (by omega)))
      have hc133 : orfC G M96 (c + 38) := hft.fr (fun x q8 q9 => (gb126 x (by omega)).trans (hf7 x (by omega) (by omega) (by omega) (by omega) (by omega)))
      have hc134 : layC G M96 (c + 48) := hly.fr (fun x q8 q9 => (gb126 x (by omega)).trans (hf7 x (by omega) (by omega) (by omega) (by omega) (by omega)))
      have hc135 : knoC G M96 (c + 54) := hkn.fr (fun x q8 q9 => (gb126 x (by omega)).trans (hf7 x (by omega) (by omega) (by omega) (by omega) (by omega)))
      have hc136 : excC G M96 (c + 57) := hex.fr (fun x q8 q9 => (gb126 x (by omega)).trans (hf7 x (by omega) (by omega) (by omega) (by omega) (by omega)))
      have hc137 : M96 (m + 3) = some (sArr G 300 t) := ((hf101 (m + 3) (by omega) (by omega) (by omega)).trans (ga93 ((m + 3)) (by omega) (by omega))).trans hm3
      have hc138 : M96 (m + 4) = some (sArr G 11 A4) := ((hf101 (m + 4) (by omega) (by omega) (by omega)).trans (ga93 ((m + 4)) (by omega) (by omega))).trans hm4
      have hc139 : M96 (m + 5) = some (sArr G 1024 A5) := ((hf101 (m + 5) (by omega) (by omega) (by omega)).trans (ga93 ((m + 5)) (by omega) (by omega))).trans hm5
      have hc140 : M96 (m + 6) = some (sArr G 1024 A6) := ((hf101 (m + 6) (by omega) (by omega) (by omega)).trans (ga93 ((m + 6)) (by omega) (by omega))).trans hm6
      have hc141 : M96 (m + 7) = some (sArr G 10 A7) := ((hf101 (m + 7) (by omega) (by omega) (by omega)).trans (ga93 ((m + 7)) (by omega) (by omega))).trans hm7
      have hc142 : M96 (m + 8) = some (sArr G 10 A8) := ((hf101 (m + 8) (by omega) (by omega) (by omega)).trans (ga93 ((m + 8)) (by omega) (by omega))).trans hm8
      have hc143 : M96 (m + 9) = some (sArr G 62 A9) := ((hf101 (m + 9) (by omega) (by omega) (by omega)).trans (ga93 ((m + 9)) (by omega) (by omega))).trans hm9
      have hc144 : M96 (m + 10) = some (sArr G 8 A10) := ((hf101 (m + 10) (by omega) (by omega) (by omega)).trans (ga93 ((m + 10)) (by omega) (by omega))).trans hm10
      have hc145 : M96 (m + 11) = some (sArr G 8 A11) := ((hf101 (m + 11) (by omega) (by omega) (by omega)).trans (ga93 ((m + 11)) (by omega) (by omega))).trans hm11
      have hc146 : M96 (m + 12) = some (sArr G 60 A12) := ((hf101 (m + 12) (by omega) (by omega) (by omega)).trans (ga93 ((m + 12)) (by omega) (by omega))).trans hm12
      have hc147 : M96 (m + 13) = some (sArr G 240 A13) := ((hf101 (m + 13) (by omega) (by omega) (by omega)).trans (ga93 ((m + 13)) (by omega) (by omega))).trans hm13
      have hc148 : M96 (m + 14) = some (sArr G 574 A14) := ((hf101 (m + 14) (by omega) (by omega) (by omega)).trans (ga93 ((m + 14)) (by omega) (by omega))).trans hm14
      have hc149 : M96 (m + 15) = some (sArr G 200 T2) := ((hf101 (m + 15) (by omega) (by omega) (by omega)).trans (ga93 ((m + 15)) (by omega) (by omega))).trans hm15
      have hc150 : M96 o = some (sArL G 1 g0) := (gb126 o (by omega)).trans hc20
      exact W.widen (by omega) (by omega) (hk _ _ _ _ _ (by omega) ⟨_, _, _, _, _, _, _, _, _, _, _, _, _, _, _, _, _, _, _, _, _, _, _, _, _, _, hc125, hc127, hc128, hc129, hc130, hc131, hc132, hc133, hc134, hc135, hc136, hc110, hc111, hc112, hc137, hc138, hc139, hc140, hc141, hc142, hc143, hc144, hc145, hc146, hc147, hc148, hc149, hc150, lF_s hlF, htp, hwr⟩ hV (lv_sub hl [2, 3, 4, 5, 6] rfl))
    · rw [ez114]
      exact (nx_scratch_1_2 c15 c113).elim
    · rw [ez119]
      exact (nx_scratch_1_3 c15 c118).elim
  · rw [ez22]
    refine lv_istore (lv' := [(5, .int (sI 3)), (0, .ref z), (1, .ref c), (2, .ref m), (3, .ref o), (4, .int (sI i))]) hx_ hb_ dL_law_568 hl (by decide) rfl (fun ls hl => ?_)
    refine lv_aload_n hx_ hb_ dL_law_570 rfl (lv_at hl 3 rfl) ?_
    refine lv_aload_n hx_ hb_ dL_law_571 rfl (lv_at hl 1 rfl) ?_
    refine lv_iload hx_ hb_ dL_law_572 (lv_at hl 5 rfl) ?_
    refine si_const S dL_law_574 ?_
    refine si_add S dL_law_575 ?_
    refine sc_sld S hV hX hzb (by omega) dL_law_576 ?_
    refine lv_aload_n hx_ hb_ dL_law_577 rfl (lv_at hl 1 rfl) ?_
    refine lv_iload hx_ hb_ dL_law_578 (lv_at hl 5 rfl) ?_
    refine si_const S dL_law_580 ?_
    refine si_add S dL_law_581 ?_
    refine sc_sld S hV hX hzb (by omega) dL_law_582 ?_
    have ga152 : ∀ x : Nat, m ≤ x → x < m + 16 → M1 x = M x := fun x u1 u2 => hf7 x (by omega) (by omega) (by omega) (by omega) (by omega)
    have hc151 : M1 m = some (mO m th ch tn te sn nm wn) := (ga152 m (by omega) (by omega)).trans hm0
    have hc153 : M1 (m + 1) = some (sArr G 574 f) := (ga152 ((m + 1)) (by omega) (by omega)).trans hm1
    have hc154 : svC G M1 (m + 2) ch fs := hsv.fr (fun x q8 q9 => ga152 x (by omega) (by omega))
    refine sk_Vi E hV (As := [.int (sI (lX xs (i + 1))), .int (sI (lX xs (i + 2)))]) (rest := []) (kX11_scratch l_ G b_ M1 N2 m th ch tn te sn nm wn f fs (lX xs (i + 1)) (lX xs (i + 2)) hc151 hc153 hc154 (hok) (hchr) (⟨lX_r xs _, lX_r xs _⟩)) (cwV 2 S.2.2.2.2 gL_law_X11_scratch rfl rfl rfl (by decide +kernel) ⟨Nat.le_of_ble_eq_true rfl, Nat.le_of_ble_eq_true rfl⟩) (ci := 9) hc151 rfl rfl rfl hl.1 (Nat.le_of_ble_eq_true rfl) dL_law_583 (c1 := cc_ + 25) (s1 := ss_ + 3000) ⟨⟨rfl, rfl⟩, by omega, by omega⟩ (fun z158 M155 N156 H locs hp157 hV => ?_)
    obtain ⟨hN159, hf160, hq161⟩ := hp157
    rw [hN159] at hV
    rcases hq161 with ⟨c162, ez163, hc164, hc165, hc166⟩ | ⟨c167, ez168, hc169, hc170, hc171⟩ | ⟨c172, ez173, hc174, hc175, hc176⟩ | ⟨c177, ez178, hc179, hc180, hc181⟩
    · rw [ez163]
      exact (nx_scratch_2_0 c21 c162).elim
    · rw [ez168]
      exact (nx_scratch_2_1 c21 c167).elim
    · rw [ez173]
      refine lv_istore (lv' := [(6, .int (sI 0)), (5, .int (sI 3)), (0, .ref z), (1, .ref c), (2, .ref m), (3, .ref o), (4, .int (sI i))]) hx_ hb_ dL_law_586 hl (by decide) rfl (fun ls hl => ?_)
      refine lv_aload_n hx_ hb_ dL_law_588 rfl (lv_at hl 4 rfl) ?_
      refine sk_VP E hV (As := []) (rest := []) (kX11_thrown l_ G b_ M155 N2 m 3 ch tn te sn nm wn hc174) (cwV 0 S.2.2.2.2 gL_law_X11_thrown rfl rfl rfl (by decide +kernel) ⟨Nat.le_of_ble_eq_true rfl, Nat.le_of_ble_eq_true rfl⟩) (ci := 9) hc174 rfl rfl rfl hl.1 (Nat.le_of_ble_eq_true rfl) dL_law_589 (c1 := cc_ + 25) (s1 := ss_ + 3000) ⟨⟨rfl, rfl⟩, by omega, by omega⟩ (fun H locs hV => ?_)
      refine lv_iload hx_ hb_ dL_law_592 (lv_at hl 1 rfl) ?_
      refine sb_eq (tgt := 599) S dL_law_594 (by decide) (by omega) (fun _ => ?_) (fun c182 => absurd c182 (by omega))
      refine lv_iload hx_ hb_ dL_law_599 (lv_at hl 1 rfl) ?_
      refine sz_ne (tgt := 616) S dL_law_601 (by decide) (by omega) (fun _ => ?_) (fun c183 => absurd c183 (by omega))
      refine lv_goto (tgt := 2853) hx_ hb_ dL_law_616 (by decide) ?_
      have gb185 : ∀ x : Nat, (x < m ∨ m + 16 ≤ x) → M155 x = M1 x := fun x u1 => hf160 x (by omega) (by omega) (by omega)
      have hc184 : M155 c = some (xO c kn15 ch) := (gb185 c (by omega)).trans hc23
      have hc186 : stC G M155 (c + 1) f := hc24.fr (fun x q8 q9 => gb185 x (by omega))
      have hc187 : triC G M155 (c + 16) := htr.fr (fun x q8 q9 => (gb185 x (by omega)).trans (hf7 x (by omega) (by omega) (by omega) (by omega) (by omega)))
      have hc188 : kpC G M155 (c + 31) kb kn15 ch fs := hc25.fr (fun x q8 => gb185 x (by omega))
      have hc189 : M155 (c + 32) = some (sObj 7 [.ref (c + 33), .int (sI tn), .int (sI te)]) := ((gb185 ((c + 32)) (by omega)).trans (hf7 (c + 32) (by omega) (by omega) (by omega) (by omega) (by omega))).trans ht0
      have hc190 : M155 (c + 33) = some (sArr G 300 t) := ((gb185 ((c + 33)) (by omega)).trans (hf7 (c + 33) (by omega) (by omega) (by omega) (by omega) (by omega))).trans ht1
      have hc191 : catC G M155 (c + 34) wc T := hct.fr (fun x q8 q9 => (gb185 x (by omega)).trans (hf7 x (by omega) (by omega) (by omega) (by omega) (by omega)))
      have hc192 : orfC G M155 (c + 38) := hft.fr (fun x q8 q9 => (gb185 x (by omega)).trans (hf7 x (by omega) (by omega) (by omega) (by omega) (by omega)))
      have hc193 : layC G M155 (c + 48) := hly.fr (fun x q8 q9 => (gb185 x (by omega)).trans (hf7 x (by omega) (by omega) (by omega) (by omega) (by omega)))
      have hc194 : knoC G M155 (c + 54) := hkn.fr (fun x q8 q9 => (gb185 x (by omega)).trans (hf7 x (by omega) (by omega) (by omega) (by omega) (by omega)))
      have hc195 : excC G M155 (c + 57) := hex.fr (fun x q8 q9 => (gb185 x (by omega)).trans (hf7 x (by omega) (by omega) (by omega) (by omega) (by omega)))
      have hc196 : M155 (m + 3) = some (sArr G 300 t) := ((hf160 (m + 3) (by omega) (by omega) (by omega)).trans (ga152 ((m + 3)) (by omega) (by omega))).trans hm3
      have hc197 : M155 (m + 4) = some (sArr G 11 A4) := ((hf160 (m + 4) (by omega) (by omega) (by omega)).trans (ga152 ((m + 4)) (by omega) (by omega))).trans hm4
      have hc198 : M155 (m + 5) = some (sArr G 1024 A5) := ((hf160 (m + 5) (by omega) (by omega) (by omega)).trans (ga152 ((m + 5)) (by omega) (by omega))).trans hm5
      have hc199 : M155 (m + 6) = some (sArr G 1024 A6) := ((hf160 (m + 6) (by omega) (by omega) (by omega)).trans (ga152 ((m + 6)) (by omega) (by omega))).trans hm6
      have hc200 : M155 (m + 7) = some (sArr G 10 A7) := ((hf160 (m + 7) (by omega) (by omega) (by omega)).trans (ga152 ((m + 7)) (by omega) (by omega))).trans hm7
      have hc201 : M155 (m + 8) = some (sArr G 10 A8) := ((hf160 (m + 8) (by omega) (by omega) (by omega)).trans (ga152 ((m + 8)) (by omega) (by omega))).trans hm8
      have hc202 : M155 (m + 9) = some (sArr G 62 A9) := ((hf160 (m + 9) (by omega) (by omega) (by omega)).trans (ga152 ((m + 9)) (by omega) (by omega))).trans hm9
      have hc203 : M155 (m + 10) = some (sArr G 8 A10) := ((hf160 (m + 10) (by omega) (by omega) (by omega)).trans (ga152 ((m + 10)) (by omega) (by omega))).trans hm10
      have hc204 : M155 (m + 11) = some (sArr G 8 A11) := ((hf160 (m + 11) (by omega) (by omega) (by omega)).trans (ga152 ((m + 11)) (by omega) (by omega))).trans hm11
      have hc205 : M155 (m + 12) = some (sArr G 60 A12) := ((hf160 (m + 12) (by omega) (by omega) (by omega)).trans (ga152 ((m + 12)) (by omega) (by omega))).trans hm12
      have hc206 : M155 (m + 13) = some (sArr G 240 A13) := ((hf160 (m + 13) (by omega) (by omega) (by omega)).trans (ga152 ((m + 13)) (by omega) (by omega))).trans hm13
      have hc207 : M155 (m + 14) = some (sArr G 574 A14) := ((hf160 (m + 14) (by omega) (by omega) (by omega)).trans (ga152 ((m + 14)) (by omega) (by omega))).trans hm14
      have hc208 : M155 (m + 15) = some (sArr G 200 T2) := ((hf160 (m + 15) (by omega) (by omega) (by omega)).trans (ga152 ((m + 15)) (by omega) (by omega))).trans hm15
      have hc209 : M155 o = some (sArL G 1 g0) := (gb185 o (by omega)).trans hc26
      exact W.widen (by omega) (by omega) (hk _ _ _ _ _ (by omega) ⟨_, _, _, _, _, _, _, _, _, _, _, _, _, _, _, _, _, _, _, _, _, _, _, _, _, _, hc184, hc186, hc187, hc188, hc189, hc190, hc191, hc192, hc193, hc194, hc195, hc174, hc175, hc176, hc196, hc197, hc198, hc199, hc200, hc201, hc202, hc203, hc204, hc205, hc206, hc207, hc208, hc209, lF_s hlF, htp, hwr⟩ hV (lv_sub hl [2, 3, 4, 5, 6] rfl))
    · rw [ez178]
      exact (nx_scratch_2_3 c21 c177).elim
  · rw [ez28]
    refine lv_istore (lv' := [(5, .int (sI 0)), (0, .ref z), (1, .ref c), (2, .ref m), (3, .ref o), (4, .int (sI i))]) hx_ hb_ dL_law_568 hl (by decide) rfl (fun ls hl => ?_)
    refine lv_aload_n hx_ hb_ dL_law_570 rfl (lv_at hl 3 rfl) ?_
    refine lv_aload_n hx_ hb_ dL_law_571 rfl (lv_at hl 1 rfl) ?_
    refine lv_iload hx_ hb_ dL_law_572 (lv_at hl 5 rfl) ?_
    refine si_const S dL_law_574 ?_
    refine si_add S dL_law_575 ?_
    refine sc_sld S hV hX hzb (by omega) dL_law_576 ?_
    refine lv_aload_n hx_ hb_ dL_law_577 rfl (lv_at hl 1 rfl) ?_
    refine lv_iload hx_ hb_ dL_law_578 (lv_at hl 5 rfl) ?_
    refine si_const S dL_law_580 ?_
    refine si_add S dL_law_581 ?_
    refine sc_sld S hV hX hzb (by omega) dL_law_582 ?_
    have ga211 : ∀ x : Nat, m ≤ x → x < m + 16 → M1 x = M x := fun x u1 u2 => hf7 x (by omega) (by omega) (by omega) (by omega) (by omega)
    have hc210 : M1 m = some (mO m th ch tn te sn nm wn) := (ga211 m (by omega) (by omega)).trans hm0
    have hc212 : M1 (m + 1) = some (sArr G 574 f) := (ga211 ((m + 1)) (by omega) (by omega)).trans hm1
    have hc213 : svC G M1 (m + 2) ch fs := hsv.fr (fun x q8 q9 => ga211 x (by omega) (by omega))
    refine sk_Vi E hV (As := [.int (sI (lX xs (i + 1))), .int (sI (lX xs (i + 2)))]) (rest := []) (kX11_scratch l_ G b_ M1 N2 m th ch tn te sn nm wn f fs (lX xs (i + 1)) (lX xs (i + 2)) hc210 hc212 hc213 (hok) (hchr) (⟨lX_r xs _, lX_r xs _⟩)) (cwV 2 S.2.2.2.2 gL_law_X11_scratch rfl rfl rfl (by decide +kernel) ⟨Nat.le_of_ble_eq_true rfl, Nat.le_of_ble_eq_true rfl⟩) (ci := 9) hc210 rfl rfl rfl hl.1 (Nat.le_of_ble_eq_true rfl) dL_law_583 (c1 := cc_ + 25) (s1 := ss_ + 3000) ⟨⟨rfl, rfl⟩, by omega, by omega⟩ (fun z217 M214 N215 H locs hp216 hV => ?_)
    obtain ⟨hN218, hf219, hq220⟩ := hp216
    rw [hN218] at hV
    rcases hq220 with ⟨c221, ez222, hc223, hc224, hc225⟩ | ⟨c226, ez227, hc228, hc229, hc230⟩ | ⟨c231, ez232, hc233, hc234, hc235⟩ | ⟨c236, ez237, hc238, hc239, hc240⟩
    · rw [ez222]
      exact (nx_scratch_3_0 c27 c221).elim
    · rw [ez227]
      exact (nx_scratch_3_1 c27 c226).elim
    · rw [ez232]
      exact (nx_scratch_3_2 c27 c231).elim
    · rw [ez237]
      refine lv_istore (lv' := [(6, .int (sI (f 569))), (5, .int (sI 0)), (0, .ref z), (1, .ref c), (2, .ref m), (3, .ref o), (4, .int (sI i))]) hx_ hb_ dL_law_586 hl (by decide) rfl (fun ls hl => ?_)
      refine lv_aload_n hx_ hb_ dL_law_588 rfl (lv_at hl 4 rfl) ?_
      refine sk_VP E hV (As := []) (rest := []) (kX11_thrown l_ G b_ M214 N2 m 0 (chn ch) tn te sn nm wn hc238) (cwV 0 S.2.2.2.2 gL_law_X11_thrown rfl rfl rfl (by decide +kernel) ⟨Nat.le_of_ble_eq_true rfl, Nat.le_of_ble_eq_true rfl⟩) (ci := 9) hc238 rfl rfl rfl hl.1 (Nat.le_of_ble_eq_true rfl) dL_law_589 (c1 := cc_ + 25) (s1 := ss_ + 3000) ⟨⟨rfl, rfl⟩, by omega, by omega⟩ (fun H locs hV => ?_)
      refine lv_iload hx_ hb_ dL_law_592 (lv_at hl 1 rfl) ?_
      refine sb_eq (tgt := 599) S dL_law_594 (by decide) (by omega) (fun _ => ?_) (fun c241 => absurd c241 (by omega))
      refine lv_iload hx_ hb_ dL_law_599 (lv_at hl 1 rfl) ?_
      refine sz_ne (tgt := 616) S dL_law_601 (by decide) (by omega) (fun c242 => absurd c242 (by omega)) (fun _ => ?_)
      refine lv_aload_n hx_ hb_ dL_law_604 rfl (lv_at hl 5 rfl) ?_
      refine si_const S dL_law_605 ?_
      have gb244 : ∀ x : Nat, (x < m ∨ m + 16 ≤ x) → M214 x = M1 x := fun x u1 => hf219 x (by omega) (by omega) (by omega)
      have hc243 : M214 o = some (sArL G 1 (iup g0 0 (sW (f 569)))) := (gb244 o (by omega)).trans hc32
      refine sc_lald S hK hV hc243 (by omega) dL_law_606 ?_
      rw [show (iup g0 0 (sW (f 569))) 0 = sW (f 569) from if_pos rfl]
      refine lv_iload hx_ hb_ dL_law_607 (lv_at hl 0 rfl) ?_
      refine sl_i2w S dL_law_609 ?_
      refine sl_cmp0 S (rfl) dL_law_610 ?_
      refine sz_eq (tgt := 616) S dL_law_611 (by decide) (by omega) (fun _ => ?_) (fun c245 => absurd c245 (by omega))
      refine lv_goto (tgt := 2853) hx_ hb_ dL_law_616 (by decide) ?_
      have hc246 : M214 c = some (xO c kn15 (chn ch)) := (gb244 c (by omega)).trans hc29
      have hc247 : stC G M214 (c + 1) (scF f (lX xs (i + 1)) (lX xs (i + 2))) := hc30.fr (fun x q8 q9 => gb244 x (by omega))
      have hc248 : triC G M214 (c + 16) := htr.fr (fun x q8 q9 => (gb244 x (by omega)).trans (hf7 x (by omega) (by omega) (by omega) (by omega) (by omega)))
      have hc249 : kpC G M214 (c + 31) kb kn15 (chn ch) (fsn ch fs f) := hc31.fr (fun x q8 => gb244 x (by omega))
      have hc250 : M214 (c + 32) = some (sObj 7 [.ref (c + 33), .int (sI tn), .int (sI te)]) := ((gb244 ((c + 32)) (by omega)).trans (hf7 (c + 32) (by omega) (by omega) (by omega) (by omega) (by omega))).trans ht0
      have hc251 : M214 (c + 33) = some (sArr G 300 t) := ((gb244 ((c + 33)) (by omega)).trans (hf7 (c + 33) (by omega) (by omega) (by omega) (by omega) (by omega))).trans ht1
      have hc252 : catC G M214 (c + 34) wc T := hct.fr (fun x q8 q9 => (gb244 x (by omega)).trans (hf7 x (by omega) (by omega) (by omega) (by omega) (by omega)))
      have hc253 : orfC G M214 (c + 38) := hft.fr (fun x q8 q9 => (gb244 x (by omega)).trans (hf7 x (by omega) (by omega) (by omega) (by omega) (by omega)))
      have hc254 : layC G M214 (c + 48) := hly.fr (fun x q8 q9 => (gb244 x (by omega)).trans (hf7 x (by omega) (by omega) (by omega) (by omega) (by omega)))
      have hc255 : knoC G M214 (c + 54) := hkn.fr (fun x q8 q9 => (gb244 x (by omega)).trans (hf7 x (by omega) (by omega) (by omega) (by omega) (by omega)))
      have hc256 : excC G M214 (c + 57) := hex.fr (fun x q8 q9 => (gb244 x (by omega)).trans (hf7 x (by omega) (by omega) (by omega) (by omega) (by omega)))
      have hc257 : M214 (m + 3) = some (sArr G 300 t) := ((hf219 (m + 3) (by omega) (by omega) (by omega)).trans (ga211 ((m + 3)) (by omega) (by omega))).trans hm3
      have hc258 : M214 (m + 4) = some (sArr G 11 A4) := ((hf219 (m + 4) (by omega) (by omega) (by omega)).trans (ga211 ((m + 4)) (by omega) (by omega))).trans hm4
      have hc259 : M214 (m + 5) = some (sArr G 1024 A5) := ((hf219 (m + 5) (by omega) (by omega) (by omega)).trans (ga211 ((m + 5)) (by omega) (by omega))).trans hm5
      have hc260 : M214 (m + 6) = some (sArr G 1024 A6) := ((hf219 (m + 6) (by omega) (by omega) (by omega)).trans (ga211 ((m + 6)) (by omega) (by omega))).trans hm6
      have hc261 : M214 (m + 7) = some (sArr G 10 A7) := ((hf219 (m + 7) (by omega) (by omega) (by omega)).trans (ga211 ((m + 7)) (by omega) (by omega))).trans hm7
      have hc262 : M214 (m + 8) = some (sArr G 10 A8) := ((hf219 (m + 8) (by omega) (by omega) (by omega)).trans (ga211 ((m + 8)) (by omega) (by omega))).trans hm8
      have hc263 : M214 (m + 9) = some (sArr G 62 A9) := ((hf219 (m + 9) (by omega) (by omega) (by omega)).trans (ga211 ((m + 9)) (by omega) (by omega))).trans hm9
      have hc264 : M214 (m + 10) = some (sArr G 8 A10) := ((hf219 (m + 10) (by omega) (by omega) (by omega)).trans (ga211 ((m + 10)) (by omega) (by omega))).trans hm10
      have hc265 : M214 (m + 11) = some (sArr G 8 A11) := ((hf219 (m + 11) (by omega) (by omega) (by omega)).trans (ga211 ((m + 11)) (by omega) (by omega))).trans hm11
      have hc266 : M214 (m + 12) = some (sArr G 60 A12) := ((hf219 (m + 12) (by omega) (by omega) (by omega)).trans (ga211 ((m + 12)) (by omega) (by omega))).trans hm12
      have hc267 : M214 (m + 13) = some (sArr G 240 A13) := ((hf219 (m + 13) (by omega) (by omega) (by omega)).trans (ga211 ((m + 13)) (by omega) (by omega))).trans hm13
      have hc268 : M214 (m + 14) = some (sArr G 574 A14) := ((hf219 (m + 14) (by omega) (by omega) (by omega)).trans (ga211 ((m + 14)) (by omega) (by omega))).trans hm14
      have hc269 : M214 (m + 15) = some (sArr G 200 T2) := ((hf219 (m + 15) (by omega) (by omega) (by omega)).trans (ga211 ((m + 15)) (by omega) (by omega))).trans hm15
      exact W.widen (by omega) (by omega) (hk _ _ _ _ _ (by omega) ⟨_, _, _, _, _, _, _, _, _, _, _, _, _, _, _, _, _, _, _, _, _, _, _, _, _, _, hc246, hc247, hc248, hc249, hc250, hc251, hc252, hc253, hc254, hc255, hc256, hc238, hc239, hc240, hc257, hc258, hc259, hc260, hc261, hc262, hc263, hc264, hc265, hc266, hc267, hc268, hc269, hc243, lF_k hchr hlF (g_sc hlF.1 (by omega) (by omega) (by omega) (by omega)), htp, hwr⟩ hV (lv_sub hl [2, 3, 4, 5, 6] rfl))

theorem nx_unscratch_0_1 {a0 : Int} {f : sF} (h1 : ¬ (0 ≤ a0 ∧ a0 < f 569)) (h2 : 0 ≤ a0 ∧ a0 < f 569) : False := by
  first
  | omega
  | (simp_all; done)
  | (simp_all; omega)
theorem nx_unscratch_1_0 {a0 : Int} {f : sF} (h1 : (0 ≤ a0 ∧ a0 < f 569)) (h2 : ¬ (0 ≤ a0 ∧ a0 < f 569)) : False := by
  first
  | omega
  | (simp_all; done)
  | (simp_all; omega)
set_option maxHeartbeats 4000000 in
set_option maxRecDepth 100000 in
theorem law_7 {p_ : Program} {l_ : Launch} {e_ : Env} {s_ : State} {m_ : MethodId} {args_ : Array Value} {below_ : List Frame} {meth_ : Method} {c_ : Code} {nm_ : String} {G : sG} {b_ : Nat} {M0 : sM} {N0 : Nat} {Q : State → Prop} (E : sE p_ l_ e_ room_1 s_ m_ args_ below_ meth_ c_ cL_law 9 wsL_law RL nm_ (some .boolean) G b_ M0 N0) (hF_ : xcF s_) (hlt : l_.stackTraces = false) {z L : Nat} {xs : Nat → Int32} (hX : va_X z L xs s_ s_.heap) (hzb : z < b_) {c m o kb : Nat} (hg : c + 60 ≤ m ∧ m + 16 ≤ o ∧ o < kb) {cc_ ss_ : Nat} (hcc : cc_ + 1170 ≤ room_1.cells ∧ ss_ + 14000 ≤ room_1.slots) {q i : Int} (hi : 0 ≤ i ∧ i + 6 ≤ L ∧ (L : Int) ≤ 3072) (hq : 0 ≤ q ∧ q ≤ 600) {M : sM} {N : Nat} (hkN : kb ≤ N) (hI : lI G M c m o kb q) {H : Heap} {locs : List Loc} {ls : Array Slot} (hV : sV G b_ M N s_ H locs) (hl : lv_has ls 9 [(0, .ref z), (1, .ref c), (2, .ref m), (3, .ref o), (4, .int (sI i))])
    (hk : ∀ (M1 : sM) (N1 : Nat) (H1 : Heap) (locs1 : List Loc) (ls1 : Array Slot), kb ≤ N1 → lI G M1 c m o kb (q + 1) → sV G b_ M1 N1 s_ H1 locs1 → lv_has ls1 9 [(0, .ref z), (1, .ref c), (2, .ref m), (3, .ref o), (4, .int (sI i))] → W p_ l_ e_ room_1 s_ m_ args_ below_ meth_ c_ H1 locs1 (cc_ + 1170) (ss_ + 14000) Q (F0 m_ 2853 ls1 [])) : W p_ l_ e_ room_1 s_ m_ args_ below_ meth_ c_ H locs cc_ ss_ Q (F0 m_ 619 ls []) := by
  have S := E.1
  have hx_ := S.1
  have hb_ := S.2.1
  have hK := E.2.2.2.2.1
  have hI2 := hI
  obtain ⟨kn, ch, f, fs, tn, te, t, wc, wn, T, T2, th, sn, nm, g0, A4, A5, A6, A7, A8, A9, A10, A11, A12, A13, A14, hc0, hst, htr, hkp, ht0, ht1, hct, hft, hly, hkn, hex, hm0, hm1, hsv, hm3, hm4, hm5, hm6, hm7, hm8, hm9, hm10, hm11, hm12, hm13, hm14, hm15, ho9, hlF, htp, hwr⟩ := hI2
  have hok := hlF.1.1
  have hdI := hlF.1.2.1
  have hsL := hlF.1.2.2.1
  have hclk := hlF.1.2.2.2
  have hchr : 0 ≤ ch ∧ ch ≤ 15 := ⟨hkp.r.2.2.1, hkp.r.2.2.2⟩
  have htp1 := htp.1
  have htp2 := htp.2.1
  have hwq := wrQ_e hwr
  have hwq1 := hwq.1
  have hwq2 := hwq.2.1
  have kn0 := sOk_N hok
  refine lv_aload_n hx_ hb_ dL_law_619 rfl (lv_at hl 1 rfl) ?_
  refine lv_aload_n hx_ hb_ dL_law_620 rfl (lv_at hl 0 rfl) ?_
  refine lv_iload hx_ hb_ dL_law_621 (lv_at hl 4 rfl) ?_
  refine si_const S dL_law_623 ?_
  refine si_add S dL_law_624 ?_
  refine sc_sld S hV hX hzb (by omega) dL_law_625 ?_
  refine lv_aload_n hx_ hb_ dL_law_626 rfl (lv_at hl 3 rfl) ?_
  refine yk_Si (hh := [(0, 9, 12, 25)]) E hF_ hV (As := [.ref c, .int (sI (lX xs (i + 1))), .ref o]) (rest := []) (kL_unscratch l_ G b_ M N o g0 c kn ch f kb fs (lX xs (i + 1)) hc0 hst hkp ho9 (hlt) (hok) (by omega) (by omega) ((lX_r xs _)) (by omega) (by omega)) (vx_cwSW 3 S.2.2.2.2 gL_law_L_unscratch rfl rfl rfl (by decide +kernel) ⟨Nat.le_of_ble_eq_true rfl, Nat.le_of_ble_eq_true rfl⟩) rfl rfl hl.1 (Nat.le_of_ble_eq_true rfl) dL_law_627 (c1 := cc_ + 25) (s1 := ss_ + 3000) ⟨⟨rfl, rfl⟩, by omega, by omega⟩ (fun z4 M1 N2 H locs hp3 hV => ?_)
  obtain ⟨kn15, hN6, hf7, hq8⟩ := hp3
  rcases hq8 with ⟨c9, ez10, hc11, hc12, hc13, hc14⟩ | ⟨c15, ez16, hc17, hc18, hc19, hc20⟩
  · rw [ez10]
    refine lv_istore (lv' := [(5, .int (sI 1)), (0, .ref z), (1, .ref c), (2, .ref m), (3, .ref o), (4, .int (sI i))]) hx_ hb_ dL_law_630 hl (by decide) rfl (fun ls hl => ?_)
    refine lv_aload_n hx_ hb_ dL_law_632 rfl (lv_at hl 3 rfl) ?_
    refine lv_aload_n hx_ hb_ dL_law_633 rfl (lv_at hl 1 rfl) ?_
    refine lv_iload hx_ hb_ dL_law_634 (lv_at hl 5 rfl) ?_
    refine si_const S dL_law_636 ?_
    refine si_add S dL_law_637 ?_
    refine sc_sld S hV hX hzb (by omega) dL_law_638 ?_
    have ga22 : ∀ x : Nat, m ≤ x → x < m + 16 → M1 x = M x := fun x u1 u2 => hf7 x (by omega) (by omega) (by omega) (by omega) (by omega)
    have hc21 : M1 m = some (mO m th ch tn te sn nm wn) := (ga22 m (by omega) (by omega)).trans hm0
    have hc23 : M1 (m + 1) = some (sArr G 574 f) := (ga22 ((m + 1)) (by omega) (by omega)).trans hm1
    have hc24 : svC G M1 (m + 2) ch fs := hsv.fr (fun x q8 q9 => ga22 x (by omega) (by omega))
    refine sk_Vi E hV (As := [.int (sI (lX xs (i + 1)))]) (rest := []) (kX11_unscratch l_ G b_ M1 N2 m th ch tn te sn nm wn f fs (lX xs (i + 1)) hc21 hc23 hc24 (hok) (hchr) ((lX_r xs _))) (cwV 1 S.2.2.2.2 gL_law_X11_unscratch rfl rfl rfl (by decide +kernel) ⟨Nat.le_of_ble_eq_true rfl, Nat.le_of_ble_eq_true rfl⟩) (ci := 9) hc21 rfl rfl rfl hl.1 (Nat.le_of_ble_eq_true rfl) dL_law_639 (c1 := cc_ + 25) (s1 := ss_ + 3000) ⟨⟨rfl, rfl⟩, by omega, by omega⟩ (fun z28 M25 N26 H locs hp27 hV => ?_)
    obtain ⟨hN29, hf30, hq31⟩ := hp27
    rw [hN29] at hV
    rcases hq31 with ⟨c32, ez33, hc34, hc35, hc36⟩ | ⟨c37, ez38, hc39, hc40, hc41⟩
    · rw [ez33]
      refine lv_istore (lv' := [(6, .int (sI 0)), (5, .int (sI 1)), (0, .ref z), (1, .ref c), (2, .ref m), (3, .ref o), (4, .int (sI i))]) hx_ hb_ dL_law_642 hl (by decide) rfl (fun ls hl => ?_)
      refine lv_aload_n hx_ hb_ dL_law_644 rfl (lv_at hl 4 rfl) ?_
      refine sk_VP E hV (As := []) (rest := []) (kX11_thrown l_ G b_ M25 N2 m 1 ch tn te sn nm wn hc34) (cwV 0 S.2.2.2.2 gL_law_X11_thrown rfl rfl rfl (by decide +kernel) ⟨Nat.le_of_ble_eq_true rfl, Nat.le_of_ble_eq_true rfl⟩) (ci := 9) hc34 rfl rfl rfl hl.1 (Nat.le_of_ble_eq_true rfl) dL_law_645 (c1 := cc_ + 25) (s1 := ss_ + 3000) ⟨⟨rfl, rfl⟩, by omega, by omega⟩ (fun H locs hV => ?_)
      refine lv_iload hx_ hb_ dL_law_648 (lv_at hl 1 rfl) ?_
      refine sb_eq (tgt := 655) S dL_law_650 (by decide) (by omega) (fun _ => ?_) (fun c42 => absurd c42 (by omega))
      refine lv_iload hx_ hb_ dL_law_655 (lv_at hl 1 rfl) ?_
      refine sz_ne (tgt := 672) S dL_law_657 (by decide) (by omega) (fun _ => ?_) (fun c43 => absurd c43 (by omega))
      refine lv_goto (tgt := 2853) hx_ hb_ dL_law_672 (by decide) ?_
      have gb45 : ∀ x : Nat, (x < m ∨ m + 16 ≤ x) → M25 x = M1 x := fun x u1 => hf30 x (by omega) (by omega) (by omega)
      have hc44 : M25 c = some (xO c kn15 ch) := (gb45 c (by omega)).trans hc11
      have hc46 : stC G M25 (c + 1) f := hc12.fr (fun x q8 q9 => gb45 x (by omega))
      have hc47 : triC G M25 (c + 16) := htr.fr (fun x q8 q9 => (gb45 x (by omega)).trans (hf7 x (by omega) (by omega) (by omega) (by omega) (by omega)))
      have hc48 : kpC G M25 (c + 31) kb kn15 ch fs := hc13.fr (fun x q8 => gb45 x (by omega))
      have hc49 : M25 (c + 32) = some (sObj 7 [.ref (c + 33), .int (sI tn), .int (sI te)]) := ((gb45 ((c + 32)) (by omega)).trans (hf7 (c + 32) (by omega) (by omega) (by omega) (by omega) (by omega))).trans ht0
      have hc50 : M25 (c + 33) = some (sArr G 300 t) := ((gb45 ((c + 33)) (by omega)).trans (hf7 (c + 33) (by omega) (by omega) (by omega) (by omega) (by omega))).trans ht1
      have hc51 : catC G M25 (c + 34) wc T := hct.fr (fun x q8 q9 => (gb45 x (by omega)).trans (hf7 x (by omega) (by omega) (by omega) (by omega) (by omega)))
      have hc52 : orfC G M25 (c + 38) := hft.fr (fun x q8 q9 => (gb45 x (by omega)).trans (hf7 x (by omega) (by omega) (by omega) (by omega) (by omega)))
      have hc53 : layC G M25 (c + 48) := hly.fr (fun x q8 q9 => (gb45 x (by omega)).trans (hf7 x (by omega) (by omega) (by omega) (by omega) (by omega)))
      have hc54 : knoC G M25 (c + 54) := hkn.fr (fun x q8 q9 => (gb45 x (by omega)).trans (hf7 x (by omega) (by omega) (by omega) (by omega) (by omega)))
      have hc55 : excC G M25 (c + 57) := hex.fr (fun x q8 q9 => (gb45 x (by omega)).trans (hf7 x (by omega) (by omega) (by omega) (by omega) (by omega)))
      have hc56 : M25 (m + 3) = some (sArr G 300 t) := ((hf30 (m + 3) (by omega) (by omega) (by omega)).trans (ga22 ((m + 3)) (by omega) (by omega))).trans hm3
      have hc57 : M25 (m + 4) = some (sArr G 11 A4) := ((hf30 (m + 4) (by omega) (by omega) (by omega)).trans (ga22 ((m + 4)) (by omega) (by omega))).trans hm4
      have hc58 : M25 (m + 5) = some (sArr G 1024 A5) := ((hf30 (m + 5) (by omega) (by omega) (by omega)).trans (ga22 ((m + 5)) (by omega) (by omega))).trans hm5
      have hc59 : M25 (m + 6) = some (sArr G 1024 A6) := ((hf30 (m + 6) (by omega) (by omega) (by omega)).trans (ga22 ((m + 6)) (by omega) (by omega))).trans hm6
      have hc60 : M25 (m + 7) = some (sArr G 10 A7) := ((hf30 (m + 7) (by omega) (by omega) (by omega)).trans (ga22 ((m + 7)) (by omega) (by omega))).trans hm7
      have hc61 : M25 (m + 8) = some (sArr G 10 A8) := ((hf30 (m + 8) (by omega) (by omega) (by omega)).trans (ga22 ((m + 8)) (by omega) (by omega))).trans hm8
      have hc62 : M25 (m + 9) = some (sArr G 62 A9) := ((hf30 (m + 9) (by omega) (by omega) (by omega)).trans (ga22 ((m + 9)) (by omega) (by omega))).trans hm9
      have hc63 : M25 (m + 10) = some (sArr G 8 A10) := ((hf30 (m + 10) (by omega) (by omega) (by omega)).trans (ga22 ((m + 10)) (by omega) (by omega))).trans hm10
      have hc64 : M25 (m + 11) = some (sArr G 8 A11) := ((hf30 (m + 11) (by omega) (by omega) (by omega)).trans (ga22 ((m + 11)) (by omega) (by omega))).trans hm11
      have hc65 : M25 (m + 12) = some (sArr G 60 A12) := ((hf30 (m + 12) (by omega) (by omega) (by omega)).trans (ga22 ((m + 12)) (by omega) (by omega))).trans hm12
      have hc66 : M25 (m + 13) = some (sArr G 240 A13) := ((hf30 (m + 13) (by omega) (by omega) (by omega)).trans (ga22 ((m + 13)) (by omega) (by omega))).trans hm13
      have hc67 : M25 (m + 14) = some (sArr G 574 A14) := ((hf30 (m + 14) (by omega) (by omega) (by omega)).trans (ga22 ((m + 14)) (by omega) (by omega))).trans hm14
      have hc68 : M25 (m + 15) = some (sArr G 200 T2) := ((hf30 (m + 15) (by omega) (by omega) (by omega)).trans (ga22 ((m + 15)) (by omega) (by omega))).trans hm15
      have hc69 : M25 o = some (sArL G 1 g0) := (gb45 o (by omega)).trans hc14
      exact W.widen (by omega) (by omega) (hk _ _ _ _ _ (by omega) ⟨_, _, _, _, _, _, _, _, _, _, _, _, _, _, _, _, _, _, _, _, _, _, _, _, _, _, hc44, hc46, hc47, hc48, hc49, hc50, hc51, hc52, hc53, hc54, hc55, hc34, hc35, hc36, hc56, hc57, hc58, hc59, hc60, hc61, hc62, hc63, hc64, hc65, hc66, hc67, hc68, hc69, lF_s hlF, htp, hwr⟩ hV (lv_sub hl [2, 3, 4, 5, 6] rfl))
    · rw [ez38]
      exact (nx_unscratch_0_1 c9 c37).elim
  · rw [ez16]
    refine lv_istore (lv' := [(5, .int (sI 0)), (0, .ref z), (1, .ref c), (2, .ref m), (3, .ref o), (4, .int (sI i))]) hx_ hb_ dL_law_630 hl (by decide) rfl (fun ls hl => ?_)
    refine lv_aload_n hx_ hb_ dL_law_632 rfl (lv_at hl 3 rfl) ?_
    refine lv_aload_n hx_ hb_ dL_law_633 rfl (lv_at hl 1 rfl) ?_
    refine lv_iload hx_ hb_ dL_law_634 (lv_at hl 5 rfl) ?_
    refine si_const S dL_law_636 ?_
    refine si_add S dL_law_637 ?_
    refine sc_sld S hV hX hzb (by omega) dL_law_638 ?_
    have ga71 : ∀ x : Nat, m ≤ x → x < m + 16 → M1 x = M x := fun x u1 u2 => hf7 x (by omega) (by omega) (by omega) (by omega) (by omega)
    have hc70 : M1 m = some (mO m th ch tn te sn nm wn) := (ga71 m (by omega) (by omega)).trans hm0
    have hc72 : M1 (m + 1) = some (sArr G 574 f) := (ga71 ((m + 1)) (by omega) (by omega)).trans hm1
    have hc73 : svC G M1 (m + 2) ch fs := hsv.fr (fun x q8 q9 => ga71 x (by omega) (by omega))
    refine sk_Vi E hV (As := [.int (sI (lX xs (i + 1)))]) (rest := []) (kX11_unscratch l_ G b_ M1 N2 m th ch tn te sn nm wn f fs (lX xs (i + 1)) hc70 hc72 hc73 (hok) (hchr) ((lX_r xs _))) (cwV 1 S.2.2.2.2 gL_law_X11_unscratch rfl rfl rfl (by decide +kernel) ⟨Nat.le_of_ble_eq_true rfl, Nat.le_of_ble_eq_true rfl⟩) (ci := 9) hc70 rfl rfl rfl hl.1 (Nat.le_of_ble_eq_true rfl) dL_law_639 (c1 := cc_ + 25) (s1 := ss_ + 3000) ⟨⟨rfl, rfl⟩, by omega, by omega⟩ (fun z77 M74 N75 H locs hp76 hV => ?_)
    obtain ⟨hN78, hf79, hq80⟩ := hp76
    rw [hN78] at hV
    rcases hq80 with ⟨c81, ez82, hc83, hc84, hc85⟩ | ⟨c86, ez87, hc88, hc89, hc90⟩
    · rw [ez82]
      exact (nx_unscratch_1_0 c15 c81).elim
    · rw [ez87]
      refine lv_istore (lv' := [(6, .int (sI (f 569 - 1))), (5, .int (sI 0)), (0, .ref z), (1, .ref c), (2, .ref m), (3, .ref o), (4, .int (sI i))]) hx_ hb_ dL_law_642 hl (by decide) rfl (fun ls hl => ?_)
      refine lv_aload_n hx_ hb_ dL_law_644 rfl (lv_at hl 4 rfl) ?_
      refine sk_VP E hV (As := []) (rest := []) (kX11_thrown l_ G b_ M74 N2 m 0 (chn ch) tn te sn nm wn hc88) (cwV 0 S.2.2.2.2 gL_law_X11_thrown rfl rfl rfl (by decide +kernel) ⟨Nat.le_of_ble_eq_true rfl, Nat.le_of_ble_eq_true rfl⟩) (ci := 9) hc88 rfl rfl rfl hl.1 (Nat.le_of_ble_eq_true rfl) dL_law_645 (c1 := cc_ + 25) (s1 := ss_ + 3000) ⟨⟨rfl, rfl⟩, by omega, by omega⟩ (fun H locs hV => ?_)
      refine lv_iload hx_ hb_ dL_law_648 (lv_at hl 1 rfl) ?_
      refine sb_eq (tgt := 655) S dL_law_650 (by decide) (by omega) (fun _ => ?_) (fun c91 => absurd c91 (by omega))
      refine lv_iload hx_ hb_ dL_law_655 (lv_at hl 1 rfl) ?_
      refine sz_ne (tgt := 672) S dL_law_657 (by decide) (by omega) (fun c92 => absurd c92 (by omega)) (fun _ => ?_)
      refine lv_aload_n hx_ hb_ dL_law_660 rfl (lv_at hl 5 rfl) ?_
      refine si_const S dL_law_661 ?_
      have gb94 : ∀ x : Nat, (x < m ∨ m + 16 ≤ x) → M74 x = M1 x := fun x u1 => hf79 x (by omega) (by omega) (by omega)
      have hc93 : M74 o = some (sArL G 1 (iup g0 0 (sW (f 569 - 1)))) := (gb94 o (by omega)).trans hc20
      refine sc_lald S hK hV hc93 (by omega) dL_law_662 ?_
      rw [show (iup g0 0 (sW (f 569 - 1))) 0 = sW (f 569 - 1) from if_pos rfl]
      refine lv_iload hx_ hb_ dL_law_663 (lv_at hl 0 rfl) ?_
      refine sl_i2w S dL_law_665 ?_
      refine sl_cmp0 S (rfl) dL_law_666 ?_
      refine sz_eq (tgt := 672) S dL_law_667 (by decide) (by omega) (fun _ => ?_) (fun c95 => absurd c95 (by omega))
      refine lv_goto (tgt := 2853) hx_ hb_ dL_law_672 (by decide) ?_
      have hc96 : M74 c = some (xO c kn15 (chn ch)) := (gb94 c (by omega)).trans hc17
      have hc97 : stC G M74 (c + 1) (usF f (lX xs (i + 1))) := hc18.fr (fun x q8 q9 => gb94 x (by omega))
      have hc98 : triC G M74 (c + 16) := htr.fr (fun x q8 q9 => (gb94 x (by omega)).trans (hf7 x (by omega) (by omega) (by omega) (by omega) (by omega)))
      have hc99 : kpC G M74 (c + 31) kb kn15 (chn ch) (fsn ch fs f) := hc19.fr (fun x q8 => gb94 x (by omega))
      have hc100 : M74 (c + 32) = some (sObj 7 [.ref (c + 33), .int (sI tn), .int (sI te)]) := ((gb94 ((c + 32)) (by omega)).trans (hf7 (c + 32) (by omega) (by omega) (by omega) (by omega) (by omega))).trans ht0
      have hc101 : M74 (c + 33) = some (sArr G 300 t) := ((gb94 ((c + 33)) (by omega)).trans (hf7 (c + 33) (by omega) (by omega) (by omega) (by omega) (by omega))).trans ht1
      have hc102 : catC G M74 (c + 34) wc T := hct.fr (fun x q8 q9 => (gb94 x (by omega)).trans (hf7 x (by omega) (by omega) (by omega) (by omega) (by omega)))
      have hc103 : orfC G M74 (c + 38) := hft.fr (fun x q8 q9 => (gb94 x (by omega)).trans (hf7 x (by omega) (by omega) (by omega) (by omega) (by omega)))
      have hc104 : layC G M74 (c + 48) := hly.fr (fun x q8 q9 => (gb94 x (by omega)).trans (hf7 x (by omega) (by omega) (by omega) (by omega) (by omega)))
      have hc105 : knoC G M74 (c + 54) := hkn.fr (fun x q8 q9 => (gb94 x (by omega)).trans (hf7 x (by omega) (by omega) (by omega) (by omega) (by omega)))
      have hc106 : excC G M74 (c + 57) := hex.fr (fun x q8 q9 => (gb94 x (by omega)).trans (hf7 x (by omega) (by omega) (by omega) (by omega) (by omega)))
      have hc107 : M74 (m + 3) = some (sArr G 300 t) := ((hf79 (m + 3) (by omega) (by omega) (by omega)).trans (ga71 ((m + 3)) (by omega) (by omega))).trans hm3
      have hc108 : M74 (m + 4) = some (sArr G 11 A4) := ((hf79 (m + 4) (by omega) (by omega) (by omega)).trans (ga71 ((m + 4)) (by omega) (by omega))).trans hm4
      have hc109 : M74 (m + 5) = some (sArr G 1024 A5) := ((hf79 (m + 5) (by omega) (by omega) (by omega)).trans (ga71 ((m + 5)) (by omega) (by omega))).trans hm5
      have hc110 : M74 (m + 6) = some (sArr G 1024 A6) := ((hf79 (m + 6) (by omega) (by omega) (by omega)).trans (ga71 ((m + 6)) (by omega) (by omega))).trans hm6
      have hc111 : M74 (m + 7) = some (sArr G 10 A7) := ((hf79 (m + 7) (by omega) (by omega) (by omega)).trans (ga71 ((m + 7)) (by omega) (by omega))).trans hm7
      have hc112 : M74 (m + 8) = some (sArr G 10 A8) := ((hf79 (m + 8) (by omega) (by omega) (by omega)).trans (ga71 ((m + 8)) (by omega) (by omega))).trans hm8
      have hc113 : M74 (m + 9) = some (sArr G 62 A9) := ((hf79 (m + 9) (by omega) (by omega) (by omega)).trans (ga71 ((m + 9)) (by omega) (by omega))).trans hm9
      have hc114 : M74 (m + 10) = some (sArr G 8 A10) := ((hf79 (m + 10) (by omega) (by omega) (by omega)).trans (ga71 ((m + 10)) (by omega) (by omega))).trans hm10
      have hc115 : M74 (m + 11) = some (sArr G 8 A11) := ((hf79 (m + 11) (by omega) (by omega) (by omega)).trans (ga71 ((m + 11)) (by omega) (by omega))).trans hm11
      have hc116 : M74 (m + 12) = some (sArr G 60 A12) := ((hf79 (m + 12) (by omega) (by omega) (by omega)).trans (ga71 ((m + 12)) (by omega) (by omega))).trans hm12
      have hc117 : M74 (m + 13) = some (sArr G 240 A13) := ((hf79 (m + 13) (by omega) (by omega) (by omega)).trans (ga71 ((m + 13)) (by omega) (by omega))).trans hm13
      have hc118 : M74 (m + 14) = some (sArr G 574 A14) := ((hf79 (m + 14) (by omega) (by omega) (by omega)).trans (ga71 ((m + 14)) (by omega) (by omega))).trans hm14
      have hc119 : M74 (m + 15) = some (sArr G 200 T2) := ((hf79 (m + 15) (by omega) (by omega) (by omega)).trans (ga71 ((m + 15)) (by omega) (by omega))).trans hm15
      exact W.widen (by omega) (by omega) (hk _ _ _ _ _ (by omega) ⟨_, _, _, _, _, _, _, _, _, _, _, _, _, _, _, _, _, _, _, _, _, _, _, _, _, _, hc96, hc97, hc98, hc99, hc100, hc101, hc102, hc103, hc104, hc105, hc106, hc88, hc89, hc90, hc107, hc108, hc109, hc110, hc111, hc112, hc113, hc114, hc115, hc116, hc117, hc118, hc119, hc93, lF_k hchr hlF (g_us hlF.1 (by omega)), htp, hwr⟩ hV (lv_sub hl [2, 3, 4, 5, 6] rfl))
