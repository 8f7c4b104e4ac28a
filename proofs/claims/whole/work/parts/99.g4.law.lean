theorem nx_show_0_1 {s : Int} {f : sF} {d : Int} {n : Int} {l : Int} (h1 : ¬ (0 ≤ s ∧ s < f 568)) (h2 : (0 ≤ s ∧ s < f 568) ∧ ¬ (isDt d ∧ (1 ≤ n ∧ n ≤ 400) ∧ (1 ≤ l ∧ l ≤ 1000) ∧ dayI d + n ≤ 109573)) : False := by
  first
  | omega
  | (simp_all; done)
  | (simp_all; omega)
theorem nx_show_0_2 {s : Int} {f : sF} {d : Int} {n : Int} {l : Int} (h1 : ¬ (0 ≤ s ∧ s < f 568)) (h2 : (0 ≤ s ∧ s < f 568) ∧ (isDt d ∧ (1 ≤ n ∧ n ≤ 400) ∧ (1 ≤ l ∧ l ≤ 1000) ∧ dayI d + n ≤ 109573) ∧ ¬ (f 572 < 20 ∧ cbP f s (d / 10000) (dayI d + 3652) n l)) : False := by
  first
  | omega
  | (simp_all; done)
  | (simp_all; omega)
theorem nx_show_0_3 {s : Int} {f : sF} {d : Int} {n : Int} {l : Int} (h1 : ¬ (0 ≤ s ∧ s < f 568)) (h2 : (0 ≤ s ∧ s < f 568) ∧ (isDt d ∧ (1 ≤ n ∧ n ≤ 400) ∧ (1 ≤ l ∧ l ≤ 1000) ∧ dayI d + n ≤ 109573) ∧ f 572 < 20 ∧ cbP f s (d / 10000) (dayI d + 3652) n l) : False := by
  first
  | omega
  | (simp_all; done)
  | (simp_all; omega)
theorem nx_show_1_0 {s : Int} {f : sF} {d : Int} {n : Int} {l : Int} (h1 : (0 ≤ s ∧ s < f 568) ∧ ¬ (isDt d ∧ (1 ≤ n ∧ n ≤ 400) ∧ (1 ≤ l ∧ l ≤ 1000) ∧ dayI d + n ≤ 109573)) (h2 : ¬ (0 ≤ s ∧ s < f 568)) : False := by
  first
  | omega
  | (simp_all; done)
  | (simp_all; omega)
theorem nx_show_1_2 {s : Int} {f : sF} {d : Int} {n : Int} {l : Int} (h1 : (0 ≤ s ∧ s < f 568) ∧ ¬ (isDt d ∧ (1 ≤ n ∧ n ≤ 400) ∧ (1 ≤ l ∧ l ≤ 1000) ∧ dayI d + n ≤ 109573)) (h2 : (0 ≤ s ∧ s < f 568) ∧ (isDt d ∧ (1 ≤ n ∧ n ≤ 400) ∧ (1 ≤ l ∧ l ≤ 1000) ∧ dayI d + n ≤ 109573) ∧ ¬ (f 572 < 20 ∧ cbP f s (d / 10000) (dayI d + 3652) n l)) : False := by
  first
  | omega
  | (simp_all; done)
  | (simp_all; omega)
theorem nx_show_1_3 {s : Int} {f : sF} {d : Int} {n : Int} {l : Int} (h1 : (0 ≤ s ∧ s < f 568) ∧ ¬ (isDt d ∧ (1 ≤ n ∧ n ≤ 400) ∧ (1 ≤ l ∧ l ≤ 1000) ∧ dayI d + n ≤ 109573)) (h2 : (0 ≤ s ∧ s < f 568) ∧ (isDt d ∧ (1 ≤ n ∧ n ≤ 400) ∧ (1 ≤ l ∧ l ≤ 1000) ∧ dayI d + n ≤ 109573) ∧ f 572 < 20 ∧ cbP f s (d / 10000) (dayI d + 3652) n l) : False := by
  first
  | omega
  | (simp_all; done)
  | (simp_all; omega)
theorem nx_show_2_0 {s : Int} {f : sF} {d : Int} {n : Int} {l : Int} (h1 : (0 ≤ s ∧ s < f 568) ∧ (isDt d ∧ (1 ≤ n ∧ n ≤ 400) ∧ (1 ≤ l ∧ l ≤ 1000) ∧ dayI d + n ≤ 109573) ∧ ¬ (f 572 < 20 ∧ cbP f s (d / 10000) (dayI d + 3652) n l)) (h2 : ¬ (0 ≤ s ∧ s < f 568)) : False := by
  first
  | omega
  | (simp_all; done)
  | (simp_all; omega)
theorem nx_show_2_1 {s : Int} {f : sF} {d : Int} {n : Int} {l : Int} (h1 : (0 ≤ s ∧ s < f 568) ∧ (isDt d ∧ (1 ≤ n ∧ n ≤ 400) ∧ (1 ≤ l ∧ l ≤ 1000) ∧ dayI d + n ≤ 109573) ∧ ¬ (f 572 < 20 ∧ cbP f s (d / 10000) (dayI d + 3652) n l)) (h2 : (0 ≤ s ∧ s < f 568) ∧ ¬ (isDt d ∧ (1 ≤ n ∧ n ≤ 400) ∧ (1 ≤ l ∧ l ≤ 1000) ∧ dayI d + n ≤ 109573)) : False := by
  first
  | omega
  | (simp_all; done)
  | (simp_all; omega)
theorem nx_show_2_3 {s : Int} {f : sF} {d : Int} {n : Int} {l : Int} (h1 : (0 ≤ s ∧ s < f 568) ∧ (isDt d ∧ (1 ≤ n ∧ n ≤ 400) ∧ (1 ≤ l ∧ l ≤ 1000) ∧ dayI d + n ≤ 109573) ∧ ¬ (f 572 < 20 ∧ cbP f s (d / 10000) (dayI d + 3652) n l)) (h2 : (0 ≤ s ∧ s < f 568) ∧ (isDt d ∧ (1 ≤ n ∧ n ≤ 400) ∧ (1 ≤ l ∧ l ≤ 1000) ∧ dayI d + n ≤ 109573) ∧ f 572 < 20 ∧ cbP f s (d / 10000) (dayI d + 3652) n l) : False := by
  first
  | omega
  | (simp_all; done)
  | (simp_all; omega)
theorem nx_show_3_0 {s : Int} {f : sF} {d : Int} {n : Int} {l : Int} (h1 : (0 ≤ s ∧ s < f 568) ∧ (isDt d ∧ (1 ≤ n ∧ n ≤ 400) ∧ (1 ≤ l ∧ l ≤ 1000) ∧ dayI d + n ≤ 109573) ∧ f 572 < 20 ∧ cbP f s (d / 10000) (dayI d + 3652) n l) (h2 : ¬ (0 ≤ s ∧ s < f 568)) : False := by
  first
  | omega
  | (simp_all; done)
  | (simp_all; omega)
theorem nx_show_3_1 {s : Int} {f : sF} {d : Int} {n : Int} {l : Int} (h1 : (0 ≤ s ∧ s < f 568) ∧ (isDt d ∧ (1 ≤ n ∧ n ≤ 400) ∧ (1 ≤ l ∧ l ≤ 1000) ∧ dayI d + n ≤ 109573) ∧ f 572 < 20 ∧ cbP f s (d / 10000) (dayI d + 3652) n l) (h2 : (0 ≤ s ∧ s < f 568) ∧ ¬ (isDt d ∧ (1 ≤ n ∧ n ≤ 400) ∧ (1 ≤ l ∧ l ≤ 1000) ∧ dayI d + n ≤ 109573)) : False := by
  first
  | omega
  | (simp_all; done)
  | (simp_all; omega)
theorem nx_show_3_2 {s : Int} {f : sF} {d : Int} {n : Int} {l : Int} (h1 : (0 ≤ s ∧ s < f 568) ∧ (isDt d ∧ (1 ≤ n ∧ n ≤ 400) ∧ (1 ≤ l ∧ l ≤ 1000) ∧ dayI d + n ≤ 109573) ∧ f 572 < 20 ∧ cbP f s (d / 10000) (dayI d + 3652) n l) (h2 : (0 ≤ s ∧ s < f 568) ∧ (isDt d ∧ (1 ≤ n ∧ n ≤ 400) ∧ (1 ≤ l ∧ l ≤ 1000) ∧ dayI d + n ≤ 109573) ∧ ¬ (f 572 < 20 ∧ cbP f s (d / 10000) (dayI d + 3652) n l)) : False := by
  first
  | omega
  | (simp_all; done)
  | (simp_all; omega)
set_option maxHeartbeats 4000000 in
set_option maxRecDepth 100000 in
theorem law_32 {p_ : Program} {l_ : Launch} {e_ : Env} {s_ : State} {m_ : MethodId} {args_ : Array Value} {below_ : List Frame} {meth_ : Method} {c_ : Code} {nm_ : String} {G : sG} {b_ : Nat} {M0 : sM} {N0 : Nat} {Q : State → Prop} (E : sE p_ l_ e_ room_1 s_ m_ args_ below_ meth_ c_ cL_law 9 wsL_law RL nm_ (some .boolean) G b_ M0 N0) (hF_ : xcF s_) (hlt : l_.stackTraces = false) {z L : Nat} {xs : Nat → Int32} (hX : va_X z L xs s_ s_.heap) (hzb : z < b_) {c m o kb : Nat} (hg : c + 60 ≤ m ∧ m + 16 ≤ o ∧ o < kb) {cc_ ss_ : Nat} (hcc : cc_ + 1170 ≤ room_1.cells ∧ ss_ + 14000 ≤ room_1.slots) {q i : Int} (hi : 0 ≤ i ∧ i + 6 ≤ L ∧ (L : Int) ≤ 3072) (hq : 0 ≤ q ∧ q ≤ 600) {M : sM} {N : Nat} (hkN : kb ≤ N) (hI : lI G M c m o kb q) {H : Heap} {locs : List Loc} {ls : Array Slot} (hV : sV G b_ M N s_ H locs) (hl : lv_has ls 9 [(0, .ref z), (1, .ref c), (2, .ref m), (3, .ref o), (4, .int (sI i))])
    (hk : ∀ (M1 : sM) (N1 : Nat) (H1 : Heap) (locs1 : List Loc) (ls1 : Array Slot), kb ≤ N1 → lI G M1 c m o kb (q + 1) → sV G b_ M1 N1 s_ H1 locs1 → lv_has ls1 9 [(0, .ref z), (1, .ref c), (2, .ref m), (3, .ref o), (4, .int (sI i))] → W p_ l_ e_ room_1 s_ m_ args_ below_ meth_ c_ H1 locs1 (cc_ + 1170) (ss_ + 14000) Q (F0 m_ 2853 ls1 [])) : W p_ l_ e_ room_1 s_ m_ args_ below_ meth_ c_ H locs cc_ ss_ Q (F0 m_ 2202 ls []) := by
  have S := E.1
  have hx_ := S.1
  have hb_ := S.2.1
  have hK := E.2.2.2.2.1
  have hI2 := hI
  obtain ⟨kn, ch, f, fs, tn, te, t, wc, wn, T, T2, th, sn, nm, g0, A4, A5, A6, A7, A8, A9, A10, A11, A12, A13, A14, hc0, hst, htr, hkp, ht0, ht1, hct, hft, hly, hkn, hex, hm0, hm1, hsv, hm3, hm4, hm5, hm6, hm7, hm8, hm9, hm10, hm11, hm12, hm13, hm14, hm15, ho9, hlF, htp, hwr⟩ := hI2
  have hok := hlF.1.1
  have hdI := hlF.1.2.1
  have hsL := hlF.1.2.2.1
  have hclk := hlF.1.2.2.2
  have hchr : 0 ≤ ch ∧ ch ≤ 15 := ⟨hkp.r.2.2.1, hkp.r.2.2.2⟩
  have htp1 := htp.1
  have htp2 := htp.2.1
  have hwq := wrQ_e hwr
  have hwq1 := hwq.1
  have hwq2 := hwq.2.1
  have kn0 := sOk_N hok
  refine lv_aload_n hx_ hb_ dL_law_2202 rfl (lv_at hl 1 rfl) ?_
  refine lv_aload_n hx_ hb_ dL_law_2203 rfl (lv_at hl 0 rfl) ?_
  refine lv_iload hx_ hb_ dL_law_2204 (lv_at hl 4 rfl) ?_
  refine si_const S dL_law_2206 ?_
  refine si_add S dL_law_2207 ?_
  refine sc_sld S hV hX hzb (by omega) dL_law_2208 ?_
  refine lv_aload_n hx_ hb_ dL_law_2209 rfl (lv_at hl 0 rfl) ?_
  refine lv_iload hx_ hb_ dL_law_2210 (lv_at hl 4 rfl) ?_
  refine si_const S dL_law_2212 ?_
  refine si_add S dL_law_2213 ?_
  refine sc_sld S hV hX hzb (by omega) dL_law_2214 ?_
  refine lv_aload_n hx_ hb_ dL_law_2215 rfl (lv_at hl 0 rfl) ?_
  refine lv_iload hx_ hb_ dL_law_2216 (lv_at hl 4 rfl) ?_
  refine si_const S dL_law_2218 ?_
  refine si_add S dL_law_2219 ?_
  refine sc_sld S hV hX hzb (by omega) dL_law_2220 ?_
  refine lv_aload_n hx_ hb_ dL_law_2221 rfl (lv_at hl 0 rfl) ?_
  refine lv_iload hx_ hb_ dL_law_2222 (lv_at hl 4 rfl) ?_
  refine si_const S dL_law_2224 ?_
  refine si_add S dL_law_2225 ?_
  refine sc_sld S hV hX hzb (by omega) dL_law_2226 ?_
  refine lv_aload_n hx_ hb_ dL_law_2227 rfl (lv_at hl 3 rfl) ?_
  refine yk_Si (hh := [(0, 14, 17, 25), (0, 14, 21, 19), (0, 14, 25, 13)]) E hF_ hV (As := [.ref c, .int (sI (lX xs (i + 1))), .int (sI (lX xs (i + 2))), .int (sI (lX xs (i + 3))), .int (sI (lX xs (i + 4))), .ref o]) (rest := []) (kL_show l_ G b_ M N o g0 c kn ch f kb fs (lX xs (i + 1)) (lX xs (i + 2)) (lX xs (i + 3)) (lX xs (i + 4)) hc0 hst hkp ho9 (hlt) (hok) (by omega) (by omega) (hsL) (⟨lX_r xs _, lX_r xs _, lX_r xs _, lX_r xs _⟩) (by omega) (by omega)) (vx_cwSW 6 S.2.2.2.2 gL_law_L_show rfl rfl rfl (by decide +kernel) ⟨Nat.le_of_ble_eq_true rfl, Nat.le_of_ble_eq_true rfl⟩) rfl rfl hl.1 (Nat.le_of_ble_eq_true rfl) dL_law_2228 (c1 := cc_ + 25) (s1 := ss_ + 3000) ⟨⟨rfl, rfl⟩, by omega, by omega⟩ (fun z4 M1 N2 H locs hp3 hV => ?_)
  obtain ⟨kn15, hN6, hf7, hq8⟩ := hp3
  rcases hq8 with ⟨c9, ez10, hc11, hc12, hc13, hc14⟩ | ⟨c15, ez16, hc17, hc18, hc19, hc20⟩ | ⟨c21, ez22, hc23, hc24, hc25, hc26⟩ | ⟨c27, ez28, hc29, hc30, hc31, hc32⟩
  · rw [ez10]
    refine lv_istore (lv' := [(5, .int (sI 1)), (0, .ref z), (1, .ref c), (2, .ref m), (3, .ref o), (4, .int (sI i))]) hx_ hb_ dL_law_2231 hl (by decide) rfl (fun ls hl => ?_)
    refine lv_aload_n hx_ hb_ dL_law_2233 rfl (lv_at hl 3 rfl) ?_
    refine lv_aload_n hx_ hb_ dL_law_2234 rfl (lv_at hl 1 rfl) ?_
    refine lv_iload hx_ hb_ dL_law_2235 (lv_at hl 5 rfl) ?_
    refine si_const S dL_law_2237 ?_
    refine si_add S dL_law_2238 ?_
    refine sc_sld S hV hX hzb (by omega) dL_law_2239 ?_
    refine lv_aload_n hx_ hb_ dL_law_2240 rfl (lv_at hl 1 rfl) ?_
    refine lv_iload hx_ hb_ dL_law_2241 (lv_at hl 5 rfl) ?_
    refine si_const S dL_law_2243 ?_
    refine si_add S dL_law_2244 ?_
    refine sc_sld S hV hX hzb (by omega) dL_law_2245 ?_
    refine lv_aload_n hx_ hb_ dL_law_2246 rfl (lv_at hl 1 rfl) ?_
    refine lv_iload hx_ hb_ dL_law_2247 (lv_at hl 5 rfl) ?_
    refine si_const S dL_law_2249 ?_
    refine si_add S dL_law_2250 ?_
    refine sc_sld S hV hX hzb (by omega) dL_law_2251 ?_
    refine lv_aload_n hx_ hb_ dL_law_2252 rfl (lv_at hl 1 rfl) ?_
    refine lv_iload hx_ hb_ dL_law_2253 (lv_at hl 5 rfl) ?_
    refine si_const S dL_law_2255 ?_
    refine si_add S dL_law_2256 ?_
    refine sc_sld S hV hX hzb (by omega) dL_law_2257 ?_
    have ga34 : ∀ x : Nat, m ≤ x → x < m + 16 → M1 x = M x := fun x u1 u2 => hf7 x (by omega) (by omega) (by omega) (by omega) (by omega)
    have hc33 : M1 m = some (mO m th ch tn te sn nm wn) := (ga34 m (by omega) (by omega)).trans hm0
    have hc35 : M1 (m + 1) = some (sArr G 574 f) := (ga34 ((m + 1)) (by omega) (by omega)).trans hm1
    have hc36 : svC G M1 (m + 2) ch fs := hsv.fr (fun x q8 q9 => ga34 x (by omega) (by omega))
    refine sk_Vi E hV (As := [.int (sI (lX xs (i + 1))), .int (sI (lX xs (i + 2))), .int (sI (lX xs (i + 3))), .int (sI (lX xs (i + 4)))]) (rest := []) (kX11_show l_ G b_ M1 N2 m th ch tn te sn nm wn f fs (lX xs (i + 1)) (lX xs (i + 2)) (lX xs (i + 3)) (lX xs (i + 4)) hc33 hc35 hc36 (hok) (hchr) (⟨lX_r xs _, lX_r xs _, lX_r xs _, lX_r xs _⟩)) (cwV 4 S.2.2.2.2 gL_law_X11_show rfl rfl rfl (by decide +kernel) ⟨Nat.le_of_ble_eq_true rfl, Nat.le_of_ble_eq_true rfl⟩) (ci := 9) hc33 rfl rfl rfl hl.1 (Nat.le_of_ble_eq_true rfl) dL_law_2258 (c1 := cc_ + 25) (s1 := ss_ + 3000) ⟨⟨rfl, rfl⟩, by omega, by omega⟩ (fun z40 M37 N38 H locs hp39 hV => ?_)
    obtain ⟨hN41, hf42, hq43⟩ := hp39
    rw [hN41] at hV
    rcases hq43 with ⟨c44, ez45, hc46, hc47, hc48⟩ | ⟨c49, ez50, hc51, hc52, hc53⟩ | ⟨c54, ez55, hc56, hc57, hc58⟩ | ⟨c59, ez60, hc61, hc62, hc63⟩
    · rw [ez45]
      refine lv_istore (lv' := [(6, .int (sI 0)), (5, .int (sI 1)), (0, .ref z), (1, .ref c), (2, .ref m), (3, .ref o), (4, .int (sI i))]) hx_ hb_ dL_law_2261 hl (by decide) rfl (fun ls hl => ?_)
      refine lv_aload_n hx_ hb_ dL_law_2263 rfl (lv_at hl 4 rfl) ?_
      refine sk_VP E hV (As := []) (rest := []) (kX11_thrown l_ G b_ M37 N2 m 1 ch tn te sn nm wn hc46) (cwV 0 S.2.2.2.2 gL_law_X11_thrown rfl rfl rfl (by decide +kernel) ⟨Nat.le_of_ble_eq_true rfl, Nat.le_of_ble_eq_true rfl⟩) (ci := 9) hc46 rfl rfl rfl hl.1 (Nat.le_of_ble_eq_true rfl) dL_law_2264 (c1 := cc_ + 25) (s1 := ss_ + 3000) ⟨⟨rfl, rfl⟩, by omega, by omega⟩ (fun H locs hV => ?_)
      refine lv_iload hx_ hb_ dL_law_2267 (lv_at hl 1 rfl) ?_
      refine sb_eq (tgt := 2274) S dL_law_2269 (by decide) (by omega) (fun _ => ?_) (fun c64 => absurd c64 (by omega))
      refine lv_iload hx_ hb_ dL_law_2274 (lv_at hl 1 rfl) ?_
      refine sz_ne (tgt := 2291) S dL_law_2276 (by decide) (by omega) (fun _ => ?_) (fun c65 => absurd c65 (by omega))
      refine lv_goto (tgt := 2853) hx_ hb_ dL_law_2291 (by decide) ?_
      have gb67 : ∀ x : Nat, (x < m ∨ m + 16 ≤ x) → M37 x = M1 x := fun x u1 => hf42 x (by omega) (by omega) (by omega)
      have hc66 : M37 c = some (xO c kn15 ch) := (gb67 c (by omega)).trans hc11
      have hc68 : stC G M37 (c + 1) f := hc12.fr (fun x q8 q9 => gb67 x (by omega))
      have hc69 : triC G M37 (c + 16) := htr.fr (fun x q8 q9 => (gb67 x (by omega)).trans (hf7 x (by omega) (by omega) (by omega) (by omega) (by omega)))
      have hc70 : kpC G M37 (c + 31) kb kn15 ch fs := hc13.fr (fun x q8 => gb67 x (by omega))
      have hc71 : M37 (c + 32) = some (sObj 7 [.ref (c + 33), .int (sI tn), .int (sI te)]) := ((gb67 ((c + 32)) (by omega)).trans (hf7 (c + 32) (by omega) (by omega) (by omega) (by omega) (by omega))).trans ht0
      have hc72 : M37 (c + 33) = some (sArr G 300 t) := ((gb67 ((c + 33)) (by omega)).trans (hf7 (c + 33) (by omega) (by omega) (by omega) (by omega) (by omega))).trans ht1
      have hc73 : catC G M37 (c + 34) wc T := hct.fr (fun x q8 q9 => (gb67 x (by omega)).trans (hf7 x (by omega) (by omega) (by omega) (by omega) (by omega)))
      have hc74 : orfC G M37 (c + 38) := hft.fr (fun x q8 q9 => (gb67 x (by omega)).trans (hf7 x (by omega) (by omega) (by omega) (by omega) (by omega)))
      have hc75 : layC G M37 (c + 48) := hly.fr (fun x q8 q9 => (gb67 x (by omega)).trans (hf7 x (by omega) (by omega) (by omega) (by omega) (by omega)))
      have hc76 : knoC G M37 (c + 54) := hkn.fr (fun x q8 q9 => (gb67 x (by omega)).trans (hf7 x (by omega) (by omega) (by omega) (by omega) (by omega)))
      have hc77 : excC G M37 (c + 57) := hex.fr (fun x q8 q9 => (gb67 x (by omega)).trans (hf7 x (by omega) (by omega) (by omega) (by omega) (by omega)))
      have hc78 : M37 (m + 3) = some (sArr G 300 t) := ((hf42 (m + 3) (by omega) (by omega) (by omega)).trans (ga34 ((m + 3)) (by omega) (by omega))).trans hm3
      have hc79 : M37 (m + 4) = some (sArr G 11 A4) := ((hf42 (m + 4) (by omega) (by omega) (by omega)).trans (ga34 ((m + 4)) (by omega) (by omega))).trans hm4
      have hc80 : M37 (m + 5) = some (sArr G 1024 A5) := ((hf42 (m + 5) (by omega) (by omega) (by omega)).trans (ga34 ((m + 5)) (by omega) (by omega))).trans hm5
      have hc81 : M37 (m + 6) = some (sArr G 1024 A6) := ((hf42 (m + 6) (by omega) (by omega) (by omega)).trans (ga34 ((m + 6)) (by omega) (by omega))).trans hm6
      have hc82 : M37 (m + 7) = some (sArr G 10 A7) := ((hf42 (m + 7) (by omega) (by omega) (by omega)).trans (ga34 ((m + 7)) (by omega) (by omega))).trans hm7
      have hc83 : M37 (m + 8) = some (sArr G 10 A8) := ((hf42 (m + 8) (by omega) (by omega) (by omega)).trans (ga34 ((m + 8)) (by omega) (by omega))).trans hm8
      have hc84 : M37 (m + 9) = some (sArr G 62 A9) := ((hf42 (m + 9) (by omega) (by omega) (by omega)).trans (ga34 ((m + 9)) (by omega) (by omega))).trans hm9
      have hc85 : M37 (m + 10) = some (sArr G 8 A10) := ((hf42 (m + 10) (by omega) (by omega) (by omega)).trans (ga34 ((m + 10)) (by omega) (by omega))).trans hm10
      have hc86 : M37 (m + 11) = some (sArr G 8 A11) := ((hf42 (m + 11) (by omega) (by omega) (by omega)).trans (ga34 ((m + 11)) (by omega) (by omega))).trans hm11
      have hc87 : M37 (m + 12) = some (sArr G 60 A12) := ((hf42 (m + 12) (by omega) (by omega) (by omega)).trans (ga34 ((m + 12)) (by omega) (by omega))).trans hm12
      have hc88 : M37 (m + 13) = some (sArr G 240 A13) := ((hf42 (m + 13) (by omega) (by omega) (by omega)).trans (ga34 ((m + 13)) (by omega) (by omega))).trans hm13
      have hc89 : M37 (m + 14) = some (sArr G 574 A14) := ((hf42 (m + 14) (by omega) (by omega) (by omega)).trans (ga34 ((m + 14)) (by omega) (by omega))).trans hm14
      have hc90 : M37 (m + 15) = some (sArr G 200 T2) := ((hf42 (m + 15) (by omega) (by omega) (by omega)).trans (ga34 ((m + 15)) (by omega) (by omega))).trans hm15
      have hc91 : M37 o = some (sArL G 1 g0) := (gb67 o (by omega)).trans hc14
      exact W.widen (by omega) (by omega) (hk _ _ _ _ _ (by omega) ⟨_, _, _, _, _, _, _, _, _, _, _, _, _, _, _, _, _, _, _, _, _, _, _, _, _, _, hc66, hc68, hc69, hc70, hc71, hc72, hc73, hc74, hc75, hc76, hc77, hc46, hc47, hc48, hc78, hc79, hc80, hc81, hc82, hc83, hc84, hc85, hc86, hc87, hc88, hc89, hc90, hc91, lF_s hlF, htp, hwr⟩ hV (lv_sub hl [2, 3, 4, 5, 6] rfl))
    · rw [ez50]
      exact (nx_show_0_1 c9 c49).elim
    · rw [ez55]
      exact (nx_show_0_2 c9 c54).elim
    · rw [ez60]
      exact (nx_show_0_3 c9 c59).elim
  · rw [ez16]
    refine lv_istore (lv' := [(5, .int (sI 2)), (0, .ref z), (1, .ref c), (2, .ref m), (3, .ref o), (4, .int (sI i))]) hx_ hb_ dL_law_2231 hl (by decide) rfl (fun ls hl => ?_)
    refine lv_aload_n hx_ hb_ dL_law_2233 rfl (lv_at hl 3 rfl) ?_
    refine lv_aload_n hx_ hb_ dL_law_2234 rfl (lv_at hl 1 rfl) ?_
    refine lv_iload hx_ hb_ dL_law_2235 (lv_at hl 5 rfl) ?_
    refine si_const S dL_law_2237 ?_
    refine si_add S dL_law_2238 ?_
    refine sc_sld S hV hX hzb (by omega) dL_law_2239 ?_
    refine lv_aload_n hx_ hb_ dL_law_2240 rfl (lv_at hl 1 rfl) ?_
    refine lv_iload hx_ hb_ dL_law_2241 (lv_at hl 5 rfl) ?_
    refine si_const S dL_law_2243 ?_
    refine si_add S dL_law_2244 ?_
    refine sc_sld S hV hX hzb (by omega) dL_law_2245 ?_
    refine lv_aload_n hx_ hb_ dL_law_2246 rfl (lv_at hl 1 rfl) ?_
    refine lv_iload hx_ hb_ dL_law_2247 (lv_at hl 5 rfl) ?_
    refine si_const S dL_law_2249 ?_
    refine si_add S dL_law_2250 ?_
    refine sc_sld S hV hX hzb (by omega) dL_law_2251 ?_
    refine lv_aload_n hx_ hb_ dL_law_2252 rfl (lv_at hl 1 rfl) ?_
    refine lv_iload hx_ hb_ dL_law_2253 (lv_at hl 5 rfl) ?_
    refine si_const S dL_law_2255 ?_
    refine si_add S dL_law_2256 ?_
    refine sc_sld S hV hX hzb (by omega) dL_law_2257 ?_
    have ga93 : ∀ x : Nat, m ≤ x → x < m + 16 → M1 x = M x := fun x u1 u2 => hf7 x (by omega) (by omega) (by omega) (by omega) (by omega)
    have hc92 : M1 m = some (mO m th ch tn te sn nm wn) := (ga93 m (by omega) (by omega)).trans hm0
    have hc94 : M1 (m + 1) = some (sArr G 574 f) := (ga93 ((m + 1)) (by omega) (by omega)).trans hm1
    have hc95 : svC G M1 (m + 2) ch fs := hsv.fr (fun x q8 q9 => ga93 x (by omega) (by omega))
    refine sk_Vi E hV (As := [.int (sI (lX xs (i + 1))), .int (sI (lX xs (i + 2))), .int (sI (lX xs (i + 3))), .int (sI (lX xs (i + 4)))]) (rest := []) (kX11_show l_ G b_ M1 N2 m th ch tn te sn nm wn f fs (lX xs (i + 1)) (lX xs (i + 2)) (lX xs (i + 3)) (lX xs (i + 4)) hc92 hc94 hc95 (hok) (hchr) (⟨lX_r xs _, lX_r xs _, lX_r xs _, lX_r xs _⟩)) (cwV 4 S.2.2.2.2 gL_law_X11_show rfl rfl rfl (by decide +kernel) ⟨Nat.le_of_ble_eq_true rfl, Nat.le_of_ble_eq_true rfl⟩) (ci := 9) hc92 rfl rfl rfl hl.1 (Nat.le_of_ble_eq_true rfl) dL_law_2258 (c1 := cc_ + 25) (s1 := ss_ + 3000) ⟨⟨rfl, rfl⟩, by omega, by omega⟩ (fun z99 M96 N97 H locs hp98 hV => ?_)
    obtain ⟨hN100, hf101, hq102⟩ := hp98
    rw [hN100] at hV
    rcases hq102 with ⟨c103, ez104, hc105, hc106, hc107⟩ | ⟨c108, ez109, hc110, hc111, hc112⟩ | ⟨c113, ez114, hc115, hc116, hc117⟩ | ⟨c118, ez119, hc120, hc121, hc122⟩
    · rw [ez104]
      exact (nx_show_1_0 c15 c103).elim
    · rw [ez109]
      refine lv_istore (lv' := [(6, .int (sI 0)), (5, .int (sI 2)), (0, .ref z), (1, .ref c), (2, .ref m), (3, .ref o), (4, .int (sI i))]) hx_ hb_ dL_law_2261 hl (by decide) rfl (fun ls hl => ?_)
      refine lv_aload_n hx_ hb_ dL_law_2263 rfl (lv_at hl 4 rfl) ?_
      refine sk_VP E hV (As := []) (rest := []) (kX11_thrown l_ G b_ M96 N2 m 2 ch tn te sn nm wn hc110) (cwV 0 S.2.2.2.2 gL_law_X11_thrown rfl rfl rfl (by decide +kernel) ⟨Nat.le_of_ble_eq_true rfl, Nat.le_of_ble_eq_true rfl⟩) (ci := 9) hc110 rfl rfl rfl hl.1 (Nat.le_of_ble_eq_true rfl) dL_law_2264 (c1 := cc_ + 25) (s1 := ss_ + 3000) ⟨⟨rfl, rfl⟩, by omega, by omega⟩ (fun H locs hV => ?_)
      refine lv_iload hx_ hb_ dL_law_2267 (lv_at hl 1 rfl) ?_
      refine sb_eq (tgt := 2274) S dL_law_2269 (by decide) (by omega) (fun _ => ?_) (fun c123 => absurd c123 (by omega))
      refine lv_iload hx_ hb_ dL_law_2274 (lv_at hl 1 rfl) ?_
      refine sz_ne (tgt := 2291) S dL_law_2276 (by decide) (by omega) (fun _ => ?_) (fun c124 => absurd c124 (by omega))
      refine lv_goto (tgt := 2853) hx_ hb_ dL_law_2291 (by decide) ?_
      have gb126 : ∀ x : Nat, (x < m ∨ m + 16 ≤ x) → M96 x = M1 x := fun x u1 => hf101 x (by omega) (by omega) (by omega)
      have hc125 : M96 c = some (xO c kn15 ch) := (gb126 c (by omega)).trans hc17
      have hc127 : stC G M96 (c + 1) f := hc18.fr (fun x q8 q9 => gb126 x (by omega))
      have hc128 : triC G M96 (c + 16) := htr.fr (fun x q8 q9 => (gb126 x (by omega)).trans (hf7 x (by omega) (by omega) (by omega) (by omega) (by omega)))
      have hc129 : kpC G M96 (c + 31) kb kn15 ch fs := hc19.fr (fun x q8 => gb126 x (by omega))
      have hc130 : M96 (c + 32) = some (sObj 7 [.ref (c + 33), .int (sI tn), .int (sI te)]) := ((gb126 ((c + 32)) (by omega)).trans (hf7 (c + 32) (by omega) (by omega) (by omega) (by omega) (by omega))).trans ht0
      have hc131 : M96 (c + 33) = some (sArr G 300 t) := ((gb126 ((c + 33)) (by omega)).trans (hf7 (c + 33) (by omega) (by omega) (by omega) (by omega) (by omega))).trans ht1
      have hc132 : catC G M96 (c + 34) wc T := hct.fr (fun x q8 q9 => (gb126 x (by omega)).trans (hf7 x (by omega) (by omega) (by omega) (by omega) (by omega)))
      have hc133 : orfC G M96 (c + 38) := hft.fr (fun x q8 q9 => (gb126 x (by omega)).trans (hf7 x (by omega) (by omega) (by omega) (by omega) (by omega)))
      have hc134 : layC G M96 (c + 48) := hly.fr (fun x q8 q9 => (gb126 x (by omega)).trans (hf7 x (by omega) (by omega) (by omega) (by omega) (by omega)))
      have hc135 : knoC G M96 (c + 54) := hkn.fr (fun x q8 q9 => (gb126 x (by omega)).trans (hf7 x (by omega) (by omega) (by omega) (by omega) (by omega)))
      have hc136 : excC G M96 (c + 57) := hex.fr (fun x q8 q9 => (gb126 x (by omega)).trans (hf7 x (by omega) (by omega) (by omega) (by omega) (by omega)))
      have hc137 : M96 (m + 3) = some (sArr G 300 t) := ((hf101 (m + 3) (by omega) (by omega) (by omega)).trans (ga93 ((m + 3)) (by omega) (by omega))).trans hm3
      have hc138 : M96 (m + 4) = some (sArr G 11 A4) := ((hf101 (m + 4) (by omega) (by omega) (by omega)).trans (ga93 ((m + 4)) (by omega) (by omega))).trans hm4
      have hc139 : M96 (m + 5) = some (sArr G 1024 A5) := ((hf101 (m + 5) (by omega) (by omega) (by omega)).trans (ga93 ((m + 5)) (by omega) (by omega))).trans hm5
      have hc140 : M96 (m + 6) = some (sArr G 1024 A6) := ((hf101 (m + 6) (by omega) (by omega) (by omega)).trans (ga93 ((m + 6)) (by omega) (by omega))).trans hm6
      have hc141 : M96 (m + 7) = some (sArr G 10 A7) := ((hf101 (m + 7) (by omega) (by omega) (by omega)).trans (ga93 ((m + 7)) (by omega) (by omega))).trans hm7
      have hc142 : M96 (m + 8) = some (sArr G 10 A8) := ((hf101 (m + 8) (by omega) (by omega) (by omega)).trans (ga93 ((m + 8)) (by omega) (by omega))).trans hm8
      have hc143 : M96 (m + 9) = some (sArr G 62 A9) := ((hf101 (m + 9) (by omega) (by omega) (by omega)).trans (ga93 ((m + 9)) (by omega) (by omega))).trans hm9
      have hc144 : M96 (m + 10) = some (sArr G 8 A10) := ((hf101 (m + 10) (by omega) (by omega) (by omega)).trans (ga93 ((m + 10)) (by omega) (by omega))).trans hm10
      have hc145 : M96 (m + 11) = some (sArr G 8 A11) := ((hf101 (m + 11) (by omega) (by omega) (by omega)).trans (ga93 ((m + 11)) (by omega) (by omega))).trans hm11
      have hc146 : M96 (m + 12) = some (sArr G 60 A12) := ((hf101 (m + 12) (by omega) (by omega) (by omega)).trans (ga93 ((m + 12)) (by omega) (by omega))).trans hm12
      have hc147 : M96 (m + 13) = some (sArr G 240 A13) := ((hf101 (m + 13) (by omega) (by omega) (by omega)).trans (ga93 ((m + 13)) (by omega) (by omega))).trans hm13
      have hc148 : M96 (m + 14) = some (sArr G 574 A14) := ((hf101 (m + 14) (by omega) (by omega) (by omega)).trans (ga93 ((m + 14)) (by omega) (by omega))).trans hm14
      have hc149 : M96 (m + 15) = some (sArr G 200 T2) := ((hf101 (m + 15) (by omega) (by omega) (by omega)).trans (ga93 ((m + 15)) (by omega) (by omega))).trans hm15
      have hc150 : M96 o = some (sArL G 1 g0) := (gb126 o (by omega)).trans hc20
      exact W.widen (by omega) (by omega) (hk _ _ _ _ _ (by omega) ⟨_, _, _, _, _, _, _, _, _, _, _, _, _, _, _, _, _, _, _, _, _, _, _, _, _, _, hc125, hc127, hc128, hc129, hc130, hc131, hc132, hc133, hc134, hc135, hc136, hc110, hc111, hc112, hc137, hc138, hc139, hc140, hc141, hc142, hc143, hc144, hc145, hc146, hc147, hc148, hc149, hc150, lF_s hlF, htp, hwr⟩ hV (lv_sub hl [2, 3, 4, 5, 6] rfl))
    · rw [ez114]
      exact (nx_show_1_2 c15 c113).elim
    · rw [ez119]
      exact (nx_show_1_3 c15 c118).elim
  · rw [ez22]
    refine lv_istore (lv' := [(5, .int (sI 3)), (0, .ref z), (1, .ref c), (2, .ref m), (3, .ref o), (4, .int (sI i))]) hx_ hb_ dL_law_2231 hl (by decide) rfl (fun ls hl => ?_)
    refine lv_aload_n hx_ hb_ dL_law_2233 rfl (lv_at hl 3 rfl) ?_
    refine lv_aload_n hx_ hb_ dL_law_2234 rfl (lv_at hl 1 rfl) ?_
    refine lv_iload hx_ hb_ dL_law_2235 (lv_at hl 5 rfl) ?_
    refine si_const S dL_law_2237 ?_
    refine si_add S dL_law_2238 ?_
    refine sc_sld S hV hX hzb (by omega) dL_law_2239 ?_
    refine lv_aload_n hx_ hb_ dL_law_2240 rfl (lv_at hl 1 rfl) ?_
    refine lv_iload hx_ hb_ dL_law_2241 (lv_at hl 5 rfl) ?_
    refine si_const S dL_law_2243 ?_
    refine si_add S dL_law_2244 ?_
    refine sc_sld S hV hX hzb (by omega) dL_law_2245 ?_
    refine lv_aload_n hx_ hb_ dL_law_2246 rfl (lv_at hl 1 rfl) ?_
    refine lv_iload hx_ hb_ dL_law_2247 (lv_at hl 5 rfl) ?_
    refine si_const S dL_law_2249 ?_
    refine si_add S dL_law_2250 ?_
    refine sc_sld S hV hX hzb (by omega) dL_law_2251 ?_
    refine lv_aload_n hx_ hb_ dL_law_2252 rfl (lv_at hl 1 rfl) ?_
    refine lv_iload hx_ hb_ dL_law_2253 (lv_at hl 5 rfl) ?_
    refine si_const S dL_law_2255 ?_
    refine si_add S dL_law_2256 ?_
    refine sc_sld S hV hX hzb (by omega) dL_law_2257 ?_
    have ga152 : ∀ x : Nat, m ≤ x → x < m + 16 → M1 x = M x := fun x u1 u2 => hf7 x (by omega) (by omega) (by omega) (by omega) (by omega)
    have hc151 : M1 m = some (mO m th ch tn te sn nm wn) := (ga152 m (by omega) (by omega)).trans hm0
    have hc153 : M1 (m + 1) = some (sArr G 574 f) := (ga152 ((m + 1)) (by omega) (by omega)).trans hm1
    have hc154 : svC G M1 (m + 2) ch fs := hsv.fr (fun x q8 q9 => ga152 x (by omega) (by omega))
    refine sk_Vi E hV (As := [.int (sI (lX xs (i + 1))), .int (sI (lX xs (i + 2))), .int (sI (lX xs (i + 3))), .int (sI (lX xs (i + 4)))]) (rest := []) (kX11_show l_ G b_ M1 N2 m th ch tn te sn nm wn f fs (lX xs (i + 1)) (lX xs (i + 2)) (lX xs (i + 3)) (lX xs (i + 4)) hc151 hc153 hc154 (hok) (hchr) (⟨lX_r xs _, lX_r xs _, lX_r xs _, lX_r xs _⟩)) (cwV 4 S.2.2.2.2 gL_law_X11_show rfl rfl rfl (by decide +kernel) ⟨Nat.le_of_ble_eq_true rfl, Nat.le_of_ble_eq_true rfl⟩) (ci := 9) hc151 rfl rfl rfl hl.1 (Nat.le_of_ble_eq_true rfl) dL_law_2258 (c1 := cc_ + 25) (s1 := ss_ + 3000) ⟨⟨rfl, rfl⟩, by omega, by omega⟩ (fun z158 M155 N156 H locs hp157 hV => ?_)
    obtain ⟨hN159, hf160, hq161⟩ := hp157
    rw [hN159] at hV
    rcases hq161 with ⟨c162, ez163, hc164, hc165, hc166⟩ | ⟨c167, ez168, hc169, hc170, hc171⟩ | ⟨c172, ez173, hc174, hc175, hc176⟩ | ⟨c177, ez178, hc179, hc180, hc181⟩
    · rw [ez163]
      exact (nx_show_2_0 c21 c162).elim
    · rw [ez168]
      exact (nx_show_2_1 c21 c167).elim
    · rw [ez173]
      refine lv_istore (lv' := [(6, .int (sI 0)), (5, .int (sI 3)), (0, .ref z), (1, .ref c), (2, .ref m), (3, .ref o), (4, .int (sI i))]) hx_ hb_ dL_law_2261 hl (by decide) rfl (fun ls hl => ?_)
      refine lv_aload_n hx_ hb_ dL_law_2263 rfl (lv_at hl 4 rfl) ?_
      refine sk_VP E hV (As := []) (rest := []) (kX11_thrown l_ G b_ M155 N2 m 3 ch tn te sn nm wn hc174) (cwV 0 S.2.2.2.2 gL_law_X11_thrown rfl rfl rfl (by decide +kernel) ⟨Nat.le_of_ble_eq_true rfl, Nat.le_of_ble_eq_true rfl⟩) (ci := 9) hc174 rfl rfl rfl hl.1 (Nat.le_of_ble_eq_true rfl) dL_law_2264 (c1 := cc_ + 25) (s1 := ss_ + 3000) ⟨⟨rfl, rfl⟩, by omega, by omega⟩ (fun H locs hV => ?_)
      refine lv_iload hx_ hb_ dL_law_2267 (lv_at hl 1 rfl) ?_
      refine sb_eq (tgt := 2274) S dL_law_2269 (by decide) (by omega) (fun _ => ?_) (fun c182 => absurd c182 (by omega))
      refine lv_iload hx_ hb_ dL_law_2274 (lv_at hl 1 rfl) ?_
      refine sz_ne (tgt := 2291) S dL_law_2276 (by decide) (by omega) (fun _ => ?_) (fun c183 => absurd c183 (by omega))
      refine lv_goto (tgt := 2853) hx_ hb_ dL_law_2291 (by decide) ?_
      have gb185 : ∀ x : Nat, (x < m ∨ m + 16 ≤ x) → M155 x = M1 x := fun x u1 => hf160 x (by omega) (by omega) (by omega)
      have hc184 : M155 c = some (xO c kn15 ch) := (gb185 c (by omega)).trans hc23
      have hc186 : stC G M155 (c + 1) f := hc24.fr (fun x q8 q9 => gb185 x (by omega))
      have hc187 : triC G M155 (c + 16) := htr.fr (fun x q8 q9 => (gb185 x (by omega)).trans (hf7 x (by omega) (by omega) (by omega) (by omega) (by omega)))
      have hc188 : kpC G M155 (c + 31) kb kn15 ch fs := hc25.fr (fun x q8 => gb185 x (by omega))
      have hc189 : M155 (c + 32) = some (sObj 7 [.ref (c + 33), .int (sI tn), .int (sI te)]) := ((gb185 ((c + 32)) (by omega)).trans (hf7 (c + 32) (by omega) (by omega) (by omega) (by omega) (by omega))).trans ht0
      have hc190 : M155 (c + 33) = some (sArr G 300 t) := ((gb185 ((c + 33)) (by omega)).trans (hf7 (c + 33) (by omega) (by omega) (by omega) (by omega) (by omega))).trans ht1
      have hc191 : catC G M155 (c + 34) wc T := hct.fr (fun x q8 q9 => (gb185 x (by omega)).trans (hf7 x (by omega) (by omega) (by omega) (by omega) (by omega)))
      have hc192 : orfC G M155 (c + 38) := hft.fr (fun x q8 q9 => (gb185 x (by omega)).trans (hf7 x (by omega) (by omega) (by omega) (by omega) (by omega)))
      have hc193 : layC G M155 (c + 48) := hly.fr (fun x q8 q9 => (gb185 x (by omega)).trans (hf7 x (by omega) (by omega) (by omega) (by omega) (by omega)))
      have hc194 : knoC G M155 (c + 54) := hkn.fr (fun x q8 q9 => (gb185 x (by omega)).trans (hf7 x (by omega) (by omega) (by omega) (by omega) (by omega)))
      have hc195 : excC G M155 (c + 57) := hex.fr (fun x q8 q9 => (gb185 x (by omega)).trans (hf7 x (by omega) (by omega) (by omega) (by omega) (by omega)))
      have hc196 : M155 (m + 3) = some (sArr G 300 t) := ((hf160 (m + 3) (by omega) (by omega) (by omega)).trans (ga152 ((m + 3)) (by omega) (by omega))).trans hm3
      have hc197 : M155 (m + 4) = some (sArr G 11 A4) := ((hf160 (m + 4) (by omega) (by omega) (by omega)).trans (ga152 ((m + 4)) (by omega) (by omega))).trans hm4
      have hc198 : M155 (m + 5) = some (sArr G 1024 A5) := ((hf160 (m + 5) (by omega) (by omega) (by omega)).trans (ga152 ((m + 5)) (by omega) (by omega))).trans hm5
      have hc199 : M155 (m + 6) = some (sArr G 1024 A6) := ((hf160 (m + 6) (by omega) (by omega) (by omega)).trans (ga152 ((m + 6)) (by omega) (by omega))).trans hm6
      have hc200 : M155 (m + 7) = some (sArr G 10 A7) := ((hf160 (m + 7) (by omega) (by omega) (by omega)).trans (ga152 ((m + 7)) (by omega) (by omega))).trans hm7
      have hc201 : M155 (m + 8) = some (sArr G 10 A8) := ((hf160 (m + 8) (by omega) (by omega) (by omega)).trans (ga152 ((m + 8)) (by omega) (by omega))).trans hm8
      have hc202 : M155 (m + 9) = some (sArr G 62 A9) := ((hf160 (m + 9) (by omega) (by omega) (by omega)).trans (ga152 ((m + 9)) (by omega) (by omega))).trans hm9
      have hc203 : M155 (m + 10) = some (sArr G 8 A10) := ((hf160 (m + 10) (by omega) (by omega) (by omega)).trans (ga152 ((m + 10)) (by omega) (by omega))).trans hm10
      have hc204 : M155 (m + 11) = some (sArr G 8 A11) := ((hf160 (m + 11) (by omega) (by omega) (by omega)).trans (ga152 ((m + 11)) (by omega) (by omega))).trans hm11
      have hc205 : M155 (m + 12) = some (sArr G 60 A12) := ((hf160 (m + 12) (by omega) (by omega) (by omega)).trans (ga152 ((m + 12)) (by omega) (by omega))).trans hm12
      have hc206 : M155 (m + 13) = some (sArr G 240 A13) := ((hf160 (m + 13) (by omega) (by omega) (by omega)).trans (ga152 ((m + 13)) (by omega) (by omega))).trans hm13
      have hc207 : M155 (m + 14) = some (sArr G 574 A14) := ((hf160 (m + 14) (by omega) (by omega) (by omega)).trans (ga152 ((m + 14)) (by omega) (by omega))).trans hm14
      have hc208 : M155 (m + 15) = some (sArr G 200 T2) := ((hf160 (m + 15) (by omega) (by omega) (by omega)).trans (ga152 ((m + 15)) (by omega) (by omega))).trans hm15
      have hc209 : M155 o = some (sArL G 1 g0) := (gb185 o (by omega)).trans hc26
      exact W.widen (by omega) (by omega) (hk _ _ _ _ _ (by omega) ⟨_, _, _, _, _, _, _, _, _, _, _, _, _, _, _, _, _, _, _, _, _, _, _, _, _, _, hc184, hc186, hc187, hc188, hc189, hc190, hc191, hc192, hc193, hc194, hc195, hc174, hc175, hc176, hc196, hc197, hc198, hc199, hc200, hc201, hc202, hc203, hc204, hc205, hc206, hc207, hc208, hc209, lF_s hlF, htp, hwr⟩ hV (lv_sub hl [2, 3, 4, 5, 6] rfl))
    · rw [ez178]
      exact (nx_show_2_3 c21 c177).elim
  · rw [ez28]
    refine lv_istore (lv' := [(5, .int (sI 0)), (0, .ref z), (1, .ref c), (2, .ref m), (3, .ref o), (4, .int (sI i))]) hx_ hb_ dL_law_2231 hl (by decide) rfl (fun ls hl => ?_)
    refine lv_aload_n hx_ hb_ dL_law_2233 rfl (lv_at hl 3 rfl) ?_
    refine lv_aload_n hx_ hb_ dL_law_2234 rfl (lv_at hl 1 rfl) ?_
    refine lv_iload hx_ hb_ dL_law_2235 (lv_at hl 5 rfl) ?_
    refine si_const S dL_law_2237 ?_
    refine si_add S dL_law_2238 ?_
    refine sc_sld S hV hX hzb (by omega) dL_law_2239 ?_
    refine lv_aload_n hx_ hb_ dL_law_2240 rfl (lv_at hl 1 rfl) ?_
    refine lv_iload hx_ hb_ dL_law_2241 (lv_at hl 5 rfl) ?_
    refine si_const S dL_law_2243 ?_
    refine si_add S dL_law_2244 ?_
    refine sc_sld S hV hX hzb (by omega) dL_law_2245 ?_
    refine lv_aload_n hx_ hb_ dL_law_2246 rfl (lv_at hl 1 rfl) ?_
    refine lv_iload hx_ hb_ dL_law_2247 (lv_at hl 5 rfl) ?_
    refine si_const S dL_law_2249 ?_
    refine si_add S dL_law_2250 ?_
    refine sc_sld S hV hX hzb (by omega) dL_law_2251 ?_
    refine lv_aload_n hx_ hb_ dL_law_2252 rfl (lv_at hl 1 rfl) ?_
    refine lv_iload hx_ hb_ dL_law_2253 (lv_at hl 5 rfl) ?_
    refine si_const S dL_law_2255 ?_
    refine si_add S dL_law_2256 ?_
    refine sc_sld S hV hX hzb (by omega) dL_law_2257 ?_
    have ga211 : ∀ x : Nat, m ≤ x → x < m + 16 → M1 x = M x := fun x u1 u2 => hf7 x (by omega) (by omega) (by omega) (by omega) (by omega)
    have hc210 : M1 m = some (mO m th ch tn te sn nm wn) := (ga211 m (by omega) (by omega)).trans hm0
    have hc212 : M1 (m + 1) = some (sArr G 574 f) := (ga211 ((m + 1)) (by omega) (by omega)).trans hm1
    have hc213 : svC G M1 (m + 2) ch fs := hsv.fr (fun x q8 q9 => ga211 x (by omega) (by omega))
    refine sk_Vi E hV (As := [.int (sI (lX xs (i + 1))), .int (sI (lX xs (i + 2))), .int (sI (lX xs (i + 3))), .int (sI (lX xs (i + 4)))]) (rest := []) (kX11_show l_ G b_ M1 N2 m th ch tn te sn nm wn f fs (lX xs (i + 1)) (lX xs (i + 2)) (lX xs (i + 3)) (lX xs (i + 4)) hc210 hc212 hc213 (hok) (hchr) (⟨lX_r xs _, lX_r xs _, lX_r xs _, lX_r xs _⟩)) (cwV 4 S.2.2.2.2 gL_law_X11_show rfl rfl rfl (by decide +kernel) ⟨Nat.le_of_ble_eq_true rfl, Nat.le_of_ble_eq_true rfl⟩) (ci := 9) hc210 rfl rfl rfl hl.1 (Nat.le_of_ble_eq_true rfl) dL_law_2258 (c1 := cc_ + 25) (s1 := ss_ + 3000) ⟨⟨rfl, rfl⟩, by omega, by omega⟩ (fun z217 M214 N215 H locs hp216 hV => ?_)
    obtain ⟨hN218, hf219, hq220⟩ := hp216
    rw [hN218] at hV
    rcases hq220 with ⟨c221, ez222, hc223, hc224, hc225⟩ | ⟨c226, ez227, hc228, hc229, hc230⟩ | ⟨c231, ez232, hc233, hc234, hc235⟩ | ⟨c236, ez237, hc238, hc239, hc240⟩
    · rw [ez222]
      exact (nx_show_3_0 c27 c221).elim
    · rw [ez227]
      exact (nx_show_3_1 c27 c226).elim
    · rw [ez232]
      exact (nx_show_3_2 c27 c231).elim
    · rw [ez237]
      refine lv_istore (lv' := [(6, .int (sI (f 572))), (5, .int (sI 0)), (0, .ref z), (1, .ref c), (2, .ref m), (3, .ref o), (4, .int (sI i))]) hx_ hb_ dL_law_2261 hl (by decide) rfl (fun ls hl => ?_)
      refine lv_aload_n hx_ hb_ dL_law_2263 rfl (lv_at hl 4 rfl) ?_
      refine sk_VP E hV (As := []) (rest := []) (kX11_thrown l_ G b_ M214 N2 m 0 (chn ch) tn te sn nm wn hc238) (cwV 0 S.2.2.2.2 gL_law_X11_thrown rfl rfl rfl (by decide +kernel) ⟨Nat.le_of_ble_eq_true rfl, Nat.le_of_ble_eq_true rfl⟩) (ci := 9) hc238 rfl rfl rfl hl.1 (Nat.le_of_ble_eq_true rfl) dL_law_2264 (c1 := cc_ + 25) (s1 := ss_ + 3000) ⟨⟨rfl, rfl⟩, by omega, by omega⟩ (fun H locs hV => ?_)
      refine lv_iload hx_ hb_ dL_law_2267 (lv_at hl 1 rfl) ?_
      refine sb_eq (tgt := 2274) S dL_law_2269 (by decide) (by omega) (fun _ => ?_) (fun c241 => absurd c241 (by omega))
      refine lv_iload hx_ hb_ dL_law_2274 (lv_at hl 1 rfl) ?_
      refine sz_ne (tgt := 2291) S dL_law_2276 (by decide) (by omega) (fun c242 => absurd c242 (by omega)) (fun _ => ?_)
      refine lv_aload_n hx_ hb_ dL_law_2279 rfl (lv_at hl 5 rfl) ?_
      refine si_const S dL_law_2280 ?_
      have gb244 : ∀ x : Nat, (x < m ∨ m + 16 ≤ x) → M214 x = M1 x := fun x u1 => hf219 x (by omega) (by omega) (by omega)
      have hc243 : M214 o = some (sArL G 1 (iup g0 0 (sW (f 572)))) := (gb244 o (by omega)).trans hc32
      refine sc_lald S hK hV hc243 (by omega) dL_law_2281 ?_
      rw [show (iup g0 0 (sW (f 572))) 0 = sW (f 572) from if_pos rfl]
      refine lv_iload hx_ hb_ dL_law_2282 (lv_at hl 0 rfl) ?_
      refine sl_i2w S dL_law_2284 ?_
      refine sl_cmp0 S (rfl) dL_law_2285 ?_
      refine sz_eq (tgt := 2291) S dL_law_2286 (by decide) (by omega) (fun _ => ?_) (fun c245 => absurd c245 (by omega))
      refine lv_goto (tgt := 2853) hx_ hb_ dL_law_2291 (by decide) ?_
      have hc246 : M214 c = some (xO c kn15 (chn ch)) := (gb244 c (by omega)).trans hc29
      have hc247 : stC G M214 (c + 1) (shF f (lX xs (i + 1)) (dayI (lX xs (i + 2)) + 3652) (lX xs (i + 3)) (lX xs (i + 4))) := hc30.fr (fun x q8 q9 => gb244 x (by omega))
      have hc248 : triC G M214 (c + 16) := htr.fr (fun x q8 q9 => (gb244 x (by omega)).trans (hf7 x (by omega) (by omega) (by omega) (by omega) (by omega)))
      have hc249 : kpC G M214 (c + 31) kb kn15 (chn ch) (fsn ch fs f) := hc31.fr (fun x q8 => gb244 x (by omega))
      have hc250 : M214 (c + 32) = some (sObj 7 [.ref (c + 33), .int (sI tn), .int (sI te)]) := ((gb244 ((c + 32)) (by omega)).trans (hf7 (c + 32) (by omega) (by omega) (by omega) (by omega) (by omega))).trans ht0
      have hc251 : M214 (c + 33) = some (sArr G 300 t) := ((gb244 ((c + 33)) (by omega)).trans (hf7 (c + 33) (by omega) (by omega) (by omega) (by omega) (by omega))).trans ht1
      have hc252 : catC G M214 (c + 34) wc T := hct.fr (fun x q8 q9 => (gb244 x (by omega)).trans (hf7 x (by omega) (by omega) (by omega) (by omega) (by omega)))
      have hc253 : orfC G M214 (c + 38) := hft.fr (fun x q8 q9 => (gb244 x (by omega)).trans (hf7 x (by omega) (by omega) (by omega) (by omega) (by omega)))
      have hc254 : layC G M214 (c + 48) := hly.fr (fun x q8 q9 => (gb244 x (by omega)).trans (hf7 x (by omega) (by omega) (by omega) (by omega) (by omega)))
      have hc255 : knoC G M214 (c + 54) := hkn.fr (fun x q8 q9 => (gb244 x (by omega)).trans (hf7 x (by omega) (by omega) (by omega) (by omega) (by omega)))
      have hc256 : excC G M214 (c + 57) := hex.fr (fun x q8 q9 => (gb244 x (by omega)).trans (hf7 x (by omega) (by omega) (by omega) (by omega) (by omega)))
      have hc257 : M214 (m + 3) = some (sArr G 300 t) := ((hf219 (m + 3) (by omega) (by omega) (by omega)).trans (ga211 ((m + 3)) (by omega) (by omega))).trans hm3
      have hc258 : M214 (m + 4) = some (sArr G 11 A4) := ((hf219 (m + 4) (by omega) (by omega) (by omega)).trans (ga211 ((m + 4)) (by omega) (by omega))).trans hm4
      have hc259 : M214 (m + 5) = some (sArr G 1024 A5) := ((hf219 (m + 5) (by omega) (by omega) (by omega)).trans (ga211 ((m + 5)) (by omega) (by omega))).trans hm5
      have hc260 : M214 (m + 6) = some (sArr G 1024 A6) := ((hf219 (m + 6) (by omega) (by omega) (by omega)).trans (ga211 ((m + 6)) (by omega) (by omega))).trans hm6
      have hc261 : M214 (m + 7) = some (sArr G 10 A7) := ((hf219 (m + 7) (by omega) (by omega) (by omega)).trans (ga211 ((m + 7)) (by omega) (by omega))).trans hm7
      have hc262 : M214 (m + 8) = some (sArr G 10 A8) := ((hf219 (m + 8) (by omega) (by omega) (by omega)).trans (ga211 ((m + 8)) (by omega) (by omega))).trans hm8
      have hc263 : M214 (m + 9) = some (sArr G 62 A9) := ((hf219 (m + 9) (by omega) (by omega) (by omega)).trans (ga211 ((m + 9)) (by omega) (by omega))).trans hm9
      have hc264 : M214 (m + 10) = some (sArr G 8 A10) := ((hf219 (m + 10) (by omega) (by omega) (by omega)).trans (ga211 ((m + 10)) (by omega) (by omega))).trans hm10
      have hc265 : M214 (m + 11) = some (sArr G 8 A11) := ((hf219 (m + 11) (by omega) (by omega) (by omega)).trans (ga211 ((m + 11)) (by omega) (by omega))).trans hm11
      have hc266 : M214 (m + 12) = some (sArr G 60 A12) := ((hf219 (m + 12) (by omega) (by omega) (by omega)).trans (ga211 ((m + 12)) (by omega) (by omega))).trans hm12
      have hc267 : M214 (m + 13) = some (sArr G 240 A13) := ((hf219 (m + 13) (by omega) (by omega) (by omega)).trans (ga211 ((m + 13)) (by omega) (by omega))).trans hm13
      have hc268 : M214 (m + 14) = some (sArr G 574 A14) := ((hf219 (m + 14) (by omega) (by omega) (by omega)).trans (ga211 ((m + 14)) (by omega) (by omega))).trans hm14
      have hc269 : M214 (m + 15) = some (sArr G 200 T2) := ((hf219 (m + 15) (by omega) (by omega) (by omega)).trans (ga211 ((m + 15)) (by omega) (by omega))).trans hm15
      exact W.widen (by omega) (by omega) (hk _ _ _ _ _ (by omega) ⟨_, _, _, _, _, _, _, _, _, _, _, _, _, _, _, _, _, _, _, _, _, _, _, _, _, _, hc246, hc247, hc248, hc249, hc250, hc251, hc252, hc253, hc254, hc255, hc256, hc238, hc239, hc240, hc257, hc258, hc259, hc260, hc261, hc262, hc263, hc264, hc265, hc266, hc267, hc268, hc269, hc243, lF_k hchr hlF (g_sh hlF.1 (by omega) c27.2.1 (by omega) c27.2.2.2), htp, hwr⟩ hV (lv_sub hl [2, 3, 4, 5, 6] rfl))

theorem nx_light_0_1 {s : Int} {f : sF} {y : Int} (h1 : ¬ (0 ≤ s ∧ s < f 568)) (h2 : (0 ≤ s ∧ s < f 568) ∧ ¬ (1900 ≤ y ∧ y ≤ 2199)) : False := by
  first
  | omega
  | (simp_all; done)
  | (simp_all; omega)
theorem nx_light_0_2 {s : Int} {f : sF} {y : Int} (h1 : ¬ (0 ≤ s ∧ s < f 568)) (h2 : (0 ≤ s ∧ s < f 568) ∧ 1900 ≤ y ∧ y ≤ 2199) : False := by
  first
  | omega
  | (simp_all; done)
  | (simp_all; omega)
theorem nx_light_1_0 {s : Int} {f : sF} {y : Int} (h1 : (0 ≤ s ∧ s < f 568) ∧ ¬ (1900 ≤ y ∧ y ≤ 2199)) (h2 : ¬ (0 ≤ s ∧ s < f 568)) : False := by
  first
  | omega
  | (simp_all; done)
  | (simp_all; omega)
theorem nx_light_1_2 {s : Int} {f : sF} {y : Int} (h1 : (0 ≤ s ∧ s < f 568) ∧ ¬ (1900 ≤ y ∧ y ≤ 2199)) (h2 : (0 ≤ s ∧ s < f 568) ∧ 1900 ≤ y ∧ y ≤ 2199) : False := by
  first
  | omega
  | (simp_all; done)
  | (simp_all; omega)
theorem nx_light_2_0 {s : Int} {f : sF} {y : Int} (h1 : (0 ≤ s ∧ s < f 568) ∧ 1900 ≤ y ∧ y ≤ 2199) (h2 : ¬ (0 ≤ s ∧ s < f 568)) : False := by
  first
  | omega
  | (simp_all; done)
  | (simp_all; omega)
theorem nx_light_2_1 {s : Int} {f : sF} {y : Int} (h1 : (0 ≤ s ∧ s < f 568) ∧ 1900 ≤ y ∧ y ≤ 2199) (h2 : (0 ≤ s ∧ s < f 568) ∧ ¬ (1900 ≤ y ∧ y ≤ 2199)) : False := by
  first
  | omega
  | (simp_all; done)
  | (simp_all; omega)
set_option maxHeartbeats 4000000 in
set_option maxRecDepth 100000 in
theorem law_33 {p_ : Program} {l_ : Launch} {e_ : Env} {s_ : State} {m_ : MethodId} {args_ : Array Value} {below_ : List Frame} {meth_ : Method} {c_ : Code} {nm_ : String} {G : sG} {b_ : Nat} {M0 : sM} {N0 : Nat} {Q : State → Prop} (E : sE p_ l_ e_ room_1 s_ m_ args_ below_ meth_ c_ cL_law 9 wsL_law RL nm_ (some .boolean) G b_ M0 N0) (hF_ : xcF s_) (hlt : l_.stackTraces = false) {z L : Nat} {xs : Nat → Int32} (hX : va_X z L xs s_ s_.heap) (hzb : z < b_) {c m o kb : Nat} (hg : c + 60 ≤ m ∧ m + 16 ≤ o ∧ o < kb) {cc_ ss_ : Nat} (hcc : cc_ + 1170 ≤ room_1.cells ∧ ss_ + 14000 ≤ room_1.slots) {q i : Int} (hi : 0 ≤ i ∧ i + 6 ≤ L ∧ (L : Int) ≤ 3072) (hq : 0 ≤ q ∧ q ≤ 600) {M : sM} {N : Nat} (hkN : kb ≤ N) (hI : lI G M c m o kb q) {H : Heap} {locs : List Loc} {ls : Array Slot} (hV : sV G b_ M N s_ H locs) (hl : lv_has ls 9 [(0, .ref z), (1, .ref c), (2, .ref m), (3, .ref o), (4, .int (sI i))])
    (hk : ∀ (M1 : sM) (N1 : Nat) (H1 : Heap) (locs1 : List Loc) (ls1 : Array Slot), kb ≤ N1 → lI G M1 c m o kb (q + 1) → sV G b_ M1 N1 s_ H1 locs1 → lv_has ls1 9 [(0, .ref z), (1, .ref c), (2, .ref m), (3, .ref o), (4, .int (sI i))] → W p_ l_ e_ room_1 s_ m_ args_ below_ meth_ c_ H1 locs1 (cc_ + 1170) (ss_ + 14000) Q (F0 m_ 2853 ls1 [])) : W p_ l_ e_ room_1 s_ m_ args_ below_ meth_ c_ H locs cc_ ss_ Q (F0 m_ 2294 ls []) := by
  have S := E.1
  have hx_ := S.1
  have hb_ := S.2.1
  have hK := E.2.2.2.2.1
  have hI2 := hI
  obtain ⟨kn, ch, f, fs, tn, te, t, wc, wn, T, T2, th, sn, nm, g0, A4, A5, A6, A7, A8, A9, A10, A11, A12, A13, A14, hc0, hst, htr, hkp, ht0, ht1, hct, hft, hly, hkn, hex, hm0, hm1, hsv, hm3, hm4, hm5, hm6, hm7, hm8, hm9, hm10, hm11, hm12, hm13, hm14, hm15, ho9, hlF, htp, hwr⟩ := hI2
  have hok := hlF.1.1
  have hdI := hlF.1.2.1
  have hsL := hlF.1.2.2.1
  have hclk := hlF.1.2.2.2
  have hchr : 0 ≤ ch ∧ ch ≤ 15 := ⟨hkp.r.2.2.1, hkp.r.2.2.2⟩
  have htp1 := htp.1
  have htp2 := htp.2.1
  have hwq := wrQ_e hwr
  have hwq1 := hwq.1
  have hwq2 := hwq.2.1
  have kn0 := sOk_N hok
  refine lv_aload_n hx_ hb_ dL_law_2294 rfl (lv_at hl 1 rfl) ?_
  refine lv_aload_n hx_ hb_ dL_law_2295 rfl (lv_at hl 0 rfl) ?_
  refine lv_iload hx_ hb_ dL_law_2296 (lv_at hl 4 rfl) ?_
  refine si_const S dL_law_2298 ?_
  refine si_add S dL_law_2299 ?_
  refine sc_sld S hV hX hzb (by omega) dL_law_2300 ?_
  refine lv_aload_n hx_ hb_ dL_law_2301 rfl (lv_at hl 0 rfl) ?_
  refine lv_iload hx_ hb_ dL_law_2302 (lv_at hl 4 rfl) ?_
  refine si_const S dL_law_2304 ?_
  refine si_add S dL_law_2305 ?_
  refine sc_sld S hV hX hzb (by omega) dL_law_2306 ?_
  refine lv_aload_n hx_ hb_ dL_law_2307 rfl (lv_at hl 3 rfl) ?_
  refine yk_Si (hh := [(0, 10, 13, 25), (0, 10, 17, 19)]) E hF_ hV (As := [.ref c, .int (sI (lX xs (i + 1))), .int (sI (lX xs (i + 2))), .ref o]) (rest := []) (kL_light l_ G b_ M N o g0 c kn ch f (lX xs (i + 1)) (lX xs (i + 2)) hc0 hst ho9 (hlt) (hok) (⟨lX_r xs _, lX_r xs _⟩) (by omega)) (vx_cwSW 4 S.2.2.2.2 gL_law_L_light rfl rfl rfl (by decide +kernel) ⟨Nat.le_of_ble_eq_true rfl, Nat.le_of_ble_eq_true rfl⟩) rfl rfl hl.1 (Nat.le_of_ble_eq_true rfl) dL_law_2308 (c1 := cc_ + 8) (s1 := ss_ + 50) ⟨⟨rfl, rfl⟩, by omega, by omega⟩ (fun z4 M1 N2 H locs hp3 hV => ?_)
  obtain ⟨hN5, hf6, hq7⟩ := hp3
  rcases hq7 with ⟨c8, ez9, hc10⟩ | ⟨c11, ez12, hc13⟩ | ⟨c14, ez15, hc16⟩
  · rw [ez9]
    refine lv_istore (lv' := [(5, .int (sI 1)), (0, .ref z), (1, .ref c), (2, .ref m), (3, .ref o), (4, .int (sI i))]) hx_ hb_ dL_law_2311 hl (by decide) rfl (fun ls hl => ?_)
    refine lv_aload_n hx_ hb_ dL_law_2313 rfl (lv_at hl 3 rfl) ?_
    refine lv_aload_n hx_ hb_ dL_law_2314 rfl (lv_at hl 1 rfl) ?_
    refine lv_iload hx_ hb_ dL_law_2315 (lv_at hl 5 rfl) ?_
    refine si_const S dL_law_2317 ?_
    refine si_add S dL_law_2318 ?_
    refine sc_sld S hV hX hzb (by omega) dL_law_2319 ?_
    refine lv_aload_n hx_ hb_ dL_law_2320 rfl (lv_at hl 1 rfl) ?_
    refine lv_iload hx_ hb_ dL_law_2321 (lv_at hl 5 rfl) ?_
    refine si_const S dL_law_2323 ?_
    refine si_add S dL_law_2324 ?_
    refine sc_sld S hV hX hzb (by omega) dL_law_2325 ?_
    have ga18 : ∀ x : Nat, m ≤ x → x < m + 16 → M1 x = M x := fun x u1 u2 => hf6 x (by omega)
    have hc17 : M1 m = some (mO m th ch tn te sn nm wn) := (ga18 m (by omega) (by omega)).trans hm0
    have hc19 : M1 (m + 1) = some (sArr G 574 f) := (ga18 ((m + 1)) (by omega) (by omega)).trans hm1
    refine sk_Vi E hV (As := [.int (sI (lX xs (i + 1))), .int (sI (lX xs (i + 2)))]) (rest := []) (kX11_light l_ G b_ M1 N2 m th ch tn te sn nm wn f (lX xs (i + 1)) (lX xs (i + 2)) hc17 hc19 (hok) (⟨lX_r xs _, lX_r xs _⟩)) (cwV 2 S.2.2.2.2 gL_law_X11_light rfl rfl rfl (by decide +kernel) ⟨Nat.le_of_ble_eq_true rfl, Nat.le_of_ble_eq_true rfl⟩) (ci := 9) hc17 rfl rfl rfl hl.1 (Nat.le_of_ble_eq_true rfl) dL_law_2326 (c1 := cc_ + 8) (s1 := ss_ + 50) ⟨⟨rfl, rfl⟩, by omega, by omega⟩ (fun z23 M20 N21 H locs hp22 hV => ?_)
    obtain ⟨hN24, hf25, hq26⟩ := hp22
    rw [hN24] at hV
    rcases hq26 with ⟨c27, ez28, hc29⟩ | ⟨c30, ez31, hc32⟩ | ⟨c33, ez34, hc35⟩
    · rw [ez28]
      refine lv_istore (lv' := [(6, .int (sI 0)), (5, .int (sI 1)), (0, .ref z), (1, .ref c), (2, .ref m), (3, .ref o), (4, .int (sI i))]) hx_ hb_ dL_law_2329 hl (by decide) rfl (fun ls hl => ?_)
      refine lv_aload_n hx_ hb_ dL_law_2331 rfl (lv_at hl 4 rfl) ?_
      refine sk_VP E hV (As := []) (rest := []) (kX11_thrown l_ G b_ M20 N2 m 1 ch tn te sn nm wn hc29) (cwV 0 S.2.2.2.2 gL_law_X11_thrown rfl rfl rfl (by decide +kernel) ⟨Nat.le_of_ble_eq_true rfl, Nat.le_of_ble_eq_true rfl⟩) (ci := 9) hc29 rfl rfl rfl hl.1 (Nat.le_of_ble_eq_true rfl) dL_law_2332 (c1 := cc_ + 8) (s1 := ss_ + 50) ⟨⟨rfl, rfl⟩, by omega, by omega⟩ (fun H locs hV => ?_)
      refine lv_iload hx_ hb_ dL_law_2335 (lv_at hl 1 rfl) ?_
      refine sb_eq (tgt := 2342) S dL_law_2337 (by decide) (by omega) (fun _ => ?_) (fun c36 => absurd c36 (by omega))
      refine lv_iload hx_ hb_ dL_law_2342 (lv_at hl 1 rfl) ?_
      refine sz_ne (tgt := 2359) S dL_law_2344 (by decide) (by omega) (fun _ => ?_) (fun c37 => absurd c37 (by omega))
      refine lv_goto (tgt := 2853) hx_ hb_ dL_law_2359 (by decide) ?_
      have gb39 : ∀ x : Nat, (x < m ∨ m + 16 ≤ x) → M20 x = M1 x := fun x u1 => hf25 x (by omega)
      have hc38 : M20 c = some (xO c kn ch) := ((gb39 c (by omega)).trans (hf6 c (by omega))).trans hc0
      have hc40 : stC G M20 (c + 1) f := hst.fr (fun x q8 q9 => (gb39 x (by omega)).trans (hf6 x (by omega)))
      have hc41 : triC G M20 (c + 16) := htr.fr (fun x q8 q9 => (gb39 x (by omega)).trans (hf6 x (by omega)))
      have hc42 : kpC G M20 (c + 31) kb kn ch fs := hkp.fr (fun x q8 => (gb39 x (by omega)).trans (hf6 x (by omega)))
      have hc43 : M20 (c + 32) = some (sObj 7 [.ref (c + 33), .int (sI tn), .int (sI te)]) := ((gb39 ((c + 32)) (by omega)).trans (hf6 (c + 32) (by omega))).trans ht0
      have hc44 : M20 (c + 33) = some (sArr G 300 t) := ((gb39 ((c + 33)) (by omega)).trans (hf6 (c + 33) (by omega))).trans ht1
      have hc45 : catC G M20 (c + 34) wc T := hct.fr (fun x q8 q9 => (gb39 x (by omega)).trans (hf6 x (by omega)))
      have hc46 : orfC G M20 (c + 38) := hft.fr (fun x q8 q9 => (gb39 x (by omega)).trans (hf6 x (by omega)))
      have hc47 : layC G M20 (c + 48) := hly.fr (fun x q8 q9 => (gb39 x (by omega)).trans (hf6 x (by omega)))
      have hc48 : knoC G M20 (c + 54) := hkn.fr (fun x q8 q9 => (gb39 x (by omega)).trans (hf6 x (by omega)))
      have hc49 : excC G M20 (c + 57) := hex.fr (fun x q8 q9 => (gb39 x (by omega)).trans (hf6 x (by omega)))
      have hc50 : M20 (m + 1) = some (sArr G 574 f) := (hf25 (m + 1) (by omega)).trans hc19
      have hc51 : svC G M20 (m + 2) ch fs := hsv.fr (fun x q8 q9 => (hf25 x (by omega)).trans (ga18 x (by omega) (by omega)))
      have hc52 : M20 (m + 3) = some (sArr G 300 t) := ((hf25 (m + 3) (by omega)).trans (ga18 ((m + 3)) (by omega) (by omega))).trans hm3
      have hc53 : M20 (m + 4) = some (sArr G 11 A4) := ((hf25 (m + 4) (by omega)).trans (ga18 ((m + 4)) (by omega) (by omega))).trans hm4
      have hc54 : M20 (m + 5) = some (sArr G 1024 A5) := ((hf25 (m + 5) (by omega)).trans (ga18 ((m + 5)) (by omega) (by omega))).trans hm5
      have hc55 : M20 (m + 6) = some (sArr G 1024 A6) := ((hf25 (m + 6) (by omega)).trans (ga18 ((m + 6)) (by omega) (by omega))).trans hm6
      have hc56 : M20 (m + 7) = some (sArr G 10 A7) := ((hf25 (m + 7) (by omega)).trans (ga18 ((m + 7)) (by omega) (by omega))).trans hm7
      have hc57 : M20 (m + 8) = some (sArr G 10 A8) := ((hf25 (m + 8) (by omega)).trans (ga18 ((m + 8)) (by omega) (by omega))).trans hm8
      have hc58 : M20 (m + 9) = some (sArr G 62 A9) := ((hf25 (m + 9) (by omega)).trans (ga18 ((m + 9)) (by omega) (by omega))).trans hm9
      have hc59 : M20 (m + 10) = some (sArr G 8 A10) := ((hf25 (m + 10) (by omega)).trans (ga18 ((m + 10)) (by omega) (by omega))).trans hm10
      have hc60 : M20 (m + 11) = some (sArr G 8 A11) := ((hf25 (m + 11) (by omega)).trans (ga18 ((m + 11)) (by omega) (by omega))).trans hm11
      have hc61 : M20 (m + 12) = some (sArr G 60 A12) := ((hf25 (m + 12) (by omega)).trans (ga18 ((m + 12)) (by omega) (by omega))).trans hm12
      have hc62 : M20 (m + 13) = some (sArr G 240 A13) := ((hf25 (m + 13) (by omega)).trans (ga18 ((m + 13)) (by omega) (by omega))).trans hm13
      have hc63 : M20 (m + 14) = some (sArr G 574 A14) := ((hf25 (m + 14) (by omega)).trans (ga18 ((m + 14)) (by omega) (by omega))).trans hm14
      have hc64 : M20 (m + 15) = some (sArr G 200 T2) := ((hf25 (m + 15) (by omega)).trans (ga18 ((m + 15)) (by omega) (by omega))).trans hm15
      have hc65 : M20 o = some (sArL G 1 g0) := (gb39 o (by omega)).trans hc10
      exact W.widen (by omega) (by omega) (hk _ _ _ _ _ (by omega) ⟨_, _, _, _, _, _, _, _, _, _, _, _, _, _, _, _, _, _, _, _, _, _, _, _, _, _, hc38, hc40, hc41, hc42, hc43, hc44, hc45, hc46, hc47, hc48, hc49, hc29, hc50, hc51, hc52, hc53, hc54, hc55, hc56, hc57, hc58, hc59, hc60, hc61, hc62, hc63, hc64, hc65, lF_s hlF, htp, hwr⟩ hV (lv_sub hl [2, 3, 4, 5, 6] rfl))
    · rw [ez31]
      exact (nx_light_0_1 c8 c30).elim
    · rw [ez34]
      exact (nx_light_0_2 c8 c33).elim
  · rw [ez12]
    refine lv_istore (lv' := [(5, .int (sI 2)), (0, .ref z), (1, .ref c), (2, .ref m), (3, .ref o), (4, .int (sI i))]) hx_ hb_ dL_law_2311 hl (by decide) rfl (fun ls hl => ?_)
    refine lv_aload_n hx_ hb_ dL_law_2313 rfl (lv_at hl 3 rfl) ?_
    refine lv_aload_n hx_ hb_ dL_law_2314 rfl (lv_at hl 1 rfl) ?_
    refine lv_iload hx_ hb_ dL_law_2315 (lv_at hl 5 rfl) ?_
    refine si_const S dL_law_2317 ?_
    refine si_add S dL_law_2318 ?_
    refine sc_sld S hV hX hzb (by omega) dL_law_2319 ?_
    refine lv_aload_n hx_ hb_ dL_law_2320 rfl (lv_at hl 1 rfl) ?_
    refine lv_iload hx_ hb_ dL_law_2321 (lv_at hl 5 rfl) ?_
    refine si_const S dL_law_2323 ?_
    refine si_add S dL_law_2324 ?_
    refine sc_sld S hV hX hzb (by omega) dL_law_2325 ?_
    have ga67 : ∀ x : Nat, m ≤ x → x < m + 16 → M1 x = M x := fun x u1 u2 => hf6 x (by omega)
    have hc66 : M1 m = some (mO m th ch tn te sn nm wn) := (ga67 m (by omega) (by omega)).trans hm0
    have hc68 : M1 (m + 1) = some (sArr G 574 f) := (ga67 ((m + 1)) (by omega) (by omega)).trans hm1
    refine sk_Vi E hV (As := [.int (sI (lX xs (i + 1))), .int (sI (lX xs (i + 2)))]) (rest := []) (kX11_light l_ G b_ M1 N2 m th ch tn te sn nm wn f (lX xs (i + 1)) (lX xs (i + 2)) hc66 hc68 (hok) (⟨lX_r xs _, lX_r xs _⟩)) (cwV 2 S.2.2.2.2 gL_law_X11_light rfl rfl rfl (by decide +kernel) ⟨Nat.le_of_ble_eq_true rfl, Nat.le_of_ble_eq_true rfl⟩) (ci := 9) hc66 rfl rfl rfl hl.1 (Nat.le_of_ble_eq_true rfl) dL_law_2326 (c1 := cc_ + 8) (s1 := ss_ + 50) ⟨⟨rfl, rfl⟩, by omega, by omega⟩ (fun z72 M69 N70 H locs hp71 hV => ?_)
    obtain ⟨hN73, hf74, hq75⟩ := hp71
    rw [hN73] at hV
    rcases hq75 with ⟨c76, ez77, hc78⟩ | ⟨c79, ez80, hc81⟩ | ⟨c82, ez83, hc84⟩
    · rw [ez77]
      exact (nx_light_1_0 c11 c76).elim
    · rw [ez80]
      refine lv_istore (lv' := [(6, .int (sI 0)), (5, .int (sI 2)), (0, .ref z), (1, .ref c), (2, .ref m), (3, .ref o), (4, .int (sI i))]) hx_ hb_ dL_law_2329 hl (by decide) rfl (fun ls hl => ?_)
      refine lv_aload_n hx_ hb_ dL_law_2331 rfl (lv_at hl 4 rfl) ?_
      refine sk_VP E hV (As := []) (rest := []) (kX11_thrown l_ G b_ M69 N2 m 2 ch tn te sn nm wn hc81) (cwV 0 S.2.2.2.2 gL_law_X11_thrown rfl rfl rfl (by decide +kernel) ⟨Nat.le_of_ble_eq_true rfl, Nat.le_of_ble_eq_true rfl⟩) (ci := 9) hc81 rfl rfl rfl hl.1 (Nat.le_of_ble_eq_true rfl) dL_law_2332 (c1 := cc_ + 8) (s1 := ss_ + 50) ⟨⟨rfl, rfl⟩, by omega, by omega⟩ (fun H locs hV => ?_)
      refine lv_iload hx_ hb_ dL_law_2335 (lv_at hl 1 rfl) ?_
      refine sb_eq (tgt := 2342) S dL_law_2337 (by decide) (by omega) (fun _ => ?_) (fun c85 => absurd c85 (by omega))
      refine lv_iload hx_ hb_ dL_law_2342 (lv_at hl 1 rfl) ?_
      refine sz_ne (tgt := 2359) S dL_law_2344 (by decide) (by omega) (fun _ => ?_) (fun c86 => absurd c86 (by omega))
      refine lv_goto (tgt := 2853) hx_ hb_ dL_law_2359 (by decide) ?_
      have gb88 : ∀ x : Nat, (x < m ∨ m + 16 ≤ x) → M69 x = M1 x := fun x u1 => hf74 x (by omega)
      have hc87 : M69 c = some (xO c kn ch) := ((gb88 c (by omega)).trans (hf6 c (by omega))).trans hc0
      have hc89 : stC G M69 (c + 1) f := hst.fr (fun x q8 q9 => (gb88 x (by omega)).trans (hf6 x (by omega)))
      have hc90 : triC G M69 (c + 16) := htr.fr (fun x q8 q9 => (gb88 x (by omega)).trans (hf6 x (by omega)))
      have hc91 : kpC G M69 (c + 31) kb kn ch fs := hkp.fr (fun x q8 => (gb88 x (by omega)).trans (hf6 x (by omega)))
      have hc92 : M69 (c + 32) = some (sObj 7 [.ref (c + 33), .int (sI tn), .int (sI te)]) := ((gb88 ((c + 32)) (by omega)).trans (hf6 (c + 32) (by omega))).trans ht0
      have hc93 : M69 (c + 33) = some (sArr G 300 t) := ((gb88 ((c + 33)) (by omega)).trans (hf6 (c + 33) (by omega))).trans ht1
      have hc94 : catC G M69 (c + 34) wc T := hct.fr (fun x q8 q9 => (gb88 x (by omega)).trans (hf6 x (by omega)))
      have hc95 : orfC G M69 (c + 38) := hft.fr (fun x q8 q9 => (gb88 x (by omega)).trans (hf6 x (by omega)))
      have hc96 : layC G M69 (c + 48) := hly.fr (fun x q8 q9 => (gb88 x (by omega)).trans (hf6 x (by omega)))
      have hc97 : knoC G M69 (c + 54) := hkn.fr (fun x q8 q9 => (gb88 x (by omega)).trans (hf6 x (by omega)))
      have hc98 : excC G M69 (c + 57) := hex.fr (fun x q8 q9 => (gb88 x (by omega)).trans (hf6 x (by omega)))
      have hc99 : M69 (m + 1) = some (sArr G 574 f) := (hf74 (m + 1) (by omega)).trans hc68
      have hc100 : svC G M69 (m + 2) ch fs := hsv.fr (fun x q8 q9 => (hf74 x (by omega)).trans (ga67 x (by omega) (by omega)))
      have hc101 : M69 (m + 3) = some (sArr G 300 t) := ((hf74 (m + 3) (by omega)).trans (ga67 ((m + 3)) (by omega) (by omega))).trans hm3
      have hc102 : M69 (m + 4) = some (sArr G 11 A4) := ((hf74 (m + 4) (by omega)).trans (ga67 ((m + 4)) (by omega) (by omega))).trans hm4
      have hc103 : M69 (m + 5) = some (sArr G 1024 A5) := ((hf74 (m + 5) (by omega)).trans (ga67 ((m + 5)) (by omega) (by omega))).trans hm5
      have hc104 : M69 (m + 6) = some (sArr G 1024 A6) := ((hf74 (m + 6) (by omega)).trans (ga67 ((m + 6)) (by omega) (by omega))).trans hm6
      have hc105 : M69 (m + 7) = some (sArr G 10 A7) := ((hf74 (m + 7) (by omega)).trans (ga67 ((m + 7)) (by omega) (by omega))).trans hm7
      have hc106 : M69 (m + 8) = some (sArr G 10 A8) := ((hf74 (m + 8) (by omega)).trans (ga67 ((m + 8)) (by omega) (by omega))).trans hm8
      have hc107 : M69 (m + 9) = some (sArr G 62 A9) := ((hf74 (m + 9) (by omega)).trans (ga67 ((m + 9)) (by omega) (by omega))).trans hm9
      have hc108 : M69 (m + 10) = some (sArr G 8 A10) := ((hf74 (m + 10) (by omega)).trans (ga67 ((m + 10)) (by omega) (by omega))).trans hm10
      have hc109 : M69 (m + 11) = some (sArr G 8 A11) := ((hf74 (m + 11) (by omega)).trans (ga67 ((m + 11)) (by omega) (by omega))).trans hm11
      have hc110 : M69 (m + 12) = some (sArr G 60 A12) := ((hf74 (m + 12) (by omega)).trans (ga67 ((m + 12)) (by omega) (by omega))).trans hm12
      have hc111 : M69 (m + 13) = some (sArr G 240 A13) := ((hf74 (m + 13) (by omega)).trans (ga67 ((m + 13)) (by omega) (by omega))).trans hm13
      have hc112 : M69 (m + 14) = some (sArr G 574 A14) := ((hf74 (m + 14) (by omega)).trans (ga67 ((m + 14)) (by omega) (by omega))).trans hm14
      have hc113 : M69 (m + 15) = some (sArr G 200 T2) := ((hf74 (m + 15) (by omega)).trans (ga67 ((m + 15)) (by omega) (by omega))).trans hm15
      have hc114 : M69 o = some (sArL G 1 g0) := (gb88 o (by omega)).trans hc13
      exact W.widen (by omega) (by omega) (hk _ _ _ _ _ (by omega) ⟨_, _, _, _, _, _, _, _, _, _, _, _, _, _, _, _, _, _, _, _, _, _, _, _, _, _, hc87, hc89, hc90, hc91, hc92, hc93, hc94, hc95, hc96, hc97, hc98, hc81, hc99, hc100, hc101, hc102, hc103, hc104, hc105, hc106, hc107, hc108, hc109, hc110, hc111, hc112, hc113, hc114, lF_s hlF, htp, hwr⟩ hV (lv_sub hl [2, 3, 4, 5, 6] rfl))
    · rw [ez83]
      exact (nx_light_1_2 c11 c82).elim
  · rw [ez15]
    refine lv_istore (lv' := [(5, .int (sI 0)), (0, .ref z), (1, .ref c), (2, .ref m), (3, .ref o), (4, .int (sI i))]) hx_ hb_ dL_law_2311 hl (by decide) rfl (fun ls hl => ?_)
    refine lv_aload_n hx_ hb_ dL_law_2313 rfl (lv_at hl 3 rfl) ?_
    refine lv_aload_n hx_ hb_ dL_law_2314 rfl (lv_at hl 1 rfl) ?_
    refine lv_iload hx_ hb_ dL_law_2315 (lv_at hl 5 rfl) ?_
    refine si_const S dL_law_2317 ?_
    refine si_add S dL_law_2318 ?_
    refine sc_sld S hV hX hzb (by omega) dL_law_2319 ?_
    refine lv_aload_n hx_ hb_ dL_law_2320 rfl (lv_at hl 1 rfl) ?_
    refine lv_iload hx_ hb_ dL_law_2321 (lv_at hl 5 rfl) ?_
    refine si_const S dL_law_2323 ?_
    refine si_add S dL_law_2324 ?_
    refine sc_sld S hV hX hzb (by omega) dL_law_2325 ?_
    have ga116 : ∀ x : Nat, m ≤ x → x < m + 16 → M1 x = M x := fun x u1 u2 => hf6 x (by omega)
    have hc115 : M1 m = some (mO m th ch tn te sn nm wn) := (ga116 m (by omega) (by omega)).trans hm0
    have hc117 : M1 (m + 1) = some (sArr G 574 f) := (ga116 ((m + 1)) (by omega) (by omega)).trans hm1
    refine sk_Vi E hV (As := [.int (sI (lX xs (i + 1))), .int (sI (lX xs (i + 2)))]) (rest := []) (kX11_light l_ G b_ M1 N2 m th ch tn te sn nm wn f (lX xs (i + 1)) (lX xs (i + 2)) hc115 hc117 (hok) (⟨lX_r xs _, lX_r xs _⟩)) (cwV 2 S.2.2.2.2 gL_law_X11_light rfl rfl rfl (by decide +kernel) ⟨Nat.le_of_ble_eq_true rfl, Nat.le_of_ble_eq_true rfl⟩) (ci := 9) hc115 rfl rfl rfl hl.1 (Nat.le_of_ble_eq_true rfl) dL_law_2326 (c1 := cc_ + 8) (s1 := ss_ + 50) ⟨⟨rfl, rfl⟩, by omega, by omega⟩ (fun z121 M118 N119 H locs hp120 hV => ?_)
    obtain ⟨hN122, hf123, hq124⟩ := hp120
    rw [hN122] at hV
    rcases hq124 with ⟨c125, ez126, hc127⟩ | ⟨c128, ez129, hc130⟩ | ⟨c131, ez132, hc133⟩
    · rw [ez126]
      exact (nx_light_2_0 c14 c125).elim
    · rw [ez129]
      exact (nx_light_2_1 c14 c128).elim
    · rw [ez132]
      refine lv_istore (lv' := [(6, .int (sI (liI f (lX xs (i + 1)) (lX xs (i + 2))))), (5, .int (sI 0)), (0, .ref z), (1, .ref c), (2, .ref m), (3, .ref o), (4, .int (sI i))]) hx_ hb_ dL_law_2329 hl (by decide) rfl (fun ls hl => ?_)
      refine lv_aload_n hx_ hb_ dL_law_2331 rfl (lv_at hl 4 rfl) ?_
      refine sk_VP E hV (As := []) (rest := []) (kX11_thrown l_ G b_ M118 N2 m 0 ch tn te sn nm wn hc133) (cwV 0 S.2.2.2.2 gL_law_X11_thrown rfl rfl rfl (by decide +kernel) ⟨Nat.le_of_ble_eq_true rfl, Nat.le_of_ble_eq_true rfl⟩) (ci := 9) hc133 rfl rfl rfl hl.1 (Nat.le_of_ble_eq_true rfl) dL_law_2332 (c1 := cc_ + 8) (s1 := ss_ + 50) ⟨⟨rfl, rfl⟩, by omega, by omega⟩ (fun H locs hV => ?_)
      refine lv_iload hx_ hb_ dL_law_2335 (lv_at hl 1 rfl) ?_
      refine sb_eq (tgt := 2342) S dL_law_2337 (by decide) (by omega) (fun _ => ?_) (fun c134 => absurd c134 (by omega))
      refine lv_iload hx_ hb_ dL_law_2342 (lv_at hl 1 rfl) ?_
      refine sz_ne (tgt := 2359) S dL_law_2344 (by decide) (by omega) (fun c135 => absurd c135 (by omega)) (fun _ => ?_)
      refine lv_aload_n hx_ hb_ dL_law_2347 rfl (lv_at hl 5 rfl) ?_
      refine si_const S dL_law_2348 ?_
      have gb137 : ∀ x : Nat, (x < m ∨ m + 16 ≤ x) → M118 x = M1 x := fun x u1 => hf123 x (by omega)
      have hc136 : M118 o = some (sArL G 1 (iup g0 0 (sW (liI f (lX xs (i + 1)) (lX xs (i + 2)))))) := (gb137 o (by omega)).trans hc16
      refine sc_lald S hK hV hc136 (by omega) dL_law_2349 ?_
      rw [show (iup g0 0 (sW (liI f (lX xs (i + 1)) (lX xs (i + 2))))) 0 = sW (liI f (lX xs (i + 1)) (lX xs (i + 2))) from if_pos rfl]
      refine lv_iload hx_ hb_ dL_law_2350 (lv_at hl 0 rfl) ?_
      refine sl_i2w S dL_law_2352 ?_
      refine sl_cmp0 S (rfl) dL_law_2353 ?_
      refine sz_eq (tgt := 2359) S dL_law_2354 (by decide) (by omega) (fun _ => ?_) (fun c138 => absurd c138 (by omega))
      refine lv_goto (tgt := 2853) hx_ hb_ dL_law_2359 (by decide) ?_
      have hc139 : M118 c = some (xO c kn ch) := ((gb137 c (by omega)).trans (hf6 c (by omega))).trans hc0
      have hc140 : stC G M118 (c + 1) f := hst.fr (fun x q8 q9 => (gb137 x (by omega)).trans (hf6 x (by omega)))
      have hc141 : triC G M118 (c + 16) := htr.fr (fun x q8 q9 => (gb137 x (by omega)).trans (hf6 x (by omega)))
      have hc142 : kpC G M118 (c + 31) kb kn ch fs := hkp.fr (fun x q8 => (gb137 x (by omega)).trans (hf6 x (by omega)))
      have hc143 : M118 (c + 32) = some (sObj 7 [.ref (c + 33), .int (sI tn), .int (sI te)]) := ((gb137 ((c + 32)) (by omega)).trans (hf6 (c + 32) (by omega))).trans ht0
      have hc144 : M118 (c + 33) = some (sArr G 300 t) := ((gb137 ((c + 33)) (by omega)).trans (hf6 (c + 33) (by omega))).trans ht1
      have hc145 : catC G M118 (c + 34) wc T := hct.fr (fun x q8 q9 => (gb137 x (by omega)).trans (hf6 x (by omega)))
      have hc146 : orfC G M118 (c + 38) := hft.fr (fun x q8 q9 => (gb137 x (by omega)).trans (hf6 x (by omega)))
      have hc147 : layC G M118 (c + 48) := hly.fr (fun x q8 q9 => (gb137 x (by omega)).trans (hf6 x (by omega)))
      have hc148 : knoC G M118 (c + 54) := hkn.fr (fun x q8 q9 => (gb137 x (by omega)).trans (hf6 x (by omega)))
      have hc149 : excC G M118 (c + 57) := hex.fr (fun x q8 q9 => (gb137 x (by omega)).trans (hf6 x (by omega)))
      have hc150 : M118 (m + 1) = some (sArr G 574 f) := (hf123 (m + 1) (by omega)).trans hc117
      have hc151 : svC G M118 (m + 2) ch fs := hsv.fr (fun x q8 q9 => (hf123 x (by omega)).trans (ga116 x (by omega) (by omega)))
      have hc152 : M118 (m + 3) = some (sArr G 300 t) := ((hf123 (m + 3) (by omega)).trans (ga116 ((m + 3)) (by omega) (by omega))).trans hm3
      have hc153 : M118 (m + 4) = some (sArr G 11 A4) := ((hf123 (m + 4) (by omega)).trans (ga116 ((m + 4)) (by omega) (by omega))).trans hm4
      have hc154 : M118 (m + 5) = some (sArr G 1024 A5) := ((hf123 (m + 5) (by omega)).trans (ga116 ((m + 5)) (by omega) (by omega))).trans hm5
      have hc155 : M118 (m + 6) = some (sArr G 1024 A6) := ((hf123 (m + 6) (by omega)).trans (ga116 ((m + 6)) (by omega) (by omega))).trans hm6
      have hc156 : M118 (m + 7) = some (sArr G 10 A7) := ((hf123 (m + 7) (by omega)).trans (ga116 ((m + 7)) (by omega) (by omega))).trans hm7
      have hc157 : M118 (m + 8) = some (sArr G 10 A8) := ((hf123 (m + 8) (by omega)).trans (ga116 ((m + 8)) (by omega) (by omega))).trans hm8
      have hc158 : M118 (m + 9) = some (sArr G 62 A9) := ((hf123 (m + 9) (by omega)).trans (ga116 ((m + 9)) (by omega) (by omega))).trans hm9
      have hc159 : M118 (m + 10) = some (sArr G 8 A10) := ((hf123 (m + 10) (by omega)).trans (ga116 ((m + 10)) (by omega) (by omega))).trans hm10
      have hc160 : M118 (m + 11) = some (sArr G 8 A11) := ((hf123 (m + 11) (by omega)).trans (ga116 ((m + 11)) (by omega) (by omega))).trans hm11
      have hc161 : M118 (m + 12) = some (sArr G 60 A12) := ((hf123 (m + 12) (by omega)).trans (ga116 ((m + 12)) (by omega) (by omega))).trans hm12
      have hc162 : M118 (m + 13) = some (sArr G 240 A13) := ((hf123 (m + 13) (by omega)).trans (ga116 ((m + 13)) (by omega) (by omega))).trans hm13
      have hc163 : M118 (m + 14) = some (sArr G 574 A14) := ((hf123 (m + 14) (by omega)).trans (ga116 ((m + 14)) (by omega) (by omega))).trans hm14
      have hc164 : M118 (m + 15) = some (sArr G 200 T2) := ((hf123 (m + 15) (by omega)).trans (ga116 ((m + 15)) (by omega) (by omega))).trans hm15
      exact W.widen (by omega) (by omega) (hk _ _ _ _ _ (by omega) ⟨_, _, _, _, _, _, _, _, _, _, _, _, _, _, _, _, _, _, _, _, _, _, _, _, _, _, hc139, hc140, hc141, hc142, hc143, hc144, hc145, hc146, hc147, hc148, hc149, hc133, hc150, hc151, hc152, hc153, hc154, hc155, hc156, hc157, hc158, hc159, hc160, hc161, hc162, hc163, hc164, hc136, lF_s hlF, htp, hwr⟩ hV (lv_sub hl [2, 3, 4, 5, 6] rfl))

theorem nx_mostDays_0_1 {s : Int} {f : sF} {d : Int} {l : Int} (h1 : ¬ (0 ≤ s ∧ s < f 568)) (h2 : (0 ≤ s ∧ s < f 568) ∧ ¬ (isDt d ∧ 1 ≤ l ∧ l ≤ 1000)) : False := by
  first
  | omega
  | (simp_all; done)
  | (simp_all; omega)
theorem nx_mostDays_0_2 {s : Int} {f : sF} {d : Int} {l : Int} (h1 : ¬ (0 ≤ s ∧ s < f 568)) (h2 : (0 ≤ s ∧ s < f 568) ∧ isDt d ∧ 1 ≤ l ∧ l ≤ 1000) : False := by
  first
  | omega
  | (simp_all; done)
  | (simp_all; omega)
theorem nx_mostDays_1_0 {s : Int} {f : sF} {d : Int} {l : Int} (h1 : (0 ≤ s ∧ s < f 568) ∧ ¬ (isDt d ∧ 1 ≤ l ∧ l ≤ 1000)) (h2 : ¬ (0 ≤ s ∧ s < f 568)) : False := by
  first
  | omega
  | (simp_all; done)
  | (simp_all; omega)
theorem nx_mostDays_1_2 {s : Int} {f : sF} {d : Int} {l : Int} (h1 : (0 ≤ s ∧ s < f 568) ∧ ¬ (isDt d ∧ 1 ≤ l ∧ l ≤ 1000)) (h2 : (0 ≤ s ∧ s < f 568) ∧ isDt d ∧ 1 ≤ l ∧ l ≤ 1000) : False := by
  first
  | omega
  | (simp_all; done)
  | (simp_all; omega)
theorem nx_mostDays_2_0 {s : Int} {f : sF} {d : Int} {l : Int} (h1 : (0 ≤ s ∧ s < f 568) ∧ isDt d ∧ 1 ≤ l ∧ l ≤ 1000) (h2 : ¬ (0 ≤ s ∧ s < f 568)) : False := by
  first
  | omega
  | (simp_all; done)
  | (simp_all; omega)
theorem nx_mostDays_2_1 {s : Int} {f : sF} {d : Int} {l : Int} (h1 : (0 ≤ s ∧ s < f 568) ∧ isDt d ∧ 1 ≤ l ∧ l ≤ 1000) (h2 : (0 ≤ s ∧ s < f 568) ∧ ¬ (isDt d ∧ 1 ≤ l ∧ l ≤ 1000)) : False := by
  first
  | omega
  | (simp_all; done)
  | (simp_all; omega)
set_option maxHeartbeats 4000000 in
set_option maxRecDepth 100000 in
theorem law_34 {p_ : Program} {l_ : Launch} {e_ : Env} {s_ : State} {m_ : MethodId} {args_ : Array Value} {below_ : List Frame} {meth_ : Method} {c_ : Code} {nm_ : String} {G : sG} {b_ : Nat} {M0 : sM} {N0 : Nat} {Q : State → Prop} (E : sE p_ l_ e_ room_1 s_ m_ args_ below_ meth_ c_ cL_law 9 wsL_law RL nm_ (some .boolean) G b_ M0 N0) (hF_ : xcF s_) (hlt : l_.stackTraces = false) {z L : Nat} {xs : Nat → Int32} (hX : va_X z L xs s_ s_.heap) (hzb : z < b_) {c m o kb : Nat} (hg : c + 60 ≤ m ∧ m + 16 ≤ o ∧ o < kb) {cc_ ss_ : Nat} (hcc : cc_ + 1170 ≤ room_1.cells ∧ ss_ + 14000 ≤ room_1.slots) {q i : Int} (hi : 0 ≤ i ∧ i + 6 ≤ L ∧ (L : Int) ≤ 3072) (hq : 0 ≤ q ∧ q ≤ 600) {M : sM} {N : Nat} (hkN : kb ≤ N) (hI : lI G M c m o kb q) {H : Heap} {locs : List Loc} {ls : Array Slot} (hV : sV G b_ M N s_ H locs) (hl : lv_has ls 9 [(0, .ref z), (1, .ref c), (2, .ref m), (3, .ref o), (4, .int (sI i))])
    (hk : ∀ (M1 : sM) (N1 : Nat) (H1 : Heap) (locs1 : List Loc) (ls1 : Array Slot), kb ≤ N1 → lI G M1 c m o kb (q + 1) → sV G b_ M1 N1 s_ H1 locs1 → lv_has ls1 9 [(0, .ref z), (1, .ref c), (2, .ref m), (3, .ref o), (4, .int (sI i))] → W p_ l_ e_ room_1 s_ m_ args_ below_ meth_ c_ H1 locs1 (cc_ + 1170) (ss_ + 14000) Q (F0 m_ 2853 ls1 [])) : W p_ l_ e_ room_1 s_ m_ args_ below_ meth_ c_ H locs cc_ ss_ Q (F0 m_ 2362 ls []) := by
  have S := E.1
  have hx_ := S.1
  have hb_ := S.2.1
  have hK := E.2.2.2.2.1
  have hI2 := hI
  obtain ⟨kn, ch, f, fs, tn, te, t, wc, wn, T, T2, th, sn, nm, g0, A4, A5, A6, A7, A8, A9, A10, A11, A12, A13, A14, hc0, hst, htr, hkp, ht0, ht1, hct, hft, hly, hkn, hex, hm0, hm1, hsv, hm3, hm4, hm5, hm6, hm7, hm8, hm9, hm10, hm11, hm12, hm13, hm14, hm15, ho9, hlF, htp, hwr⟩ := hI2
  have hok := hlF.1.1
  have hdI := hlF.1.2.1
  have hsL := hlF.1.2.2.1
  have hclk := hlF.1.2.2.2
  have hchr : 0 ≤ ch ∧ ch ≤ 15 := ⟨hkp.r.2.2.1, hkp.r.2.2.2⟩
  have htp1 := htp.1
  have htp2 := htp.2.1
  have hwq := wrQ_e hwr
  have hwq1 := hwq.1
  have hwq2 := hwq.2.1
  have kn0 := sOk_N hok
  refine lv_aload_n hx_ hb_ dL_law_2362 rfl (lv_at hl 1 rfl) ?_
  refine lv_aload_n hx_ hb_ dL_law_2363 rfl (lv_at hl 0 rfl) ?_
  refine lv_iload hx_ hb_ dL_law_2364 (lv_at hl 4 rfl) ?_
  refine si_const S dL_law_2366 ?_
  refine si_add S dL_law_2367 ?_
  refine sc_sld S hV hX hzb (by omega) dL_law_2368 ?_
  refine lv_aload_n hx_ hb_ dL_law_2369 rfl (lv_at hl 0 rfl) ?_
  refine lv_iload hx_ hb_ dL_law_2370 (lv_at hl 4 rfl) ?_
  refine si_const S dL_law_2372 ?_
  refine si_add S dL_law_2373 ?_
  refine sc_sld S hV hX hzb (by omega) dL_law_2374 ?_
  refine lv_aload_n hx_ hb_ dL_law_2375 rfl (lv_at hl 0 rfl) ?_
  refine lv_iload hx_ hb_ dL_law_2376 (lv_at hl 4 rfl) ?_
  refine si_const S dL_law_2378 ?_
  refine si_add S dL_law_2379 ?_
  refine sc_sld S hV hX hzb (by omega) dL_law_2380 ?_
  refine lv_aload_n hx_ hb_ dL_law_2381 rfl (lv_at hl 3 rfl) ?_
  refine yk_Si (hh := [(0, 12, 15, 25), (0, 12, 19, 19)]) E hF_ hV (As := [.ref c, .int (sI (lX xs (i + 1))), .int (sI (lX xs (i + 2))), .int (sI (lX xs (i + 3))), .ref o]) (rest := []) (kL_mostDays l_ G b_ M N o g0 c kn ch f (lX xs (i + 1)) (lX xs (i + 2)) (lX xs (i + 3)) hc0 hst ho9 (hlt) (hok) (hsL) (⟨lX_r xs _, lX_r xs _, lX_r xs _⟩) (by omega)) (vx_cwSW 5 S.2.2.2.2 gL_law_L_mostDays rfl rfl rfl (by decide +kernel) ⟨Nat.le_of_ble_eq_true rfl, Nat.le_of_ble_eq_true rfl⟩) rfl rfl hl.1 (Nat.le_of_ble_eq_true rfl) dL_law_2382 (c1 := cc_ + 8) (s1 := ss_ + 50) ⟨⟨rfl, rfl⟩, by omega, by omega⟩ (fun z4 M1 N2 H locs hp3 hV => ?_)
  obtain ⟨hN5, hf6, hq7⟩ := hp3
  rcases hq7 with ⟨c8, ez9, hc10⟩ | ⟨c11, ez12, hc13⟩ | ⟨c14, ez15, hc16⟩
  · rw [ez9]
    refine lv_istore (lv' := [(5, .int (sI 1)), (0, .ref z), (1, .ref c), (2, .ref m), (3, .ref o), (4, .int (sI i))]) hx_ hb_ dL_law_2385 hl (by decide) rfl (fun ls hl => ?_)
    refine lv_aload_n hx_ hb_ dL_law_2387 rfl (lv_at hl 3 rfl) ?_
    refine lv_aload_n hx_ hb_ dL_law_2388 rfl (lv_at hl 1 rfl) ?_
    refine lv_iload hx_ hb_ dL_law_2389 (lv_at hl 5 rfl) ?_
    refine si_const S dL_law_2391 ?_
    refine si_add S dL_law_2392 ?_
    refine sc_sld S hV hX hzb (by omega) dL_law_2393 ?_
    refine lv_aload_n hx_ hb_ dL_law_2394 rfl (lv_at hl 1 rfl) ?_
    refine lv_iload hx_ hb_ dL_law_2395 (lv_at hl 5 rfl) ?_
    refine si_const S dL_law_2397 ?_
    refine si_add S dL_law_2398 ?_
    refine sc_sld S hV hX hzb (by omega) dL_law_2399 ?_
    refine lv_aload_n hx_ hb_ dL_law_2400 rfl (lv_at hl 1 rfl) ?_
    refine lv_iload hx_ hb_ dL_law_2401 (lv_at hl 5 rfl) ?_
    refine si_const S dL_law_2403 ?_
    refine si_add S dL_law_2404 ?_
    refine sc_sld S hV hX hzb (by omega) dL_law_2405 ?_
    have ga18 : ∀ x : Nat, m ≤ x → x < m + 16 → M1 x = M x := fun x u1 u2 => hf6 x (by omega)
    have hc17 : M1 m = some (mO m th ch tn te sn nm wn) := (ga18 m (by omega) (by omega)).trans hm0
    have hc19 : M1 (m + 1) = some (sArr G 574 f) := (ga18 ((m + 1)) (by omega) (by omega)).trans hm1
    refine sk_Vi E hV (As := [.int (sI (lX xs (i + 1))), .int (sI (lX xs (i + 2))), .int (sI (lX xs (i + 3)))]) (rest := []) (kX11_mostDays l_ G b_ M1 N2 m th ch tn te sn nm wn f (lX xs (i + 1)) (lX xs (i + 2)) (lX xs (i + 3)) hc17 hc19 (hok) (⟨lX_r xs _, lX_r xs _, lX_r xs _⟩)) (cwV 3 S.2.2.2.2 gL_law_X11_mostDays rfl rfl rfl (by decide +kernel) ⟨Nat.le_of_ble_eq_true rfl, Nat.le_of_ble_eq_true rfl⟩) (ci := 9) hc17 rfl rfl rfl hl.1 (Nat.le_of_ble_eq_true rfl) dL_law_2406 (c1 := cc_ + 8) (s1 := ss_ + 50) ⟨⟨rfl, rfl⟩, by omega, by omega⟩ (fun z23 M20 N21 H locs hp22 hV => ?_)
    obtain ⟨hN24, hf25, hq26⟩ := hp22
    rw [hN24] at hV
    rcases hq26 with ⟨c27, ez28, hc29⟩ | ⟨c30, ez31, hc32⟩ | ⟨c33, ez34, hc35⟩
    · rw [ez28]
      refine lv_istore (lv' := [(6, .int (sI 0)), (5, .int (sI 1)), (0, .ref z), (1, .ref c), (2, .ref m), (3, .ref o), (4, .int (sI i))]) hx_ hb_ dL_law_2409 hl (by decide) rfl (fun ls hl => ?_)
      refine lv_aload_n hx_ hb_ dL_law_2411 rfl (lv_at hl 4 rfl) ?_
      refine sk_VP E hV (As := []) (rest := []) (kX11_thrown l_ G b_ M20 N2 m 1 ch tn te sn nm wn hc29) (cwV 0 S.2.2.2.2 gL_law_X11_thrown rfl rfl rfl (by decide +kernel) ⟨Nat.le_of_ble_eq_true rfl, Nat.le_of_ble_eq_true rfl⟩) (ci := 9) hc29 rfl rfl rfl hl.1 (Nat.le_of_ble_eq_true rfl) dL_law_2412 (c1 := cc_ + 8) (s1 := ss_ + 50) ⟨⟨rfl, rfl⟩, by omega, by omega⟩ (fun H locs hV => ?_)
      refine lv_iload hx_ hb_ dL_law_2415 (lv_at hl 1 rfl) ?_
      refine sb_eq (tgt := 2422) S dL_law_2417 (by decide) (by omega) (fun _ => ?_) (fun c36 => absurd c36 (by omega))
      refine lv_iload hx_ hb_ dL_law_2422 (lv_at hl 1 rfl) ?_
      refine sz_ne (tgt := 2439) S dL_law_2424 (by decide) (by omega) (fun _ => ?_) (fun c37 => absurd c37 (by omega))
      refine lv_goto (tgt := 2853) hx_ hb_ dL_law_2439 (by decide) ?_
      have gb39 : ∀ x : Nat, (x < m ∨ m + 16 ≤ x) → M20 x = M1 x := fun x u1 => hf25 x (by omega)
      have hc38 : M20 c = some (xO c kn ch) := ((gb39 c (by omega)).trans (hf6 c (by omega))).trans hc0
      have hc40 : stC G M20 (c + 1) f := hst.fr (fun x q8 q9 => (gb39 x (by omega)).trans (hf6 x (by omega)))
      have hc41 : triC G M20 (c + 16) := htr.fr (fun x q8 q9 => (gb39 x (by omega)).trans (hf6 x (by omega)))
      have hc42 : kpC G M20 (c + 31) kb kn ch fs := hkp.fr (fun x q8 => (gb39 x (by omega)).trans (hf6 x (by omega)))
      have hc43 : M20 (c + 32) = some (sObj 7 [.ref (c + 33), .int (sI tn), .int (sI te)]) := ((gb39 ((c + 32)) (by omega)).trans (hf6 (c + 32) (by omega))).trans ht0
      have hc44 : M20 (c + 33) = some (sArr G 300 t) := ((gb39 ((c + 33)) (by omega)).trans (hf6 (c + 33) (by omega))).trans ht1
      have hc45 : catC G M20 (c + 34) wc T := hct.fr (fun x q8 q9 => (gb39 x (by omega)).trans (hf6 x (by omega)))
      have hc46 : orfC G M20 (c + 38) := hft.fr (fun x q8 q9 => (gb39 x (by omega)).trans (hf6 x (by omega)))
      have hc47 : layC G M20 (c + 48) := hly.fr (fun x q8 q9 => (gb39 x (by omega)).trans (hf6 x (by omega)))
      have hc48 : knoC G M20 (c + 54) := hkn.fr (fun x q8 q9 => (gb39 x (by omega)).trans (hf6 x (by omega)))
      have hc49 : excC G M20 (c + 57) := hex.fr (fun x q8 q9 => (gb39 x (by omega)).trans (hf6 x (by omega)))
      have hc50 : M20 (m + 1) = some (sArr G 574 f) := (hf25 (m + 1) (by omega)).trans hc19
      have hc51 : svC G M20 (m + 2) ch fs := hsv.fr (fun x q8 q9 => (hf25 x (by omega)).trans (ga18 x (by omega) (by omega)))
      have hc52 : M20 (m + 3) = some (sArr G 300 t) := ((hf25 (m + 3) (by omega)).trans (ga18 ((m + 3)) (by omega) (by omega))).trans hm3
      have hc53 : M20 (m + 4) = some (sArr G 11 A4) := ((hf25 (m + 4) (by omega)).trans (ga18 ((m + 4)) (by omega) (by omega))).trans hm4
      have hc54 : M20 (m + 5) = some (sArr G 1024 A5) := ((hf25 (m + 5) (by omega)).trans (ga18 ((m + 5)) (by omega) (by omega))).trans hm5
      have hc55 : M20 (m + 6) = some (sArr G 1024 A6) := ((hf25 (m + 6) (by omega)).trans (ga18 ((m + 6)) (by omega) (by omega))).trans hm6
      have hc56 : M20 (m + 7) = some (sArr G 10 A7) := ((hf25 (m + 7) (by omega)).trans (ga18 ((m + 7)) (by omega) (by omega))).trans hm7
      have hc57 : M20 (m + 8) = some (sArr G 10 A8) := ((hf25 (m + 8) (by omega)).trans (ga18 ((m + 8)) (by omega) (by omega))).trans hm8
      have hc58 : M20 (m + 9) = some (sArr G 62 A9) := ((hf25 (m + 9) (by omega)).trans (ga18 ((m + 9)) (by omega) (by omega))).trans hm9
      have hc59 : M20 (m + 10) = some (sArr G 8 A10) := ((hf25 (m + 10) (by omega)).trans (ga18 ((m + 10)) (by omega) (by omega))).trans hm10
      have hc60 : M20 (m + 11) = some (sArr G 8 A11) := ((hf25 (m + 11) (by omega)).trans (ga18 ((m + 11)) (by omega) (by omega))).trans hm11
      have hc61 : M20 (m + 12) = some (sArr G 60 A12) := ((hf25 (m + 12) (by omega)).trans (ga18 ((m + 12)) (by omega) (by omega))).trans hm12
      have hc62 : M20 (m + 13) = some (sArr G 240 A13) := ((hf25 (m + 13) (by omega)).trans (ga18 ((m + 13)) (by omega) (by omega))).trans hm13
      have hc63 : M20 (m + 14) = some (sArr G 574 A14) := ((hf25 (m + 14) (by omega)).trans (ga18 ((m + 14)) (by omega) (by omega))).trans hm14
      have hc64 : M20 (m + 15) = some (sArr G 200 T2) := ((hf25 (m + 15) (by omega)).trans (ga18 ((m + 15)) (by omega) (by omega))).trans hm15
      have hc65 : M20 o = some (sArL G 1 g0) := (gb39 o (by omega)).trans hc10
      exact W.widen (by omega) (by omega) (hk _ _ _ _ _ (by omega) ⟨_, _, _, _, _, _, _, _, _, _, _, _, _, _, _, _, _, _, _, _, _, _, _, _, _, _, hc38, hc40, hc41, hc42, hc43, hc44, hc45, hc46, hc47, hc48, hc49, hc29, hc50, hc51, hc52, hc53, hc54, hc55, hc56, hc57, hc58, hc59, hc60, hc61, hc62, hc63, hc64, hc65, lF_s hlF, htp, hwr⟩ hV (lv_sub hl [2, 3, 4, 5, 6] rfl))
    · rw [ez31]
      exact (nx_mostDays_0_1 c8 c30).elim
    · rw [ez34]
      exact (nx_mostDays_0_2 c8 c33).elim
  · rw [ez12]
    refine lv_istore (lv' := [(5, .int (sI 2)), (0, .ref z), (1, .ref c), (2, .ref m), (3, .ref o), (4, .int (sI i))]) hx_ hb_ dL_law_2385 hl (by decide) rfl (fun ls hl => ?_)
    refine lv_aload_n hx_ hb_ dL_law_2387 rfl (lv_at hl 3 rfl) ?_
    refine lv_aload_n hx_ hb_ dL_law_2388 rfl (lv_at hl 1 rfl) ?_
    refine lv_iload hx_ hb_ dL_law_2389 (lv_at hl 5 rfl) ?_
    refine si_const S dL_law_2391 ?_
    refine si_add S dL_law_2392 ?_
    refine sc_sld S hV hX hzb (by omega) dL_law_2393 ?_
    refine lv_aload_n hx_ hb_ dL_law_2394 rfl (lv_at hl 1 rfl) ?_
    refine lv_iload hx_ hb_ dL_law_2395 (lv_at hl 5 rfl) ?_
    refine si_const S dL_law_2397 ?_
    refine si_add S dL_law_2398 ?_
    refine sc_sld S hV hX hzb (by omega) dL_law_2399 ?_
    refine lv_aload_n hx_ hb_ dL_law_2400 rfl (lv_at hl 1 rfl) ?_
    refine lv_iload hx_ hb_ dL_law_2401 (lv_at hl 5 rfl) ?_
    refine si_const S dL_law_2403 ?_
    refine si_add S dL_law_2404 ?_
    refine sc_sld S hV hX hzb (by omega) dL_law_2405 ?_
    have ga67 : ∀ x : Nat, m ≤ x → x < m + 16 → M1 x = M x := fun x u1 u2 => hf6 x (by omega)
    have hc66 : M1 m = some (mO m th ch tn te sn nm wn) := (ga67 m (by omega) (by omega)).trans hm0
    have hc68 : M1 (m + 1) = some (sArr G 574 f) := (ga67 ((m + 1)) (by omega) (by omega)).trans hm1
    refine sk_Vi E hV (As := [.int (sI (lX xs (i + 1))), .int (sI (lX xs (i + 2))), .int (sI (lX xs (i + 3)))]) (rest := []) (kX11_mostDays l_ G b_ M1 N2 m th ch tn te sn nm wn f (lX xs (i + 1)) (lX xs (i + 2)) (lX xs (i + 3)) hc66 hc68 (hok) (⟨lX_r xs _, lX_r xs _, lX_r xs _⟩)) (cwV 3 S.2.2.2.2 gL_law_X11_mostDays rfl rfl rfl (by decide +kernel) ⟨Nat.le_of_ble_eq_true rfl, Nat.le_of_ble_eq_true rfl⟩) (ci := 9) hc66 rfl rfl rfl hl.1 (Nat.le_of_ble_eq_true rfl) dL_law_2406 (c1 := cc_ + 8) (s1 := ss_ + 50) ⟨⟨rfl, rfl⟩, by omega, by omega⟩ (fun z72 M69 N70 H locs hp71 hV => ?_)
    obtain ⟨hN73, hf74, hq75⟩ := hp71
    rw [hN73] at hV
    rcases hq75 with ⟨c76, ez77, hc78⟩ | ⟨c79, ez80, hc81⟩ | ⟨c82, ez83, hc84⟩
    · rw [ez77]
      exact (nx_mostDays_1_0 c11 c76).elim
    · rw [ez80]
      refine lv_istore (lv' := [(6, .int (sI 0)), (5, .int (sI 2)), (0, .ref z), (1, .ref c), (2, .ref m), (3, .ref o), (4, .int (sI i))]) hx_ hb_ dL_law_2409 hl (by decide) rfl (fun ls hl => ?_)
      refine lv_aload_n hx_ hb_ dL_law_2411 rfl (lv_at hl 4 rfl) ?_
      refine sk_VP E hV (As := []) (rest := []) (kX11_thrown l_ G b_ M69 N2 m 2 ch tn te sn nm wn hc81) (cwV 0 S.2.2.2.2 gL_law_X11_thrown rfl rfl rfl (by decide +kernel) ⟨Nat.le_of_ble_eq_true rfl, Nat.le_of_ble_eq_true rfl⟩) (ci := 9) hc81 rfl rfl rfl hl.1 (Nat.le_of_ble_eq_true rfl) dL_law_2412 (c1 := cc_ + 8) (s1 := ss_ + 50) ⟨⟨rfl, rfl⟩, by omega, by omega⟩ (fun H locs hV => ?_)
      refine lv_iload hx_ hb_ dL_law_2415 (lv_at hl 1 rfl) ?_
      refine sb_eq (tgt := 2422) S dL_law_2417 (by decide) (by omega) (fun _ => ?_) (fun c85 => absurd c85 (by omega))
      refine lv_iload hx_ hb_ dL_law_2422 (lv_at hl 1 rfl) ?_
      refine sz_ne (tgt := 2439) S dL_law_2424 (by decide) (by omega) (fun _ => ?_) (fun c86 => absurd c86 (by omega))
      refine lv_goto (tgt := 2853) hx_ hb_ dL_law_2439 (by decide) ?_
      have gb88 : ∀ x : Nat, (x < m ∨ m + 16 ≤ x) → M69 x = M1 x := fun x u1 => hf74 x (by omega)
      have hc87 : M69 c = some (xO c kn ch) := ((gb88 c (by omega)).trans (hf6 c (by omega))).trans hc0
      have hc89 : stC G M69 (c + 1) f := hst.fr (fun x q8 q9 => (gb88 x (by omega)).trans (hf6 x (by omega)))
      have hc90 : triC G M69 (c + 16) := htr.fr (fun x q8 q9 => (gb88 x (by omega)).trans (hf6 x (by omega)))
      have hc91 : kpC G M69 (c + 31) kb kn ch fs := hkp.fr (fun x q8 => (gb88 x (by omega)).trans (hf6 x (by omega)))
      have hc92 : M69 (c + 32) = some (sObj 7 [.ref (c + 33), .int (sI tn), .int (sI te)]) := ((gb88 ((c + 32)) (by omega)).trans (hf6 (c + 32) (by omega))).trans ht0
      have hc93 : M69 (c + 33) = some (sArr G 300 t) := ((gb88 ((c + 33)) (by omega)).trans (hf6 (c + 33) (by omega))).trans ht1
      have hc94 : catC G M69 (c + 34) wc T := hct.fr (fun x q8 q9 => (gb88 x (by omega)).trans (hf6 x (by omega)))
      have hc95 : orfC G M69 (c + 38) := hft.fr (fun x q8 q9 => (gb88 x (by omega)).trans (hf6 x (by omega)))
      have hc96 : layC G M69 (c + 48) := hly.fr (fun x q8 q9 => (gb88 x (by omega)).trans (hf6 x (by omega)))
      have hc97 : knoC G M69 (c + 54) := hkn.fr (fun x q8 q9 => (gb88 x (by omega)).trans (hf6 x (by omega)))
      have hc98 : excC G M69 (c + 57) := hex.fr (fun x q8 q9 => (gb88 x (by omega)).trans (hf6 x (by omega)))
      have hc99 : M69 (m + 1) = some (sArr G 574 f) := (hf74 (m + 1) (by omega)).trans hc68
      have hc100 : svC G M69 (m + 2) ch fs := hsv.fr (fun x q8 q9 => (hf74 x (by omega)).trans (ga67 x (by omega) (by omega)))
      have hc101 : M69 (m + 3) = some (sArr G 300 t) := ((hf74 (m + 3) (by omega)).trans (ga67 ((m + 3)) (by omega) (by omega))).trans hm3
      have hc102 : M69 (m + 4) = some (sArr G 11 A4) := ((hf74 (m + 4) (by omega)).trans (ga67 ((m + 4)) (by omega) (by omega))).trans hm4
      have hc103 : M69 (m + 5) = some (sArr G 1024 A5) := ((hf74 (m + 5) (by omega)).trans (ga67 ((m + 5)) (by omega) (by omega))).trans hm5
      have hc104 : M69 (m + 6) = some (sArr G 1024 A6) := ((hf74 (m + 6) (by omega)).trans (ga67 ((m + 6)) (by omega) (by omega))).trans hm6
      have hc105 : M69 (m + 7) = some (sArr G 10 A7) := ((hf74 (m + 7) (by omega)).trans (ga67 ((m + 7)) (by omega) (by omega))).trans hm7
      have hc106 : M69 (m + 8) = some (sArr G 10 A8) := ((hf74 (m + 8) (by omega)).trans (ga67 ((m + 8)) (by omega) (by omega))).trans hm8
      have hc107 : M69 (m + 9) = some (sArr G 62 A9) := ((hf74 (m + 9) (by omega)).trans (ga67 ((m + 9)) (by omega) (by omega))).trans hm9
      have hc108 : M69 (m + 10) = some (sArr G 8 A10) := ((hf74 (m + 10) (by omega)).trans (ga67 ((m + 10)) (by omega) (by omega))).trans hm10
      have hc109 : M69 (m + 11) = some (sArr G 8 A11) := ((hf74 (m + 11) (by omega)).trans (ga67 ((m + 11)) (by omega) (by omega))).trans hm11
      have hc110 : M69 (m + 12) = some (sArr G 60 A12) := ((hf74 (m + 12) (by omega)).trans (ga67 ((m + 12)) (by omega) (by omega))).trans hm12
      have hc111 : M69 (m + 13) = some (sArr G 240 A13) := ((hf74 (m + 13) (by omega)).trans (ga67 ((m + 13)) (by omega) (by omega))).trans hm13
      have hc112 : M69 (m + 14) = some (sArr G 574 A14) := ((hf74 (m + 14) (by omega)).trans (ga67 ((m + 14)) (by omega) (by omega))).trans hm14
      have hc113 : M69 (m + 15) = some (sArr G 200 T2) := ((hf74 (m + 15) (by omega)).trans (ga67 ((m + 15)) (by omega) (by omega))).trans hm15
      have hc114 : M69 o = some (sArL G 1 g0) := (gb88 o (by omega)).trans hc13
      exact W.widen (by omega) (by omega) (hk _ _ _ _ _ (by omega) ⟨_, _, _, _, _, _, _, _, _, _, _, _, _, _, _, _, _, _, _, _, _, _, _, _, _, _, hc87, hc89, hc90, hc91, hc92, hc93, hc94, hc95, hc96, hc97, hc98, hc81, hc99, hc100, hc101, hc102, hc103, hc104, hc105, hc106, hc107, hc108, hc109, hc110, hc111, hc112, hc113, hc114, lF_s hlF, htp, hwr⟩ hV (lv_sub hl [2, 3, 4, 5, 6] rfl))
    · rw [ez83]
      exact (nx_mostDays_1_2 c11 c82).elim
  · rw [ez15]
    refine lv_istore (lv' := [(5, .int (sI 0)), (0, .ref z), (1, .ref c), (2, .ref m), (3, .ref o), (4, .int (sI i))]) hx_ hb_ dL_law_2385 hl (by decide) rfl (fun ls hl => ?_)
    refine lv_aload_n hx_ hb_ dL_law_2387 rfl (lv_at hl 3 rfl) ?_
    refine lv_aload_n hx_ hb_ dL_law_2388 rfl (lv_at hl 1 rfl) ?_
    refine lv_iload hx_ hb_ dL_law_2389 (lv_at hl 5 rfl) ?_
    refine si_const S dL_law_2391 ?_
    refine si_add S dL_law_2392 ?_
    refine sc_sld S hV hX hzb (by omega) dL_law_2393 ?_
    refine lv_aload_n hx_ hb_ dL_law_2394 rfl (lv_at hl 1 rfl) ?_
    refine lv_iload hx_ hb_ dL_law_2395 (lv_at hl 5 rfl) ?_
    refine si_const S dL_law_2397 ?_
    refine si_add S dL_law_2398 ?_
    refine sc_sld S hV hX hzb (by omega) dL_law_2399 ?_
    refine lv_aload_n hx_ hb_ dL_law_2400 rfl (lv_at hl 1 rfl) ?_
    refine lv_iload hx_ hb_ dL_law_2401 (lv_at hl 5 rfl) ?_
    refine si_const S dL_law_2403 ?_
    refine si_add S dL_law_2404 ?_
    refine sc_sld S hV hX hzb (by omega) dL_law_2405 ?_
    have ga116 : ∀ x : Nat, m ≤ x → x < m + 16 → M1 x = M x := fun x u1 u2 => hf6 x (by omega)
    have hc115 : M1 m = some (mO m th ch tn te sn nm wn) := (ga116 m (by omega) (by omega)).trans hm0
    have hc117 : M1 (m + 1) = some (sArr G 574 f) := (ga116 ((m + 1)) (by omega) (by omega)).trans hm1
    refine sk_Vi E hV (As := [.int (sI (lX xs (i + 1))), .int (sI (lX xs (i + 2))), .int (sI (lX xs (i + 3)))]) (rest := []) (kX11_mostDays l_ G b_ M1 N2 m th ch tn te sn nm wn f (lX xs (i + 1)) (lX xs (i + 2)) (lX xs (i + 3)) hc115 hc117 (hok) (⟨lX_r xs _, lX_r xs _, lX_r xs _⟩)) (cwV 3 S.2.2.2.2 gL_law_X11_mostDays rfl rfl rfl (by decide +kernel) ⟨Nat.le_of_ble_eq_true rfl, Nat.le_of_ble_eq_true rfl⟩) (ci := 9) hc115 rfl rfl rfl hl.1 (Nat.le_of_ble_eq_true rfl) dL_law_2406 (c1 := cc_ + 8) (s1 := ss_ + 50) ⟨⟨rfl, rfl⟩, by omega, by omega⟩ (fun z121 M118 N119 H locs hp120 hV => ?_)
    obtain ⟨hN122, hf123, hq124⟩ := hp120
    rw [hN122] at hV
    rcases hq124 with ⟨c125, ez126, hc127⟩ | ⟨c128, ez129, hc130⟩ | ⟨c131, ez132, hc133⟩
    · rw [ez126]
      exact (nx_mostDays_2_0 c14 c125).elim
    · rw [ez129]
      exact (nx_mostDays_2_1 c14 c128).elim
    · rw [ez132]
      refine lv_istore (lv' := [(6, .int (sI (mdI f (lX xs (i + 1)) ((lX xs (i + 2)) / 10000) (dayI (lX xs (i + 2)) + 3652) (lX xs (i + 3))))), (5, .int (sI 0)), (0, .ref z), (1, .ref c), (2, .ref m), (3, .ref o), (4, .int (sI i))]) hx_ hb_ dL_law_2409 hl (by decide) rfl (fun ls hl => ?_)
      refine lv_aload_n hx_ hb_ dL_law_2411 rfl (lv_at hl 4 rfl) ?_
      refine sk_VP E hV (As := []) (rest := []) (kX11_thrown l_ G b_ M118 N2 m 0 ch tn te sn nm wn hc133) (cwV 0 S.2.2.2.2 gL_law_X11_thrown rfl rfl rfl (by decide +kernel) ⟨Nat.le_of_ble_eq_true rfl, Nat.le_of_ble_eq_true rfl⟩) (ci := 9) hc133 rfl rfl rfl hl.1 (Nat.le_of_ble_eq_true rfl) dL_law_2412 (c1 := cc_ + 8) (s1 := ss_ + 50) ⟨⟨rfl, rfl⟩, by omega, by omega⟩ (fun H locs hV => ?_)
      refine lv_iload hx_ hb_ dL_law_2415 (lv_at hl 1 rfl) ?_
      refine sb_eq (tgt := 2422) S dL_law_2417 (by decide) (by omega) (fun _ => ?_) (fun c134 => absurd c134 (by omega))
      refine lv_iload hx_ hb_ dL_law_2422 (lv_at hl 1 rfl) ?_
      refine sz_ne (tgt := 2439) S dL_law_2424 (by decide) (by omega) (fun c135 => absurd c135 (by omega)) (fun _ => ?_)
      refine lv_aload_n hx_ hb_ dL_law_2427 rfl (lv_at hl 5 rfl) ?_
      refine si_const S dL_law_2428 ?_
      have gb137 : ∀ x : Nat, (x < m ∨ m + 16 ≤ x) → M118 x = M1 x := fun x u1 => hf123 x (by omega)
      have hc136 : M118 o = some (sArL G 1 (iup g0 0 (sW (mdI f (lX xs (i + 1)) ((lX xs (i + 2)) / 10000) (dayI (lX xs (i + 2)) + 3652) (lX xs (i + 3)))))) := (gb137 o (by omega)).trans hc16
      refine sc_lald S hK hV hc136 (by omega) dL_law_2429 ?_
      rw [show (iup g0 0 (sW (mdI f (lX xs (i + 1)) ((lX xs (i + 2)) / 10000) (dayI (lX xs (i + 2)) + 3652) (lX xs (i + 3))))) 0 = sW (mdI f (lX xs (i + 1)) ((lX xs (i + 2)) / 10000) (dayI (lX xs (i + 2)) + 3652) (lX xs (i + 3))) from if_pos rfl]
      refine lv_iload hx_ hb_ dL_law_2430 (lv_at hl 0 rfl) ?_
      refine sl_i2w S dL_law_2432 ?_
      refine sl_cmp0 S (rfl) dL_law_2433 ?_
      refine sz_eq (tgt := 2439) S dL_law_2434 (by decide) (by omega) (fun _ => ?_) (fun c138 => absurd c138 (by omega))
      refine lv_goto (tgt := 2853) hx_ hb_ dL_law_2439 (by decide) ?_
      have hc139 : M118 c = some (xO c kn ch) := ((gb137 c (by omega)).trans (hf6 c (by omega))).trans hc0
      have hc140 : stC G M118 (c + 1) f := hst.fr (fun x q8 q9 => (gb137 x (by omega)).trans (hf6 x (by omega)))
      have hc141 : triC G M118 (c + 16) := htr.fr (fun x q8 q9 => (gb137 x (by omega)).trans (hf6 x (by omega)))
      have hc142 : kpC G M118 (c + 31) kb kn ch fs := hkp.fr (fun x q8 => (gb137 x (by omega)).trans (hf6 x (by omega)))
      have hc143 : M118 (c + 32) = some (sObj 7 [.ref (c + 33), .int (sI tn), .int (sI te)]) := ((gb137 ((c + 32)) (by omega)).trans (hf6 (c + 32) (by omega))).trans ht0
      have hc144 : M118 (c + 33) = some (sArr G 300 t) := ((gb137 ((c + 33)) (by omega)).trans (hf6 (c + 33) (by omega))).trans ht1
      have hc145 : catC G M118 (c + 34) wc T := hct.fr (fun x q8 q9 => (gb137 x (by omega)).trans (hf6 x (by omega)))
      have hc146 : orfC G M118 (c + 38) := hft.fr (fun x q8 q9 => (gb137 x (by omega)).trans (hf6 x (by omega)))
      have hc147 : layC G M118 (c + 48) := hly.fr (fun x q8 q9 => (gb137 x (by omega)).trans (hf6 x (by omega)))
      have hc148 : knoC G M118 (c + 54) := hkn.fr (fun x q8 q9 => (gb137 x (by omega)).trans (hf6 x (by omega)))
      have hc149 : excC G M118 (c + 57) := hex.fr (fun x q8 q9 => (gb137 x (by omega)).trans (hf6 x (by omega)))
      have hc150 : M118 (m + 1) = some (sArr G 574 f) := (hf123 (m + 1) (by omega)).trans hc117
      have hc151 : svC G M118 (m + 2) ch fs := hsv.fr (fun x q8 q9 => (hf123 x (by omega)).trans (ga116 x (by omega) (by omega)))
      have hc152 : M118 (m + 3) = some (sArr G 300 t) := ((hf123 (m + 3) (by omega)).trans (ga116 ((m + 3)) (by omega) (by omega))).trans hm3
      have hc153 : M118 (m + 4) = some (sArr G 11 A4) := ((hf123 (m + 4) (by omega)).trans (ga116 ((m + 4)) (by omega) (by omega))).trans hm4
      have hc154 : M118 (m + 5) = some (sArr G 1024 A5) := ((hf123 (m + 5) (by omega)).trans (ga116 ((m + 5)) (by omega) (by omega))).trans hm5
      have hc155 : M118 (m + 6) = some (sArr G 1024 A6) := ((hf123 (m + 6) (by omega)).trans (ga116 ((m + 6)) (by omega) (by omega))).trans hm6
      have hc156 : M118 (m + 7) = some (sArr G 10 A7) := ((hf123 (m + 7) (by omega)).trans (ga116 ((m + 7)) (by omega) (by omega))).trans hm7
      have hc157 : M118 (m + 8) = some (sArr G 10 A8) := ((hf123 (m + 8) (by omega)).trans (ga116 ((m + 8)) (by omega) (by omega))).trans hm8
      have hc158 : M118 (m + 9) = some (sArr G 62 A9) := ((hf123 (m + 9) (by omega)).trans (ga116 ((m + 9)) (by omega) (by omega))).trans hm9
      have hc159 : M118 (m + 10) = some (sArr G 8 A10) := ((hf123 (m + 10) (by omega)).trans (ga116 ((m + 10)) (by omega) (by omega))).trans hm10
      have hc160 : M118 (m + 11) = some (sArr G 8 A11) := ((hf123 (m + 11) (by omega)).trans (ga116 ((m + 11)) (by omega) (by omega))).trans hm11
      have hc161 : M118 (m + 12) = some (sArr G 60 A12) := ((hf123 (m + 12) (by omega)).trans (ga116 ((m + 12)) (by omega) (by omega))).trans hm12
      have hc162 : M118 (m + 13) = some (sArr G 240 A13) := ((hf123 (m + 13) (by omega)).trans (ga116 ((m + 13)) (by omega) (by omega))).trans hm13
      have hc163 : M118 (m + 14) = some (sArr G 574 A14) := ((hf123 (m + 14) (by omega)).trans (ga116 ((m + 14)) (by omega) (by omega))).trans hm14
      have hc164 : M118 (m + 15) = some (sArr G 200 T2) := ((hf123 (m + 15) (by omega)).trans (ga116 ((m + 15)) (by omega) (by omega))).trans hm15
      exact W.widen (by omega) (by omega) (hk _ _ _ _ _ (by omega) ⟨_, _, _, _, _, _, _, _, _, _, _, _, _, _, _, _, _, _, _, _, _, _, _, _, _, _, hc139, hc140, hc141, hc142, hc143, hc144, hc145, hc146, hc147, hc148, hc149, hc133, hc150, hc151, hc152, hc153, hc154, hc155, hc156, hc157, hc158, hc159, hc160, hc161, hc162, hc163, hc164, hc136, lF_s hlF, htp, hwr⟩ hV (lv_sub hl [2, 3, 4, 5, 6] rfl))

theorem nx_offer_0_1 {p : Int} {g : Int} {v : Int} {f : sF} (h1 : ¬ ((0 ≤ p ∧ p ≤ 4) ∧ (0 ≤ g ∧ g ≤ 5) ∧ (0 ≤ v ∧ v ≤ 5) ∧ g ≠ v)) (h2 : ((0 ≤ p ∧ p ≤ 4) ∧ (0 ≤ g ∧ g ≤ 5) ∧ (0 ≤ v ∧ v ≤ 5) ∧ g ≠ v) ∧ 8 ≤ f 573) : False := by
  first
  | omega
  | (simp_all; done)
  | (simp_all; omega)
theorem nx_offer_0_2 {p : Int} {g : Int} {v : Int} {f : sF} (h1 : ¬ ((0 ≤ p ∧ p ≤ 4) ∧ (0 ≤ g ∧ g ≤ 5) ∧ (0 ≤ v ∧ v ≤ 5) ∧ g ≠ v)) (h2 : ((0 ≤ p ∧ p ≤ 4) ∧ (0 ≤ g ∧ g ≤ 5) ∧ (0 ≤ v ∧ v ≤ 5) ∧ g ≠ v) ∧ f 573 < 8) : False := by
  first
  | omega
  | (simp_all; done)
  | (simp_all; omega)
theorem nx_offer_1_0 {p : Int} {g : Int} {v : Int} {f : sF} (h1 : ((0 ≤ p ∧ p ≤ 4) ∧ (0 ≤ g ∧ g ≤ 5) ∧ (0 ≤ v ∧ v ≤ 5) ∧ g ≠ v) ∧ 8 ≤ f 573) (h2 : ¬ ((0 ≤ p ∧ p ≤ 4) ∧ (0 ≤ g ∧ g ≤ 5) ∧ (0 ≤ v ∧ v ≤ 5) ∧ g ≠ v)) : False := by
  first
  | omega
  | (simp_all; done)
  | (simp_all; omega)
theorem nx_offer_1_2 {p : Int} {g : Int} {v : Int} {f : sF} (h1 : ((0 ≤ p ∧ p ≤ 4) ∧ (0 ≤ g ∧ g ≤ 5) ∧ (0 ≤ v ∧ v ≤ 5) ∧ g ≠ v) ∧ 8 ≤ f 573) (h2 : ((0 ≤ p ∧ p ≤ 4) ∧ (0 ≤ g ∧ g ≤ 5) ∧ (0 ≤ v ∧ v ≤ 5) ∧ g ≠ v) ∧ f 573 < 8) : False := by
  first
  | omega
  | (simp_all; done)
  | (simp_all; omega)
theorem nx_offer_2_0 {p : Int} {g : Int} {v : Int} {f : sF} (h1 : ((0 ≤ p ∧ p ≤ 4) ∧ (0 ≤ g ∧ g ≤ 5) ∧ (0 ≤ v ∧ v ≤ 5) ∧ g ≠ v) ∧ f 573 < 8) (h2 : ¬ ((0 ≤ p ∧ p ≤ 4) ∧ (0 ≤ g ∧ g ≤ 5) ∧ (0 ≤ v ∧ v ≤ 5) ∧ g ≠ v)) : False := by
  first
  | omega
  | (simp_all; done)
  | (simp_all; omega)
theorem nx_offer_2_1 {p : Int} {g : Int} {v : Int} {f : sF} (h1 : ((0 ≤ p ∧ p ≤ 4) ∧ (0 ≤ g ∧ g ≤ 5) ∧ (0 ≤ v ∧ v ≤ 5) ∧ g ≠ v) ∧ f 573 < 8) (h2 : ((0 ≤ p ∧ p ≤ 4) ∧ (0 ≤ g ∧ g ≤ 5) ∧ (0 ≤ v ∧ v ≤ 5) ∧ g ≠ v) ∧ 8 ≤ f 573) : False := by
  first
  | omega
  | (simp_all; done)
  | (simp_all; omega)
set_option maxHeartbeats 4000000 in
set_option maxRecDepth 100000 in
theorem law_35 {p_ : Program} {l_ : Launch} {e_ : Env} {s_ : State} {m_ : MethodId} {args_ : Array Value} {below_ : List Frame} {meth_ : Method} {c_ : Code} {nm_ : String} {G : sG} {b_ : Nat} {M0 : sM} {N0 : Nat} {Q : State → Prop} (E : sE p_ l_ e_ room_1 s_ m_ args_ below_ meth_ c_ cL_law 9 wsL_law RL nm_ (some .boolean) G b_ M0 N0) (hF_ : xcF s_) (hlt : l_.stackTraces = false) {z L : Nat} {xs : Nat → Int32} (hX : va_X z L xs s_ s_.heap) (hzb : z < b_) {c m o kb : Nat} (hg : c + 60 ≤ m ∧ m + 16 ≤ o ∧ o < kb) {cc_ ss_ : Nat} (hcc : cc_ + 1170 ≤ room_1.cells ∧ ss_ + 14000 ≤ room_1.slots) {q i : Int} (hi : 0 ≤ i ∧ i + 6 ≤ L ∧ (L : Int) ≤ 3072) (hq : 0 ≤ q ∧ q ≤ 600) {M : sM} {N : Nat} (hkN : kb ≤ N) (hI : lI G M c m o kb q) {H : Heap} {locs : List Loc} {ls : Array Slot} (hV : sV G b_ M N s_ H locs) (hl : lv_has ls 9 [(0, .ref z), (1, .ref c), (2, .ref m), (3, .ref o), (4, .int (sI i))])
    (hk : ∀ (M1 : sM) (N1 : Nat) (H1 : Heap) (locs1 : List Loc) (ls1 : Array Slot), kb ≤ N1 → lI G M1 c m o kb (q + 1) → sV G b_ M1 N1 s_ H1 locs1 → lv_has ls1 9 [(0, .ref z), (1, .ref c), (2, .ref m), (3, .ref o), (4, .int (sI i))] → W p_ l_ e_ room_1 s_ m_ args_ below_ meth_ c_ H1 locs1 (cc_ + 1170) (ss_ + 14000) Q (F0 m_ 2853 ls1 [])) : W p_ l_ e_ room_1 s_ m_ args_ below_ meth_ c_ H locs cc_ ss_ Q (F0 m_ 2442 ls []) := by
  have S := E.1
  have hx_ := S.1
  have hb_ := S.2.1
  have hK := E.2.2.2.2.1
  have hI2 := hI
  obtain ⟨kn, ch, f, fs, tn, te, t, wc, wn, T, T2, th, sn, nm, g0, A4, A5, A6, A7, A8, A9, A10, A11, A12, A13, A14, hc0, hst, htr, hkp, ht0, ht1, hct, hft, hly, hkn, hex, hm0, hm1, hsv, hm3, hm4, hm5, hm6, hm7, hm8, hm9, hm10, hm11, hm12, hm13, hm14, hm15, ho9, hlF, htp, hwr⟩ := hI2
  have hok := hlF.1.1
  have hdI := hlF.1.2.1
  have hsL := hlF.1.2.2.1
  have hclk := hlF.1.2.2.2
  have hchr : 0 ≤ ch ∧ ch ≤ 15 := ⟨hkp.r.2.2.1, hkp.r.2.2.2⟩
  have htp1 := htp.1
  have htp2 := htp.2.1
  have hwq := wrQ_e hwr
  have hwq1 := hwq.1
  have hwq2 := hwq.2.1
  have kn0 := sOk_N hok
  refine lv_aload_n hx_ hb_ dL_law_2442 rfl (lv_at hl 1 rfl) ?_
  refine lv_aload_n hx_ hb_ dL_law_2443 rfl (lv_at hl 0 rfl) ?_
  refine lv_iload hx_ hb_ dL_law_2444 (lv_at hl 4 rfl) ?_
  refine si_const S dL_law_2446 ?_
  refine si_add S dL_law_2447 ?_
  refine sc_sld S hV hX hzb (by omega) dL_law_2448 ?_
  refine lv_aload_n hx_ hb_ dL_law_2449 rfl (lv_at hl 0 rfl) ?_
  refine lv_iload hx_ hb_ dL_law_2450 (lv_at hl 4 rfl) ?_
  refine si_const S dL_law_2452 ?_
  refine si_add S dL_law_2453 ?_
  refine sc_sld S hV hX hzb (by omega) dL_law_2454 ?_
  refine lv_aload_n hx_ hb_ dL_law_2455 rfl (lv_at hl 0 rfl) ?_
  refine lv_iload hx_ hb_ dL_law_2456 (lv_at hl 4 rfl) ?_
  refine si_const S dL_law_2458 ?_
  refine si_add S dL_law_2459 ?_
  refine sc_sld S hV hX hzb (by omega) dL_law_2460 ?_
  refine lv_aload_n hx_ hb_ dL_law_2461 rfl (lv_at hl 3 rfl) ?_
  refine yk_Si (hh := [(0, 12, 15, 19), (0, 12, 19, 13)]) E hF_ hV (As := [.ref c, .int (sI (lX xs (i + 1))), .int (sI (lX xs (i + 2))), .int (sI (lX xs (i + 3))), .ref o]) (rest := []) (kL_offer l_ G b_ M N o g0 c kn ch f kb fs (lX xs (i + 1)) (lX xs (i + 2)) (lX xs (i + 3)) hc0 hst hkp ho9 (hlt) (hok) (by omega) (by omega) (⟨lX_r xs _, lX_r xs _, lX_r xs _⟩) (by omega) (by omega)) (vx_cwSW 5 S.2.2.2.2 gL_law_L_offer rfl rfl rfl (by decide +kernel) ⟨Nat.le_of_ble_eq_true rfl, Nat.le_of_ble_eq_true rfl⟩) rfl rfl hl.1 (Nat.le_of_ble_eq_true rfl) dL_law_2462 (c1 := cc_ + 25) (s1 := ss_ + 3000) ⟨⟨rfl, rfl⟩, by omega, by omega⟩ (fun z4 M1 N2 H locs hp3 hV => ?_)
  obtain ⟨kn15, hN6, hf7, hq8⟩ := hp3
  rcases hq8 with ⟨c9, ez10, hc11, hc12, hc13, hc14⟩ | ⟨c15, ez16, hc17, hc18, hc19, hc20⟩ | ⟨c21, ez22, hc23, hc24, hc25, hc26⟩
  · rw [ez10]
    refine lv_istore (lv' := [(5, .int (sI 1)), (0, .ref z), (1, .ref c), (2, .ref m), (3, .ref o), (4, .int (sI i))]) hx_ hb_ dL_law_2465 hl (by decide) rfl (fun ls hl => ?_)
    refine lv_aload_n hx_ hb_ dL_law_2467 rfl (lv_at hl 3 rfl) ?_
    refine lv_aload_n hx_ hb_ dL_law_2468 rfl (lv_at hl 1 rfl) ?_
    refine lv_iload hx_ hb_ dL_law_2469 (lv_at hl 5 rfl) ?_
    refine si_const S dL_law_2471 ?_
    refine si_add S dL_law_2472 ?_
    refine sc_sld S hV hX hzb (by omega) dL_law_2473 ?_
    refine lv_aload_n hx_ hb_ dL_law_2474 rfl (lv_at hl 1 rfl) ?_
    refine lv_iload hx_ hb_ dL_law_2475 (lv_at hl 5 rfl) ?_
    refine si_const S dL_law_2477 ?_
    refine si_add S dL_law_2478 ?_
    refine sc_sld S hV hX hzb (by omega) dL_law_2479 ?_
    refine lv_aload_n hx_ hb_ dL_law_2480 rfl (lv_at hl 1 rfl) ?_
    refine lv_iload hx_ hb_ dL_law_2481 (lv_at hl 5 rfl) ?_
    refine si_const S dL_law_2483 ?_
    refine si_add S dL_law_2484 ?_
    refine sc_sld S hV hX hzb (by omega) dL_law_2485 ?_
    have ga28 : ∀ x : Nat, m ≤ x → x < m + 16 → M1 x = M x := fun x u1 u2 => hf7 x (by omega) (by omega) (by omega) (by omega) (by omega)
    have hc27 : M1 m = some (mO m th ch tn te sn nm wn) := (ga28 m (by omega) (by omega)).trans hm0
    have hc29 : M1 (m + 1) = some (sArr G 574 f) := (ga28 ((m + 1)) (by omega) (by omega)).trans hm1
    have hc30 : svC G M1 (m + 2) ch fs := hsv.fr (fun x q8 q9 => ga28 x (by omega) (by omega))
    refine sk_Vi E hV (As := [.int (sI (lX xs (i + 1))), .int (sI (lX xs (i + 2))), .int (sI (lX xs (i + 3)))]) (rest := []) (kX11_offer l_ G b_ M1 N2 m th ch tn te sn nm wn f fs (lX xs (i + 1)) (lX xs (i + 2)) (lX xs (i + 3)) hc27 hc29 hc30 (hok) (hchr) (⟨lX_r xs _, lX_r xs _, lX_r xs _⟩)) (cwV 3 S.2.2.2.2 gL_law_X11_offer rfl rfl rfl (by decide +kernel) ⟨Nat.le_of_ble_eq_true rfl, Nat.le_of_ble_eq_true rfl⟩) (ci := 9) hc27 rfl rfl rfl hl.1 (Nat.le_of_ble_eq_true rfl) dL_law_2486 (c1 := cc_ + 25) (s1 := ss_ + 3000) ⟨⟨rfl, rfl⟩, by omega, by omega⟩ (fun z34 M31 N32 H locs hp33 hV => ?_)
    obtain ⟨hN35, hf36, hq37⟩ := hp33
    rw [hN35] at hV
    rcases hq37 with ⟨c38, ez39, hc40, hc41, hc42⟩ | ⟨c43, ez44, hc45, hc46, hc47⟩ | ⟨c48, ez49, hc50, hc51, hc52⟩
    · rw [ez39]
      refine lv_istore (lv' := [(6, .int (sI 0)), (5, .int (sI 1)), (0, .ref z), (1, .ref c), (2, .ref m), (3, .ref o), (4, .int (sI i))]) hx_ hb_ dL_law_2489 hl (by decide) rfl (fun ls hl => ?_)
      refine lv_aload_n hx_ hb_ dL_law_2491 rfl (lv_at hl 4 rfl) ?_
      refine sk_VP E hV (As := []) (rest := []) (kX11_thrown l_ G b_ M31 N2 m 1 ch tn te sn nm wn hc40) (cwV 0 S.2.2.2.2 gL_law_X11_thrown rfl rfl rfl (by decide +kernel) ⟨Nat.le_of_ble_eq_true rfl, Nat.le_of_ble_eq_true rfl⟩) (ci := 9) hc40 rfl rfl rfl hl.1 (Nat.le_of_ble_eq_true rfl) dL_law_2492 (c1 := cc_ + 25) (s1 := ss_ + 3000) ⟨⟨rfl, rfl⟩, by omega, by omega⟩ (fun H locs hV => ?_)
      refine lv_iload hx_ hb_ dL_law_2495 (lv_at hl 1 rfl) ?_
      refine sb_eq (tgt := 2502) S dL_law_2497 (by decide) (by omega) (fun _ => ?_) (fun c53 => absurd c53 (by omega))
      refine lv_iload hx_ hb_ dL_law_2502 (lv_at hl 1 rfl) ?_
      refine sz_ne (tgt := 2519) S dL_law_2504 (by decide) (by omega) (fun _ => ?_) (fun c54 => absurd c54 (by omega))
      refine lv_goto (tgt := 2853) hx_ hb_ dL_law_2519 (by decide) ?_
      have gb56 : ∀ x : Nat, (x < m ∨ m + 16 ≤ x) → M31 x = M1 x := fun x u1 => hf36 x (by omega) (by omega) (by omega)
      have hc55 : M31 c = some (xO c kn15 ch) := (gb56 c (by omega)).trans hc11
      have hc57 : stC G M31 (c + 1) f := hc12.fr (fun x q8 q9 => gb56 x (by omega))
      have hc58 : triC G M31 (c + 16) := htr.fr (fun x q8 q9 => (gb56 x (by omega)).trans (hf7 x (by omega) (by omega) (by omega) (by omega) (by omega)))
      have hc59 : kpC G M31 (c + 31) kb kn15 ch fs := hc13.fr (fun x q8 => gb56 x (by omega))
      have hc60 : M31 (c + 32) = some (sObj 7 [.ref (c + 33), .int (sI tn), .int (sI te)]) := ((gb56 ((c + 32)) (by omega)).trans (hf7 (c + 32) (by omega) (by omega) (by omega) (by omega) (by omega))).trans ht0
      have hc61 : M31 (c + 33) = some (sArr G 300 t) := ((gb56 ((c + 33)) (by omega)).trans (hf7 (c + 33) (by omega) (by omega) (by omega) (by omega) (by omega))).trans ht1
      have hc62 : catC G M31 (c + 34) wc T := hct.fr (fun x q8 q9 => (gb56 x (by omega)).trans (hf7 x (by omega) (by omega) (by omega) (by omega) (by omega)))
      have hc63 : orfC G M31 (c + 38) := hft.fr (fun x q8 q9 => (gb56 x (by omega)).trans (hf7 x (by omega) (by omega) (by omega) (by omega) (by omega)))
      have hc64 : layC G M31 (c + 48) := hly.fr (fun x q8 q9 => (gb56 x (by omega)).trans (hf7 x (by omega) (by omega) (by omega) (by omega) (by omega)))
      have hc65 : knoC G M31 (c + 54) := hkn.fr (fun x q8 q9 => (gb56 x (by omega)).trans (hf7 x (by omega) (by omega) (by omega) (by omega) (by omega)))
      have hc66 : excC G M31 (c + 57) := hex.fr (fun x q8 q9 => (gb56 x (by omega)).trans (hf7 x (by omega) (by omega) (by omega) (by omega) (by omega)))
      have hc67 : M31 (m + 3) = some (sArr G 300 t) := ((hf36 (m + 3) (by omega) (by omega) (by omega)).trans (ga28 ((m + 3)) (by omega) (by omega))).trans hm3
      have hc68 : M31 (m + 4) = some (sArr G 11 A4) := ((hf36 (m + 4) (by omega) (by omega) (by omega)).trans (ga28 ((m + 4)) (by omega) (by omega))).trans hm4
      have hc69 : M31 (m + 5) = some (sArr G 1024 A5) := ((hf36 (m + 5) (by omega) (by omega) (by omega)).trans (ga28 ((m + 5)) (by omega) (by omega))).trans hm5
      have hc70 : M31 (m + 6) = some (sArr G 1024 A6) := ((hf36 (m + 6) (by omega) (by omega) (by omega)).trans (ga28 ((m + 6)) (by omega) (by omega))).trans hm6
      have hc71 : M31 (m + 7) = some (sArr G 10 A7) := ((hf36 (m + 7) (by omega) (by omega) (by omega)).trans (ga28 ((m + 7)) (by omega) (by omega))).trans hm7
      have hc72 : M31 (m + 8) = some (sArr G 10 A8) := ((hf36 (m + 8) (by omega) (by omega) (by omega)).trans (ga28 ((m + 8)) (by omega) (by omega))).trans hm8
      have hc73 : M31 (m + 9) = some (sArr G 62 A9) := ((hf36 (m + 9) (by omega) (by omega) (by omega)).trans (ga28 ((m + 9)) (by omega) (by omega))).trans hm9
      have hc74 : M31 (m + 10) = some (sArr G 8 A10) := ((hf36 (m + 10) (by omega) (by omega) (by omega)).trans (ga28 ((m + 10)) (by omega) (by omega))).trans hm10
      have hc75 : M31 (m + 11) = some (sArr G 8 A11) := ((hf36 (m + 11) (by omega) (by omega) (by omega)).trans (ga28 ((m + 11)) (by omega) (by omega))).trans hm11
      have hc76 : M31 (m + 12) = some (sArr G 60 A12) := ((hf36 (m + 12) (by omega) (by omega) (by omega)).trans (ga28 ((m + 12)) (by omega) (by omega))).trans hm12
      have hc77 : M31 (m + 13) = some (sArr G 240 A13) := ((hf36 (m + 13) (by omega) (by omega) (by omega)).trans (ga28 ((m + 13)) (by omega) (by omega))).trans hm13
      have hc78 : M31 (m + 14) = some (sArr G 574 A14) := ((hf36 (m + 14) (by omega) (by omega) (by omega)).trans (ga28 ((m + 14)) (by omega) (by omega))).trans hm14
      have hc79 : M31 (m + 15) = some (sArr G 200 T2) := ((hf36 (m + 15) (by omega) (by omega) (by omega)).trans (ga28 ((m + 15)) (by omega) (by omega))).trans hm15
      have hc80 : M31 o = some (sArL G 1 g0) := (gb56 o (by omega)).trans hc14
      exact W.widen (by omega) (by omega) (hk _ _ _ _ _ (by omega) ⟨_, _, _, _, _, _, _, _, _, _, _, _, _, _, _, _, _, _, _, _, _, _, _, _, _, _, hc55, hc57, hc58, hc59, hc60, hc61, hc62, hc63, hc64, hc65, hc66, hc40, hc41, hc42, hc67, hc68, hc69, hc70, hc71, hc72, hc73, hc74, hc75, hc76, hc77, hc78, hc79, hc80, lF_s hlF, htp, hwr⟩ hV (lv_sub hl [2, 3, 4, 5, 6] rfl))
    · rw [ez44]
      exact (nx_offer_0_1 c9 c43).elim
    · rw [ez49]
      exact (nx_offer_0_2 c9 c48).elim
  · rw [ez16]
    refine lv_istore (lv' := [(5, .int (sI 2)), (0, .ref z), (1, .ref c), (2, .ref m), (3, .ref o), (4, .int (sI i))]) hx_ hb_ dL_law_2465 hl (by decide) rfl (fun ls hl => ?_)
    refine lv_aload_n hx_ hb_ dL_law_2467 rfl (lv_at hl 3 rfl) ?_
    refine lv_aload_n hx_ hb_ dL_law_2468 rfl (lv_at hl 1 rfl) ?_
    refine lv_iload hx_ hb_ dL_law_2469 (lv_at hl 5 rfl) ?_
    refine si_const S dL_law_2471 ?_
    refine si_add S dL_law_2472 ?_
    refine sc_sld S hV hX hzb (by omega) dL_law_2473 ?_
    refine lv_aload_n hx_ hb_ dL_law_2474 rfl (lv_at hl 1 rfl) ?_
    refine lv_iload hx_ hb_ dL_law_2475 (lv_at hl 5 rfl) ?_
    refine si_const S dL_law_2477 ?_
    refine si_add S dL_law_2478 ?_
    refine sc_sld S hV hX hzb (by omega) dL_law_2479 ?_
    refine lv_aload_n hx_ hb_ dL_law_2480 rfl (lv_at hl 1 rfl) ?_
    refine lv_iload hx_ hb_ dL_law_2481 (lv_at hl 5 rfl) ?_
    refine si_const S dL_law_2483 ?_
    refine si_add S dL_law_2484 ?_
    refine sc_sld S hV hX hzb (by omega) dL_law_2485 ?_
    have ga82 : ∀ x : Nat, m ≤ x → x < m + 16 → M1 x = M x := fun x u1 u2 => hf7 x (by omega) (by omega) (by omega) (by omega) (by omega)
    have hc81 : M1 m = some (mO m th ch tn te sn nm wn) := (ga82 m (by omega) (by omega)).trans hm0
    have hc83 : M1 (m + 1) = some (sArr G 574 f) := (ga82 ((m + 1)) (by omega) (by omega)).trans hm1
    have hc84 : svC G M1 (m + 2) ch fs := hsv.fr (fun x q8 q9 => ga82 x (by omega) (by omega))
    refine sk_Vi E hV (As := [.int (sI (lX xs (i + 1))), .int (sI (lX xs (i + 2))), .int (sI (lX xs (i + 3)))]) (rest := []) (kX11_offer l_ G b_ M1 N2 m th ch tn te sn nm wn f fs (lX xs (i + 1)) (lX xs (i + 2)) (lX xs (i + 3)) hc81 hc83 hc84 (hok) (hchr) (⟨lX_r xs _, lX_r xs _, lX_r xs _⟩)) (cwV 3 S.2.2.2.2 gL_law_X11_offer rfl rfl rfl (by decide +kernel) ⟨Nat.le_of_ble_eq_true rfl, Nat.le_of_ble_eq_true rfl⟩) (ci := 9) hc81 rfl rfl rfl hl.1 (Nat.le_of_ble_eq_true rfl) dL_law_2486 (c1 := cc_ + 25) (s1 := ss_ + 3000) ⟨⟨rfl, rfl⟩, by omega, by omega⟩ (fun z88 M85 N86 H locs hp87 hV => ?_)
    obtain ⟨hN89, hf90, hq91⟩ := hp87
    rw [hN89] at hV
    rcases hq91 with ⟨c92, ez93, hc94, hc95, hc96⟩ | ⟨c97, ez98, hc99, hc100, hc101⟩ | ⟨c102, ez103, hc104, hc105, hc106⟩
    · rw [ez93]
      exact (nx_offer_1_0 c15 c92).elim
    · rw [ez98]
      refine lv_istore (lv' := [(6, .int (sI 0)), (5, .int (sI 2)), (0, .ref z), (1, .ref c), (2, .ref m), (3, .ref o), (4, .int (sI i))]) hx_ hb_ dL_law_2489 hl (by decide) rfl (fun ls hl => ?_)
      refine lv_aload_n hx_ hb_ dL_law_2491 rfl (lv_at hl 4 rfl) ?_
      refine sk_VP E hV (As := []) (rest := []) (kX11_thrown l_ G b_ M85 N2 m 2 ch tn te sn nm wn hc99) (cwV 0 S.2.2.2.2 gL_law_X11_thrown rfl rfl rfl (by decide +kernel) ⟨Nat.le_of_ble_eq_true rfl, Nat.le_of_ble_eq_true rfl⟩) (ci := 9) hc99 rfl rfl rfl hl.1 (Nat.le_of_ble_eq_true rfl) dL_law_2492 (c1 := cc_ + 25) (s1 := ss_ + 3000) ⟨⟨rfl, rfl⟩, by omega, by omega⟩ (fun H locs hV => ?_)
      refine lv_iload hx_ hb_ dL_law_2495 (lv_at hl 1 rfl) ?_
      refine sb_eq (tgt := 2502) S dL_law_2497 (by decide) (by omega) (fun _ => ?_) (fun c107 => absurd c107 (by omega))
      refine lv_iload hx_ hb_ dL_law_2502 (lv_at hl 1 rfl) ?_
      refine sz_ne (tgt := 2519) S dL_law_2504 (by decide) (by omega) (fun _ => ?_) (fun c108 => absurd c108 (by omega))
      refine lv_goto (tgt := 2853) hx_ hb_ dL_law_2519 (by decide) ?_
      have gb110 : ∀ x : Nat, (x < m ∨ m + 16 ≤ x) → M85 x = M1 x := fun x u1 => hf90 x (by omega) (by omega) (by omega)
      have hc109 : M85 c = some (xO c kn15 ch) := (gb110 c (by omega)).trans hc17
      have hc111 : stC G M85 (c + 1) f := hc18.fr (fun x q8 q9 => gb110 x (by omega))
      have hc112 : triC G M85 (c + 16) := htr.fr (fun x q8 q9 => (gb110 x (by omega)).trans (hf7 x (by omega) (by omega) (by omega) (by omega) (by omega)))
      have hc113 : kpC G M85 (c + 31) kb kn15 ch fs := hc19.fr (fun x q8 => gb110 x (by omega))
      have hc114 : M85 (c + 32) = some (sObj 7 [.ref (c + 33), .int (sI tn), .int (sI te)]) := ((gb110 ((c + 32)) (by omega)).trans (hf7 (c + 32) (by omega) (by omega) (by omega) (by omega) (by omega))).trans ht0
      have hc115 : M85 (c + 33) = some (sArr G 300 t) := ((gb110 ((c + 33)) (by omega)).trans (hf7 (c + 33) (by omega) (by omega) (by omega) (by omega) (by omega))).trans ht1
      have hc116 : catC G M85 (c + 34) wc T := hct.fr (fun x q8 q9 => (gb110 x (by omega)).trans (hf7 x (by omega) (by omega) (by omega) (by omega) (by omega)))
      have hc117 : orfC G M85 (c + 38) := hft.fr (fun x q8 q9 => (gb110 x (by omega)).trans (hf7 x (by omega) (by omega) (by omega) (by omega) (by omega)))
      have hc118 : layC G M85 (c + 48) := hly.fr (fun x q8 q9 => (gb110 x (by omega)).trans (hf7 x (by omega) (by omega) (by omega) (by omega) (by omega)))
      have hc119 : knoC G M85 (c + 54) := hkn.fr (fun x q8 q9 => (gb110 x (by omega)).trans (hf7 x (by omega) (by omega) (by omega) (by omega) (by omega)))
      have hc120 : excC G M85 (c + 57) := hex.fr (fun x q8 q9 => (gb110 x (by omega)).trans (hf7 x (by omega) (by omega) (by omega) (by omega) (by omega)))
      have hc121 : M85 (m + 3) = some (sArr G 300 t) := ((hf90 (m + 3) (by omega) (by omega) (by omega)).trans (ga82 ((m + 3)) (by omega) (by omega))).trans hm3
      have hc122 : M85 (m + 4) = some (sArr G 11 A4) := ((hf90 (m + 4) (by omega) (by omega) (by omega)).trans (ga82 ((m + 4)) (by omega) (by omega))).trans hm4
      have hc123 : M85 (m + 5) = some (sArr G 1024 A5) := ((hf90 (m + 5) (by omega) (by omega) (by omega)).trans (ga82 ((m + 5)) (by omega) (by omega))).trans hm5
      have hc124 : M85 (m + 6) = some (sArr G 1024 A6) := ((hf90 (m + 6) (by omega) (by omega) (by omega)).trans (ga82 ((m + 6)) (by omega) (by omega))).trans hm6
      have hc125 : M85 (m + 7) = some (sArr G 10 A7) := ((hf90 (m + 7) (by omega) (by omega) (by omega)).trans (ga82 ((m + 7)) (by omega) (by omega))).trans hm7
      have hc126 : M85 (m + 8) = some (sArr G 10 A8) := ((hf90 (m + 8) (by omega) (by omega) (by omega)).trans (ga82 ((m + 8)) (by omega) (by omega))).trans hm8
      have hc127 : M85 (m + 9) = some (sArr G 62 A9) := ((hf90 (m + 9) (by omega) (by omega) (by omega)).trans (ga82 ((m + 9)) (by omega) (by omega))).trans hm9
      have hc128 : M85 (m + 10) = some (sArr G 8 A10) := ((hf90 (m + 10) (by omega) (by omega) (by omega)).trans (ga82 ((m + 10)) (by omega) (by omega))).trans hm10
      have hc129 : M85 (m + 11) = some (sArr G 8 A11) := ((hf90 (m + 11) (by omega) (by omega) (by omega)).trans (ga82 ((m + 11)) (by omega) (by omega))).trans hm11
      have hc130 : M85 (m + 12) = some (sArr G 60 A12) := ((hf90 (m + 12) (by omega) (by omega) (by omega)).trans (ga82 ((m + 12)) (by omega) (by omega))).trans hm12
      have hc131 : M85 (m + 13) = some (sArr G 240 A13) := ((hf90 (m + 13) (by omega) (by omega) (by omega)).trans (ga82 ((m + 13)) (by omega) (by omega))).trans hm13
      have hc132 : M85 (m + 14) = some (sArr G 574 A14) := ((hf90 (m + 14) (by omega) (by omega) (by omega)).trans (ga82 ((m + 14)) (by omega) (by omega))).trans hm14
      have hc133 : M85 (m + 15) = some (sArr G 200 T2) := ((hf90 (m + 15) (by omega) (by omega) (by omega)).trans (ga82 ((m + 15)) (by omega) (by omega))).trans hm15
      have hc134 : M85 o = some (sArL G 1 g0) := (gb110 o (by omega)).trans hc20
      exact W.widen (by omega) (by omega) (hk _ _ _ _ _ (by omega) ⟨_, _, _, _, _, _, _, _, _, _, _, _, _, _, _, _, _, _, _, _, _, _, _, _, _, _, hc109, hc111, hc112, hc113, hc114, hc115, hc116, hc117, hc118, hc119, hc120, hc99, hc100, hc101, hc121, hc122, hc123, hc124, hc125, hc126, hc127, hc128, hc129, hc130, hc131, hc132, hc133, hc134, lF_s hlF, htp, hwr⟩ hV (lv_sub hl [2, 3, 4, 5, 6] rfl))
    · rw [ez103]
      exact (nx_offer_1_2 c15 c102).elim
  · rw [ez22]
    refine lv_istore (lv' := [(5, .int (sI 0)), (0, .ref z), (1, .ref c), (2, .ref m), (3, .ref o), (4, .int (sI i))]) hx_ hb_ dL_law_2465 hl (by decide) rfl (fun ls hl => ?_)
    refine lv_aload_n hx_ hb_ dL_law_2467 rfl (lv_at hl 3 rfl) ?_
    refine lv_aload_n hx_ hb_ dL_law_2468 rfl (lv_at hl 1 rfl) ?_
    refine lv_iload hx_ hb_ dL_law_2469 (lv_at hl 5 rfl) ?_
    refine si_const S dL_law_2471 ?_
    refine si_add S dL_law_2472 ?_
    refine sc_sld S hV hX hzb (by omega) dL_law_2473 ?_
    refine lv_aload_n hx_ hb_ dL_law_2474 rfl (lv_at hl 1 rfl) ?_
    refine lv_iload hx_ hb_ dL_law_2475 (lv_at hl 5 rfl) ?_
    refine si_const S dL_law_2477 ?_
    refine si_add S dL_law_2478 ?_
    refine sc_sld S hV hX hzb (by omega) dL_law_2479 ?_
    refine lv_aload_n hx_ hb_ dL_law_2480 rfl (lv_at hl 1 rfl) ?_
    refine lv_iload hx_ hb_ dL_law_2481 (lv_at hl 5 rfl) ?_
    refine si_const S dL_law_2483 ?_
    refine si_add S dL_law_2484 ?_
    refine sc_sld S hV hX hzb (by omega) dL_law_2485 ?_
    have ga136 : ∀ x : Nat, m ≤ x → x < m + 16 → M1 x = M x := fun x u1 u2 => hf7 x (by omega) (by omega) (by omega) (by omega) (by omega)
    have hc135 : M1 m = some (mO m th ch tn te sn nm wn) := (ga136 m (by omega) (by omega)).trans hm0
    have hc137 : M1 (m + 1) = some (sArr G 574 f) := (ga136 ((m + 1)) (by omega) (by omega)).trans hm1
    have hc138 : svC G M1 (m + 2) ch fs := hsv.fr (fun x q8 q9 => ga136 x (by omega) (by omega))
    refine sk_Vi E hV (As := [.int (sI (lX xs (i + 1))), .int (sI (lX xs (i + 2))), .int (sI (lX xs (i + 3)))]) (rest := []) (kX11_offer l_ G b_ M1 N2 m th ch tn te sn nm wn f fs (lX xs (i + 1)) (lX xs (i + 2)) (lX xs (i + 3)) hc135 hc137 hc138 (hok) (hchr) (⟨lX_r xs _, lX_r xs _, lX_r xs _⟩)) (cwV 3 S.2.2.2.2 gL_law_X11_offer rfl rfl rfl (by decide +kernel) ⟨Nat.le_of_ble_eq_true rfl, Nat.le_of_ble_eq_true rfl⟩) (ci := 9) hc135 rfl rfl rfl hl.1 (Nat.le_of_ble_eq_true rfl) dL_law_2486 (c1 := cc_ + 25) (s1 := ss_ + 3000) ⟨⟨rfl, rfl⟩, by omega, by omega⟩ (fun z142 M139 N140 H locs hp141 hV => ?_)
    obtain ⟨hN143, hf144, hq145⟩ := hp141
    rw [hN143] at hV
    rcases hq145 with ⟨c146, ez147, hc148, hc149, hc150⟩ | ⟨c151, ez152, hc153, hc154, hc155⟩ | ⟨c156, ez157, hc158, hc159, hc160⟩
    · rw [ez147]
      exact (nx_offer_2_0 c21 c146).elim
    · rw [ez152]
      exact (nx_offer_2_1 c21 c151).elim
    · rw [ez157]
      refine lv_istore (lv' := [(6, .int (sI (f 573))), (5, .int (sI 0)), (0, .ref z), (1, .ref c), (2, .ref m), (3, .ref o), (4, .int (sI i))]) hx_ hb_ dL_law_2489 hl (by decide) rfl (fun ls hl => ?_)
      refine lv_aload_n hx_ hb_ dL_law_2491 rfl (lv_at hl 4 rfl) ?_
      refine sk_VP E hV (As := []) (rest := []) (kX11_thrown l_ G b_ M139 N2 m 0 (chn ch) tn te sn nm wn hc158) (cwV 0 S.2.2.2.2 gL_law_X11_thrown rfl rfl rfl (by decide +kernel) ⟨Nat.le_of_ble_eq_true rfl, Nat.le_of_ble_eq_true rfl⟩) (ci := 9) hc158 rfl rfl rfl hl.1 (Nat.le_of_ble_eq_true rfl) dL_law_2492 (c1 := cc_ + 25) (s1 := ss_ + 3000) ⟨⟨rfl, rfl⟩, by omega, by omega⟩ (fun H locs hV => ?_)
      refine lv_iload hx_ hb_ dL_law_2495 (lv_at hl 1 rfl) ?_
      refine sb_eq (tgt := 2502) S dL_law_2497 (by decide) (by omega) (fun _ => ?_) (fun c161 => absurd c161 (by omega))
      refine lv_iload hx_ hb_ dL_law_2502 (lv_at hl 1 rfl) ?_
      refine sz_ne (tgt := 2519) S dL_law_2504 (by decide) (by omega) (fun c162 => absurd c162 (by omega)) (fun _ => ?_)
      refine lv_aload_n hx_ hb_ dL_law_2507 rfl (lv_at hl 5 rfl) ?_
      refine si_const S dL_law_2508 ?_
      have gb164 : ∀ x : Nat, (x < m ∨ m + 16 ≤ x) → M139 x = M1 x := fun x u1 => hf144 x (by omega) (by omega) (by omega)
      have hc163 : M139 o = some (sArL G 1 (iup g0 0 (sW (f 573)))) := (gb164 o (by omega)).trans hc26
      refine sc_lald S hK hV hc163 (by omega) dL_law_2509 ?_
      rw [show (iup g0 0 (sW (f 573))) 0 = sW (f 573) from if_pos rfl]
      refine lv_iload hx_ hb_ dL_law_2510 (lv_at hl 0 rfl) ?_
      refine sl_i2w S dL_law_2512 ?_
      refine sl_cmp0 S (rfl) dL_law_2513 ?_
      refine sz_eq (tgt := 2519) S dL_law_2514 (by decide) (by omega) (fun _ => ?_) (fun c165 => absurd c165 (by omega))
      refine lv_goto (tgt := 2853) hx_ hb_ dL_law_2519 (by decide) ?_
      have hc166 : M139 c = some (xO c kn15 (chn ch)) := (gb164 c (by omega)).trans hc23
      have hc167 : stC G M139 (c + 1) (ofF f (lX xs (i + 1)) (lX xs (i + 2)) (lX xs (i + 3))) := hc24.fr (fun x q8 q9 => gb164 x (by omega))
      have hc168 : triC G M139 (c + 16) := htr.fr (fun x q8 q9 => (gb164 x (by omega)).trans (hf7 x (by omega) (by omega) (by omega) (by omega) (by omega)))
      have hc169 : kpC G M139 (c + 31) kb kn15 (chn ch) (fsn ch fs f) := hc25.fr (fun x q8 => gb164 x (by omega))
      have hc170 : M139 (c + 32) = some (sObj 7 [.ref (c + 33), .int (sI tn), .int (sI te)]) := ((gb164 ((c + 32)) (by omega)).trans (hf7 (c + 32) (by omega) (by omega) (by omega) (by omega) (by omega))).trans ht0
      have hc171 : M139 (c + 33) = some (sArr G 300 t) := ((gb164 ((c + 33)) (by omega)).trans (hf7 (c + 33) (by omega) (by omega) (by omega) (by omega) (by omega))).trans ht1
      have hc172 : catC G M139 (c + 34) wc T := hct.fr (fun x q8 q9 => (gb164 x (by omega)).trans (hf7 x (by omega) (by omega) (by omega) (by omega) (by omega)))
      have hc173 : orfC G M139 (c + 38) := hft.fr (fun x q8 q9 => (gb164 x (by omega)).trans (hf7 x (by omega) (by omega) (by omega) (by omega) (by omega)))
      have hc174 : layC G M139 (c + 48) := hly.fr (fun x q8 q9 => (gb164 x (by omega)).trans (hf7 x (by omega) (by omega) (by omega) (by omega) (by omega)))
      have hc175 : knoC G M139 (c + 54) := hkn.fr (fun x q8 q9 => (gb164 x (by omega)).trans (hf7 x (by omega) (by omega) (by omega) (by omega) (by omega)))
      have hc176 : excC G M139 (c + 57) := hex.fr (fun x q8 q9 => (gb164 x (by omega)).trans (hf7 x (by omega) (by omega) (by omega) (by omega) (by omega)))
      have hc177 : M139 (m + 3) = some (sArr G 300 t) := ((hf144 (m + 3) (by omega) (by omega) (by omega)).trans (ga136 ((m + 3)) (by omega) (by omega))).trans hm3
      have hc178 : M139 (m + 4) = some (sArr G 11 A4) := ((hf144 (m + 4) (by omega) (by omega) (by omega)).trans (ga136 ((m + 4)) (by omega) (by omega))).trans hm4
      have hc179 : M139 (m + 5) = some (sArr G 1024 A5) := ((hf144 (m + 5) (by omega) (by omega) (by omega)).trans (ga136 ((m + 5)) (by omega) (by omega))).trans hm5
      have hc180 : M139 (m + 6) = some (sArr G 1024 A6) := ((hf144 (m + 6) (by omega) (by omega) (by omega)).trans (ga136 ((m + 6)) (by omega) (by omega))).trans hm6
      have hc181 : M139 (m + 7) = some (sArr G 10 A7) := ((hf144 (m + 7) (by omega) (by omega) (by omega)).trans (ga136 ((m + 7)) (by omega) (by omega))).trans hm7
      have hc182 : M139 (m + 8) = some (sArr G 10 A8) := ((hf144 (m + 8) (by omega) (by omega) (by omega)).trans (ga136 ((m + 8)) (by omega) (by omega))).trans hm8
      have hc183 : M139 (m + 9) = some (sArr G 62 A9) := ((hf144 (m + 9) (by omega) (by omega) (by omega)).trans (ga136 ((m + 9)) (by omega) (by omega))).trans hm9
      have hc184 : M139 (m + 10) = some (sArr G 8 A10) := ((hf144 (m + 10) (by omega) (by omega) (by omega)).trans (ga136 ((m + 10)) (by omega) (by omega))).trans hm10
      have hc185 : M139 (m + 11) = some (sArr G 8 A11) := ((hf144 (m + 11) (by omega) (by omega) (by omega)).trans (ga136 ((m + 11)) (by omega) (by omega))).trans hm11
      have hc186 : M139 (m + 12) = some (sArr G 60 A12) := ((hf144 (m + 12) (by omega) (by omega) (by omega)).trans (ga136 ((m + 12)) (by omega) (by omega))).trans hm12
      have hc187 : M139 (m + 13) = some (sArr G 240 A13) := ((hf144 (m + 13) (by omega) (by omega) (by omega)).trans (ga136 ((m + 13)) (by omega) (by omega))).trans hm13
      have hc188 : M139 (m + 14) = some (sArr G 574 A14) := ((hf144 (m + 14) (by omega) (by omega) (by omega)).trans (ga136 ((m + 14)) (by omega) (by omega))).trans hm14
      have hc189 : M139 (m + 15) = some (sArr G 200 T2) := ((hf144 (m + 15) (by omega) (by omega) (by omega)).trans (ga136 ((m + 15)) (by omega) (by omega))).trans hm15
      exact W.widen (by omega) (by omega) (hk _ _ _ _ _ (by omega) ⟨_, _, _, _, _, _, _, _, _, _, _, _, _, _, _, _, _, _, _, _, _, _, _, _, _, _, hc166, hc167, hc168, hc169, hc170, hc171, hc172, hc173, hc174, hc175, hc176, hc158, hc159, hc160, hc177, hc178, hc179, hc180, hc181, hc182, hc183, hc184, hc185, hc186, hc187, hc188, hc189, hc163, lF_k hchr hlF (g_of hlF.1 (by omega) (by omega) (by omega) (by omega) (by omega)), htp, hwr⟩ hV (lv_sub hl [2, 3, 4, 5, 6] rfl))

set_option maxHeartbeats 4000000 in
set_option maxRecDepth 100000 in
theorem law_36 {p_ : Program} {l_ : Launch} {e_ : Env} {s_ : State} {m_ : MethodId} {args_ : Array Value} {below_ : List Frame} {meth_ : Method} {c_ : Code} {nm_ : String} {G : sG} {b_ : Nat} {M0 : sM} {N0 : Nat} {Q : State → Prop} (E : sE p_ l_ e_ room_1 s_ m_ args_ below_ meth_ c_ cL_law 9 wsL_law RL nm_ (some .boolean) G b_ M0 N0) (hF_ : xcF s_) (hlt : l_.stackTraces = false) {z L : Nat} {xs : Nat → Int32} (hX : va_X z L xs s_ s_.heap) (hzb : z < b_) {c m o kb : Nat} (hg : c + 60 ≤ m ∧ m + 16 ≤ o ∧ o < kb) {cc_ ss_ : Nat} (hcc : cc_ + 1170 ≤ room_1.cells ∧ ss_ + 14000 ≤ room_1.slots) {q i : Int} (hi : 0 ≤ i ∧ i + 6 ≤ L ∧ (L : Int) ≤ 3072) (hq : 0 ≤ q ∧ q ≤ 600) {M : sM} {N : Nat} (hkN : kb ≤ N) (hI : lI G M c m o kb q) {H : Heap} {locs : List Loc} {ls : Array Slot} (hV : sV G b_ M N s_ H locs) (hl : lv_has ls 9 [(0, .ref z), (1, .ref c), (2, .ref m), (3, .ref o), (4, .int (sI i))])
    (hk : ∀ (M1 : sM) (N1 : Nat) (H1 : Heap) (locs1 : List Loc) (ls1 : Array Slot), kb ≤ N1 → lI G M1 c m o kb (q + 1) → sV G b_ M1 N1 s_ H1 locs1 → lv_has ls1 9 [(0, .ref z), (1, .ref c), (2, .ref m), (3, .ref o), (4, .int (sI i))] → W p_ l_ e_ room_1 s_ m_ args_ below_ meth_ c_ H1 locs1 (cc_ + 1170) (ss_ + 14000) Q (F0 m_ 2853 ls1 [])) : W p_ l_ e_ room_1 s_ m_ args_ below_ meth_ c_ H locs cc_ ss_ Q (F0 m_ 2522 ls []) := by
  have S := E.1
  have hx_ := S.1
  have hb_ := S.2.1
  have hK := E.2.2.2.2.1
  have hI2 := hI
  obtain ⟨kn, ch, f, fs, tn, te, t, wc, wn, T, T2, th, sn, nm, g0, A4, A5, A6, A7, A8, A9, A10, A11, A12, A13, A14, hc0, hst, htr, hkp, ht0, ht1, hct, hft, hly, hkn, hex, hm0, hm1, hsv, hm3, hm4, hm5, hm6, hm7, hm8, hm9, hm10, hm11, hm12, hm13, hm14, hm15, ho9, hlF, htp, hwr⟩ := hI2
  have hok := hlF.1.1
  have hdI := hlF.1.2.1
  have hsL := hlF.1.2.2.1
  have hclk := hlF.1.2.2.2
  have hchr : 0 ≤ ch ∧ ch ≤ 15 := ⟨hkp.r.2.2.1, hkp.r.2.2.2⟩
  have htp1 := htp.1
  have htp2 := htp.2.1
  have hwq := wrQ_e hwr
  have hwq1 := hwq.1
  have hwq2 := hwq.2.1
  have kn0 := sOk_N hok
  refine lv_aload_n hx_ hb_ dL_law_2522 rfl (lv_at hl 1 rfl) ?_
  refine sk_Vi E hV (As := []) (rest := []) (kX10_clearOffers l_ G b_ M N c kn ch f kb fs hc0 hst hkp (hok) (by omega) (by omega)) (cwV 0 S.2.2.2.2 gL_law_X10_clearOffers rfl rfl rfl (by decide +kernel) ⟨Nat.le_of_ble_eq_true rfl, Nat.le_of_ble_eq_true rfl⟩) (ci := 8) hc0 rfl rfl rfl hl.1 (Nat.le_of_ble_eq_true rfl) dL_law_2523 (c1 := cc_ + 25) (s1 := ss_ + 3000) ⟨⟨rfl, rfl⟩, by omega, by omega⟩ (fun z4 M1 N2 H locs hp3 hV => ?_)
  obtain ⟨kn15, ez6, hN7, hc8, hc9, hc10, hf11⟩ := hp3
  rw [ez6]
  refine lv_aload_n hx_ hb_ dL_law_2526 rfl (lv_at hl 2 rfl) ?_
  have ga13 : ∀ x : Nat, m ≤ x → x < m + 16 → M1 x = M x := fun x u1 u2 => hf11 x (by omega) (by omega) (by omega) (by omega)
  have hc12 : M1 m = some (mO m th ch tn te sn nm wn) := (ga13 m (by omega) (by omega)).trans hm0
  have hc14 : M1 (m + 1) = some (sArr G 574 f) := (ga13 ((m + 1)) (by omega) (by omega)).trans hm1
  have hc15 : svC G M1 (m + 2) ch fs := hsv.fr (fun x q8 q9 => ga13 x (by omega) (by omega))
  refine sk_Vi E hV (As := []) (rest := [.int (sI (f 573))]) (kX11_clearOffers l_ G b_ M1 N2 m th ch tn te sn nm wn f fs hc12 hc14 hc15 (hchr)) (cwV 0 S.2.2.2.2 gL_law_X11_clearOffers rfl rfl rfl (by decide +kernel) ⟨Nat.le_of_ble_eq_true rfl, Nat.le_of_ble_eq_true rfl⟩) (ci := 9) hc12 rfl rfl rfl hl.1 (Nat.le_of_ble_eq_true rfl) dL_law_2527 (c1 := cc_ + 25) (s1 := ss_ + 3000) ⟨⟨rfl, rfl⟩, by omega, by omega⟩ (fun z19 M16 N17 H locs hp18 hV => ?_)
  obtain ⟨ez20, hN21, hc22, hc23, hc24, hf25⟩ := hp18
  rw [hN21] at hV
  rw [ez20]
  refine sb_eq1 (tgt := 2853) S (rfl) dL_law_2530 (by decide) ?_
  have gb27 : ∀ x : Nat, (x < m ∨ m + 16 ≤ x) → M16 x = M1 x := fun x u1 => hf25 x (by omega) (by omega) (by omega)
  have hc26 : M16 c = some (xO c kn15 (chn ch)) := (gb27 c (by omega)).trans hc8
  have hc28 : stC G M16 (c + 1) (coF f) := hc9.fr (fun x q8 q9 => gb27 x (by omega))
  have hc29 : triC G M16 (c + 16) := htr.fr (fun x q8 q9 => (gb27 x (by omega)).trans (hf11 x (by omega) (by omega) (by omega) (by omega)))
  have hc30 : kpC G M16 (c + 31) kb kn15 (chn ch) (fsn ch fs f) := hc10.fr (fun x q8 => gb27 x (by omega))
  have hc31 : M16 (c + 32) = some (sObj 7 [.ref (c + 33), .int (sI tn), .int (sI te)]) := ((gb27 ((c + 32)) (by omega)).trans (hf11 (c + 32) (by omega) (by omega) (by omega) (by omega))).trans ht0
  have hc32 : M16 (c + 33) = some (sArr G 300 t) := ((gb27 ((c + 33)) (by omega)).trans (hf11 (c + 33) (by omega) (by omega) (by omega) (by omega))).trans ht1
  have hc33 : catC G M16 (c + 34) wc T := hct.fr (fun x q8 q9 => (gb27 x (by omega)).trans (hf11 x (by omega) (by omega) (by omega) (by omega)))
  have hc34 : orfC G M16 (c + 38) := hft.fr (fun x q8 q9 => (gb27 x (by omega)).trans (hf11 x (by omega) (by omega) (by omega) (by omega)))
  have hc35 : layC G M16 (c + 48) := hly.fr (fun x q8 q9 => (gb27 x (by omega)).trans (hf11 x (by omega) (by omega) (by omega) (by omega)))
  have hc36 : knoC G M16 (c + 54) := hkn.fr (fun x q8 q9 => (gb27 x (by omega)).trans (hf11 x (by omega) (by omega) (by omega) (by omega)))
  have hc37 : excC G M16 (c + 57) := hex.fr (fun x q8 q9 => (gb27 x (by omega)).trans (hf11 x (by omega) (by omega) (by omega) (by omega)))
  have hc38 : M16 (m + 3) = some (sArr G 300 t) := ((hf25 (m + 3) (by omega) (by omega) (by omega)).trans (ga13 ((m + 3)) (by omega) (by omega))).trans hm3
  have hc39 : M16 (m + 4) = some (sArr G 11 A4) := ((hf25 (m + 4) (by omega) (by omega) (by omega)).trans (ga13 ((m + 4)) (by omega) (by omega))).trans hm4
  have hc40 : M16 (m + 5) = some (sArr G 1024 A5) := ((hf25 (m + 5) (by omega) (by omega) (by omega)).trans (ga13 ((m + 5)) (by omega) (by omega))).trans hm5
  have hc41 : M16 (m + 6) = some (sArr G 1024 A6) := ((hf25 (m + 6) (by omega) (by omega) (by omega)).trans (ga13 ((m + 6)) (by omega) (by omega))).trans hm6
  have hc42 : M16 (m + 7) = some (sArr G 10 A7) := ((hf25 (m + 7) (by omega) (by omega) (by omega)).trans (ga13 ((m + 7)) (by omega) (by omega))).trans hm7
  have hc43 : M16 (m + 8) = some (sArr G 10 A8) := ((hf25 (m + 8) (by omega) (by omega) (by omega)).trans (ga13 ((m + 8)) (by omega) (by omega))).trans hm8
  have hc44 : M16 (m + 9) = some (sArr G 62 A9) := ((hf25 (m + 9) (by omega) (by omega) (by omega)).trans (ga13 ((m + 9)) (by omega) (by omega))).trans hm9
  have hc45 : M16 (m + 10) = some (sArr G 8 A10) := ((hf25 (m + 10) (by omega) (by omega) (by omega)).trans (ga13 ((m + 10)) (by omega) (by omega))).trans hm10
  have hc46 : M16 (m + 11) = some (sArr G 8 A11) := ((hf25 (m + 11) (by omega) (by omega) (by omega)).trans (ga13 ((m + 11)) (by omega) (by omega))).trans hm11
  have hc47 : M16 (m + 12) = some (sArr G 60 A12) := ((hf25 (m + 12) (by omega) (by omega) (by omega)).trans (ga13 ((m + 12)) (by omega) (by omega))).trans hm12
  have hc48 : M16 (m + 13) = some (sArr G 240 A13) := ((hf25 (m + 13) (by omega) (by omega) (by omega)).trans (ga13 ((m + 13)) (by omega) (by omega))).trans hm13
  have hc49 : M16 (m + 14) = some (sArr G 574 A14) := ((hf25 (m + 14) (by omega) (by omega) (by omega)).trans (ga13 ((m + 14)) (by omega) (by omega))).trans hm14
  have hc50 : M16 (m + 15) = some (sArr G 200 T2) := ((hf25 (m + 15) (by omega) (by omega) (by omega)).trans (ga13 ((m + 15)) (by omega) (by omega))).trans hm15
  have hc51 : M16 o = some (sArL G 1 g0) := ((gb27 o (by omega)).trans (hf11 o (by omega) (by omega) (by omega) (by omega))).trans ho9
  exact W.widen (by omega) (by omega) (hk _ _ _ _ _ (by omega) ⟨_, _, _, _, _, _, _, _, _, _, _, _, _, _, _, _, _, _, _, _, _, _, _, _, _, _, hc26, hc28, hc29, hc30, hc31, hc32, hc33, hc34, hc35, hc36, hc37, hc22, hc23, hc24, hc38, hc39, hc40, hc41, hc42, hc43, hc44, hc45, hc46, hc47, hc48, hc49, hc50, hc51, lF_k hchr hlF (g_co hlF.1), htp, hwr⟩ hV (lv_sub hl [0, 1, 2, 3, 4] rfl))

set_option maxHeartbeats 4000000 in
set_option maxRecDepth 100000 in
theorem law_37 {p_ : Program} {l_ : Launch} {e_ : Env} {s_ : State} {m_ : MethodId} {args_ : Array Value} {below_ : List Frame} {meth_ : Method} {c_ : Code} {nm_ : String} {G : sG} {b_ : Nat} {M0 : sM} {N0 : Nat} {Q : State → Prop} (E : sE p_ l_ e_ room_1 s_ m_ args_ below_ meth_ c_ cL_law 9 wsL_law RL nm_ (some .boolean) G b_ M0 N0) (hF_ : xcF s_) (hlt : l_.stackTraces = false) {z L : Nat} {xs : Nat → Int32} (hX : va_X z L xs s_ s_.heap) (hzb : z < b_) {c m o kb : Nat} (hg : c + 60 ≤ m ∧ m + 16 ≤ o ∧ o < kb) {cc_ ss_ : Nat} (hcc : cc_ + 1170 ≤ room_1.cells ∧ ss_ + 14000 ≤ room_1.slots) {q i : Int} (hi : 0 ≤ i ∧ i + 6 ≤ L ∧ (L : Int) ≤ 3072) (hq : 0 ≤ q ∧ q ≤ 600) {M : sM} {N : Nat} (hkN : kb ≤ N) (hI : lI G M c m o kb q) {H : Heap} {locs : List Loc} {ls : Array Slot} (hV : sV G b_ M N s_ H locs) (hl : lv_has ls 9 [(0, .ref z), (1, .ref c), (2, .ref m), (3, .ref o), (4, .int (sI i))])
    (hk : ∀ (M1 : sM) (N1 : Nat) (H1 : Heap) (locs1 : List Loc) (ls1 : Array Slot), kb ≤ N1 → lI G M1 c m o kb (q + 1) → sV G b_ M1 N1 s_ H1 locs1 → lv_has ls1 9 [(0, .ref z), (1, .ref c), (2, .ref m), (3, .ref o), (4, .int (sI i))] → W p_ l_ e_ room_1 s_ m_ args_ below_ meth_ c_ H1 locs1 (cc_ + 1170) (ss_ + 14000) Q (F0 m_ 2853 ls1 [])) : W p_ l_ e_ room_1 s_ m_ args_ below_ meth_ c_ H locs cc_ ss_ Q (F0 m_ 2535 ls []) := by
  have S := E.1
  have hx_ := S.1
  have hb_ := S.2.1
  have hK := E.2.2.2.2.1
  have hI2 := hI
  obtain ⟨kn, ch, f, fs, tn, te, t, wc, wn, T, T2, th, sn, nm, g0, A4, A5, A6, A7, A8, A9, A10, A11, A12, A13, A14, hc0, hst, htr, hkp, ht0, ht1, hct, hft, hly, hkn, hex, hm0, hm1, hsv, hm3, hm4, hm5, hm6, hm7, hm8, hm9, hm10, hm11, hm12, hm13, hm14, hm15, ho9, hlF, htp, hwr⟩ := hI2
  have hok := hlF.1.1
  have hdI := hlF.1.2.1
  have hsL := hlF.1.2.2.1
  have hclk := hlF.1.2.2.2
  have hchr : 0 ≤ ch ∧ ch ≤ 15 := ⟨hkp.r.2.2.1, hkp.r.2.2.2⟩
  have htp1 := htp.1
  have htp2 := htp.2.1
  have hwq := wrQ_e hwr
  have hwq1 := hwq.1
  have hwq2 := hwq.2.1
  have kn0 := sOk_N hok
  refine lv_aload_n hx_ hb_ dL_law_2535 rfl (lv_at hl 1 rfl) ?_
  refine sk_Vi E hV (As := []) (rest := []) (kX10_plan l_ G b_ M N c kn ch f hc0 hst hex (hok)) (cwV 0 S.2.2.2.2 gL_law_X10_plan rfl rfl rfl (by decide +kernel) ⟨Nat.le_of_ble_eq_true rfl, Nat.le_of_ble_eq_true rfl⟩) (ci := 8) hc0 rfl rfl rfl hl.1 (Nat.le_of_ble_eq_true rfl) dL_law_2536 (c1 := cc_ + 8) (s1 := ss_ + 50) ⟨⟨rfl, rfl⟩, by omega, by omega⟩ (fun z4 M1 N2 H locs hp3 hV => ?_)
  obtain ⟨ez5, hN6, hc7, hf8⟩ := hp3
  rw [hN6] at hV
  rw [ez5]
  refine lv_aload_n hx_ hb_ dL_law_2539 rfl (lv_at hl 2 rfl) ?_
  have ga10 : ∀ x : Nat, m ≤ x → x < m + 16 → M1 x = M x := fun x u1 u2 => hf8 x (by omega)
  have hc9 : M1 m = some (mO m th ch tn te sn nm wn) := (ga10 m (by omega) (by omega)).trans hm0
  have hc11 : M1 (m + 1) = some (sArr G 574 f) := (ga10 ((m + 1)) (by omega) (by omega)).trans hm1
  have hc12 : M1 (m + 10) = some (sArr G 8 A10) := (ga10 ((m + 10)) (by omega) (by omega)).trans hm10
  have hc13 : M1 (m + 11) = some (sArr G 8 A11) := (ga10 ((m + 11)) (by omega) (by omega)).trans hm11
  refine sk_Vi E hV (As := []) (rest := [.int (sI (plnM f))]) (kX11_plan l_ G b_ M1 N m th ch tn te sn nm wn f A10 A11 hc9 hc11 hc12 hc13 (hok)) (cwV 0 S.2.2.2.2 gL_law_X11_plan rfl rfl rfl (by decide +kernel) ⟨Nat.le_of_ble_eq_true rfl, Nat.le_of_ble_eq_true rfl⟩) (ci := 9) hc9 rfl rfl rfl hl.1 (Nat.le_of_ble_eq_true rfl) dL_law_2540 (c1 := cc_ + 8) (s1 := ss_ + 50) ⟨⟨rfl, rfl⟩, by omega, by omega⟩ (fun z17 M14 N15 H locs hp16 hV => ?_)
  obtain ⟨b918, g919, hN20, hc21, hc22, hf23, hq24⟩ := hp16
  rw [hN20] at hV
  rcases hq24 with ⟨c25, ez26, hc27⟩
  · rw [ez26]
    refine sb_eq1 (tgt := 2853) S (rfl) dL_law_2543 (by decide) ?_
    have gb29 : ∀ x : Nat, (x < m ∨ m + 16 ≤ x) → M14 x = M1 x := fun x u1 => hf23 x (by omega) (by omega) (by omega)
    have hc28 : M14 c = some (xO c kn ch) := ((gb29 c (by omega)).trans (hf8 c (by omega))).trans hc0
    have hc30 : stC G M14 (c + 1) f := hst.fr (fun x q8 q9 => (gb29 x (by omega)).trans (hf8 x (by omega)))
    have hc31 : triC G M14 (c + 16) := htr.fr (fun x q8 q9 => (gb29 x (by omega)).trans (hf8 x (by omega)))
    have hc32 : kpC G M14 (c + 31) kb kn ch fs := hkp.fr (fun x q8 => (gb29 x (by omega)).trans (hf8 x (by omega)))
    have hc33 : M14 (c + 32) = some (sObj 7 [.ref (c + 33), .int (sI tn), .int (sI te)]) := ((gb29 ((c + 32)) (by omega)).trans (hf8 (c + 32) (by omega))).trans ht0
    have hc34 : M14 (c + 33) = some (sArr G 300 t) := ((gb29 ((c + 33)) (by omega)).trans (hf8 (c + 33) (by omega))).trans ht1
    have hc35 : catC G M14 (c + 34) wc T := hct.fr (fun x q8 q9 => (gb29 x (by omega)).trans (hf8 x (by omega)))
    have hc36 : orfC G M14 (c + 38) := hft.fr (fun x q8 q9 => (gb29 x (by omega)).trans (hf8 x (by omega)))
    have hc37 : layC G M14 (c + 48) := hly.fr (fun x q8 q9 => (gb29 x (by omega)).trans (hf8 x (by omega)))
    have hc38 : knoC G M14 (c + 54) := hkn.fr (fun x q8 q9 => (gb29 x (by omega)).trans (hf8 x (by omega)))
    have hc39 : excC G M14 (c + 57) := hc7.fr (fun x q8 q9 => gb29 x (by omega))
    have hc40 : M14 (m + 1) = some (sArr G 574 f) := (hf23 (m + 1) (by omega) (by omega) (by omega)).trans hc11
    have hc41 : svC G M14 (m + 2) ch fs := hsv.fr (fun x q8 q9 => (hf23 x (by omega) (by omega) (by omega)).trans (ga10 x (by omega) (by omega)))
    have hc42 : M14 (m + 3) = some (sArr G 300 t) := ((hf23 (m + 3) (by omega) (by omega) (by omega)).trans (ga10 ((m + 3)) (by omega) (by omega))).trans hm3
    have hc43 : M14 (m + 4) = some (sArr G 11 A4) := ((hf23 (m + 4) (by omega) (by omega) (by omega)).trans (ga10 ((m + 4)) (by omega) (by omega))).trans hm4
    have hc44 : M14 (m + 5) = some (sArr G 1024 A5) := ((hf23 (m + 5) (by omega) (by omega) (by omega)).trans (ga10 ((m + 5)) (by omega) (by omega))).trans hm5
    have hc45 : M14 (m + 6) = some (sArr G 1024 A6) := ((hf23 (m + 6) (by omega) (by omega) (by omega)).trans (ga10 ((m + 6)) (by omega) (by omega))).trans hm6
    have hc46 : M14 (m + 7) = some (sArr G 10 A7) := ((hf23 (m + 7) (by omega) (by omega) (by omega)).trans (ga10 ((m + 7)) (by omega) (by omega))).trans hm7
    have hc47 : M14 (m + 8) = some (sArr G 10 A8) := ((hf23 (m + 8) (by omega) (by omega) (by omega)).trans (ga10 ((m + 8)) (by omega) (by omega))).trans hm8
    have hc48 : M14 (m + 9) = some (sArr G 62 A9) := ((hf23 (m + 9) (by omega) (by omega) (by omega)).trans (ga10 ((m + 9)) (by omega) (by omega))).trans hm9
    have hc49 : M14 (m + 12) = some (sArr G 60 A12) := ((hf23 (m + 12) (by omega) (by omega) (by omega)).trans (ga10 ((m + 12)) (by omega) (by omega))).trans hm12
    have hc50 : M14 (m + 13) = some (sArr G 240 A13) := ((hf23 (m + 13) (by omega) (by omega) (by omega)).trans (ga10 ((m + 13)) (by omega) (by omega))).trans hm13
    have hc51 : M14 (m + 14) = some (sArr G 574 A14) := ((hf23 (m + 14) (by omega) (by omega) (by omega)).trans (ga10 ((m + 14)) (by omega) (by omega))).trans hm14
    have hc52 : M14 (m + 15) = some (sArr G 200 T2) := ((hf23 (m + 15) (by omega) (by omega) (by omega)).trans (ga10 ((m + 15)) (by omega) (by omega))).trans hm15
    have hc53 : M14 o = some (sArL G 1 g0) := ((gb29 o (by omega)).trans (hf8 o (by omega))).trans ho9
    exact W.widen (by omega) (by omega) (hk _ _ _ _ _ (by omega) ⟨_, _, _, _, _, _, _, _, _, _, _, _, _, _, _, _, _, _, _, _, _, _, _, _, _, _, hc28, hc30, hc31, hc32, hc33, hc34, hc35, hc36, hc37, hc38, hc39, hc27, hc40, hc41, hc42, hc43, hc44, hc45, hc46, hc47, hc48, hc21, hc22, hc49, hc50, hc51, hc52, hc53, lF_s hlF, htp, hwr⟩ hV (lv_sub hl [0, 1, 2, 3, 4] rfl))

theorem nx_getsFrom_0_1 {o : Int} {f : sF} (h1 : ¬ (0 ≤ o ∧ o < f 573)) (h2 : 0 ≤ o ∧ o < f 573) : False := by
  first
  | omega
  | (simp_all; done)
  | (simp_all; omega)
theorem nx_getsFrom_1_0 {o : Int} {f : sF} (h1 : 0 ≤ o ∧ o < f 573) (h2 : ¬ (0 ≤ o ∧ o < f 573)) : False := by
  first
  | omega
  | (simp_all; done)
  | (simp_all; omega)
set_option maxHeartbeats 4000000 in
set_option maxRecDepth 100000 in
theorem law_38 {p_ : Program} {l_ : Launch} {e_ : Env} {s_ : State} {m_ : MethodId} {args_ : Array Value} {below_ : List Frame} {meth_ : Method} {c_ : Code} {nm_ : String} {G : sG} {b_ : Nat} {M0 : sM} {N0 : Nat} {Q : State → Prop} (E : sE p_ l_ e_ room_1 s_ m_ args_ below_ meth_ c_ cL_law 9 wsL_law RL nm_ (some .boolean) G b_ M0 N0) (hF_ : xcF s_) (hlt : l_.stackTraces = false) {z L : Nat} {xs : Nat → Int32} (hX : va_X z L xs s_ s_.heap) (hzb : z < b_) {c m o kb : Nat} (hg : c + 60 ≤ m ∧ m + 16 ≤ o ∧ o < kb) {cc_ ss_ : Nat} (hcc : cc_ + 1170 ≤ room_1.cells ∧ ss_ + 14000 ≤ room_1.slots) {q i : Int} (hi : 0 ≤ i ∧ i + 6 ≤ L ∧ (L : Int) ≤ 3072) (hq : 0 ≤ q ∧ q ≤ 600) {M : sM} {N : Nat} (hkN : kb ≤ N) (hI : lI G M c m o kb q) {H : Heap} {locs : List Loc} {ls : Array Slot} (hV : sV G b_ M N s_ H locs) (hl : lv_has ls 9 [(0, .ref z), (1, .ref c), (2, .ref m), (3, .ref o), (4, .int (sI i))])
    (hk : ∀ (M1 : sM) (N1 : Nat) (H1 : Heap) (locs1 : List Loc) (ls1 : Array Slot), kb ≤ N1 → lI G M1 c m o kb (q + 1) → sV G b_ M1 N1 s_ H1 locs1 → lv_has ls1 9 [(0, .ref z), (1, .ref c), (2, .ref m), (3, .ref o), (4, .int (sI i))] → W p_ l_ e_ room_1 s_ m_ args_ below_ meth_ c_ H1 locs1 (cc_ + 1170) (ss_ + 14000) Q (F0 m_ 2853 ls1 [])) : W p_ l_ e_ room_1 s_ m_ args_ below_ meth_ c_ H locs cc_ ss_ Q (F0 m_ 2548 ls []) := by
  have S := E.1
  have hx_ := S.1
  have hb_ := S.2.1
  have hK := E.2.2.2.2.1
  have hI2 := hI
  obtain ⟨kn, ch, f, fs, tn, te, t, wc, wn, T, T2, th, sn, nm, g0, A4, A5, A6, A7, A8, A9, A10, A11, A12, A13, A14, hc0, hst, htr, hkp, ht0, ht1, hct, hft, hly, hkn, hex, hm0, hm1, hsv, hm3, hm4, hm5, hm6, hm7, hm8, hm9, hm10, hm11, hm12, hm13, hm14, hm15, ho9, hlF, htp, hwr⟩ := hI2
  have hok := hlF.1.1
  have hdI := hlF.1.2.1
  have hsL := hlF.1.2.2.1
  have hclk := hlF.1.2.2.2
  have hchr : 0 ≤ ch ∧ ch ≤ 15 := ⟨hkp.r.2.2.1, hkp.r.2.2.2⟩
  have htp1 := htp.1
  have htp2 := htp.2.1
  have hwq := wrQ_e hwr
  have hwq1 := hwq.1
  have hwq2 := hwq.2.1
  have kn0 := sOk_N hok
  refine lv_aload_n hx_ hb_ dL_law_2548 rfl (lv_at hl 1 rfl) ?_
  refine lv_aload_n hx_ hb_ dL_law_2549 rfl (lv_at hl 0 rfl) ?_
  refine lv_iload hx_ hb_ dL_law_2550 (lv_at hl 4 rfl) ?_
  refine si_const S dL_law_2552 ?_
  refine si_add S dL_law_2553 ?_
  refine sc_sld S hV hX hzb (by omega) dL_law_2554 ?_
  refine lv_aload_n hx_ hb_ dL_law_2555 rfl (lv_at hl 3 rfl) ?_
  refine yk_Si (hh := [(0, 9, 12, 25)]) E hF_ hV (As := [.ref c, .int (sI (lX xs (i + 1))), .ref o]) (rest := []) (kL_getsFrom l_ G b_ M N o g0 c kn ch f (lX xs (i + 1)) hc0 hst hex ho9 (hlt) (hok) ((lX_r xs _)) (by omega)) (vx_cwSW 3 S.2.2.2.2 gL_law_L_getsFrom rfl rfl rfl (by decide +kernel) ⟨Nat.le_of_ble_eq_true rfl, Nat.le_of_ble_eq_true rfl⟩) rfl rfl hl.1 (Nat.le_of_ble_eq_true rfl) dL_law_2556 (c1 := cc_ + 8) (s1 := ss_ + 50) ⟨⟨rfl, rfl⟩, by omega, by omega⟩ (fun z4 M1 N2 H locs hp3 hV => ?_)
  obtain ⟨hN5, hc6, hf7, hq8⟩ := hp3
  rcases hq8 with ⟨c9, ez10, hc11⟩ | ⟨c12, ez13, hc14⟩
  · rw [ez10]
    refine lv_istore (lv' := [(5, .int (sI 1)), (0, .ref z), (1, .ref c), (2, .ref m), (3, .ref o), (4, .int (sI i))]) hx_ hb_ dL_law_2559 hl (by decide) rfl (fun ls hl => ?_)
    refine lv_aload_n hx_ hb_ dL_law_2561 rfl (lv_at hl 3 rfl) ?_
    refine lv_aload_n hx_ hb_ dL_law_2562 rfl (lv_at hl 1 rfl) ?_
    refine lv_iload hx_ hb_ dL_law_2563 (lv_at hl 5 rfl) ?_
    refine si_const S dL_law_2565 ?_
    refine si_add S dL_law_2566 ?_
    refine sc_sld S hV hX hzb (by omega) dL_law_2567 ?_
    have ga16 : ∀ x : Nat, m ≤ x → x < m + 16 → M1 x = M x := fun x u1 u2 => hf7 x (by omega) (by omega)
    have hc15 : M1 m = some (mO m th ch tn te sn nm wn) := (ga16 m (by omega) (by omega)).trans hm0
    have hc17 : M1 (m + 1) = some (sArr G 574 f) := (ga16 ((m + 1)) (by omega) (by omega)).trans hm1
    have hc18 : M1 (m + 10) = some (sArr G 8 A10) := (ga16 ((m + 10)) (by omega) (by omega)).trans hm10
    have hc19 : M1 (m + 11) = some (sArr G 8 A11) := (ga16 ((m + 11)) (by omega) (by omega)).trans hm11
    refine sk_Vi E hV (As := [.int (sI (lX xs (i + 1)))]) (rest := []) (kX11_getsFrom l_ G b_ M1 N2 m th ch tn te sn nm wn f A10 A11 (lX xs (i + 1)) hc15 hc17 hc18 hc19 (hok) ((lX_r xs _))) (cwV 1 S.2.2.2.2 gL_law_X11_getsFrom rfl rfl rfl (by decide +kernel) ⟨Nat.le_of_ble_eq_true rfl, Nat.le_of_ble_eq_true rfl⟩) (ci := 9) hc15 rfl rfl rfl hl.1 (Nat.le_of_ble_eq_true rfl) dL_law_2568 (c1 := cc_ + 8) (s1 := ss_ + 50) ⟨⟨rfl, rfl⟩, by omega, by omega⟩ (fun z23 M20 N21 H locs hp22 hV => ?_)
    obtain ⟨b924, g925, hN26, hc27, hc28, hf29, hq30⟩ := hp22
    rw [hN26] at hV
    rcases hq30 with ⟨c31, ez32, hc33⟩ | ⟨c34, ez35, hc36⟩
    · rw [ez32]
      refine lv_istore (lv' := [(6, .int (sI 0)), (5, .int (sI 1)), (0, .ref z), (1, .ref c), (2, .ref m), (3, .ref o), (4, .int (sI i))]) hx_ hb_ dL_law_2571 hl (by decide) rfl (fun ls hl => ?_)
      refine lv_aload_n hx_ hb_ dL_law_2573 rfl (lv_at hl 4 rfl) ?_
      refine sk_VP E hV (As := []) (rest := []) (kX11_thrown l_ G b_ M20 N2 m 1 ch tn te sn nm wn hc33) (cwV 0 S.2.2.2.2 gL_law_X11_thrown rfl rfl rfl (by decide +kernel) ⟨Nat.le_of_ble_eq_true rfl, Nat.le_of_ble_eq_true rfl⟩) (ci := 9) hc33 rfl rfl rfl hl.1 (Nat.le_of_ble_eq_true rfl) dL_law_2574 (c1 := cc_ + 8) (s1 := ss_ + 50) ⟨⟨rfl, rfl⟩, by omega, by omega⟩ (fun H locs hV => ?_)
      refine lv_iload hx_ hb_ dL_law_2577 (lv_at hl 1 rfl) ?_
      refine sb_eq (tgt := 2584) S dL_law_2579 (by decide) (by omega) (fun _ => ?_) (fun c37 => absurd c37 (by omega))
      refine lv_iload hx_ hb_ dL_law_2584 (lv_at hl 1 rfl) ?_
      refine sz_ne (tgt := 2601) S dL_law_2586 (by decide) (by omega) (fun _ => ?_) (fun c38 => absurd c38 (by omega))
      refine lv_goto (tgt := 2853) hx_ hb_ dL_law_2601 (by decide) ?_
      have gb40 : ∀ x : Nat, (x < m ∨ m + 16 ≤ x) → M20 x = M1 x := fun x u1 => hf29 x (by omega) (by omega) (by omega)
      have hc39 : M20 c = some (xO c kn ch) := ((gb40 c (by omega)).trans (hf7 c (by omega) (by omega))).trans hc0
      have hc41 : stC G M20 (c + 1) f := hst.fr (fun x q8 q9 => (gb40 x (by omega)).trans (hf7 x (by omega) (by omega)))
      have hc42 : triC G M20 (c + 16) := htr.fr (fun x q8 q9 => (gb40 x (by omega)).trans (hf7 x (by omega) (by omega)))
      have hc43 : kpC G M20 (c + 31) kb kn ch fs := hkp.fr (fun x q8 => (gb40 x (by omega)).trans (hf7 x (by omega) (by omega)))
      have hc44 : M20 (c + 32) = some (sObj 7 [.ref (c + 33), .int (sI tn), .int (sI te)]) := ((gb40 ((c + 32)) (by omega)).trans (hf7 (c + 32) (by omega) (by omega))).trans ht0
      have hc45 : M20 (c + 33) = some (sArr G 300 t) := ((gb40 ((c + 33)) (by omega)).trans (hf7 (c + 33) (by omega) (by omega))).trans ht1
      have hc46 : catC G M20 (c + 34) wc T := hct.fr (fun x q8 q9 => (gb40 x (by omega)).trans (hf7 x (by omega) (by omega)))
      have hc47 : orfC G M20 (c + 38) := hft.fr (fun x q8 q9 => (gb40 x (by omega)).trans (hf7 x (by omega) (by omega)))
      have hc48 : layC G M20 (c + 48) := hly.fr (fun x q8 q9 => (gb40 x (by omega)).trans (hf7 x (by omega) (by omega)))
      have hc49 : knoC G M20 (c + 54) := hkn.fr (fun x q8 q9 => (gb40 x (by omega)).trans (hf7 x (by omega) (by omega)))
      have hc50 : excC G M20 (c + 57) := hc6.fr (fun x q8 q9 => gb40 x (by omega))
      have hc51 : M20 (m + 1) = some (sArr G 574 f) := (hf29 (m + 1) (by omega) (by omega) (by omega)).trans hc17
      have hc52 : svC G M20 (m + 2) ch fs := hsv.fr (fun x q8 q9 => (hf29 x (by omega) (by omega) (by omega)).trans (ga16 x (by omega) (by omega)))
      have hc53 : M20 (m + 3) = some (sArr G 300 t) := ((hf29 (m + 3) (by omega) (by omega) (by omega)).trans (ga16 ((m + 3)) (by omega) (by omega))).trans hm3
      have hc54 : M20 (m + 4) = some (sArr G 11 A4) := ((hf29 (m + 4) (by omega) (by omega) (by omega)).trans (ga16 ((m + 4)) (by omega) (by omega))).trans hm4
      have hc55 : M20 (m + 5) = some (sArr G 1024 A5) := ((hf29 (m + 5) (by omega) (by omega) (by omega)).trans (ga16 ((m + 5)) (by omega) (by omega))).trans hm5
      have hc56 : M20 (m + 6) = some (sArr G 1024 A6) := ((hf29 (m + 6) (by omega) (by omega) (by omega)).trans (ga16 ((m + 6)) (by omega) (by omega))).trans hm6
      have hc57 : M20 (m + 7) = some (sArr G 10 A7) := ((hf29 (m + 7) (by omega) (by omega) (by omega)).trans (ga16 ((m + 7)) (by omega) (by omega))).trans hm7
      have hc58 : M20 (m + 8) = some (sArr G 10 A8) := ((hf29 (m + 8) (by omega) (by omega) (by omega)).trans (ga16 ((m + 8)) (by omega) (by omega))).trans hm8
      have hc59 : M20 (m + 9) = some (sArr G 62 A9) := ((hf29 (m + 9) (by omega) (by omega) (by omega)).trans (ga16 ((m + 9)) (by omega) (by omega))).trans hm9
      have hc60 : M20 (m + 12) = some (sArr G 60 A12) := ((hf29 (m + 12) (by omega) (by omega) (by omega)).trans (ga16 ((m + 12)) (by omega) (by omega))).trans hm12
      have hc61 : M20 (m + 13) = some (sArr G 240 A13) := ((hf29 (m + 13) (by omega) (by omega) (by omega)).trans (ga16 ((m + 13)) (by omega) (by omega))).trans hm13
      have hc62 : M20 (m + 14) = some (sArr G 574 A14) := ((hf29 (m + 14) (by omega) (by omega) (by omega)).trans (ga16 ((m + 14)) (by omega) (by omega))).trans hm14
      have hc63 : M20 (m + 15) = some (sArr G 200 T2) := ((hf29 (m + 15) (by omega) (by omega) (by omega)).trans (ga16 ((m + 15)) (by omega) (by omega))).trans hm15
      have hc64 : M20 o = some (sArL G 1 g0) := (gb40 o (by omega)).trans hc11
      exact W.widen (by omega) (by omega) (hk _ _ _ _ _ (by omega) ⟨_, _, _, _, _, _, _, _, _, _, _, _, _, _, _, _, _, _, _, _, _, _, _, _, _, _, hc39, hc41, hc42, hc43, hc44, hc45, hc46, hc47, hc48, hc49, hc50, hc33, hc51, hc52, hc53, hc54, hc55, hc56, hc57, hc58, hc59, hc27, hc28, hc60, hc61, hc62, hc63, hc64, lF_s hlF, htp, hwr⟩ hV (lv_sub hl [2, 3, 4, 5, 6] rfl))
    · rw [ez35]
      exact (nx_getsFrom_0_1 c9 c34).elim
  · rw [ez13]
    refine lv_istore (lv' := [(5, .int (sI 0)), (0, .ref z), (1, .ref c), (2, .ref m), (3, .ref o), (4, .int (sI i))]) hx_ hb_ dL_law_2559 hl (by decide) rfl (fun ls hl => ?_)
    refine lv_aload_n hx_ hb_ dL_law_2561 rfl (lv_at hl 3 rfl) ?_
    refine lv_aload_n hx_ hb_ dL_law_2562 rfl (lv_at hl 1 rfl) ?_
    refine lv_iload hx_ hb_ dL_law_2563 (lv_at hl 5 rfl) ?_
    refine si_const S dL_law_2565 ?_
    refine si_add S dL_law_2566 ?_
    refine sc_sld S hV hX hzb (by omega) dL_law_2567 ?_
    have ga66 : ∀ x : Nat, m ≤ x → x < m + 16 → M1 x = M x := fun x u1 u2 => hf7 x (by omega) (by omega)
    have hc65 : M1 m = some (mO m th ch tn te sn nm wn) := (ga66 m (by omega) (by omega)).trans hm0
    have hc67 : M1 (m + 1) = some (sArr G 574 f) := (ga66 ((m + 1)) (by omega) (by omega)).trans hm1
    have hc68 : M1 (m + 10) = some (sArr G 8 A10) := (ga66 ((m + 10)) (by omega) (by omega)).trans hm10
    have hc69 : M1 (m + 11) = some (sArr G 8 A11) := (ga66 ((m + 11)) (by omega) (by omega)).trans hm11
    refine sk_Vi E hV (As := [.int (sI (lX xs (i + 1)))]) (rest := []) (kX11_getsFrom l_ G b_ M1 N2 m th ch tn te sn nm wn f A10 A11 (lX xs (i + 1)) hc65 hc67 hc68 hc69 (hok) ((lX_r xs _))) (cwV 1 S.2.2.2.2 gL_law_X11_getsFrom rfl rfl rfl (by decide +kernel) ⟨Nat.le_of_ble_eq_true rfl, Nat.le_of_ble_eq_true rfl⟩) (ci := 9) hc65 rfl rfl rfl hl.1 (Nat.le_of_ble_eq_true rfl) dL_law_2568 (c1 := cc_ + 8) (s1 := ss_ + 50) ⟨⟨rfl, rfl⟩, by omega, by omega⟩ (fun z73 M70 N71 H locs hp72 hV => ?_)
    obtain ⟨b974, g975, hN76, hc77, hc78, hf79, hq80⟩ := hp72
    rw [hN76] at hV
    rcases hq80 with ⟨c81, ez82, hc83⟩ | ⟨c84, ez85, hc86⟩
    · rw [ez82]
      exact (nx_getsFrom_1_0 c12 c81).elim
    · rw [ez85]
      refine lv_istore (lv' := [(6, .int (sI (if plnB f (lX xs (i + 1)) = 8 then -1 else plnB f (lX xs (i + 1))))), (5, .int (sI 0)), (0, .ref z), (1, .ref c), (2, .ref m), (3, .ref o), (4, .int (sI i))]) hx_ hb_ dL_law_2571 hl (by decide) rfl (fun ls hl => ?_)
      refine lv_aload_n hx_ hb_ dL_law_2573 rfl (lv_at hl 4 rfl) ?_
      refine sk_VP E hV (As := []) (rest := []) (kX11_thrown l_ G b_ M70 N2 m 0 ch tn te sn nm wn hc86) (cwV 0 S.2.2.2.2 gL_law_X11_thrown rfl rfl rfl (by decide +kernel) ⟨Nat.le_of_ble_eq_true rfl, Nat.le_of_ble_eq_true rfl⟩) (ci := 9) hc86 rfl rfl rfl hl.1 (Nat.le_of_ble_eq_true rfl) dL_law_2574 (c1 := cc_ + 8) (s1 := ss_ + 50) ⟨⟨rfl, rfl⟩, by omega, by omega⟩ (fun H locs hV => ?_)
      refine lv_iload hx_ hb_ dL_law_2577 (lv_at hl 1 rfl) ?_
      refine sb_eq (tgt := 2584) S dL_law_2579 (by decide) (by omega) (fun _ => ?_) (fun c87 => absurd c87 (by omega))
      refine lv_iload hx_ hb_ dL_law_2584 (lv_at hl 1 rfl) ?_
      refine sz_ne (tgt := 2601) S dL_law_2586 (by decide) (by omega) (fun c88 => absurd c88 (by omega)) (fun _ => ?_)
      refine lv_aload_n hx_ hb_ dL_law_2589 rfl (lv_at hl 5 rfl) ?_
      refine si_const S dL_law_2590 ?_
      have gb90 : ∀ x : Nat, (x < m ∨ m + 16 ≤ x) → M70 x = M1 x := fun x u1 => hf79 x (by omega) (by omega) (by omega)
      have hc89 : M70 o = some (sArL G 1 (iup g0 0 (sW (if plnB f (lX xs (i + 1)) = 8 then -1 else plnB f (lX xs (i + 1)))))) := (gb90 o (by omega)).trans hc14
      refine sc_lald S hK hV hc89 (by omega) dL_law_2591 ?_
      rw [show (iup g0 0 (sW (if plnB f (lX xs (i + 1)) = 8 then -1 else plnB f (lX xs (i + 1))))) 0 = sW (if plnB f (lX xs (i + 1)) = 8 then -1 else plnB f (lX xs (i + 1))) from if_pos rfl]
      refine lv_iload hx_ hb_ dL_law_2592 (lv_at hl 0 rfl) ?_
      refine sl_i2w S dL_law_2594 ?_
      refine sl_cmp0 S (rfl) dL_law_2595 ?_
      refine sz_eq (tgt := 2601) S dL_law_2596 (by decide) (by omega) (fun _ => ?_) (fun c91 => absurd c91 (by omega))
      refine lv_goto (tgt := 2853) hx_ hb_ dL_law_2601 (by decide) ?_
      have hc92 : M70 c = some (xO c kn ch) := ((gb90 c (by omega)).trans (hf7 c (by omega) (by omega))).trans hc0
      have hc93 : stC G M70 (c + 1) f := hst.fr (fun x q8 q9 => (gb90 x (by omega)).trans (hf7 x (by omega) (by omega)))
      have hc94 : triC G M70 (c + 16) := htr.fr (fun x q8 q9 => (gb90 x (by omega)).trans (hf7 x (by omega) (by omega)))
      have hc95 : kpC G M70 (c + 31) kb kn ch fs := hkp.fr (fun x q8 => (gb90 x (by omega)).trans (hf7 x (by omega) (by omega)))
      have hc96 : M70 (c + 32) = some (sObj 7 [.ref (c + 33), .int (sI tn), .int (sI te)]) := ((gb90 ((c + 32)) (by omega)).trans (hf7 (c + 32) (by omega) (by omega))).trans ht0
      have hc97 : M70 (c + 33) = some (sArr G 300 t) := ((gb90 ((c + 33)) (by omega)).trans (hf7 (c + 33) (by omega) (by omega))).trans ht1
      have hc98 : catC G M70 (c + 34) wc T := hct.fr (fun x q8 q9 => (gb90 x (by omega)).trans (hf7 x (by omega) (by omega)))
      have hc99 : orfC G M70 (c + 38) := hft.fr (fun x q8 q9 => (gb90 x (by omega)).trans (hf7 x (by omega) (by omega)))
      have hc100 : layC G M70 (c + 48) := hly.fr (fun x q8 q9 => (gb90 x (by omega)).trans (hf7 x (by omega) (by omega)))
      have hc101 : knoC G M70 (c + 54) := hkn.fr (fun x q8 q9 => (gb90 x (by omega)).trans (hf7 x (by omega) (by omega)))
      have hc102 : excC G M70 (c + 57) := hc6.fr (fun x q8 q9 => gb90 x (by omega))
      have hc103 : M70 (m + 1) = some (sArr G 574 f) := (hf79 (m + 1) (by omega) (by omega) (by omega)).trans hc67
      have hc104 : svC G M70 (m + 2) ch fs := hsv.fr (fun x q8 q9 => (hf79 x (by omega) (by omega) (by omega)).trans (ga66 x (by omega) (by omega)))
      have hc105 : M70 (m + 3) = some (sArr G 300 t) := ((hf79 (m + 3) (by omega) (by omega) (by omega)).trans (ga66 ((m + 3)) (by omega) (by omega))).trans hm3
      have hc106 : M70 (m + 4) = some (sArr G 11 A4) := ((hf79 (m + 4) (by omega) (by omega) (by omega)).trans (ga66 ((m + 4)) (by omega) (by omega))).trans hm4
      have hc107 : M70 (m + 5) = some (sArr G 1024 A5) := ((hf79 (m + 5) (by omega) (by omega) (by omega)).trans (ga66 ((m + 5)) (by omega) (by omega))).trans hm5
      have hc108 : M70 (m + 6) = some (sArr G 1024 A6) := ((hf79 (m + 6) (by omega) (by omega) (by omega)).trans (ga66 ((m + 6)) (by omega) (by omega))).trans hm6
      have hc109 : M70 (m + 7) = some (sArr G 10 A7) := ((hf79 (m + 7) (by omega) (by omega) (by omega)).trans (ga66 ((m + 7)) (by omega) (by omega))).trans hm7
      have hc110 : M70 (m + 8) = some (sArr G 10 A8) := ((hf79 (m + 8) (by omega) (by omega) (by omega)).trans (ga66 ((m + 8)) (by omega) (by omega))).trans hm8
      have hc111 : M70 (m + 9) = some (sArr G 62 A9) := ((hf79 (m + 9) (by omega) (by omega) (by omega)).trans (ga66 ((m + 9)) (by omega) (by omega))).trans hm9
      have hc112 : M70 (m + 12) = some (sArr G 60 A12) := ((hf79 (m + 12) (by omega) (by omega) (by omega)).trans (ga66 ((m + 12)) (by omega) (by omega))).trans hm12
      have hc113 : M70 (m + 13) = some (sArr G 240 A13) := ((hf79 (m + 13) (by omega) (by omega) (by omega)).trans (ga66 ((m + 13)) (by omega) (by omega))).trans hm13
      have hc114 : M70 (m + 14) = some (sArr G 574 A14) := ((hf79 (m + 14) (by omega) (by omega) (by omega)).trans (ga66 ((m + 14)) (by omega) (by omega))).trans hm14
      have hc115 : M70 (m + 15) = some (sArr G 200 T2) := ((hf79 (m + 15) (by omega) (by omega) (by omega)).trans (ga66 ((m + 15)) (by omega) (by omega))).trans hm15
      exact W.widen (by omega) (by omega) (hk _ _ _ _ _ (by omega) ⟨_, _, _, _, _, _, _, _, _, _, _, _, _, _, _, _, _, _, _, _, _, _, _, _, _, _, hc92, hc93, hc94, hc95, hc96, hc97, hc98, hc99, hc100, hc101, hc102, hc86, hc103, hc104, hc105, hc106, hc107, hc108, hc109, hc110, hc111, hc77, hc78, hc112, hc113, hc114, hc115, hc89, lF_s hlF, htp, hwr⟩ hV (lv_sub hl [2, 3, 4, 5, 6] rfl))

set_option maxHeartbeats 4000000 in
set_option maxRecDepth 100000 in
theorem law_39 {p_ : Program} {l_ : Launch} {e_ : Env} {s_ : State} {m_ : MethodId} {args_ : Array Value} {below_ : List Frame} {meth_ : Method} {c_ : Code} {nm_ : String} {G : sG} {b_ : Nat} {M0 : sM} {N0 : Nat} {Q : State → Prop} (E : sE p_ l_ e_ room_1 s_ m_ args_ below_ meth_ c_ cL_law 9 wsL_law RL nm_ (some .boolean) G b_ M0 N0) (hF_ : xcF s_) (hlt : l_.stackTraces = false) {z L : Nat} {xs : Nat → Int32} (hX : va_X z L xs s_ s_.heap) (hzb : z < b_) {c m o kb : Nat} (hg : c + 60 ≤ m ∧ m + 16 ≤ o ∧ o < kb) {cc_ ss_ : Nat} (hcc : cc_ + 1170 ≤ room_1.cells ∧ ss_ + 14000 ≤ room_1.slots) {q i : Int} (hi : 0 ≤ i ∧ i + 6 ≤ L ∧ (L : Int) ≤ 3072) (hq : 0 ≤ q ∧ q ≤ 600) {M : sM} {N : Nat} (hkN : kb ≤ N) (hI : lI G M c m o kb q) {H : Heap} {locs : List Loc} {ls : Array Slot} (hV : sV G b_ M N s_ H locs) (hl : lv_has ls 9 [(0, .ref z), (1, .ref c), (2, .ref m), (3, .ref o), (4, .int (sI i))])
    (hk : ∀ (M1 : sM) (N1 : Nat) (H1 : Heap) (locs1 : List Loc) (ls1 : Array Slot), kb ≤ N1 → lI G M1 c m o kb (q + 1) → sV G b_ M1 N1 s_ H1 locs1 → lv_has ls1 9 [(0, .ref z), (1, .ref c), (2, .ref m), (3, .ref o), (4, .int (sI i))] → W p_ l_ e_ room_1 s_ m_ args_ below_ meth_ c_ H1 locs1 (cc_ + 1170) (ss_ + 14000) Q (F0 m_ 2853 ls1 [])) : W p_ l_ e_ room_1 s_ m_ args_ below_ meth_ c_ H locs cc_ ss_ Q (F0 m_ 2604 ls []) := by
  have S := E.1
  have hx_ := S.1
  have hb_ := S.2.1
  have hK := E.2.2.2.2.1
  have hI2 := hI
  obtain ⟨kn, ch, f, fs, tn, te, t, wc, wn, T, T2, th, sn, nm, g0, A4, A5, A6, A7, A8, A9, A10, A11, A12, A13, A14, hc0, hst, htr, hkp, ht0, ht1, hct, hft, hly, hkn, hex, hm0, hm1, hsv, hm3, hm4, hm5, hm6, hm7, hm8, hm9, hm10, hm11, hm12, hm13, hm14, hm15, ho9, hlF, htp, hwr⟩ := hI2
  have hok := hlF.1.1
  have hdI := hlF.1.2.1
  have hsL := hlF.1.2.2.1
  have hclk := hlF.1.2.2.2
  have hchr : 0 ≤ ch ∧ ch ≤ 15 := ⟨hkp.r.2.2.1, hkp.r.2.2.2⟩
  have htp1 := htp.1
  have htp2 := htp.2.1
  have hwq := wrQ_e hwr
  have hwq1 := hwq.1
  have hwq2 := hwq.2.1
  have kn0 := sOk_N hok
  refine lv_aload_n hx_ hb_ dL_law_2604 rfl (lv_at hl 1 rfl) ?_
  refine sk_Vi E hV (As := []) (rest := []) (kX10_rings l_ G b_ M N c kn ch f hc0 hst hex (hok)) (cwV 0 S.2.2.2.2 gL_law_X10_rings rfl rfl rfl (by decide +kernel) ⟨Nat.le_of_ble_eq_true rfl, Nat.le_of_ble_eq_true rfl⟩) (ci := 8) hc0 rfl rfl rfl hl.1 (Nat.le_of_ble_eq_true rfl) dL_law_2605 (c1 := cc_ + 8) (s1 := ss_ + 50) ⟨⟨rfl, rfl⟩, by omega, by omega⟩ (fun z4 M1 N2 H locs hp3 hV => ?_)
  obtain ⟨ez5, hN6, hc7, hf8⟩ := hp3
  rw [hN6] at hV
  rw [ez5]
  refine lv_aload_n hx_ hb_ dL_law_2608 rfl (lv_at hl 2 rfl) ?_
  have ga10 : ∀ x : Nat, m ≤ x → x < m + 16 → M1 x = M x := fun x u1 u2 => hf8 x (by omega)
  have hc9 : M1 m = some (mO m th ch tn te sn nm wn) := (ga10 m (by omega) (by omega)).trans hm0
  have hc11 : M1 (m + 1) = some (sArr G 574 f) := (ga10 ((m + 1)) (by omega) (by omega)).trans hm1
  have hc12 : M1 (m + 10) = some (sArr G 8 A10) := (ga10 ((m + 10)) (by omega) (by omega)).trans hm10
  have hc13 : M1 (m + 11) = some (sArr G 8 A11) := (ga10 ((m + 11)) (by omega) (by omega)).trans hm11
  refine sk_Vi E hV (As := []) (rest := [.int (sI (rgI f))]) (kX11_rings l_ G b_ M1 N m th ch tn te sn nm wn f A10 A11 hc9 hc11 hc12 hc13 (hok)) (cwV 0 S.2.2.2.2 gL_law_X11_rings rfl rfl rfl (by decide +kernel) ⟨Nat.le_of_ble_eq_true rfl, Nat.le_of_ble_eq_true rfl⟩) (ci := 9) hc9 rfl rfl rfl hl.1 (Nat.le_of_ble_eq_true rfl) dL_law_2609 (c1 := cc_ + 8) (s1 := ss_ + 50) ⟨⟨rfl, rfl⟩, by omega, by omega⟩ (fun z17 M14 N15 H locs hp16 hV => ?_)
  obtain ⟨b918, g919, hN20, hc21, hc22, hf23, hq24⟩ := hp16
  rw [hN20] at hV
  rcases hq24 with ⟨c25, ez26, hc27⟩
  · rw [ez26]
    refine sb_eq1 (tgt := 2853) S (rfl) dL_law_2612 (by decide) ?_
    have gb29 : ∀ x : Nat, (x < m ∨ m + 16 ≤ x) → M14 x = M1 x := fun x u1 => hf23 x (by omega) (by omega) (by omega)
    have hc28 : M14 c = some (xO c kn ch) := ((gb29 c (by omega)).trans (hf8 c (by omega))).trans hc0
    have hc30 : stC G M14 (c + 1) f := hst.fr (fun x q8 q9 => (gb29 x (by omega)).trans (hf8 x (by omega)))
    have hc31 : triC G M14 (c + 16) := htr.fr (fun x q8 q9 => (gb29 x (by omega)).trans (hf8 x (by omega)))
    have hc32 : kpC G M14 (c + 31) kb kn ch fs := hkp.fr (fun x q8 => (gb29 x (by omega)).trans (hf8 x (by omega)))
    have hc33 : M14 (c + 32) = some (sObj 7 [.ref (c + 33), .int (sI tn), .int (sI te)]) := ((gb29 ((c + 32)) (by omega)).trans (hf8 (c + 32) (by omega))).trans ht0
    have hc34 : M14 (c + 33) = some (sArr G 300 t) := ((gb29 ((c + 33)) (by omega)).trans (hf8 (c + 33) (by omega))).trans ht1
    have hc35 : catC G M14 (c + 34) wc T := hct.fr (fun x q8 q9 => (gb29 x (by omega)).trans (hf8 x (by omega)))
    have hc36 : orfC G M14 (c + 38) := hft.fr (fun x q8 q9 => (gb29 x (by omega)).trans (hf8 x (by omega)))
    have hc37 : layC G M14 (c + 48) := hly.fr (fun x q8 q9 => (gb29 x (by omega)).trans (hf8 x (by omega)))
    have hc38 : knoC G M14 (c + 54) := hkn.fr (fun x q8 q9 => (gb29 x (by omega)).trans (hf8 x (by omega)))
    have hc39 : excC G M14 (c + 57) := hc7.fr (fun x q8 q9 => gb29 x (by omega))
    have hc40 : M14 (m + 1) = some (sArr G 574 f) := (hf23 (m + 1) (by omega) (by omega) (by omega)).trans hc11
    have hc41 : svC G M14 (m + 2) ch fs := hsv.fr (fun x q8 q9 => (hf23 x (by omega) (by omega) (by omega)).trans (ga10 x (by omega) (by omega)))
    have hc42 : M14 (m + 3) = some (sArr G 300 t) := ((hf23 (m + 3) (by omega) (by omega) (by omega)).trans (ga10 ((m + 3)) (by omega) (by omega))).trans hm3
    have hc43 : M14 (m + 4) = some (sArr G 11 A4) := ((hf23 (m + 4) (by omega) (by omega) (by omega)).trans (ga10 ((m + 4)) (by omega) (by omega))).trans hm4
    have hc44 : M14 (m + 5) = some (sArr G 1024 A5) := ((hf23 (m + 5) (by omega) (by omega) (by omega)).trans (ga10 ((m + 5)) (by omega) (by omega))).trans hm5
    have hc45 : M14 (m + 6) = some (sArr G 1024 A6) := ((hf23 (m + 6) (by omega) (by omega) (by omega)).trans (ga10 ((m + 6)) (by omega) (by omega))).trans hm6
    have hc46 : M14 (m + 7) = some (sArr G 10 A7) := ((hf23 (m + 7) (by omega) (by omega) (by omega)).trans (ga10 ((m + 7)) (by omega) (by omega))).trans hm7
    have hc47 : M14 (m + 8) = some (sArr G 10 A8) := ((hf23 (m + 8) (by omega) (by omega) (by omega)).trans (ga10 ((m + 8)) (by omega) (by omega))).trans hm8
    have hc48 : M14 (m + 9) = some (sArr G 62 A9) := ((hf23 (m + 9) (by omega) (by omega) (by omega)).trans (ga10 ((m + 9)) (by omega) (by omega))).trans hm9
    have hc49 : M14 (m + 12) = some (sArr G 60 A12) := ((hf23 (m + 12) (by omega) (by omega) (by omega)).trans (ga10 ((m + 12)) (by omega) (by omega))).trans hm12
    have hc50 : M14 (m + 13) = some (sArr G 240 A13) := ((hf23 (m + 13) (by omega) (by omega) (by omega)).trans (ga10 ((m + 13)) (by omega) (by omega))).trans hm13
    have hc51 : M14 (m + 14) = some (sArr G 574 A14) := ((hf23 (m + 14) (by omega) (by omega) (by omega)).trans (ga10 ((m + 14)) (by omega) (by omega))).trans hm14
    have hc52 : M14 (m + 15) = some (sArr G 200 T2) := ((hf23 (m + 15) (by omega) (by omega) (by omega)).trans (ga10 ((m + 15)) (by omega) (by omega))).trans hm15
    have hc53 : M14 o = some (sArL G 1 g0) := ((gb29 o (by omega)).trans (hf8 o (by omega))).trans ho9
    exact W.widen (by omega) (by omega) (hk _ _ _ _ _ (by omega) ⟨_, _, _, _, _, _, _, _, _, _, _, _, _, _, _, _, _, _, _, _, _, _, _, _, _, _, hc28, hc30, hc31, hc32, hc33, hc34, hc35, hc36, hc37, hc38, hc39, hc27, hc40, hc41, hc42, hc43, hc44, hc45, hc46, hc47, hc48, hc21, hc22, hc49, hc50, hc51, hc52, hc53, lF_s hlF, htp, hwr⟩ hV (lv_sub hl [0, 1, 2, 3, 4] rfl))
