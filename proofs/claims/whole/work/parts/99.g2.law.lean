theorem nx_orderAt_0_1 {r : Int} {f : sF} (h1 : ¬ ((0 ≤ r ∧ r < f 568) ∧ 0 < totI f)) (h2 : (0 ≤ r ∧ r < f 568) ∧ 0 < totI f) : False := by
  first
  | omega
  | (simp_all; done)
  | (simp_all; omega)
theorem nx_orderAt_1_0 {r : Int} {f : sF} (h1 : (0 ≤ r ∧ r < f 568) ∧ 0 < totI f) (h2 : ¬ ((0 ≤ r ∧ r < f 568) ∧ 0 < totI f)) : False := by
  first
  | omega
  | (simp_all; done)
  | (simp_all; omega)
set_option maxHeartbeats 4000000 in
set_option maxRecDepth 100000 in
theorem law_16 {p_ : Program} {l_ : Launch} {e_ : Env} {s_ : State} {m_ : MethodId} {args_ : Array Value} {below_ : List Frame} {meth_ : Method} {c_ : Code} {nm_ : String} {G : sG} {b_ : Nat} {M0 : sM} {N0 : Nat} {Q : State → Prop} (E : sE p_ l_ e_ room_1 s_ m_ args_ below_ meth_ c_ cL_law 9 wsL_law RL nm_ (some .boolean) G b_ M0 N0) (hF_ : xcF s_) (hlt : l_.stackTraces = false) {z L : Nat} {xs : Nat → Int32} (hX : va_X z L xs s_ s_.heap) (hzb : z < b_) {c m o kb : Nat} (hg : c + 60 ≤ m ∧ m + 16 ≤ o ∧ o < kb) {cc_ ss_ : Nat} (hcc : cc_ + 1170 ≤ room_1.cells ∧ ss_ + 14000 ≤ room_1.slots) {q i : Int} (hi : 0 ≤ i ∧ i + 6 ≤ L ∧ (L : Int) ≤ 3072) (hq : 0 ≤ q ∧ q ≤ 600) {M : sM} {N : Nat} (hkN : kb ≤ N) (hI : lI G M c m o kb q) {H : Heap} {locs : List Loc} {ls : Array Slot} (hV : sV G b_ M N s_ H locs) (hl : lv_has ls 9 [(0, .ref z), (1, .ref c), (2, .ref m), (3, .ref o), (4, .int (sI i))])
    (hk : ∀ (M1 : sM) (N1 : Nat) (H1 : Heap) (locs1 : List Loc) (ls1 : Array Slot), kb ≤ N1 → lI G M1 c m o kb (q + 1) → sV G b_ M1 N1 s_ H1 locs1 → lv_has ls1 9 [(0, .ref z), (1, .ref c), (2, .ref m), (3, .ref o), (4, .int (sI i))] → W p_ l_ e_ room_1 s_ m_ args_ below_ meth_ c_ H1 locs1 (cc_ + 1170) (ss_ + 14000) Q (F0 m_ 2853 ls1 [])) : W p_ l_ e_ room_1 s_ m_ args_ below_ meth_ c_ H locs cc_ ss_ Q (F0 m_ 1114 ls []) := by
  have S := E.1
  have hx_ := S.1
  have hb_ := S.2.1
  have hK := E.2.2.2.2.1
  have hI2 := hI
  obtain ⟨kn, ch, f, fs, tn, te, t, wc, wn, T, T2, th, sn, nm, g0, A4, A5, A6, A7, A8, A9, A10, A11, A12, A13, A14, hc0, hst, htr, hkp, ht0, ht1, hct, hft, hly, hkn, hex, hm0, hm1, hsv, hm3, hm4, hm5, hm6, hm7, hm8, hm9, hm10, hm11, hm12, hm13, hm14, hm15, ho9, hlF, htp, hwr⟩ := hI2
  have hok := hlF.1.1
  have hdI := hlF.1.2.1
  have hsL := hlF.1.2.2.1
  have hclk := hlF.1.2.2.2
  have hchr : 0 ≤ ch ∧ ch ≤ 15 := ⟨hkp.r.2.2.1, hkp.r.2.2.2⟩
  have htp1 := htp.1
  have htp2 := htp.2.1
  have hwq := wrQ_e hwr
  have hwq1 := hwq.1
  have hwq2 := hwq.2.1
  have kn0 := sOk_N hok
  refine lv_aload_n hx_ hb_ dL_law_1114 rfl (lv_at hl 1 rfl) ?_
  refine lv_aload_n hx_ hb_ dL_law_1115 rfl (lv_at hl 0 rfl) ?_
  refine lv_iload hx_ hb_ dL_law_1116 (lv_at hl 4 rfl) ?_
  refine si_const S dL_law_1118 ?_
  refine si_add S dL_law_1119 ?_
  refine sc_sld S hV hX hzb (by omega) dL_law_1120 ?_
  refine lv_aload_n hx_ hb_ dL_law_1121 rfl (lv_at hl 3 rfl) ?_
  refine yk_Si (hh := [(0, 9, 12, 25)]) E hF_ hV (As := [.ref c, .int (sI (lX xs (i + 1))), .ref o]) (rest := []) (kL_orderAt l_ G b_ M N o g0 c kn ch f (lX xs (i + 1)) hc0 hst hft ho9 (hlt) (hok) ((lX_r xs _)) (by omega)) (vx_cwSW 3 S.2.2.2.2 gL_law_L_orderAt rfl rfl rfl (by decide +kernel) ⟨Nat.le_of_ble_eq_true rfl, Nat.le_of_ble_eq_true rfl⟩) rfl rfl hl.1 (Nat.le_of_ble_eq_true rfl) dL_law_1122 (c1 := cc_ + 8) (s1 := ss_ + 50) ⟨⟨rfl, rfl⟩, by omega, by omega⟩ (fun z4 M1 N2 H locs hp3 hV => ?_)
  obtain ⟨hN5, hc6, hf7, hq8⟩ := hp3
  rcases hq8 with ⟨c9, ez10, hc11⟩ | ⟨c12, ez13, hc14⟩
  · rw [ez10]
    refine lv_istore (lv' := [(5, .int (sI 1)), (0, .ref z), (1, .ref c), (2, .ref m), (3, .ref o), (4, .int (sI i))]) hx_ hb_ dL_law_1125 hl (by decide) rfl (fun ls hl => ?_)
    refine lv_aload_n hx_ hb_ dL_law_1127 rfl (lv_at hl 3 rfl) ?_
    refine lv_aload_n hx_ hb_ dL_law_1128 rfl (lv_at hl 1 rfl) ?_
    refine lv_iload hx_ hb_ dL_law_1129 (lv_at hl 5 rfl) ?_
    refine si_const S dL_law_1131 ?_
    refine si_add S dL_law_1132 ?_
    refine sc_sld S hV hX hzb (by omega) dL_law_1133 ?_
    have ga16 : ∀ x : Nat, m ≤ x → x < m + 16 → M1 x = M x := fun x u1 u2 => hf7 x (by omega) (by omega)
    have hc15 : M1 m = some (mO m th ch tn te sn nm wn) := (ga16 m (by omega) (by omega)).trans hm0
    have hc17 : M1 (m + 1) = some (sArr G 574 f) := (ga16 ((m + 1)) (by omega) (by omega)).trans hm1
    have hc18 : M1 (m + 7) = some (sArr G 10 A7) := (ga16 ((m + 7)) (by omega) (by omega)).trans hm7
    have hc19 : M1 (m + 5) = some (sArr G 1024 A5) := (ga16 ((m + 5)) (by omega) (by omega)).trans hm5
    have hc20 : M1 (m + 6) = some (sArr G 1024 A6) := (ga16 ((m + 6)) (by omega) (by omega)).trans hm6
    refine sk_Vi E hV (As := [.int (sI (lX xs (i + 1)))]) (rest := []) (kX11_orderAt l_ G b_ M1 N2 m th ch tn te sn nm wn f A7 A5 A6 (lX xs (i + 1)) hc15 hc17 hc18 hc19 hc20 (hok) ((lX_r xs _))) (cwV 1 S.2.2.2.2 gL_law_X11_orderAt rfl rfl rfl (by decide +kernel) ⟨Nat.le_of_ble_eq_true rfl, Nat.le_of_ble_eq_true rfl⟩) (ci := 9) hc15 rfl rfl rfl hl.1 (Nat.le_of_ble_eq_true rfl) dL_law_1134 (c1 := cc_ + 8) (s1 := ss_ + 50) ⟨⟨rfl, rfl⟩, by omega, by omega⟩ (fun z24 M21 N22 H locs hp23 hV => ?_)
    obtain ⟨A925, W926, R927, hN28, hc29, hc30, hc31, hf32, hq33⟩ := hp23
    rw [hN28] at hV
    rcases hq33 with ⟨c34, ez35, hc36⟩ | ⟨c37, ez38, hc39⟩
    · rw [ez35]
      refine lv_istore (lv' := [(6, .int (sI 0)), (5, .int (sI 1)), (0, .ref z), (1, .ref c), (2, .ref m), (3, .ref o), (4, .int (sI i))]) hx_ hb_ dL_law_1137 hl (by decide) rfl (fun ls hl => ?_)
      refine lv_aload_n hx_ hb_ dL_law_1139 rfl (lv_at hl 4 rfl) ?_
      refine sk_VP E hV (As := []) (rest := []) (kX11_thrown l_ G b_ M21 N2 m 1 ch tn te sn nm wn hc36) (cwV 0 S.2.2.2.2 gL_law_X11_thrown rfl rfl rfl (by decide +kernel) ⟨Nat.le_of_ble_eq_true rfl, Nat.le_of_ble_eq_true rfl⟩) (ci := 9) hc36 rfl rfl rfl hl.1 (Nat.le_of_ble_eq_true rfl) dL_law_1140 (c1 := cc_ + 8) (s1 := ss_ + 50) ⟨⟨rfl, rfl⟩, by omega, by omega⟩ (fun H locs hV => ?_)
      refine lv_iload hx_ hb_ dL_law_1143 (lv_at hl 1 rfl) ?_
      refine sb_eq (tgt := 1150) S dL_law_1145 (by decide) (by omega) (fun _ => ?_) (fun c40 => absurd c40 (by omega))
      refine lv_iload hx_ hb_ dL_law_1150 (lv_at hl 1 rfl) ?_
      refine sz_ne (tgt := 1167) S dL_law_1152 (by decide) (by omega) (fun _ => ?_) (fun c41 => absurd c41 (by omega))
      refine lv_goto (tgt := 2853) hx_ hb_ dL_law_1167 (by decide) ?_
      have gb43 : ∀ x : Nat, (x < m ∨ m + 16 ≤ x) → M21 x = M1 x := fun x u1 => hf32 x (by omega) (by omega) (by omega) (by omega)
      have hc42 : M21 c = some (xO c kn ch) := ((gb43 c (by omega)).trans (hf7 c (by omega) (by omega))).trans hc0
      have hc44 : stC G M21 (c + 1) f := hst.fr (fun x q8 q9 => (gb43 x (by omega)).trans (hf7 x (by omega) (by omega)))
      have hc45 : triC G M21 (c + 16) := htr.fr (fun x q8 q9 => (gb43 x (by omega)).trans (hf7 x (by omega) (by omega)))
      have hc46 : kpC G M21 (c + 31) kb kn ch fs := hkp.fr (fun x q8 => (gb43 x (by omega)).trans (hf7 x (by omega) (by omega)))
      have hc47 : M21 (c + 32) = some (sObj 7 [.ref (c + 33), .int (sI tn), .int (sI te)]) := ((gb43 ((c + 32)) (by omega)).trans (hf7 (c + 32) (by omega) (by omega))).trans ht0
      have hc48 : M21 (c + 33) = some (sArr G 300 t) := ((gb43 ((c + 33)) (by omega)).trans (hf7 (c + 33) (by omega) (by omega))).trans ht1
      have hc49 : catC G M21 (c + 34) wc T := hct.fr (fun x q8 q9 => (gb43 x (by omega)).trans (hf7 x (by omega) (by omega)))
      have hc50 : orfC G M21 (c + 38) := hc6.fr (fun x q8 q9 => gb43 x (by omega))
      have hc51 : layC G M21 (c + 48) := hly.fr (fun x q8 q9 => (gb43 x (by omega)).trans (hf7 x (by omega) (by omega)))
      have hc52 : knoC G M21 (c + 54) := hkn.fr (fun x q8 q9 => (gb43 x (by omega)).trans (hf7 x (by omega) (by omega)))
      have hc53 : excC G M21 (c + 57) := hex.fr (fun x q8 q9 => (gb43 x (by omega)).trans (hf7 x (by omega) (by omega)))
      have hc54 : M21 (m + 1) = some (sArr G 574 f) := (hf32 (m + 1) (by omega) (by omega) (by omega) (by omega)).trans hc17
      have hc55 : svC G M21 (m + 2) ch fs := hsv.fr (fun x q8 q9 => (hf32 x (by omega) (by omega) (by omega) (by omega)).trans (ga16 x (by omega) (by omega)))
      have hc56 : M21 (m + 3) = some (sArr G 300 t) := ((hf32 (m + 3) (by omega) (by omega) (by omega) (by omega)).trans (ga16 ((m + 3)) (by omega) (by omega))).trans hm3
      have hc57 : M21 (m + 4) = some (sArr G 11 A4) := ((hf32 (m + 4) (by omega) (by omega) (by omega) (by omega)).trans (ga16 ((m + 4)) (by omega) (by omega))).trans hm4
      have hc58 : M21 (m + 8) = some (sArr G 10 A8) := ((hf32 (m + 8) (by omega) (by omega) (by omega) (by omega)).trans (ga16 ((m + 8)) (by omega) (by omega))).trans hm8
      have hc59 : M21 (m + 9) = some (sArr G 62 A9) := ((hf32 (m + 9) (by omega) (by omega) (by omega) (by omega)).trans (ga16 ((m + 9)) (by omega) (by omega))).trans hm9
      have hc60 : M21 (m + 10) = some (sArr G 8 A10) := ((hf32 (m + 10) (by omega) (by omega) (by omega) (by omega)).trans (ga16 ((m + 10)) (by omega) (by omega))).trans hm10
      have hc61 : M21 (m + 11) = some (sArr G 8 A11) := ((hf32 (m + 11) (by omega) (by omega) (by omega) (by omega)).trans (ga16 ((m + 11)) (by omega) (by omega))).trans hm11
      have hc62 : M21 (m + 12) = some (sArr G 60 A12) := ((hf32 (m + 12) (by omega) (by omega) (by omega) (by omega)).trans (ga16 ((m + 12)) (by omega) (by omega))).trans hm12
      have hc63 : M21 (m + 13) = some (sArr G 240 A13) := ((hf32 (m + 13) (by omega) (by omega) (by omega) (by omega)).trans (ga16 ((m + 13)) (by omega) (by omega))).trans hm13
      have hc64 : M21 (m + 14) = some (sArr G 574 A14) := ((hf32 (m + 14) (by omega) (by omega) (by omega) (by omega)).trans (ga16 ((m + 14)) (by omega) (by omega))).trans hm14
      have hc65 : M21 (m + 15) = some (sArr G 200 T2) := ((hf32 (m + 15) (by omega) (by omega) (by omega) (by omega)).trans (ga16 ((m + 15)) (by omega) (by omega))).trans hm15
      have hc66 : M21 o = some (sArL G 1 g0) := (gb43 o (by omega)).trans hc11
      exact W.widen (by omega) (by omega) (hk _ _ _ _ _ (by omega) ⟨_, _, _, _, _, _, _, _, _, _, _, _, _, _, _, _, _, _, _, _, _, _, _, _, _, _, hc42, hc44, hc45, hc46, hc47, hc48, hc49, hc50, hc51, hc52, hc53, hc36, hc54, hc55, hc56, hc57, hc30, hc31, hc29, hc58, hc59, hc60, hc61, hc62, hc63, hc64, hc65, hc66, lF_s hlF, htp, hwr⟩ hV (lv_sub hl [2, 3, 4, 5, 6] rfl))
    · rw [ez38]
      exact (nx_orderAt_0_1 c9 c37).elim
  · rw [ez13]
    refine lv_istore (lv' := [(5, .int (sI 0)), (0, .ref z), (1, .ref c), (2, .ref m), (3, .ref o), (4, .int (sI i))]) hx_ hb_ dL_law_1125 hl (by decide) rfl (fun ls hl => ?_)
    refine lv_aload_n hx_ hb_ dL_law_1127 rfl (lv_at hl 3 rfl) ?_
    refine lv_aload_n hx_ hb_ dL_law_1128 rfl (lv_at hl 1 rfl) ?_
    refine lv_iload hx_ hb_ dL_law_1129 (lv_at hl 5 rfl) ?_
    refine si_const S dL_law_1131 ?_
    refine si_add S dL_law_1132 ?_
    refine sc_sld S hV hX hzb (by omega) dL_law_1133 ?_
    have ga68 : ∀ x : Nat, m ≤ x → x < m + 16 → M1 x = M x := fun x u1 u2 => hf7 x (by omega) (by omega)
    have hc67 : M1 m = some (mO m th ch tn te sn nm wn) := (ga68 m (by omega) (by omega)).trans hm0
    have hc69 : M1 (m + 1) = some (sArr G 574 f) := (ga68 ((m + 1)) (by omega) (by omega)).trans hm1
    have hc70 : M1 (m + 7) = some (sArr G 10 A7) := (ga68 ((m + 7)) (by omega) (by omega)).trans hm7
    have hc71 : M1 (m + 5) = some (sArr G 1024 A5) := (ga68 ((m + 5)) (by omega) (by omega)).trans hm5
    have hc72 : M1 (m + 6) = some (sArr G 1024 A6) := (ga68 ((m + 6)) (by omega) (by omega)).trans hm6
    refine sk_Vi E hV (As := [.int (sI (lX xs (i + 1)))]) (rest := []) (kX11_orderAt l_ G b_ M1 N2 m th ch tn te sn nm wn f A7 A5 A6 (lX xs (i + 1)) hc67 hc69 hc70 hc71 hc72 (hok) ((lX_r xs _))) (cwV 1 S.2.2.2.2 gL_law_X11_orderAt rfl rfl rfl (by decide +kernel) ⟨Nat.le_of_ble_eq_true rfl, Nat.le_of_ble_eq_true rfl⟩) (ci := 9) hc67 rfl rfl rfl hl.1 (Nat.le_of_ble_eq_true rfl) dL_law_1134 (c1 := cc_ + 8) (s1 := ss_ + 50) ⟨⟨rfl, rfl⟩, by omega, by omega⟩ (fun z76 M73 N74 H locs hp75 hV => ?_)
    obtain ⟨A977, W978, R979, hN80, hc81, hc82, hc83, hf84, hq85⟩ := hp75
    rw [hN80] at hV
    rcases hq85 with ⟨c86, ez87, hc88⟩ | ⟨c89, ez90, hc91⟩
    · rw [ez87]
      exact (nx_orderAt_1_0 c12 c86).elim
    · rw [ez90]
      refine lv_istore (lv' := [(6, .int (sI (orI f (lX xs (i + 1))))), (5, .int (sI 0)), (0, .ref z), (1, .ref c), (2, .ref m), (3, .ref o), (4, .int (sI i))]) hx_ hb_ dL_law_1137 hl (by decide) rfl (fun ls hl => ?_)
      refine lv_aload_n hx_ hb_ dL_law_1139 rfl (lv_at hl 4 rfl) ?_
      refine sk_VP E hV (As := []) (rest := []) (kX11_thrown l_ G b_ M73 N2 m 0 ch tn te sn nm wn hc91) (cwV 0 S.2.2.2.2 gL_law_X11_thrown rfl rfl rfl (by decide +kernel) ⟨Nat.le_of_ble_eq_true rfl, Nat.le_of_ble_eq_true rfl⟩) (ci := 9) hc91 rfl rfl rfl hl.1 (Nat.le_of_ble_eq_true rfl) dL_law_1140 (c1 := cc_ + 8) (s1 := ss_ + 50) ⟨⟨rfl, rfl⟩, by omega, by omega⟩ (fun H locs hV => ?_)
      refine lv_iload hx_ hb_ dL_law_1143 (lv_at hl 1 rfl) ?_
      refine sb_eq (tgt := 1150) S dL_law_1145 (by decide) (by omega) (fun _ => ?_) (fun c92 => absurd c92 (by omega))
      refine lv_iload hx_ hb_ dL_law_1150 (lv_at hl 1 rfl) ?_
      refine sz_ne (tgt := 1167) S dL_law_1152 (by decide) (by omega) (fun c93 => absurd c93 (by omega)) (fun _ => ?_)
      refine lv_aload_n hx_ hb_ dL_law_1155 rfl (lv_at hl 5 rfl) ?_
      refine si_const S dL_law_1156 ?_
      have gb95 : ∀ x : Nat, (x < m ∨ m + 16 ≤ x) → M73 x = M1 x := fun x u1 => hf84 x (by omega) (by omega) (by omega) (by omega)
      have hc94 : M73 o = some (sArL G 1 (iup g0 0 (sW (orI f (lX xs (i + 1)))))) := (gb95 o (by omega)).trans hc14
      refine sc_lald S hK hV hc94 (by omega) dL_law_1157 ?_
      rw [show (iup g0 0 (sW (orI f (lX xs (i + 1))))) 0 = sW (orI f (lX xs (i + 1))) from if_pos rfl]
      refine lv_iload hx_ hb_ dL_law_1158 (lv_at hl 0 rfl) ?_
      refine sl_i2w S dL_law_1160 ?_
      refine sl_cmp0 S (rfl) dL_law_1161 ?_
      refine sz_eq (tgt := 1167) S dL_law_1162 (by decide) (by omega) (fun _ => ?_) (fun c96 => absurd c96 (by omega))
      refine lv_goto (tgt := 2853) hx_ hb_ dL_law_1167 (by decide) ?_
      have hc97 : M73 c = some (xO c kn ch) := ((gb95 c (by omega)).trans (hf7 c (by omega) (by omega))).trans hc0
      have hc98 : stC G M73 (c + 1) f := hst.fr (fun x q8 q9 => (gb95 x (by omega)).trans (hf7 x (by omega) (by omega)))
      have hc99 : triC G M73 (c + 16) := htr.fr (fun x q8 q9 => (gb95 x (by omega)).trans (hf7 x (by omega) (by omega)))
      have hc100 : kpC G M73 (c + 31) kb kn ch fs := hkp.fr (fun x q8 => (gb95 x (by omega)).trans (hf7 x (by omega) (by omega)))
      have hc101 : M73 (c + 32) = some (sObj 7 [.ref (c + 33), .int (sI tn), .int (sI te)]) := ((gb95 ((c + 32)) (by omega)).trans (hf7 (c + 32) (by omega) (by omega))).trans ht0
      have hc102 : M73 (c + 33) = some (sArr G 300 t) := ((gb95 ((c + 33)) (by omega)).trans (hf7 (c + 33) (by omega) (by omega))).trans ht1
      have hc103 : catC G M73 (c + 34) wc T := hct.fr (fun x q8 q9 => (gb95 x (by omega)).trans (hf7 x (by omega) (by omega)))
      have hc104 : orfC G M73 (c + 38) := hc6.fr (fun x q8 q9 => gb95 x (by omega))
      have hc105 : layC G M73 (c + 48) := hly.fr (fun x q8 q9 => (gb95 x (by omega)).trans (hf7 x (by omega) (by omega)))
      have hc106 : knoC G M73 (c + 54) := hkn.fr (fun x q8 q9 => (gb95 x (by omega)).trans (hf7 x (by omega) (by omega)))
      have hc107 : excC G M73 (c + 57) := hex.fr (fun x q8 q9 => (gb95 x (by omega)).trans (hf7 x (by omega) (by omega)))
      have hc108 : M73 (m + 1) = some (sArr G 574 f) := (hf84 (m + 1) (by omega) (by omega) (by omega) (by omega)).trans hc69
      have hc109 : svC G M73 (m + 2) ch fs := hsv.fr (fun x q8 q9 => (hf84 x (by omega) (by omega) (by omega) (by omega)).trans (ga68 x (by omega) (by omega)))
      have hc110 : M73 (m + 3) = some (sArr G 300 t) := ((hf84 (m + 3) (by omega) (by omega) (by omega) (by omega)).trans (ga68 ((m + 3)) (by omega) (by omega))).trans hm3
      have hc111 : M73 (m + 4) = some (sArr G 11 A4) := ((hf84 (m + 4) (by omega) (by omega) (by omega) (by omega)).trans (ga68 ((m + 4)) (by omega) (by omega))).trans hm4
      have hc112 : M73 (m + 8) = some (sArr G 10 A8) := ((hf84 (m + 8) (by omega) (by omega) (by omega) (by omega)).trans (ga68 ((m + 8)) (by omega) (by omega))).trans hm8
      have hc113 : M73 (m + 9) = some (sArr G 62 A9) := ((hf84 (m + 9) (by omega) (by omega) (by omega) (by omega)).trans (ga68 ((m + 9)) (by omega) (by omega))).trans hm9
      have hc114 : M73 (m + 10) = some (sArr G 8 A10) := ((hf84 (m + 10) (by omega) (by omega) (by omega) (by omega)).trans (ga68 ((m + 10)) (by omega) (by omega))).trans hm10
      have hc115 : M73 (m + 11) = some (sArr G 8 A11) := ((hf84 (m + 11) (by omega) (by omega) (by omega) (by omega)).trans (ga68 ((m + 11)) (by omega) (by omega))).trans hm11
      have hc116 : M73 (m + 12) = some (sArr G 60 A12) := ((hf84 (m + 12) (by omega) (by omega) (by omega) (by omega)).trans (ga68 ((m + 12)) (by omega) (by omega))).trans hm12
      have hc117 : M73 (m + 13) = some (sArr G 240 A13) := ((hf84 (m + 13) (by omega) (by omega) (by omega) (by omega)).trans (ga68 ((m + 13)) (by omega) (by omega))).trans hm13
      have hc118 : M73 (m + 14) = some (sArr G 574 A14) := ((hf84 (m + 14) (by omega) (by omega) (by omega) (by omega)).trans (ga68 ((m + 14)) (by omega) (by omega))).trans hm14
      have hc119 : M73 (m + 15) = some (sArr G 200 T2) := ((hf84 (m + 15) (by omega) (by omega) (by omega) (by omega)).trans (ga68 ((m + 15)) (by omega) (by omega))).trans hm15
      exact W.widen (by omega) (by omega) (hk _ _ _ _ _ (by omega) ⟨_, _, _, _, _, _, _, _, _, _, _, _, _, _, _, _, _, _, _, _, _, _, _, _, _, _, hc97, hc98, hc99, hc100, hc101, hc102, hc103, hc104, hc105, hc106, hc107, hc91, hc108, hc109, hc110, hc111, hc82, hc83, hc81, hc112, hc113, hc114, hc115, hc116, hc117, hc118, hc119, hc94, lF_s hlF, htp, hwr⟩ hV (lv_sub hl [2, 3, 4, 5, 6] rfl))

theorem nx_setDrawer_0_1 {d : Int} {z : Int} {v : Int} {f : sF} (h1 : ¬ ((0 ≤ d ∧ d ≤ 3) ∧ (0 ≤ z ∧ z ≤ 99) ∧ (0 ≤ v ∧ v ≤ 999))) (h2 : ((0 ≤ d ∧ d ≤ 3) ∧ (0 ≤ z ∧ z ≤ 99) ∧ (0 ≤ v ∧ v ≤ 999)) ∧ ¬ (isum (f 568) (lyT f d 1) ≤ z ∧ isum (f 568) (lyT f d 2) ≤ v)) : False := by
  first
  | omega
  | (simp_all; done)
  | (simp_all; omega)
theorem nx_setDrawer_0_2 {d : Int} {z : Int} {v : Int} {f : sF} (h1 : ¬ ((0 ≤ d ∧ d ≤ 3) ∧ (0 ≤ z ∧ z ≤ 99) ∧ (0 ≤ v ∧ v ≤ 999))) (h2 : ((0 ≤ d ∧ d ≤ 3) ∧ (0 ≤ z ∧ z ≤ 99) ∧ (0 ≤ v ∧ v ≤ 999)) ∧ isum (f 568) (lyT f d 1) ≤ z ∧ isum (f 568) (lyT f d 2) ≤ v) : False := by
  first
  | omega
  | (simp_all; done)
  | (simp_all; omega)
theorem nx_setDrawer_1_0 {d : Int} {z : Int} {v : Int} {f : sF} (h1 : ((0 ≤ d ∧ d ≤ 3) ∧ (0 ≤ z ∧ z ≤ 99) ∧ (0 ≤ v ∧ v ≤ 999)) ∧ ¬ (isum (f 568) (lyT f d 1) ≤ z ∧ isum (f 568) (lyT f d 2) ≤ v)) (h2 : ¬ ((0 ≤ d ∧ d ≤ 3) ∧ (0 ≤ z ∧ z ≤ 99) ∧ (0 ≤ v ∧ v ≤ 999))) : False := by
  first
  | omega
  | (simp_all; done)
  | (simp_all; omega)
theorem nx_setDrawer_1_2 {d : Int} {z : Int} {v : Int} {f : sF} (h1 : ((0 ≤ d ∧ d ≤ 3) ∧ (0 ≤ z ∧ z ≤ 99) ∧ (0 ≤ v ∧ v ≤ 999)) ∧ ¬ (isum (f 568) (lyT f d 1) ≤ z ∧ isum (f 568) (lyT f d 2) ≤ v)) (h2 : ((0 ≤ d ∧ d ≤ 3) ∧ (0 ≤ z ∧ z ≤ 99) ∧ (0 ≤ v ∧ v ≤ 999)) ∧ isum (f 568) (lyT f d 1) ≤ z ∧ isum (f 568) (lyT f d 2) ≤ v) : False := by
  first
  | omega
  | (simp_all; done)
  | (simp_all; omega)
theorem nx_setDrawer_2_0 {d : Int} {z : Int} {v : Int} {f : sF} (h1 : ((0 ≤ d ∧ d ≤ 3) ∧ (0 ≤ z ∧ z ≤ 99) ∧ (0 ≤ v ∧ v ≤ 999)) ∧ isum (f 568) (lyT f d 1) ≤ z ∧ isum (f 568) (lyT f d 2) ≤ v) (h2 : ¬ ((0 ≤ d ∧ d ≤ 3) ∧ (0 ≤ z ∧ z ≤ 99) ∧ (0 ≤ v ∧ v ≤ 999))) : False := by
  first
  | omega
  | (simp_all; done)
  | (simp_all; omega)
theorem nx_setDrawer_2_1 {d : Int} {z : Int} {v : Int} {f : sF} (h1 : ((0 ≤ d ∧ d ≤ 3) ∧ (0 ≤ z ∧ z ≤ 99) ∧ (0 ≤ v ∧ v ≤ 999)) ∧ isum (f 568) (lyT f d 1) ≤ z ∧ isum (f 568) (lyT f d 2) ≤ v) (h2 : ((0 ≤ d ∧ d ≤ 3) ∧ (0 ≤ z ∧ z ≤ 99) ∧ (0 ≤ v ∧ v ≤ 999)) ∧ ¬ (isum (f 568) (lyT f d 1) ≤ z ∧ isum (f 568) (lyT f d 2) ≤ v)) : False := by
  first
  | omega
  | (simp_all; done)
  | (simp_all; omega)
set_option maxHeartbeats 4000000 in
set_option maxRecDepth 100000 in
theorem law_17 {p_ : Program} {l_ : Launch} {e_ : Env} {s_ : State} {m_ : MethodId} {args_ : Array Value} {below_ : List Frame} {meth_ : Method} {c_ : Code} {nm_ : String} {G : sG} {b_ : Nat} {M0 : sM} {N0 : Nat} {Q : State → Prop} (E : sE p_ l_ e_ room_1 s_ m_ args_ below_ meth_ c_ cL_law 9 wsL_law RL nm_ (some .boolean) G b_ M0 N0) (hF_ : xcF s_) (hlt : l_.stackTraces = false) {z L : Nat} {xs : Nat → Int32} (hX : va_X z L xs s_ s_.heap) (hzb : z < b_) {c m o kb : Nat} (hg : c + 60 ≤ m ∧ m + 16 ≤ o ∧ o < kb) {cc_ ss_ : Nat} (hcc : cc_ + 1170 ≤ room_1.cells ∧ ss_ + 14000 ≤ room_1.slots) {q i : Int} (hi : 0 ≤ i ∧ i + 6 ≤ L ∧ (L : Int) ≤ 3072) (hq : 0 ≤ q ∧ q ≤ 600) {M : sM} {N : Nat} (hkN : kb ≤ N) (hI : lI G M c m o kb q) {H : Heap} {locs : List Loc} {ls : Array Slot} (hV : sV G b_ M N s_ H locs) (hl : lv_has ls 9 [(0, .ref z), (1, .ref c), (2, .ref m), (3, .ref o), (4, .int (sI i))])
    (hk : ∀ (M1 : sM) (N1 : Nat) (H1 : Heap) (locs1 : List Loc) (ls1 : Array Slot), kb ≤ N1 → lI G M1 c m o kb (q + 1) → sV G b_ M1 N1 s_ H1 locs1 → lv_has ls1 9 [(0, .ref z), (1, .ref c), (2, .ref m), (3, .ref o), (4, .int (sI i))] → W p_ l_ e_ room_1 s_ m_ args_ below_ meth_ c_ H1 locs1 (cc_ + 1170) (ss_ + 14000) Q (F0 m_ 2853 ls1 [])) : W p_ l_ e_ room_1 s_ m_ args_ below_ meth_ c_ H locs cc_ ss_ Q (F0 m_ 1170 ls []) := by
  have S := E.1
  have hx_ := S.1
  have hb_ := S.2.1
  have hK := E.2.2.2.2.1
  have hI2 := hI
  obtain ⟨kn, ch, f, fs, tn, te, t, wc, wn, T, T2, th, sn, nm, g0, A4, A5, A6, A7, A8, A9, A10, A11, A12, A13, A14, hc0, hst, htr, hkp, ht0, ht1, hct, hft, hly, hkn, hex, hm0, hm1, hsv, hm3, hm4, hm5, hm6, hm7, hm8, hm9, hm10, hm11, hm12, hm13, hm14, hm15, ho9, hlF, htp, hwr⟩ := hI2
  have hok := hlF.1.1
  have hdI := hlF.1.2.1
  have hsL := hlF.1.2.2.1
  have hclk := hlF.1.2.2.2
  have hchr : 0 ≤ ch ∧ ch ≤ 15 := ⟨hkp.r.2.2.1, hkp.r.2.2.2⟩
  have htp1 := htp.1
  have htp2 := htp.2.1
  have hwq := wrQ_e hwr
  have hwq1 := hwq.1
  have hwq2 := hwq.2.1
  have kn0 := sOk_N hok
  refine lv_aload_n hx_ hb_ dL_law_1170 rfl (lv_at hl 1 rfl) ?_
  refine lv_aload_n hx_ hb_ dL_law_1171 rfl (lv_at hl 0 rfl) ?_
  refine lv_iload hx_ hb_ dL_law_1172 (lv_at hl 4 rfl) ?_
  refine si_const S dL_law_1174 ?_
  refine si_add S dL_law_1175 ?_
  refine sc_sld S hV hX hzb (by omega) dL_law_1176 ?_
  refine lv_aload_n hx_ hb_ dL_law_1177 rfl (lv_at hl 0 rfl) ?_
  refine lv_iload hx_ hb_ dL_law_1178 (lv_at hl 4 rfl) ?_
  refine si_const S dL_law_1180 ?_
  refine si_add S dL_law_1181 ?_
  refine sc_sld S hV hX hzb (by omega) dL_law_1182 ?_
  refine lv_aload_n hx_ hb_ dL_law_1183 rfl (lv_at hl 0 rfl) ?_
  refine lv_iload hx_ hb_ dL_law_1184 (lv_at hl 4 rfl) ?_
  refine si_const S dL_law_1186 ?_
  refine si_add S dL_law_1187 ?_
  refine sc_sld S hV hX hzb (by omega) dL_law_1188 ?_
  refine lv_aload_n hx_ hb_ dL_law_1189 rfl (lv_at hl 3 rfl) ?_
  refine yk_Si (hh := [(0, 12, 15, 19), (0, 12, 19, 13)]) E hF_ hV (As := [.ref c, .int (sI (lX xs (i + 1))), .int (sI (lX xs (i + 2))), .int (sI (lX xs (i + 3))), .ref o]) (rest := []) (kL_setDrawer l_ G b_ M N o g0 c kn ch f kb fs (lX xs (i + 1)) (lX xs (i + 2)) (lX xs (i + 3)) hc0 hst hkp ho9 (hlt) (hok) (by omega) (by omega) (⟨lX_r xs _, lX_r xs _, lX_r xs _⟩) (by omega) (by omega)) (vx_cwSW 5 S.2.2.2.2 gL_law_L_setDrawer rfl rfl rfl (by decide +kernel) ⟨Nat.le_of_ble_eq_true rfl, Nat.le_of_ble_eq_true rfl⟩) rfl rfl hl.1 (Nat.le_of_ble_eq_true rfl) dL_law_1190 (c1 := cc_ + 25) (s1 := ss_ + 3000) ⟨⟨rfl, rfl⟩, by omega, by omega⟩ (fun z4 M1 N2 H locs hp3 hV => ?_)
  obtain ⟨kn15, hN6, hf7, hq8⟩ := hp3
  rcases hq8 with ⟨c9, ez10, hc11, hc12, hc13, hc14⟩ | ⟨c15, ez16, hc17, hc18, hc19, hc20⟩ | ⟨c21, ez22, hc23, hc24, hc25, hc26⟩
  · rw [ez10]
    refine lv_istore (lv' := [(5, .int (sI 1)), (0, .ref z), (1, .ref c), (2, .ref m), (3, .ref o), (4, .int (sI i))]) hx_ hb_ dL_law_1193 hl (by decide) rfl (fun ls hl => ?_)
    refine lv_aload_n hx_ hb_ dL_law_1195 rfl (lv_at hl 3 rfl) ?_
    refine lv_aload_n hx_ hb_ dL_law_1196 rfl (lv_at hl 1 rfl) ?_
    refine lv_iload hx_ hb_ dL_law_1197 (lv_at hl 5 rfl) ?_
    refine si_const S dL_law_1199 ?_
    refine si_add S dL_law_1200 ?_
    refine sc_sld S hV hX hzb (by omega) dL_law_1201 ?_
    refine lv_aload_n hx_ hb_ dL_law_1202 rfl (lv_at hl 1 rfl) ?_
    refine lv_iload hx_ hb_ dL_law_1203 (lv_at hl 5 rfl) ?_
    refine si_const S dL_law_1205 ?_
    refine si_add S dL_law_1206 ?_
    refine sc_sld S hV hX hzb (by omega) dL_law_1207 ?_
    refine lv_aload_n hx_ hb_ dL_law_1208 rfl (lv_at hl 1 rfl) ?_
    refine lv_iload hx_ hb_ dL_law_1209 (lv_at hl 5 rfl) ?_
    refine si_const S dL_law_1211 ?_
    refine si_add S dL_law_1212 ?_
    refine sc_sld S hV hX hzb (by omega) dL_law_1213 ?_
    have ga28 : ∀ x : Nat, m ≤ x → x < m + 16 → M1 x = M x := fun x u1 u2 => hf7 x (by omega) (by omega) (by omega) (by omega) (by omega)
    have hc27 : M1 m = some (mO m th ch tn te sn nm wn) := (ga28 m (by omega) (by omega)).trans hm0
    have hc29 : M1 (m + 1) = some (sArr G 574 f) := (ga28 ((m + 1)) (by omega) (by omega)).trans hm1
    have hc30 : svC G M1 (m + 2) ch fs := hsv.fr (fun x q8 q9 => ga28 x (by omega) (by omega))
    refine sk_Vi E hV (As := [.int (sI (lX xs (i + 1))), .int (sI (lX xs (i + 2))), .int (sI (lX xs (i + 3)))]) (rest := []) (kX11_setDrawer l_ G b_ M1 N2 m th ch tn te sn nm wn f fs (lX xs (i + 1)) (lX xs (i + 2)) (lX xs (i + 3)) hc27 hc29 hc30 (hok) (hchr) (⟨lX_r xs _, lX_r xs _, lX_r xs _⟩)) (cwV 3 S.2.2.2.2 gL_law_X11_setDrawer rfl rfl rfl (by decide +kernel) ⟨Nat.le_of_ble_eq_true rfl, Nat.le_of_ble_eq_true rfl⟩) (ci := 9) hc27 rfl rfl rfl hl.1 (Nat.le_of_ble_eq_true rfl) dL_law_1214 (c1 := cc_ + 25) (s1 := ss_ + 3000) ⟨⟨rfl, rfl⟩, by omega, by omega⟩ (fun z34 M31 N32 H locs hp33 hV => ?_)
    obtain ⟨hN35, hf36, hq37⟩ := hp33
    rw [hN35] at hV
    rcases hq37 with ⟨c38, ez39, hc40, hc41, hc42⟩ | ⟨c43, ez44, hc45, hc46, hc47⟩ | ⟨c48, ez49, hc50, hc51, hc52⟩
    · rw [ez39]
      refine lv_istore (lv' := [(6, .int (sI 0)), (5, .int (sI 1)), (0, .ref z), (1, .ref c), (2, .ref m), (3, .ref o), (4, .int (sI i))]) hx_ hb_ dL_law_1217 hl (by decide) rfl (fun ls hl => ?_)
      refine lv_aload_n hx_ hb_ dL_law_1219 rfl (lv_at hl 4 rfl) ?_
      refine sk_VP E hV (As := []) (rest := []) (kX11_thrown l_ G b_ M31 N2 m 1 ch tn te sn nm wn hc40) (cwV 0 S.2.2.2.2 gL_law_X11_thrown rfl rfl rfl (by decide +kernel) ⟨Nat.le_of_ble_eq_true rfl, Nat.le_of_ble_eq_true rfl⟩) (ci := 9) hc40 rfl rfl rfl hl.1 (Nat.le_of_ble_eq_true rfl) dL_law_1220 (c1 := cc_ + 25) (s1 := ss_ + 3000) ⟨⟨rfl, rfl⟩, by omega, by omega⟩ (fun H locs hV => ?_)
      refine lv_iload hx_ hb_ dL_law_1223 (lv_at hl 1 rfl) ?_
      refine sb_eq (tgt := 1230) S dL_law_1225 (by decide) (by omega) (fun _ => ?_) (fun c53 => absurd c53 (by omega))
      refine lv_iload hx_ hb_ dL_law_1230 (lv_at hl 1 rfl) ?_
      refine sz_ne (tgt := 1247) S dL_law_1232 (by decide) (by omega) (fun _ => ?_) (fun c54 => absurd c54 (by omega))
      refine lv_goto (tgt := 2853) hx_ hb_ dL_law_1247 (by decide) ?_
      have gb56 : ∀ x : Nat, (x < m ∨ m + 16 ≤ x) → M31 x = M1 x := fun x u1 => hf36 x (by omega) (by omega) (by omega)
      have hc55 : M31 c = some (xO c kn15 ch) := (gb56 c (by omega)).trans hc11
      have hc57 : stC G M31 (c + 1) f := hc12.fr (fun x q8 q9 => gb56 x (by omega))
      have hc58 : triC G M31 (c + 16) := htr.fr (fun x q8 q9 => (gb56 x (by omega)).trans (hf7 x (by omega) (by omega) (by omega) (by omega) (by omega)))
      have hc59 : kpC G M31 (c + 31) kb kn15 ch fs := hc13.fr (fun x q8 => gb56 x (by omega))
      have hc60 : M31 (c + 32) = some (sObj 7 [.ref (c + 33), .int (sI tn), .int (sI te)]) := ((gb56 ((c + 32)) (by omega)).trans (hf7 (c + 32) (by omega) (by omega) (by omega) (by omega) (by omega))).trans ht0
      have hc61 : M31 (c + 33) = some (sArr G 300 t) := ((gb56 ((c + 33)) (by omega)).trans (hf7 (c + 33) (by omega) (by omega) (by omega) (by omega) (by omega))).trans ht1
      have hc62 : catC G M31 (c + 34) wc T := hct.fr (fun x q8 q9 => (gb56 x (by omega)).trans (hf7 x (by omega) (by omega) (by omega) (by omega) (by omega)))
      have hc63 : orfC G M31 (c + 38) := hft.fr (fun x q8 q9 => (gb56 x (by omega)).trans (hf7 x (by omega) (by omega) (by omega) (by omega) (by omega)))
      have hc64 : layC G M31 (c + 48) := hly.fr (fun x q8 q9 => (gb56 x (by omega)).trans (hf7 x (by omega) (by omega) (by omega) (by omega) (by omega)))
      have hc65 : knoC G M31 (c + 54) := hkn.fr (fun x q8 q9 => (gb56 x (by omega)).trans (hf7 x (by omega) (by omega) (by omega) (by omega) (by omega)))
      have hc66 : excC G M31 (c + 57) := hex.fr (fun x q8 q9 => (gb56 x (by omega)).trans (hf7 x (by omega) (by omega) (by omega) (by omega) (by omega)))
      have hc67 : M31 (m + 3) = some (sArr G 300 t) := ((hf36 (m + 3) (by omega) (by omega) (by omega)).trans (ga28 ((m + 3)) (by omega) (by omega))).trans hm3
      have hc68 : M31 (m + 4) = some (sArr G 11 A4) := ((hf36 (m + 4) (by omega) (by omega) (by omega)).trans (ga28 ((m + 4)) (by omega) (by omega))).trans hm4
      have hc69 : M31 (m + 5) = some (sArr G 1024 A5) := ((hf36 (m + 5) (by omega) (by omega) (by omega)).trans (ga28 ((m + 5)) (by omega) (by omega))).trans hm5
      have hc70 : M31 (m + 6) = some (sArr G 1024 A6) := ((hf36 (m + 6) (by omega) (by omega) (by omega)).trans (ga28 ((m + 6)) (by omega) (by omega))).trans hm6
      have hc71 : M31 (m + 7) = some (sArr G 10 A7) := ((hf36 (m + 7) (by omega) (by omega) (by omega)).trans (ga28 ((m + 7)) (by omega) (by omega))).trans hm7
      have hc72 : M31 (m + 8) = some (sArr G 10 A8) := ((hf36 (m + 8) (by omega) (by omega) (by omega)).trans (ga28 ((m + 8)) (by omega) (by omega))).trans hm8
      have hc73 : M31 (m + 9) = some (sArr G 62 A9) := ((hf36 (m + 9) (by omega) (by omega) (by omega)).trans (ga28 ((m + 9)) (by omega) (by omega))).trans hm9
      have hc74 : M31 (m + 10) = some (sArr G 8 A10) := ((hf36 (m + 10) (by omega) (by omega) (by omega)).trans (ga28 ((m + 10)) (by omega) (by omega))).trans hm10
      have hc75 : M31 (m + 11) = some (sArr G 8 A11) := ((hf36 (m + 11) (by omega) (by omega) (by omega)).trans (ga28 ((m + 11)) (by omega) (by omega))).trans hm11
      have hc76 : M31 (m + 12) = some (sArr G 60 A12) := ((hf36 (m + 12) (by omega) (by omega) (by omega)).trans (ga28 ((m + 12)) (by omega) (by omega))).trans hm12
      have hc77 : M31 (m + 13) = some (sArr G 240 A13) := ((hf36 (m + 13) (by omega) (by omega) (by omega)).trans (ga28 ((m + 13)) (by omega) (by omega))).trans hm13
      have hc78 : M31 (m + 14) = some (sArr G 574 A14) := ((hf36 (m + 14) (by omega) (by omega) (by omega)).trans (ga28 ((m + 14)) (by omega) (by omega))).trans hm14
      have hc79 : M31 (m + 15) = some (sArr G 200 T2) := ((hf36 (m + 15) (by omega) (by omega) (by omega)).trans (ga28 ((m + 15)) (by omega) (by omega))).trans hm15
      have hc80 : M31 o = some (sArL G 1 g0) := (gb56 o (by omega)).trans hc14
      exact W.widen (by omega) (by omega) (hk _ _ _ _ _ (by omega) ⟨_, _, _, _, _, _, _, _, _, _, _, _, _, _, _, _, _, _, _, _, _, _, _, _, _, _, hc55, hc57, hc58, hc59, hc60, hc61, hc62, hc63, hc64, hc65, hc66, hc40, hc41, hc42, hc67, hc68, hc69, hc70, hc71, hc72, hc73, hc74, hc75, hc76, hc77, hc78, hc79, hc80, lF_s hlF, htp, hwr⟩ hV (lv_sub hl [2, 3, 4, 5, 6] rfl))
    · rw [ez44]
      exact (nx_setDrawer_0_1 c9 c43).elim
    · rw [ez49]
      exact (nx_setDrawer_0_2 c9 c48).elim
  · rw [ez16]
    refine lv_istore (lv' := [(5, .int (sI 2)), (0, .ref z), (1, .ref c), (2, .ref m), (3, .ref o), (4, .int (sI i))]) hx_ hb_ dL_law_1193 hl (by decide) rfl (fun ls hl => ?_)
    refine lv_aload_n hx_ hb_ dL_law_1195 rfl (lv_at hl 3 rfl) ?_
    refine lv_aload_n hx_ hb_ dL_law_1196 rfl (lv_at hl 1 rfl) ?_
    refine lv_iload hx_ hb_ dL_law_1197 (lv_at hl 5 rfl) ?_
    refine si_const S dL_law_1199 ?_
    refine si_add S dL_law_1200 ?_
    refine sc_sld S hV hX hzb (by omega) dL_law_1201 ?_
    refine lv_aload_n hx_ hb_ dL_law_1202 rfl (lv_at hl 1 rfl) ?_
    refine lv_iload hx_ hb_ dL_law_1203 (lv_at hl 5 rfl) ?_
    refine si_const S dL_law_1205 ?_
    refine si_add S dL_law_1206 ?_
    refine sc_sld S hV hX hzb (by omega) dL_law_1207 ?_
    refine lv_aload_n hx_ hb_ dL_law_1208 rfl (lv_at hl 1 rfl) ?_
    refine lv_iload hx_ hb_ dL_law_1209 (lv_at hl 5 rfl) ?_
    refine si_const S dL_law_1211 ?_
    refine si_add S dL_law_1212 ?_
    refine sc_sld S hV hX hzb (by omega) dL_law_1213 ?_
    have ga82 : ∀ x : Nat, m ≤ x → x < m + 16 → M1 x = M x := fun x u1 u2 => hf7 x (by omega) (by omega) (by omega) (by omega) (by omega)
    have hc81 : M1 m = some (mO m th ch tn te sn nm wn) := (ga82 m (by omega) (by omega)).trans hm0
    have hc83 : M1 (m + 1) = some (sArr G 574 f) := (ga82 ((m + 1)) (by omega) (by omega)).trans hm1
    have hc84 : svC G M1 (m + 2) ch fs := hsv.fr (fun x q8 q9 => ga82 x (by omega) (by omega))
    refine sk_Vi E hV (As := [.int (sI (lX xs (i + 1))), .int (sI (lX xs (i + 2))), .int (sI (lX xs (i + 3)))]) (rest := []) (kX11_setDrawer l_ G b_ M1 N2 m th ch tn te sn nm wn f fs (lX xs (i + 1)) (lX xs (i + 2)) (lX xs (i + 3)) hc81 hc83 hc84 (hok) (hchr) (⟨lX_r xs _, lX_r xs _, lX_r xs _⟩)) (cwV 3 S.2.2.2.2 gL_law_X11_setDrawer rfl rfl rfl (by decide +kernel) ⟨Nat.le_of_ble_eq_true rfl, Nat.le_of_ble_eq_true rfl⟩) (ci := 9) hc81 rfl rfl rfl hl.1 (Nat.le_of_ble_eq_true rfl) dL_law_1214 (c1 := cc_ + 25) (s1 := ss_ + 3000) ⟨⟨rfl, rfl⟩, by omega, by omega⟩ (fun z88 M85 N86 H locs hp87 hV => ?_)
    obtain ⟨hN89, hf90, hq91⟩ := hp87
    rw [hN89] at hV
    rcases hq91 with ⟨c92, ez93, hc94, hc95, hc96⟩ | ⟨c97, ez98, hc99, hc100, hc101⟩ | ⟨c102, ez103, hc104, hc105, hc106⟩
    · rw [ez93]
      exact (nx_setDrawer_1_0 c15 c92).elim
    · rw [ez98]
      refine lv_istore (lv' := [(6, .int (sI 0)), (5, .int (sI 2)), (0, .ref z), (1, .ref c), (2, .ref m), (3, .ref o), (4, .int (sI i))]) hx_ hb_ dL_law_1217 hl (by decide) rfl (fun ls hl => ?_)
      refine lv_aload_n hx_ hb_ dL_law_1219 rfl (lv_at hl 4 rfl) ?_
      refine sk_VP E hV (As := []) (rest := []) (kX11_thrown l_ G b_ M85 N2 m 2 ch tn te sn nm wn hc99) (cwV 0 S.2.2.2.2 gL_law_X11_thrown rfl rfl rfl (by decide +kernel) ⟨Nat.le_of_ble_eq_true rfl, Nat.le_of_ble_eq_true rfl⟩) (ci := 9) hc99 rfl rfl rfl hl.1 (Nat.le_of_ble_eq_true rfl) dL_law_1220 (c1 := cc_ + 25) (s1 := ss_ + 3000) ⟨⟨rfl, rfl⟩, by omega, by omega⟩ (fun H locs hV => ?_)
      refine lv_iload hx_ hb_ dL_law_1223 (lv_at hl 1 rfl) ?_
      refine sb_eq (tgt := 1230) S dL_law_1225 (by decide) (by omega) (fun _ => ?_) (fun c107 => absurd c107 (by omega))
      refine lv_iload hx_ hb_ dL_law_1230 (lv_at hl 1 rfl) ?_
      refine sz_ne (tgt := 1247) S dL_law_1232 (by decide) (by omega) (fun _ => ?_) (fun c108 => absurd c108 (by omega))
      refine lv_goto (tgt := 2853) hx_ hb_ dL_law_1247 (by decide) ?_
      have gb110 : ∀ x : Nat, (x < m ∨ m + 16 ≤ x) → M85 x = M1 x := fun x u1 => hf90 x (by omega) (by omega) (by omega)
      have hc109 : M85 c = some (xO c kn15 ch) := (gb110 c (by omega)).trans hc17
      have hc111 : stC G M85 (c + 1) f := hc18.fr (fun x q8 q9 => gb110 x (by omega))
      have hc112 : triC G M85 (c + 16) := htr.fr (fun x q8 q9 => (gb110 x (by omega)).trans (hf7 x (by omega) (by omega) (by omega) (by omega) (by omega)))
      have hc113 : kpC G M85 (c + 31) kb kn15 ch fs := hc19.fr (fun x q8 => gb110 x (by omega))
      have hc114 : M85 (c + 32) = some (sObj 7 [.ref (c + 33), .int (sI tn), .int (sI te)]) := ((gb110 ((c + 32)) (by omega)).trans (hf7 (c + 32) (by omega) (by omega) (by omega) (by omega) (by omega))).trans ht0
      have hc115 : M85 (c + 33) = some (sArr G 300 t) := ((gb110 ((c + 33)) (by omega)).trans (hf7 (c + 33) (by omega) (by omega) (by omega) (by omega) (by omega))).trans ht1
      have hc116 : catC G M85 (c + 34) wc T := hct.fr (fun x q8 q9 => (gb110 x (by omega)).trans (hf7 x (by omega) (by omega) (by omega) (by omega) (by omega)))
      have hc117 : orfC G M85 (c + 38) := hft.fr (fun x q8 q9 => (gb110 x (by omega)).trans (hf7 x (by omega) (by omega) (by omega) (by omega) (by omega)))
      have hc118 : layC G M85 (c + 48) := hly.fr (fun x q8 q9 => (gb110 x (by omega)).trans (hf7 x (by omega) (by omega) (by omega) (by omega) (by omega)))
      have hc119 : knoC G M85 (c + 54) := hkn.fr (fun x q8 q9 => (gb110 x (by omega)).trans (hf7 x (by omega) (by omega) (by omega) (by omega) (by omega)))
      have hc120 : excC G M85 (c + 57) := hex.fr (fun x q8 q9 => (gb110 x (by omega)).trans (hf7 x (by omega) (by omega) (by omega) (by omega) (by omega)))
      have hc121 : M85 (m + 3) = some (sArr G 300 t) := ((hf90 (m + 3) (by omega) (by omega) (by omega)).trans (ga82 ((m + 3)) (by omega) (by omega))).trans hm3
      have hc122 : M85 (m + 4) = some (sArr G 11 A4) := ((hf90 (m + 4) (by omega) (by omega) (by omega)).trans (ga82 ((m + 4)) (by omega) (by omega))).trans hm4
      have hc123 : M85 (m + 5) = some (sArr G 1024 A5) := ((hf90 (m + 5) (by omega) (by omega) (by omega)).trans (ga82 ((m + 5)) (by omega) (by omega))).trans hm5
      have hc124 : M85 (m + 6) = some (sArr G 1024 A6) := ((hf90 (m + 6) (by omega) (by omega) (by omega)).trans (ga82 ((m + 6)) (by omega) (by omega))).trans hm6
      have hc125 : M85 (m + 7) = some (sArr G 10 A7) := ((hf90 (m + 7) (by omega) (by omega) (by omega)).trans (ga82 ((m + 7)) (by omega) (by omega))).trans hm7
      have hc126 : M85 (m + 8) = some (sArr G 10 A8) := ((hf90 (m + 8) (by omega) (by omega) (by omega)).trans (ga82 ((m + 8)) (by omega) (by omega))).trans hm8
      have hc127 : M85 (m + 9) = some (sArr G 62 A9) := ((hf90 (m + 9) (by omega) (by omega) (by omega)).trans (ga82 ((m + 9)) (by omega) (by omega))).trans hm9
      have hc128 : M85 (m + 10) = some (sArr G 8 A10) := ((hf90 (m + 10) (by omega) (by omega) (by omega)).trans (ga82 ((m + 10)) (by omega) (by omega))).trans hm10
      have hc129 : M85 (m + 11) = some (sArr G 8 A11) := ((hf90 (m + 11) (by omega) (by omega) (by omega)).trans (ga82 ((m + 11)) (by omega) (by omega))).trans hm11
      have hc130 : M85 (m + 12) = some (sArr G 60 A12) := ((hf90 (m + 12) (by omega) (by omega) (by omega)).trans (ga82 ((m + 12)) (by omega) (by omega))).trans hm12
      have hc131 : M85 (m + 13) = some (sArr G 240 A13) := ((hf90 (m + 13) (by omega) (by omega) (by omega)).trans (ga82 ((m + 13)) (by omega) (by omega))).trans hm13
      have hc132 : M85 (m + 14) = some (sArr G 574 A14) := ((hf90 (m + 14) (by omega) (by omega) (by omega)).trans (ga82 ((m + 14)) (by omega) (by omega))).trans hm14
      have hc133 : M85 (m + 15) = some (sArr G 200 T2) := ((hf90 (m + 15) (by omega) (by omega) (by omega)).trans (ga82 ((m + 15)) (by omega) (by omega))).trans hm15
      have hc134 : M85 o = some (sArL G 1 g0) := (gb110 o (by omega)).trans hc20
      exact W.widen (by omega) (by omega) (hk _ _ _ _ _ (by omega) ⟨_, _, _, _, _, _, _, _, _, _, _, _, _, _, _, _, _, _, _, _, _, _, _, _, _, _, hc109, hc111, hc112, hc113, hc114, hc115, hc116, hc117, hc118, hc119, hc120, hc99, hc100, hc101, hc121, hc122, hc123, hc124, hc125, hc126, hc127, hc128, hc129, hc130, hc131, hc132, hc133, hc134, lF_s hlF, htp, hwr⟩ hV (lv_sub hl [2, 3, 4, 5, 6] rfl))
    · rw [ez103]
      exact (nx_setDrawer_1_2 c15 c102).elim
  · rw [ez22]
    refine lv_istore (lv' := [(5, .int (sI 0)), (0, .ref z), (1, .ref c), (2, .ref m), (3, .ref o), (4, .int (sI i))]) hx_ hb_ dL_law_1193 hl (by decide) rfl (fun ls hl => ?_)
    refine lv_aload_n hx_ hb_ dL_law_1195 rfl (lv_at hl 3 rfl) ?_
    refine lv_aload_n hx_ hb_ dL_law_1196 rfl (lv_at hl 1 rfl) ?_
    refine lv_iload hx_ hb_ dL_law_1197 (lv_at hl 5 rfl) ?_
    refine si_const S dL_law_1199 ?_
    refine si_add S dL_law_1200 ?_
    refine sc_sld S hV hX hzb (by omega) dL_law_1201 ?_
    refine lv_aload_n hx_ hb_ dL_law_1202 rfl (lv_at hl 1 rfl) ?_
    refine lv_iload hx_ hb_ dL_law_1203 (lv_at hl 5 rfl) ?_
    refine si_const S dL_law_1205 ?_
    refine si_add S dL_law_1206 ?_
    refine sc_sld S hV hX hzb (by omega) dL_law_1207 ?_
    refine lv_aload_n hx_ hb_ dL_law_1208 rfl (lv_at hl 1 rfl) ?_
    refine lv_iload hx_ hb_ dL_law_1209 (lv_at hl 5 rfl) ?_
    refine si_const S dL_law_1211 ?_
    refine si_add S dL_law_1212 ?_
    refine sc_sld S hV hX hzb (by omega) dL_law_1213 ?_
    have ga136 : ∀ x : Nat, m ≤ x → x < m + 16 → M1 x = M x := fun x u1 u2 => hf7 x (by omega) (by omega) (by omega) (by omega) (by omega)
    have hc135 : M1 m = some (mO m th ch tn te sn nm wn) := (ga136 m (by omega) (by omega)).trans hm0
    have hc137 : M1 (m + 1) = some (sArr G 574 f) := (ga136 ((m + 1)) (by omega) (by omega)).trans hm1
    have hc138 : svC G M1 (m + 2) ch fs := hsv.fr (fun x q8 q9 => ga136 x (by omega) (by omega))
    refine sk_Vi E hV (As := [.int (sI (lX xs (i + 1))), .int (sI (lX xs (i + 2))), .int (sI (lX xs (i + 3)))]) (rest := []) (kX11_setDrawer l_ G b_ M1 N2 m th ch tn te sn nm wn f fs (lX xs (i + 1)) (lX xs (i + 2)) (lX xs (i + 3)) hc135 hc137 hc138 (hok) (hchr) (⟨lX_r xs _, lX_r xs _, lX_r xs _⟩)) (cwV 3 S.2.2.2.2 gL_law_X11_setDrawer rfl rfl rfl (by decide +kernel) ⟨Nat.le_of_ble_eq_true rfl, Nat.le_of_ble_eq_true rfl⟩) (ci := 9) hc135 rfl rfl rfl hl.1 (Nat.le_of_ble_eq_true rfl) dL_law_1214 (c1 := cc_ + 25) (s1 := ss_ + 3000) ⟨⟨rfl, rfl⟩, by omega, by omega⟩ (fun z142 M139 N140 H locs hp141 hV => ?_)
    obtain ⟨hN143, hf144, hq145⟩ := hp141
    rw [hN143] at hV
    rcases hq145 with ⟨c146, ez147, hc148, hc149, hc150⟩ | ⟨c151, ez152, hc153, hc154, hc155⟩ | ⟨c156, ez157, hc158, hc159, hc160⟩
    · rw [ez147]
      exact (nx_setDrawer_2_0 c21 c146).elim
    · rw [ez152]
      exact (nx_setDrawer_2_1 c21 c151).elim
    · rw [ez157]
      refine lv_istore (lv' := [(6, .int (sI (f (150 + (lX xs (i + 1)))))), (5, .int (sI 0)), (0, .ref z), (1, .ref c), (2, .ref m), (3, .ref o), (4, .int (sI i))]) hx_ hb_ dL_law_1217 hl (by decide) rfl (fun ls hl => ?_)
      refine lv_aload_n hx_ hb_ dL_law_1219 rfl (lv_at hl 4 rfl) ?_
      refine sk_VP E hV (As := []) (rest := []) (kX11_thrown l_ G b_ M139 N2 m 0 (chn ch) tn te sn nm wn hc158) (cwV 0 S.2.2.2.2 gL_law_X11_thrown rfl rfl rfl (by decide +kernel) ⟨Nat.le_of_ble_eq_true rfl, Nat.le_of_ble_eq_true rfl⟩) (ci := 9) hc158 rfl rfl rfl hl.1 (Nat.le_of_ble_eq_true rfl) dL_law_1220 (c1 := cc_ + 25) (s1 := ss_ + 3000) ⟨⟨rfl, rfl⟩, by omega, by omega⟩ (fun H locs hV => ?_)
      refine lv_iload hx_ hb_ dL_law_1223 (lv_at hl 1 rfl) ?_
      refine sb_eq (tgt := 1230) S dL_law_1225 (by decide) (by omega) (fun _ => ?_) (fun c161 => absurd c161 (by omega))
      refine lv_iload hx_ hb_ dL_law_1230 (lv_at hl 1 rfl) ?_
      refine sz_ne (tgt := 1247) S dL_law_1232 (by decide) (by omega) (fun c162 => absurd c162 (by omega)) (fun _ => ?_)
      refine lv_aload_n hx_ hb_ dL_law_1235 rfl (lv_at hl 5 rfl) ?_
      refine si_const S dL_law_1236 ?_
      have gb164 : ∀ x : Nat, (x < m ∨ m + 16 ≤ x) → M139 x = M1 x := fun x u1 => hf144 x (by omega) (by omega) (by omega)
      have hc163 : M139 o = some (sArL G 1 (iup g0 0 (sW (f (150 + (lX xs (i + 1))))))) := (gb164 o (by omega)).trans hc26
      refine sc_lald S hK hV hc163 (by omega) dL_law_1237 ?_
      rw [show (iup g0 0 (sW (f (150 + (lX xs (i + 1)))))) 0 = sW (f (150 + (lX xs (i + 1)))) from if_pos rfl]
      refine lv_iload hx_ hb_ dL_law_1238 (lv_at hl 0 rfl) ?_
      refine sl_i2w S dL_law_1240 ?_
      refine sl_cmp0 S (rfl) dL_law_1241 ?_
      refine sz_eq (tgt := 1247) S dL_law_1242 (by decide) (by omega) (fun _ => ?_) (fun c165 => absurd c165 (by omega))
      refine lv_goto (tgt := 2853) hx_ hb_ dL_law_1247 (by decide) ?_
      have hc166 : M139 c = some (xO c kn15 (chn ch)) := (gb164 c (by omega)).trans hc23
      have hc167 : stC G M139 (c + 1) (sdF f (lX xs (i + 1)) (lX xs (i + 2)) (lX xs (i + 3))) := hc24.fr (fun x q8 q9 => gb164 x (by omega))
      have hc168 : triC G M139 (c + 16) := htr.fr (fun x q8 q9 => (gb164 x (by omega)).trans (hf7 x (by omega) (by omega) (by omega) (by omega) (by omega)))
      have hc169 : kpC G M139 (c + 31) kb kn15 (chn ch) (fsn ch fs f) := hc25.fr (fun x q8 => gb164 x (by omega))
      have hc170 : M139 (c + 32) = some (sObj 7 [.ref (c + 33), .int (sI tn), .int (sI te)]) := ((gb164 ((c + 32)) (by omega)).trans (hf7 (c + 32) (by omega) (by omega) (by omega) (by omega) (by omega))).trans ht0
      have hc171 : M139 (c + 33) = some (sArr G 300 t) := ((gb164 ((c + 33)) (by omega)).trans (hf7 (c + 33) (by omega) (by omega) (by omega) (by omega) (by omega))).trans ht1
      have hc172 : catC G M139 (c + 34) wc T := hct.fr (fun x q8 q9 => (gb164 x (by omega)).trans (hf7 x (by omega) (by omega) (by omega) (by omega) (by omega)))
      have hc173 : orfC G M139 (c + 38) := hft.fr (fun x q8 q9 => (gb164 x (by omega)).trans (hf7 x (by omega) (by omega) (by omega) (by omega) (by omega)))
      have hc174 : layC G M139 (c + 48) := hly.fr (fun x q8 q9 => (gb164 x (by omega)).trans (hf7 x (by omega) (by omega) (by omega) (by omega) (by omega)))
      have hc175 : knoC G M139 (c + 54) := hkn.fr (fun x q8 q9 => (gb164 x (by omega)).trans (hf7 x (by omega) (by omega) (by omega) (by omega) (by omega)))
      have hc176 : excC G M139 (c + 57) := hex.fr (fun x q8 q9 => (gb164 x (by omega)).trans (hf7 x (by omega) (by omega) (by omega) (by omega) (by omega)))
      have hc177 : M139 (m + 3) = some (sArr G 300 t) := ((hf144 (m + 3) (by omega) (by omega) (by omega)).trans (ga136 ((m + 3)) (by omega) (by omega))).trans hm3
      have hc178 : M139 (m + 4) = some (sArr G 11 A4) := ((hf144 (m + 4) (by omega) (by omega) (by omega)).trans (ga136 ((m + 4)) (by omega) (by omega))).trans hm4
      have hc179 : M139 (m + 5) = some (sArr G 1024 A5) := ((hf144 (m + 5) (by omega) (by omega) (by omega)).trans (ga136 ((m + 5)) (by omega) (by omega))).trans hm5
      have hc180 : M139 (m + 6) = some (sArr G 1024 A6) := ((hf144 (m + 6) (by omega) (by omega) (by omega)).trans (ga136 ((m + 6)) (by omega) (by omega))).trans hm6
      have hc181 : M139 (m + 7) = some (sArr G 10 A7) := ((hf144 (m + 7) (by omega) (by omega) (by omega)).trans (ga136 ((m + 7)) (by omega) (by omega))).trans hm7
      have hc182 : M139 (m + 8) = some (sArr G 10 A8) := ((hf144 (m + 8) (by omega) (by omega) (by omega)).trans (ga136 ((m + 8)) (by omega) (by omega))).trans hm8
      have hc183 : M139 (m + 9) = some (sArr G 62 A9) := ((hf144 (m + 9) (by omega) (by omega) (by omega)).trans (ga136 ((m + 9)) (by omega) (by omega))).trans hm9
      have hc184 : M139 (m + 10) = some (sArr G 8 A10) := ((hf144 (m + 10) (by omega) (by omega) (by omega)).trans (ga136 ((m + 10)) (by omega) (by omega))).trans hm10
      have hc185 : M139 (m + 11) = some (sArr G 8 A11) := ((hf144 (m + 11) (by omega) (by omega) (by omega)).trans (ga136 ((m + 11)) (by omega) (by omega))).trans hm11
      have hc186 : M139 (m + 12) = some (sArr G 60 A12) := ((hf144 (m + 12) (by omega) (by omega) (by omega)).trans (ga136 ((m + 12)) (by omega) (by omega))).trans hm12
      have hc187 : M139 (m + 13) = some (sArr G 240 A13) := ((hf144 (m + 13) (by omega) (by omega) (by omega)).trans (ga136 ((m + 13)) (by omega) (by omega))).trans hm13
      have hc188 : M139 (m + 14) = some (sArr G 574 A14) := ((hf144 (m + 14) (by omega) (by omega) (by omega)).trans (ga136 ((m + 14)) (by omega) (by omega))).trans hm14
      have hc189 : M139 (m + 15) = some (sArr G 200 T2) := ((hf144 (m + 15) (by omega) (by omega) (by omega)).trans (ga136 ((m + 15)) (by omega) (by omega))).trans hm15
      exact W.widen (by omega) (by omega) (hk _ _ _ _ _ (by omega) ⟨_, _, _, _, _, _, _, _, _, _, _, _, _, _, _, _, _, _, _, _, _, _, _, _, _, _, hc166, hc167, hc168, hc169, hc170, hc171, hc172, hc173, hc174, hc175, hc176, hc158, hc159, hc160, hc177, hc178, hc179, hc180, hc181, hc182, hc183, hc184, hc185, hc186, hc187, hc188, hc189, hc163, lF_k hchr hlF (g_sd hlF.1 (by omega) (by omega) (by omega) (by omega) (by omega)), htp, hwr⟩ hV (lv_sub hl [2, 3, 4, 5, 6] rfl))

theorem nx_part_0_1 {p : Int} {q : Int} {B : Prop} {f : sF} (h1 : ¬ ((0 ≤ p ∧ p ≤ 5) ∧ (0 ≤ q ∧ q ≤ 5))) (h2 : ((0 ≤ p ∧ p ≤ 5) ∧ (0 ≤ q ∧ q ≤ 5)) ∧ B ∧ lieP f p q) : False := by
  first
  | omega
  | (simp_all; done)
  | (simp_all; omega)
theorem nx_part_0_2 {p : Int} {q : Int} {B : Prop} {f : sF} (h1 : ¬ ((0 ≤ p ∧ p ≤ 5) ∧ (0 ≤ q ∧ q ≤ 5))) (h2 : ((0 ≤ p ∧ p ≤ 5) ∧ (0 ≤ q ∧ q ≤ 5)) ∧ ¬ (B ∧ lieP f p q)) : False := by
  first
  | omega
  | (simp_all; done)
  | (simp_all; omega)
theorem nx_part_1_0 {p : Int} {q : Int} {B : Prop} {f : sF} (h1 : ((0 ≤ p ∧ p ≤ 5) ∧ (0 ≤ q ∧ q ≤ 5)) ∧ B ∧ lieP f p q) (h2 : ¬ ((0 ≤ p ∧ p ≤ 5) ∧ (0 ≤ q ∧ q ≤ 5))) : False := by
  first
  | omega
  | (simp_all; done)
  | (simp_all; omega)
theorem nx_part_1_2 {p : Int} {q : Int} {B : Prop} {f : sF} (h1 : ((0 ≤ p ∧ p ≤ 5) ∧ (0 ≤ q ∧ q ≤ 5)) ∧ B ∧ lieP f p q) (h2 : ((0 ≤ p ∧ p ≤ 5) ∧ (0 ≤ q ∧ q ≤ 5)) ∧ ¬ (B ∧ lieP f p q)) : False := by
  first
  | omega
  | (simp_all; done)
  | (simp_all; omega)
theorem nx_part_2_0 {p : Int} {q : Int} {B : Prop} {f : sF} (h1 : ((0 ≤ p ∧ p ≤ 5) ∧ (0 ≤ q ∧ q ≤ 5)) ∧ ¬ (B ∧ lieP f p q)) (h2 : ¬ ((0 ≤ p ∧ p ≤ 5) ∧ (0 ≤ q ∧ q ≤ 5))) : False := by
  first
  | omega
  | (simp_all; done)
  | (simp_all; omega)
theorem nx_part_2_1 {p : Int} {q : Int} {B : Prop} {f : sF} (h1 : ((0 ≤ p ∧ p ≤ 5) ∧ (0 ≤ q ∧ q ≤ 5)) ∧ ¬ (B ∧ lieP f p q)) (h2 : ((0 ≤ p ∧ p ≤ 5) ∧ (0 ≤ q ∧ q ≤ 5)) ∧ B ∧ lieP f p q) : False := by
  first
  | omega
  | (simp_all; done)
  | (simp_all; omega)
set_option maxHeartbeats 4000000 in
set_option maxRecDepth 100000 in
theorem law_18 {p_ : Program} {l_ : Launch} {e_ : Env} {s_ : State} {m_ : MethodId} {args_ : Array Value} {below_ : List Frame} {meth_ : Method} {c_ : Code} {nm_ : String} {G : sG} {b_ : Nat} {M0 : sM} {N0 : Nat} {Q : State → Prop} (E : sE p_ l_ e_ room_1 s_ m_ args_ below_ meth_ c_ cL_law 9 wsL_law RL nm_ (some .boolean) G b_ M0 N0) (hF_ : xcF s_) (hlt : l_.stackTraces = false) {z L : Nat} {xs : Nat → Int32} (hX : va_X z L xs s_ s_.heap) (hzb : z < b_) {c m o kb : Nat} (hg : c + 60 ≤ m ∧ m + 16 ≤ o ∧ o < kb) {cc_ ss_ : Nat} (hcc : cc_ + 1170 ≤ room_1.cells ∧ ss_ + 14000 ≤ room_1.slots) {q i : Int} (hi : 0 ≤ i ∧ i + 6 ≤ L ∧ (L : Int) ≤ 3072) (hq : 0 ≤ q ∧ q ≤ 600) {M : sM} {N : Nat} (hkN : kb ≤ N) (hI : lI G M c m o kb q) {H : Heap} {locs : List Loc} {ls : Array Slot} (hV : sV G b_ M N s_ H locs) (hl : lv_has ls 9 [(0, .ref z), (1, .ref c), (2, .ref m), (3, .ref o), (4, .int (sI i))])
    (hk : ∀ (M1 : sM) (N1 : Nat) (H1 : Heap) (locs1 : List Loc) (ls1 : Array Slot), kb ≤ N1 → lI G M1 c m o kb (q + 1) → sV G b_ M1 N1 s_ H1 locs1 → lv_has ls1 9 [(0, .ref z), (1, .ref c), (2, .ref m), (3, .ref o), (4, .int (sI i))] → W p_ l_ e_ room_1 s_ m_ args_ below_ meth_ c_ H1 locs1 (cc_ + 1170) (ss_ + 14000) Q (F0 m_ 2853 ls1 [])) : W p_ l_ e_ room_1 s_ m_ args_ below_ meth_ c_ H locs cc_ ss_ Q (F0 m_ 1250 ls []) := by
  have S := E.1
  have hx_ := S.1
  have hb_ := S.2.1
  have hK := E.2.2.2.2.1
  have hI2 := hI
  obtain ⟨kn, ch, f, fs, tn, te, t, wc, wn, T, T2, th, sn, nm, g0, A4, A5, A6, A7, A8, A9, A10, A11, A12, A13, A14, hc0, hst, htr, hkp, ht0, ht1, hct, hft, hly, hkn, hex, hm0, hm1, hsv, hm3, hm4, hm5, hm6, hm7, hm8, hm9, hm10, hm11, hm12, hm13, hm14, hm15, ho9, hlF, htp, hwr⟩ := hI2
  have hok := hlF.1.1
  have hdI := hlF.1.2.1
  have hsL := hlF.1.2.2.1
  have hclk := hlF.1.2.2.2
  have hchr : 0 ≤ ch ∧ ch ≤ 15 := ⟨hkp.r.2.2.1, hkp.r.2.2.2⟩
  have htp1 := htp.1
  have htp2 := htp.2.1
  have hwq := wrQ_e hwr
  have hwq1 := hwq.1
  have hwq2 := hwq.2.1
  have kn0 := sOk_N hok
  refine lv_aload_n hx_ hb_ dL_law_1250 rfl (lv_at hl 1 rfl) ?_
  refine lv_aload_n hx_ hb_ dL_law_1251 rfl (lv_at hl 0 rfl) ?_
  refine lv_iload hx_ hb_ dL_law_1252 (lv_at hl 4 rfl) ?_
  refine si_const S dL_law_1254 ?_
  refine si_add S dL_law_1255 ?_
  refine sc_sld S hV hX hzb (by omega) dL_law_1256 ?_
  refine lv_aload_n hx_ hb_ dL_law_1257 rfl (lv_at hl 0 rfl) ?_
  refine lv_iload hx_ hb_ dL_law_1258 (lv_at hl 4 rfl) ?_
  refine si_const S dL_law_1260 ?_
  refine si_add S dL_law_1261 ?_
  refine sc_sld S hV hX hzb (by omega) dL_law_1262 ?_
  refine lv_aload_n hx_ hb_ dL_law_1263 rfl (lv_at hl 0 rfl) ?_
  refine lv_iload hx_ hb_ dL_law_1264 (lv_at hl 4 rfl) ?_
  refine si_const S dL_law_1266 ?_
  refine si_add S dL_law_1267 ?_
  refine sc_sld S hV hX hzb (by omega) dL_law_1268 ?_
  refine sb_bool (t0 := 1276) (t1 := 1277) S (lX_r xs _) dL_law_1269 (by decide) dL_law_1272 dL_law_1273 (by decide) dL_law_1276 rfl ?_
  refine lv_aload_n hx_ hb_ dL_law_1277 rfl (lv_at hl 3 rfl) ?_
  refine yk_Si (hh := [(0, 19, 22, 19), (0, 19, 26, 13)]) E hF_ hV (As := [.ref c, .int (sI (lX xs (i + 1))), .int (sI (lX xs (i + 2))), .int (sI (bI (lX xs (i + 3) ≠ 0))), .ref o]) (rest := []) (kL_part l_ G b_ M N o g0 c kn ch f kb fs (lX xs (i + 1)) (lX xs (i + 2)) (lX xs (i + 3) ≠ 0) hc0 hst hkp ho9 (hlt) (hok) (by omega) (by omega) (⟨lX_r xs _, lX_r xs _⟩) (by omega) (by omega)) (vx_cwSW 5 S.2.2.2.2 gL_law_L_part rfl rfl rfl (by decide +kernel) ⟨Nat.le_of_ble_eq_true rfl, Nat.le_of_ble_eq_true rfl⟩) rfl rfl hl.1 (Nat.le_of_ble_eq_true rfl) dL_law_1278 (c1 := cc_ + 25) (s1 := ss_ + 3000) ⟨⟨rfl, rfl⟩, by omega, by omega⟩ (fun z4 M1 N2 H locs hp3 hV => ?_)
  obtain ⟨kn15, hN6, hf7, hq8⟩ := hp3
  rcases hq8 with ⟨c9, ez10, hc11, hc12, hc13, hc14⟩ | ⟨c15, ez16, hc17, hc18, hc19, hc20⟩ | ⟨c21, ez22, hc23, hc24, hc25, hc26⟩
  · rw [ez10]
    refine lv_istore (lv' := [(5, .int (sI 1)), (0, .ref z), (1, .ref c), (2, .ref m), (3, .ref o), (4, .int (sI i))]) hx_ hb_ dL_law_1281 hl (by decide) rfl (fun ls hl => ?_)
    refine lv_aload_n hx_ hb_ dL_law_1283 rfl (lv_at hl 3 rfl) ?_
    refine lv_aload_n hx_ hb_ dL_law_1284 rfl (lv_at hl 1 rfl) ?_
    refine lv_iload hx_ hb_ dL_law_1285 (lv_at hl 5 rfl) ?_
    refine si_const S dL_law_1287 ?_
    refine si_add S dL_law_1288 ?_
    refine sc_sld S hV hX hzb (by omega) dL_law_1289 ?_
    refine lv_aload_n hx_ hb_ dL_law_1290 rfl (lv_at hl 1 rfl) ?_
    refine lv_iload hx_ hb_ dL_law_1291 (lv_at hl 5 rfl) ?_
    refine si_const S dL_law_1293 ?_
    refine si_add S dL_law_1294 ?_
    refine sc_sld S hV hX hzb (by omega) dL_law_1295 ?_
    refine lv_aload_n hx_ hb_ dL_law_1296 rfl (lv_at hl 1 rfl) ?_
    refine lv_iload hx_ hb_ dL_law_1297 (lv_at hl 5 rfl) ?_
    refine si_const S dL_law_1299 ?_
    refine si_add S dL_law_1300 ?_
    refine sc_sld S hV hX hzb (by omega) dL_law_1301 ?_
    refine sb_bool (t0 := 1309) (t1 := 1310) S (lX_r xs _) dL_law_1302 (by decide) dL_law_1305 dL_law_1306 (by decide) dL_law_1309 rfl ?_
    have ga28 : ∀ x : Nat, m ≤ x → x < m + 16 → M1 x = M x := fun x u1 u2 => hf7 x (by omega) (by omega) (by omega) (by omega) (by omega)
    have hc27 : M1 m = some (mO m th ch tn te sn nm wn) := (ga28 m (by omega) (by omega)).trans hm0
    have hc29 : M1 (m + 1) = some (sArr G 574 f) := (ga28 ((m + 1)) (by omega) (by omega)).trans hm1
    have hc30 : svC G M1 (m + 2) ch fs := hsv.fr (fun x q8 q9 => ga28 x (by omega) (by omega))
    refine sk_Vi E hV (As := [.int (sI (lX xs (i + 1))), .int (sI (lX xs (i + 2))), .int (sI (bI (lX xs (i + 3) ≠ 0)))]) (rest := []) (kX11_part l_ G b_ M1 N2 m th ch tn te sn nm wn f fs (lX xs (i + 1)) (lX xs (i + 2)) (lX xs (i + 3) ≠ 0) hc27 hc29 hc30 (hok) (hchr) (⟨lX_r xs _, lX_r xs _⟩)) (cwV 3 S.2.2.2.2 gL_law_X11_part rfl rfl rfl (by decide +kernel) ⟨Nat.le_of_ble_eq_true rfl, Nat.le_of_ble_eq_true rfl⟩) (ci := 9) hc27 rfl rfl rfl hl.1 (Nat.le_of_ble_eq_true rfl) dL_law_1310 (c1 := cc_ + 25) (s1 := ss_ + 3000) ⟨⟨rfl, rfl⟩, by omega, by omega⟩ (fun z34 M31 N32 H locs hp33 hV => ?_)
    obtain ⟨hN35, hf36, hq37⟩ := hp33
    rw [hN35] at hV
    rcases hq37 with ⟨c38, ez39, hc40, hc41, hc42⟩ | ⟨c43, ez44, hc45, hc46, hc47⟩ | ⟨c48, ez49, hc50, hc51, hc52⟩
    · rw [ez39]
      refine lv_istore (lv' := [(6, .int (sI 0)), (5, .int (sI 1)), (0, .ref z), (1, .ref c), (2, .ref m), (3, .ref o), (4, .int (sI i))]) hx_ hb_ dL_law_1313 hl (by decide) rfl (fun ls hl => ?_)
      refine lv_aload_n hx_ hb_ dL_law_1315 rfl (lv_at hl 4 rfl) ?_
      refine sk_VP E hV (As := []) (rest := []) (kX11_thrown l_ G b_ M31 N2 m 1 ch tn te sn nm wn hc40) (cwV 0 S.2.2.2.2 gL_law_X11_thrown rfl rfl rfl (by decide +kernel) ⟨Nat.le_of_ble_eq_true rfl, Nat.le_of_ble_eq_true rfl⟩) (ci := 9) hc40 rfl rfl rfl hl.1 (Nat.le_of_ble_eq_true rfl) dL_law_1316 (c1 := cc_ + 25) (s1 := ss_ + 3000) ⟨⟨rfl, rfl⟩, by omega, by omega⟩ (fun H locs hV => ?_)
      refine lv_iload hx_ hb_ dL_law_1319 (lv_at hl 1 rfl) ?_
      refine sb_eq (tgt := 1326) S dL_law_1321 (by decide) (by omega) (fun _ => ?_) (fun c53 => absurd c53 (by omega))
      refine lv_iload hx_ hb_ dL_law_1326 (lv_at hl 1 rfl) ?_
      refine sz_ne (tgt := 1350) S dL_law_1328 (by decide) (by omega) (fun _ => ?_) (fun c54 => absurd c54 (by omega))
      refine lv_goto (tgt := 2853) hx_ hb_ dL_law_1350 (by decide) ?_
      have gb56 : ∀ x : Nat, (x < m ∨ m + 16 ≤ x) → M31 x = M1 x := fun x u1 => hf36 x (by omega) (by omega) (by omega)
      have hc55 : M31 c = some (xO c kn15 ch) := (gb56 c (by omega)).trans hc11
      have hc57 : stC G M31 (c + 1) f := hc12.fr (fun x q8 q9 => gb56 x (by omega))
      have hc58 : triC G M31 (c + 16) := htr.fr (fun x q8 q9 => (gb56 x (by omega)).trans (hf7 x (by omega) (by omega) (by omega) (by omega) (by omega)))
      have hc59 : kpC G M31 (c + 31) kb kn15 ch fs := hc13.fr (fun x q8 => gb56 x (by omega))
      have hc60 : M31 (c + 32) = some (sObj 7 [.ref (c + 33), .int (sI tn), .int (sI te)]) := ((gb56 ((c + 32)) (by omega)).trans (hf7 (c + 32) (by omega) (by omega) (by omega) (by omega) (by omega))).trans ht0
      have hc61 : M31 (c + 33) = some (sArr G 300 t) := ((gb56 ((c + 33)) (by omega)).trans (hf7 (c + 33) (by omega) (by omega) (by omega) (by omega) (by omega))).trans ht1
      have hc62 : catC G M31 (c + 34) wc T := hct.fr (fun x q8 q9 => (gb56 x (by omega)).trans (hf7 x (by omega) (by omega) (by omega) (by omega) (by omega)))
      have hc63 : orfC G M31 (c + 38) := hft.fr (fun x q8 q9 => (gb56 x (by omega)).trans (hf7 x (by omega) (by omega) (by omega) (by omega) (by omega)))
      have hc64 : layC G M31 (c + 48) := hly.fr (fun x q8 q9 => (gb56 x (by omega)).trans (hf7 x (by omega) (by omega) (by omega) (by omega) (by omega)))
      have hc65 : knoC G M31 (c + 54) := hkn.fr (fun x q8 q9 => (gb56 x (by omega)).trans (hf7 x (by omega) (by omega) (by omega) (by omega) (by omega)))
      have hc66 : excC G M31 (c + 57) := hex.fr (fun x q8 q9 => (gb56 x (by omega)).trans (hf7 x (by omega) (by omega) (by omega) (by omega) (by omega)))
      have hc67 : M31 (m + 3) = some (sArr G 300 t) := ((hf36 (m + 3) (by omega) (by omega) (by omega)).trans (ga28 ((m + 3)) (by omega) (by omega))).trans hm3
      have hc68 : M31 (m + 4) = some (sArr G 11 A4) := ((hf36 (m + 4) (by omega) (by omega) (by omega)).trans (ga28 ((m + 4)) (by omega) (by omega))).trans hm4
      have hc69 : M31 (m + 5) = some (sArr G 1024 A5) := ((hf36 (m + 5) (by omega) (by omega) (by omega)).trans (ga28 ((m + 5)) (by omega) (by omega))).trans hm5
      have hc70 : M31 (m + 6) = some (sArr G 1024 A6) := ((hf36 (m + 6) (by omega) (by omega) (by omega)).trans (ga28 ((m + 6)) (by omega) (by omega))).trans hm6
      have hc71 : M31 (m + 7) = some (sArr G 10 A7) := ((hf36 (m + 7) (by omega) (by omega) (by omega)).trans (ga28 ((m + 7)) (by omega) (by omega))).trans hm7
      have hc72 : M31 (m + 8) = some (sArr G 10 A8) := ((hf36 (m + 8) (by omega) (by omega) (by omega)).trans (ga28 ((m + 8)) (by omega) (by omega))).trans hm8
      have hc73 : M31 (m + 9) = some (sArr G 62 A9) := ((hf36 (m + 9) (by omega) (by omega) (by omega)).trans (ga28 ((m + 9)) (by omega) (by omega))).trans hm9
      have hc74 : M31 (m + 10) = some (sArr G 8 A10) := ((hf36 (m + 10) (by omega) (by omega) (by omega)).trans (ga28 ((m + 10)) (by omega) (by omega))).trans hm10
      have hc75 : M31 (m + 11) = some (sArr G 8 A11) := ((hf36 (m + 11) (by omega) (by omega) (by omega)).trans (ga28 ((m + 11)) (by omega) (by omega))).trans hm11
      have hc76 : M31 (m + 12) = some (sArr G 60 A12) := ((hf36 (m + 12) (by omega) (by omega) (by omega)).trans (ga28 ((m + 12)) (by omega) (by omega))).trans hm12
      have hc77 : M31 (m + 13) = some (sArr G 240 A13) := ((hf36 (m + 13) (by omega) (by omega) (by omega)).trans (ga28 ((m + 13)) (by omega) (by omega))).trans hm13
      have hc78 : M31 (m + 14) = some (sArr G 574 A14) := ((hf36 (m + 14) (by omega) (by omega) (by omega)).trans (ga28 ((m + 14)) (by omega) (by omega))).trans hm14
      have hc79 : M31 (m + 15) = some (sArr G 200 T2) := ((hf36 (m + 15) (by omega) (by omega) (by omega)).trans (ga28 ((m + 15)) (by omega) (by omega))).trans hm15
      have hc80 : M31 o = some (sArL G 1 g0) := (gb56 o (by omega)).trans hc14
      exact W.widen (by omega) (by omega) (hk _ _ _ _ _ (by omega) ⟨_, _, _, _, _, _, _, _, _, _, _, _, _, _, _, _, _, _, _, _, _, _, _, _, _, _, hc55, hc57, hc58, hc59, hc60, hc61, hc62, hc63, hc64, hc65, hc66, hc40, hc41, hc42, hc67, hc68, hc69, hc70, hc71, hc72, hc73, hc74, hc75, hc76, hc77, hc78, hc79, hc80, lF_s hlF, htp, hwr⟩ hV (lv_sub hl [2, 3, 4, 5, 6] rfl))
    · rw [ez44]
      exact (nx_part_0_1 c9 c43).elim
    · rw [ez49]
      exact (nx_part_0_2 c9 c48).elim
  · rw [ez16]
    refine lv_istore (lv' := [(5, .int (sI 2)), (0, .ref z), (1, .ref c), (2, .ref m), (3, .ref o), (4, .int (sI i))]) hx_ hb_ dL_law_1281 hl (by decide) rfl (fun ls hl => ?_)
    refine lv_aload_n hx_ hb_ dL_law_1283 rfl (lv_at hl 3 rfl) ?_
    refine lv_aload_n hx_ hb_ dL_law_1284 rfl (lv_at hl 1 rfl) ?_
    refine lv_iload hx_ hb_ dL_law_1285 (lv_at hl 5 rfl) ?_
    refine si_const S dL_law_1287 ?_
    refine si_add S dL_law_1288 ?_
    refine sc_sld S hV hX hzb (by omega) dL_law_1289 ?_
    refine lv_aload_n hx_ hb_ dL_law_1290 rfl (lv_at hl 1 rfl) ?_
    refine lv_iload hx_ hb_ dL_law_1291 (lv_at hl 5 rfl) ?_
    refine si_const S dL_law_1293 ?_
    refine si_add S dL_law_1294 ?_
    refine sc_sld S hV hX hzb (by omega) dL_law_1295 ?_
    refine lv_aload_n hx_ hb_ dL_law_1296 rfl (lv_at hl 1 rfl) ?_
    refine lv_iload hx_ hb_ dL_law_1297 (lv_at hl 5 rfl) ?_
    refine si_const S dL_law_1299 ?_
    refine si_add S dL_law_1300 ?_
    refine sc_sld S hV hX hzb (by omega) dL_law_1301 ?_
    refine sb_bool (t0 := 1309) (t1 := 1310) S (lX_r xs _) dL_law_1302 (by decide) dL_law_1305 dL_law_1306 (by decide) dL_law_1309 rfl ?_
    have ga82 : ∀ x : Nat, m ≤ x → x < m + 16 → M1 x = M x := fun x u1 u2 => hf7 x (by omega) (by omega) (by omega) (by omega) (by omega)
    have hc81 : M1 m = some (mO m th ch tn te sn nm wn) := (ga82 m (by omega) (by omega)).trans hm0
    have hc83 : M1 (m + 1) = some (sArr G 574 f) := (ga82 ((m + 1)) (by omega) (by omega)).trans hm1
    have hc84 : svC G M1 (m + 2) ch fs := hsv.fr (fun x q8 q9 => ga82 x (by omega) (by omega))
    refine sk_Vi E hV (As := [.int (sI (lX xs (i + 1))), .int (sI (lX xs (i + 2))), .int (sI (bI (lX xs (i + 3) ≠ 0)))]) (rest := []) (kX11_part l_ G b_ M1 N2 m th ch tn te sn nm wn f fs (lX xs (i + 1)) (lX xs (i + 2)) (lX xs (i + 3) ≠ 0) hc81 hc83 hc84 (hok) (hchr) (⟨lX_r xs _, lX_r xs _⟩)) (cwV 3 S.2.2.2.2 gL_law_X11_part rfl rfl rfl (by decide +kernel) ⟨Nat.le_of_ble_eq_true rfl, Nat.le_of_ble_eq_true rfl⟩) (ci := 9) hc81 rfl rfl rfl hl.1 (Nat.le_of_ble_eq_true rfl) dL_law_1310 (c1 := cc_ + 25) (s1 := ss_ + 3000) ⟨⟨rfl, rfl⟩, by omega, by omega⟩ (fun z88 M85 N86 H locs hp87 hV => ?_)
    obtain ⟨hN89, hf90, hq91⟩ := hp87
    rw [hN89] at hV
    rcases hq91 with ⟨c92, ez93, hc94, hc95, hc96⟩ | ⟨c97, ez98, hc99, hc100, hc101⟩ | ⟨c102, ez103, hc104, hc105, hc106⟩
    · rw [ez93]
      exact (nx_part_1_0 c15 c92).elim
    · rw [ez98]
      refine lv_istore (lv' := [(6, .int (sI 0)), (5, .int (sI 2)), (0, .ref z), (1, .ref c), (2, .ref m), (3, .ref o), (4, .int (sI i))]) hx_ hb_ dL_law_1313 hl (by decide) rfl (fun ls hl => ?_)
      refine lv_aload_n hx_ hb_ dL_law_1315 rfl (lv_at hl 4 rfl) ?_
      refine sk_VP E hV (As := []) (rest := []) (kX11_thrown l_ G b_ M85 N2 m 2 ch tn te sn nm wn hc99) (cwV 0 S.2.2.2.2 gL_law_X11_thrown rfl rfl rfl (by decide +kernel) ⟨Nat.le_of_ble_eq_true rfl, Nat.le_of_ble_eq_true rfl⟩) (ci := 9) hc99 rfl rfl rfl hl.1 (Nat.le_of_ble_eq_true rfl) dL_law_1316 (c1 := cc_ + 25) (s1 := ss_ + 3000) ⟨⟨rfl, rfl⟩, by omega, by omega⟩ (fun H locs hV => ?_)
      refine lv_iload hx_ hb_ dL_law_1319 (lv_at hl 1 rfl) ?_
      refine sb_eq (tgt := 1326) S dL_law_1321 (by decide) (by omega) (fun _ => ?_) (fun c107 => absurd c107 (by omega))
      refine lv_iload hx_ hb_ dL_law_1326 (lv_at hl 1 rfl) ?_
      refine sz_ne (tgt := 1350) S dL_law_1328 (by decide) (by omega) (fun _ => ?_) (fun c108 => absurd c108 (by omega))
      refine lv_goto (tgt := 2853) hx_ hb_ dL_law_1350 (by decide) ?_
      have gb110 : ∀ x : Nat, (x < m ∨ m + 16 ≤ x) → M85 x = M1 x := fun x u1 => hf90 x (by omega) (by omega) (by omega)
      have hc109 : M85 c = some (xO c kn15 ch) := (gb110 c (by omega)).trans hc17
      have hc111 : stC G M85 (c + 1) f := hc18.fr (fun x q8 q9 => gb110 x (by omega))
      have hc112 : triC G M85 (c + 16) := htr.fr (fun x q8 q9 => (gb110 x (by omega)).trans (hf7 x (by omega) (by omega) (by omega) (by omega) (by omega)))
      have hc113 : kpC G M85 (c + 31) kb kn15 ch fs := hc19.fr (fun x q8 => gb110 x (by omega))
      have hc114 : M85 (c + 32) = some (sObj 7 [.ref (c + 33), .int (sI tn), .int (sI te)]) := ((gb110 ((c + 32)) (by omega)).trans (hf7 (c + 32) (by omega) (by omega) (by omega) (by omega) (by omega))).trans ht0
      have hc115 : M85 (c + 33) = some (sArr G 300 t) := ((gb110 ((c + 33)) (by omega)).trans (hf7 (c + 33) (by omega) (by omega) (by omega) (by omega) (by omega))).trans ht1
      have hc116 : catC G M85 (c + 34) wc T := hct.fr (fun x q8 q9 => (gb110 x (by omega)).trans (hf7 x (by omega) (by omega) (by omega) (by omega) (by omega)))
      have hc117 : orfC G M85 (c + 38) := hft.fr (fun x q8 q9 => (gb110 x (by omega)).trans (hf7 x (by omega) (by omega) (by omega) (by omega) (by omega)))
      have hc118 : layC G M85 (c + 48) := hly.fr (fun x q8 q9 => (gb110 x (by omega)).trans (hf7 x (by omega) (by omega) (by omega) (by omega) (by omega)))
      have hc119 : knoC G M85 (c + 54) := hkn.fr (fun x q8 q9 => (gb110 x (by omega)).trans (hf7 x (by omega) (by omega) (by omega) (by omega) (by omega)))
      have hc120 : excC G M85 (c + 57) := hex.fr (fun x q8 q9 => (gb110 x (by omega)).trans (hf7 x (by omega) (by omega) (by omega) (by omega) (by omega)))
      have hc121 : M85 (m + 3) = some (sArr G 300 t) := ((hf90 (m + 3) (by omega) (by omega) (by omega)).trans (ga82 ((m + 3)) (by omega) (by omega))).trans hm3
      have hc122 : M85 (m + 4) = some (sArr G 11 A4) := ((hf90 (m + 4) (by omega) (by omega) (by omega)).trans (ga82 ((m + 4)) (by omega) (by omega))).trans hm4
      have hc123 : M85 (m + 5) = some (sArr G 1024 A5) := ((hf90 (m + 5) (by omega) (by omega) (by omega)).trans (ga82 ((m + 5)) (by omega) (by omega))).trans hm5
      have hc124 : M85 (m + 6) = some (sArr G 1024 A6) := ((hf90 (m + 6) (by omega) (by omega) (by omega)).trans (ga82 ((m + 6)) (by omega) (by omega))).trans hm6
      have hc125 : M85 (m + 7) = some (sArr G 10 A7) := ((hf90 (m + 7) (by omega) (by omega) (by omega)).trans (ga82 ((m + 7)) (by omega) (by omega))).trans hm7
      have hc126 : M85 (m + 8) = some (sArr G 10 A8) := ((hf90 (m + 8) (by omega) (by omega) (by omega)).trans (ga82 ((m + 8)) (by omega) (by omega))).trans hm8
      have hc127 : M85 (m + 9) = some (sArr G 62 A9) := ((hf90 (m + 9) (by omega) (by omega) (by omega)).trans (ga82 ((m + 9)) (by omega) (by omega))).trans hm9
      have hc128 : M85 (m + 10) = some (sArr G 8 A10) := ((hf90 (m + 10) (by omega) (by omega) (by omega)).trans (ga82 ((m + 10)) (by omega) (by omega))).trans hm10
      have hc129 : M85 (m + 11) = some (sArr G 8 A11) := ((hf90 (m + 11) (by omega) (by omega) (by omega)).trans (ga82 ((m + 11)) (by omega) (by omega))).trans hm11
      have hc130 : M85 (m + 12) = some (sArr G 60 A12) := ((hf90 (m + 12) (by omega) (by omega) (by omega)).trans (ga82 ((m + 12)) (by omega) (by omega))).trans hm12
      have hc131 : M85 (m + 13) = some (sArr G 240 A13) := ((hf90 (m + 13) (by omega) (by omega) (by omega)).trans (ga82 ((m + 13)) (by omega) (by omega))).trans hm13
      have hc132 : M85 (m + 14) = some (sArr G 574 A14) := ((hf90 (m + 14) (by omega) (by omega) (by omega)).trans (ga82 ((m + 14)) (by omega) (by omega))).trans hm14
      have hc133 : M85 (m + 15) = some (sArr G 200 T2) := ((hf90 (m + 15) (by omega) (by omega) (by omega)).trans (ga82 ((m + 15)) (by omega) (by omega))).trans hm15
      have hc134 : M85 o = some (sArL G 1 g0) := (gb110 o (by omega)).trans hc20
      exact W.widen (by omega) (by omega) (hk _ _ _ _ _ (by omega) ⟨_, _, _, _, _, _, _, _, _, _, _, _, _, _, _, _, _, _, _, _, _, _, _, _, _, _, hc109, hc111, hc112, hc113, hc114, hc115, hc116, hc117, hc118, hc119, hc120, hc99, hc100, hc101, hc121, hc122, hc123, hc124, hc125, hc126, hc127, hc128, hc129, hc130, hc131, hc132, hc133, hc134, lF_s hlF, htp, hwr⟩ hV (lv_sub hl [2, 3, 4, 5, 6] rfl))
    · rw [ez103]
      exact (nx_part_1_2 c15 c102).elim
  · rw [ez22]
    refine lv_istore (lv' := [(5, .int (sI 0)), (0, .ref z), (1, .ref c), (2, .ref m), (3, .ref o), (4, .int (sI i))]) hx_ hb_ dL_law_1281 hl (by decide) rfl (fun ls hl => ?_)
    refine lv_aload_n hx_ hb_ dL_law_1283 rfl (lv_at hl 3 rfl) ?_
    refine lv_aload_n hx_ hb_ dL_law_1284 rfl (lv_at hl 1 rfl) ?_
    refine lv_iload hx_ hb_ dL_law_1285 (lv_at hl 5 rfl) ?_
    refine si_const S dL_law_1287 ?_
    refine si_add S dL_law_1288 ?_
    refine sc_sld S hV hX hzb (by omega) dL_law_1289 ?_
    refine lv_aload_n hx_ hb_ dL_law_1290 rfl (lv_at hl 1 rfl) ?_
    refine lv_iload hx_ hb_ dL_law_1291 (lv_at hl 5 rfl) ?_
    refine si_const S dL_law_1293 ?_
    refine si_add S dL_law_1294 ?_
    refine sc_sld S hV hX hzb (by omega) dL_law_1295 ?_
    refine lv_aload_n hx_ hb_ dL_law_1296 rfl (lv_at hl 1 rfl) ?_
    refine lv_iload hx_ hb_ dL_law_1297 (lv_at hl 5 rfl) ?_
    refine si_const S dL_law_1299 ?_
    refine si_add S dL_law_1300 ?_
    refine sc_sld S hV hX hzb (by omega) dL_law_1301 ?_
    refine sb_bool (t0 := 1309) (t1 := 1310) S (lX_r xs _) dL_law_1302 (by decide) dL_law_1305 dL_law_1306 (by decide) dL_law_1309 rfl ?_
    have ga136 : ∀ x : Nat, m ≤ x → x < m + 16 → M1 x = M x := fun x u1 u2 => hf7 x (by omega) (by omega) (by omega) (by omega) (by omega)
    have hc135 : M1 m = some (mO m th ch tn te sn nm wn) := (ga136 m (by omega) (by omega)).trans hm0
    have hc137 : M1 (m + 1) = some (sArr G 574 f) := (ga136 ((m + 1)) (by omega) (by omega)).trans hm1
    have hc138 : svC G M1 (m + 2) ch fs := hsv.fr (fun x q8 q9 => ga136 x (by omega) (by omega))
    refine sk_Vi E hV (As := [.int (sI (lX xs (i + 1))), .int (sI (lX xs (i + 2))), .int (sI (bI (lX xs (i + 3) ≠ 0)))]) (rest := []) (kX11_part l_ G b_ M1 N2 m th ch tn te sn nm wn f fs (lX xs (i + 1)) (lX xs (i + 2)) (lX xs (i + 3) ≠ 0) hc135 hc137 hc138 (hok) (hchr) (⟨lX_r xs _, lX_r xs _⟩)) (cwV 3 S.2.2.2.2 gL_law_X11_part rfl rfl rfl (by decide +kernel) ⟨Nat.le_of_ble_eq_true rfl, Nat.le_of_ble_eq_true rfl⟩) (ci := 9) hc135 rfl rfl rfl hl.1 (Nat.le_of_ble_eq_true rfl) dL_law_1310 (c1 := cc_ + 25) (s1 := ss_ + 3000) ⟨⟨rfl, rfl⟩, by omega, by omega⟩ (fun z142 M139 N140 H locs hp141 hV => ?_)
    obtain ⟨hN143, hf144, hq145⟩ := hp141
    rw [hN143] at hV
    rcases hq145 with ⟨c146, ez147, hc148, hc149, hc150⟩ | ⟨c151, ez152, hc153, hc154, hc155⟩ | ⟨c156, ez157, hc158, hc159, hc160⟩
    · rw [ez147]
      exact (nx_part_2_0 c21 c146).elim
    · rw [ez152]
      exact (nx_part_2_1 c21 c151).elim
    · rw [ez157]
      refine lv_istore (lv' := [(6, .int (sI (bI (tb (f (158 + (lX xs (i + 1)))) (lX xs (i + 2)))))), (5, .int (sI 0)), (0, .ref z), (1, .ref c), (2, .ref m), (3, .ref o), (4, .int (sI i))]) hx_ hb_ dL_law_1313 hl (by decide) rfl (fun ls hl => ?_)
      refine lv_aload_n hx_ hb_ dL_law_1315 rfl (lv_at hl 4 rfl) ?_
      refine sk_VP E hV (As := []) (rest := []) (kX11_thrown l_ G b_ M139 N2 m 0 (chn ch) tn te sn nm wn hc158) (cwV 0 S.2.2.2.2 gL_law_X11_thrown rfl rfl rfl (by decide +kernel) ⟨Nat.le_of_ble_eq_true rfl, Nat.le_of_ble_eq_true rfl⟩) (ci := 9) hc158 rfl rfl rfl hl.1 (Nat.le_of_ble_eq_true rfl) dL_law_1316 (c1 := cc_ + 25) (s1 := ss_ + 3000) ⟨⟨rfl, rfl⟩, by omega, by omega⟩ (fun H locs hV => ?_)
      refine lv_iload hx_ hb_ dL_law_1319 (lv_at hl 1 rfl) ?_
      refine sb_eq (tgt := 1326) S dL_law_1321 (by decide) (by omega) (fun _ => ?_) (fun c161 => absurd c161 (by omega))
      refine lv_iload hx_ hb_ dL_law_1326 (lv_at hl 1 rfl) ?_
      refine sz_ne (tgt := 1350) S dL_law_1328 (by decide) (by omega) (fun c162 => absurd c162 (by omega)) (fun _ => ?_)
      refine lv_aload_n hx_ hb_ dL_law_1331 rfl (lv_at hl 5 rfl) ?_
      refine si_const S dL_law_1332 ?_
      have gb164 : ∀ x : Nat, (x < m ∨ m + 16 ≤ x) → M139 x = M1 x := fun x u1 => hf144 x (by omega) (by omega) (by omega)
      have hc163 : M139 o = some (sArL G 1 (iup g0 0 (bI (tb (f (158 + (lX xs (i + 1)))) (lX xs (i + 2)))))) := (gb164 o (by omega)).trans hc26
      refine sc_lald S hK hV hc163 (by omega) dL_law_1333 ?_
      rw [show (iup g0 0 (bI (tb (f (158 + (lX xs (i + 1)))) (lX xs (i + 2))))) 0 = bI (tb (f (158 + (lX xs (i + 1)))) (lX xs (i + 2))) from if_pos rfl]
      refine lv_iload hx_ hb_ dL_law_1334 (lv_at hl 0 rfl) ?_
      refine sb_boolL (t0 := 1343) (t1 := 1344) S dL_law_1336 (by decide) dL_law_1339 dL_law_1340 (by decide) dL_law_1343 rfl ?_
      refine sl_cmp0 S (rfl) dL_law_1344 ?_
      refine sz_eq (tgt := 1350) S dL_law_1345 (by decide) (by omega) (fun _ => ?_) (fun c165 => absurd c165 (by omega))
      refine lv_goto (tgt := 2853) hx_ hb_ dL_law_1350 (by decide) ?_
      have hc166 : M139 c = some (xO c kn15 (chn ch)) := (gb164 c (by omega)).trans hc23
      have hc167 : stC G M139 (c + 1) (prF f (lX xs (i + 3) ≠ 0) (lX xs (i + 1)) (lX xs (i + 2))) := hc24.fr (fun x q8 q9 => gb164 x (by omega))
      have hc168 : triC G M139 (c + 16) := htr.fr (fun x q8 q9 => (gb164 x (by omega)).trans (hf7 x (by omega) (by omega) (by omega) (by omega) (by omega)))
      have hc169 : kpC G M139 (c + 31) kb kn15 (chn ch) (fsn ch fs f) := hc25.fr (fun x q8 => gb164 x (by omega))
      have hc170 : M139 (c + 32) = some (sObj 7 [.ref (c + 33), .int (sI tn), .int (sI te)]) := ((gb164 ((c + 32)) (by omega)).trans (hf7 (c + 32) (by omega) (by omega) (by omega) (by omega) (by omega))).trans ht0
      have hc171 : M139 (c + 33) = some (sArr G 300 t) := ((gb164 ((c + 33)) (by omega)).trans (hf7 (c + 33) (by omega) (by omega) (by omega) (by omega) (by omega))).trans ht1
      have hc172 : catC G M139 (c + 34) wc T := hct.fr (fun x q8 q9 => (gb164 x (by omega)).trans (hf7 x (by omega) (by omega) (by omega) (by omega) (by omega)))
      have hc173 : orfC G M139 (c + 38) := hft.fr (fun x q8 q9 => (gb164 x (by omega)).trans (hf7 x (by omega) (by omega) (by omega) (by omega) (by omega)))
      have hc174 : layC G M139 (c + 48) := hly.fr (fun x q8 q9 => (gb164 x (by omega)).trans (hf7 x (by omega) (by omega) (by omega) (by omega) (by omega)))
      have hc175 : knoC G M139 (c + 54) := hkn.fr (fun x q8 q9 => (gb164 x (by omega)).trans (hf7 x (by omega) (by omega) (by omega) (by omega) (by omega)))
      have hc176 : excC G M139 (c + 57) := hex.fr (fun x q8 q9 => (gb164 x (by omega)).trans (hf7 x (by omega) (by omega) (by omega) (by omega) (by omega)))
      have hc177 : M139 (m + 3) = some (sArr G 300 t) := ((hf144 (m + 3) (by omega) (by omega) (by omega)).trans (ga136 ((m + 3)) (by omega) (by omega))).trans hm3
      have hc178 : M139 (m + 4) = some (sArr G 11 A4) := ((hf144 (m + 4) (by omega) (by omega) (by omega)).trans (ga136 ((m + 4)) (by omega) (by omega))).trans hm4
      have hc179 : M139 (m + 5) = some (sArr G 1024 A5) := ((hf144 (m + 5) (by omega) (by omega) (by omega)).trans (ga136 ((m + 5)) (by omega) (by omega))).trans hm5
      have hc180 : M139 (m + 6) = some (sArr G 1024 A6) := ((hf144 (m + 6) (by omega) (by omega) (by omega)).trans (ga136 ((m + 6)) (by omega) (by omega))).trans hm6
      have hc181 : M139 (m + 7) = some (sArr G 10 A7) := ((hf144 (m + 7) (by omega) (by omega) (by omega)).trans (ga136 ((m + 7)) (by omega) (by omega))).trans hm7
      have hc182 : M139 (m + 8) = some (sArr G 10 A8) := ((hf144 (m + 8) (by omega) (by omega) (by omega)).trans (ga136 ((m + 8)) (by omega) (by omega))).trans hm8
      have hc183 : M139 (m + 9) = some (sArr G 62 A9) := ((hf144 (m + 9) (by omega) (by omega) (by omega)).trans (ga136 ((m + 9)) (by omega) (by omega))).trans hm9
      have hc184 : M139 (m + 10) = some (sArr G 8 A10) := ((hf144 (m + 10) (by omega) (by omega) (by omega)).trans (ga136 ((m + 10)) (by omega) (by omega))).trans hm10
      have hc185 : M139 (m + 11) = some (sArr G 8 A11) := ((hf144 (m + 11) (by omega) (by omega) (by omega)).trans (ga136 ((m + 11)) (by omega) (by omega))).trans hm11
      have hc186 : M139 (m + 12) = some (sArr G 60 A12) := ((hf144 (m + 12) (by omega) (by omega) (by omega)).trans (ga136 ((m + 12)) (by omega) (by omega))).trans hm12
      have hc187 : M139 (m + 13) = some (sArr G 240 A13) := ((hf144 (m + 13) (by omega) (by omega) (by omega)).trans (ga136 ((m + 13)) (by omega) (by omega))).trans hm13
      have hc188 : M139 (m + 14) = some (sArr G 574 A14) := ((hf144 (m + 14) (by omega) (by omega) (by omega)).trans (ga136 ((m + 14)) (by omega) (by omega))).trans hm14
      have hc189 : M139 (m + 15) = some (sArr G 200 T2) := ((hf144 (m + 15) (by omega) (by omega) (by omega)).trans (ga136 ((m + 15)) (by omega) (by omega))).trans hm15
      exact W.widen (by omega) (by omega) (hk _ _ _ _ _ (by omega) ⟨_, _, _, _, _, _, _, _, _, _, _, _, _, _, _, _, _, _, _, _, _, _, _, _, _, _, hc166, hc167, hc168, hc169, hc170, hc171, hc172, hc173, hc174, hc175, hc176, hc158, hc159, hc160, hc177, hc178, hc179, hc180, hc181, hc182, hc183, hc184, hc185, hc186, hc187, hc188, hc189, hc163, lF_k hchr hlF (g_pr hlF.1 (by omega) (by omega) c21.2), htp, hwr⟩ hV (lv_sub hl [2, 3, 4, 5, 6] rfl))

theorem nx_lay_0_1 {s : Int} {f : sF} {d : Int} (h1 : ¬ (0 ≤ s ∧ s < f 568)) (h2 : (0 ≤ s ∧ s < f 568) ∧ ¬ (d = -1 ∨ 0 ≤ d ∧ d ≤ 3)) : False := by
  first
  | omega
  | (simp_all; done)
  | (simp_all; omega)
theorem nx_lay_0_2 {s : Int} {f : sF} {d : Int} (h1 : ¬ (0 ≤ s ∧ s < f 568)) (h2 : (0 ≤ s ∧ s < f 568) ∧ (d = -1 ∨ 0 ≤ d ∧ d ≤ 3)) : False := by
  first
  | omega
  | (simp_all; done)
  | (simp_all; omega)
theorem nx_lay_1_0 {s : Int} {f : sF} {d : Int} (h1 : ((0 ≤ s ∧ s < f 568)) ∧ ¬ (d = -1 ∨ 0 ≤ d ∧ d ≤ 3)) (h2 : ¬ (0 ≤ s ∧ s < f 568)) : False := by
  first
  | omega
  | (simp_all; done)
  | (simp_all; omega)
theorem nx_lay_1_2 {s : Int} {f : sF} {d : Int} (h1 : ((0 ≤ s ∧ s < f 568)) ∧ ¬ (d = -1 ∨ 0 ≤ d ∧ d ≤ 3)) (h2 : (0 ≤ s ∧ s < f 568) ∧ (d = -1 ∨ 0 ≤ d ∧ d ≤ 3)) : False := by
  first
  | omega
  | (simp_all; done)
  | (simp_all; omega)
theorem nx_lay_2_0 {s : Int} {f : sF} {d : Int} (h1 : ((0 ≤ s ∧ s < f 568)) ∧ (d = -1 ∨ 0 ≤ d ∧ d ≤ 3)) (h2 : ¬ (0 ≤ s ∧ s < f 568)) : False := by
  first
  | omega
  | (simp_all; done)
  | (simp_all; omega)
theorem nx_lay_2_1 {s : Int} {f : sF} {d : Int} (h1 : ((0 ≤ s ∧ s < f 568)) ∧ (d = -1 ∨ 0 ≤ d ∧ d ≤ 3)) (h2 : (0 ≤ s ∧ s < f 568) ∧ ¬ (d = -1 ∨ 0 ≤ d ∧ d ≤ 3)) : False := by
  first
  | omega
  | (simp_all; done)
  | (simp_all; omega)
set_option maxHeartbeats 4000000 in
set_option maxRecDepth 100000 in
theorem law_19 {p_ : Program} {l_ : Launch} {e_ : Env} {s_ : State} {m_ : MethodId} {args_ : Array Value} {below_ : List Frame} {meth_ : Method} {c_ : Code} {nm_ : String} {G : sG} {b_ : Nat} {M0 : sM} {N0 : Nat} {Q : State → Prop} (E : sE p_ l_ e_ room_1 s_ m_ args_ below_ meth_ c_ cL_law 9 wsL_law RL nm_ (some .boolean) G b_ M0 N0) (hF_ : xcF s_) (hlt : l_.stackTraces = false) {z L : Nat} {xs : Nat → Int32} (hX : va_X z L xs s_ s_.heap) (hzb : z < b_) {c m o kb : Nat} (hg : c + 60 ≤ m ∧ m + 16 ≤ o ∧ o < kb) {cc_ ss_ : Nat} (hcc : cc_ + 1170 ≤ room_1.cells ∧ ss_ + 14000 ≤ room_1.slots) {q i : Int} (hi : 0 ≤ i ∧ i + 6 ≤ L ∧ (L : Int) ≤ 3072) (hq : 0 ≤ q ∧ q ≤ 600) {M : sM} {N : Nat} (hkN : kb ≤ N) (hI : lI G M c m o kb q) {H : Heap} {locs : List Loc} {ls : Array Slot} (hV : sV G b_ M N s_ H locs) (hl : lv_has ls 9 [(0, .ref z), (1, .ref c), (2, .ref m), (3, .ref o), (4, .int (sI i))])
    (hk : ∀ (M1 : sM) (N1 : Nat) (H1 : Heap) (locs1 : List Loc) (ls1 : Array Slot), kb ≤ N1 → lI G M1 c m o kb (q + 1) → sV G b_ M1 N1 s_ H1 locs1 → lv_has ls1 9 [(0, .ref z), (1, .ref c), (2, .ref m), (3, .ref o), (4, .int (sI i))] → W p_ l_ e_ room_1 s_ m_ args_ below_ meth_ c_ H1 locs1 (cc_ + 1170) (ss_ + 14000) Q (F0 m_ 2853 ls1 [])) : W p_ l_ e_ room_1 s_ m_ args_ below_ meth_ c_ H locs cc_ ss_ Q (F0 m_ 1353 ls []) := by
  have S := E.1
  have hx_ := S.1
  have hb_ := S.2.1
  have hK := E.2.2.2.2.1
  have hI2 := hI
  obtain ⟨kn, ch, f, fs, tn, te, t, wc, wn, T, T2, th, sn, nm, g0, A4, A5, A6, A7, A8, A9, A10, A11, A12, A13, A14, hc0, hst, htr, hkp, ht0, ht1, hct, hft, hly, hkn, hex, hm0, hm1, hsv, hm3, hm4, hm5, hm6, hm7, hm8, hm9, hm10, hm11, hm12, hm13, hm14, hm15, ho9, hlF, htp, hwr⟩ := hI2
  have hok := hlF.1.1
  have hdI := hlF.1.2.1
  have hsL := hlF.1.2.2.1
  have hclk := hlF.1.2.2.2
  have hchr : 0 ≤ ch ∧ ch ≤ 15 := ⟨hkp.r.2.2.1, hkp.r.2.2.2⟩
  have htp1 := htp.1
  have htp2 := htp.2.1
  have hwq := wrQ_e hwr
  have hwq1 := hwq.1
  have hwq2 := hwq.2.1
  have kn0 := sOk_N hok
  refine lv_aload_n hx_ hb_ dL_law_1353 rfl (lv_at hl 1 rfl) ?_
  refine lv_aload_n hx_ hb_ dL_law_1354 rfl (lv_at hl 0 rfl) ?_
  refine lv_iload hx_ hb_ dL_law_1355 (lv_at hl 4 rfl) ?_
  refine si_const S dL_law_1357 ?_
  refine si_add S dL_law_1358 ?_
  refine sc_sld S hV hX hzb (by omega) dL_law_1359 ?_
  refine lv_aload_n hx_ hb_ dL_law_1360 rfl (lv_at hl 0 rfl) ?_
  refine lv_iload hx_ hb_ dL_law_1361 (lv_at hl 4 rfl) ?_
  refine si_const S dL_law_1363 ?_
  refine si_add S dL_law_1364 ?_
  refine sc_sld S hV hX hzb (by omega) dL_law_1365 ?_
  refine lv_aload_n hx_ hb_ dL_law_1366 rfl (lv_at hl 3 rfl) ?_
  refine yk_Si (hh := [(0, 10, 13, 25), (0, 10, 17, 19)]) E hF_ hV (As := [.ref c, .int (sI (lX xs (i + 1))), .int (sI (lX xs (i + 2))), .ref o]) (rest := []) (kL_lay l_ G b_ M N o g0 c kn ch f kb fs (lX xs (i + 1)) (lX xs (i + 2)) hc0 hst hkp ho9 (hlt) (hok) (by omega) (by omega) (hdI) (⟨lX_r xs _, lX_r xs _⟩) (by omega) (by omega)) (vx_cwSW 4 S.2.2.2.2 gL_law_L_lay rfl rfl rfl (by decide +kernel) ⟨Nat.le_of_ble_eq_true rfl, Nat.le_of_ble_eq_true rfl⟩) rfl rfl hl.1 (Nat.le_of_ble_eq_true rfl) dL_law_1367 (c1 := cc_ + 25) (s1 := ss_ + 3000) ⟨⟨rfl, rfl⟩, by omega, by omega⟩ (fun z4 M1 N2 H locs hp3 hV => ?_)
  obtain ⟨kn15, hN6, hf7, hq8⟩ := hp3
  rcases hq8 with ⟨c9, ez10, hc11, hc12, hc13, hc14⟩ | ⟨c15, ez16, hc17, hc18, hc19, hc20⟩ | ⟨c21, ez22, hc23, hc24, hc25, hc26⟩
  · rw [ez10]
    refine lv_istore (lv' := [(5, .int (sI 1)), (0, .ref z), (1, .ref c), (2, .ref m), (3, .ref o), (4, .int (sI i))]) hx_ hb_ dL_law_1370 hl (by decide) rfl (fun ls hl => ?_)
    refine lv_aload_n hx_ hb_ dL_law_1372 rfl (lv_at hl 3 rfl) ?_
    refine lv_aload_n hx_ hb_ dL_law_1373 rfl (lv_at hl 1 rfl) ?_
    refine lv_iload hx_ hb_ dL_law_1374 (lv_at hl 5 rfl) ?_
    refine si_const S dL_law_1376 ?_
    refine si_add S dL_law_1377 ?_
    refine sc_sld S hV hX hzb (by omega) dL_law_1378 ?_
    refine lv_aload_n hx_ hb_ dL_law_1379 rfl (lv_at hl 1 rfl) ?_
    refine lv_iload hx_ hb_ dL_law_1380 (lv_at hl 5 rfl) ?_
    refine si_const S dL_law_1382 ?_
    refine si_add S dL_law_1383 ?_
    refine sc_sld S hV hX hzb (by omega) dL_law_1384 ?_
    have ga28 : ∀ x : Nat, m ≤ x → x < m + 16 → M1 x = M x := fun x u1 u2 => hf7 x (by omega) (by omega) (by omega) (by omega) (by omega)
    have hc27 : M1 m = some (mO m th ch tn te sn nm wn) := (ga28 m (by omega) (by omega)).trans hm0
    have hc29 : M1 (m + 1) = some (sArr G 574 f) := (ga28 ((m + 1)) (by omega) (by omega)).trans hm1
    have hc30 : svC G M1 (m + 2) ch fs := hsv.fr (fun x q8 q9 => ga28 x (by omega) (by omega))
    have hc31 : M1 (m + 8) = some (sArr G 10 A8) := (ga28 ((m + 8)) (by omega) (by omega)).trans hm8
    refine sk_Vi E hV (As := [.int (sI (lX xs (i + 1))), .int (sI (lX xs (i + 2)))]) (rest := []) (kX11_lay l_ G b_ M1 N2 m th ch tn te sn nm wn f fs A8 (lX xs (i + 1)) (lX xs (i + 2)) hc27 hc29 hc30 hc31 (hok) (hchr) (⟨lX_r xs _, lX_r xs _⟩)) (cwV 2 S.2.2.2.2 gL_law_X11_lay rfl rfl rfl (by decide +kernel) ⟨Nat.le_of_ble_eq_true rfl, Nat.le_of_ble_eq_true rfl⟩) (ci := 9) hc27 rfl rfl rfl hl.1 (Nat.le_of_ble_eq_true rfl) dL_law_1385 (c1 := cc_ + 25) (s1 := ss_ + 3000) ⟨⟨rfl, rfl⟩, by omega, by omega⟩ (fun z35 M32 N33 H locs hp34 hV => ?_)
    obtain ⟨p936, hN37, hc38, hf39, hq40⟩ := hp34
    rw [hN37] at hV
    rcases hq40 with ⟨c41, ez42, hc43, hc44, hc45⟩ | ⟨c46, ez47, hc48, hc49, hc50⟩ | ⟨c51, ez52, hc53, hc54, hc55⟩
    · rw [ez42]
      refine lv_istore (lv' := [(6, .int (sI 0)), (5, .int (sI 1)), (0, .ref z), (1, .ref c), (2, .ref m), (3, .ref o), (4, .int (sI i))]) hx_ hb_ dL_law_1388 hl (by decide) rfl (fun ls hl => ?_)
      refine lv_aload_n hx_ hb_ dL_law_1390 rfl (lv_at hl 4 rfl) ?_
      refine sk_VP E hV (As := []) (rest := []) (kX11_thrown l_ G b_ M32 N2 m 1 ch tn te sn nm wn hc43) (cwV 0 S.2.2.2.2 gL_law_X11_thrown rfl rfl rfl (by decide +kernel) ⟨Nat.le_of_ble_eq_true rfl, Nat.le_of_ble_eq_true rfl⟩) (ci := 9) hc43 rfl rfl rfl hl.1 (Nat.le_of_ble_eq_true rfl) dL_law_1391 (c1 := cc_ + 25) (s1 := ss_ + 3000) ⟨⟨rfl, rfl⟩, by omega, by omega⟩ (fun H locs hV => ?_)
      refine lv_iload hx_ hb_ dL_law_1394 (lv_at hl 1 rfl) ?_
      refine sb_eq (tgt := 1401) S dL_law_1396 (by decide) (by omega) (fun _ => ?_) (fun c56 => absurd c56 (by omega))
      refine lv_iload hx_ hb_ dL_law_1401 (lv_at hl 1 rfl) ?_
      refine sz_ne (tgt := 1418) S dL_law_1403 (by decide) (by omega) (fun _ => ?_) (fun c57 => absurd c57 (by omega))
      refine lv_goto (tgt := 2853) hx_ hb_ dL_law_1418 (by decide) ?_
      have gb59 : ∀ x : Nat, (x < m ∨ m + 16 ≤ x) → M32 x = M1 x := fun x u1 => hf39 x (by omega) (by omega) (by omega) (by omega)
      have hc58 : M32 c = some (xO c kn15 ch) := (gb59 c (by omega)).trans hc11
      have hc60 : stC G M32 (c + 1) f := hc12.fr (fun x q8 q9 => gb59 x (by omega))
      have hc61 : triC G M32 (c + 16) := htr.fr (fun x q8 q9 => (gb59 x (by omega)).trans (hf7 x (by omega) (by omega) (by omega) (by omega) (by omega)))
      have hc62 : kpC G M32 (c + 31) kb kn15 ch fs := hc13.fr (fun x q8 => gb59 x (by omega))
      have hc63 : M32 (c + 32) = some (sObj 7 [.ref (c + 33), .int (sI tn), .int (sI te)]) := ((gb59 ((c + 32)) (by omega)).trans (hf7 (c + 32) (by omega) (by omega) (by omega) (by omega) (by omega))).trans ht0
      have hc64 : M32 (c + 33) = some (sArr G 300 t) := ((gb59 ((c + 33)) (by omega)).trans (hf7 (c + 33) (by omega) (by omega) (by omega) (by omega) (by omega))).trans ht1
      have hc65 : catC G M32 (c + 34) wc T := hct.fr (fun x q8 q9 => (gb59 x (by omega)).trans (hf7 x (by omega) (by omega) (by omega) (by omega) (by omega)))
      have hc66 : orfC G M32 (c + 38) := hft.fr (fun x q8 q9 => (gb59 x (by omega)).trans (hf7 x (by omega) (by omega) (by omega) (by omega) (by omega)))
      have hc67 : layC G M32 (c + 48) := hly.fr (fun x q8 q9 => (gb59 x (by omega)).trans (hf7 x (by omega) (by omega) (by omega) (by omega) (by omega)))
      have hc68 : knoC G M32 (c + 54) := hkn.fr (fun x q8 q9 => (gb59 x (by omega)).trans (hf7 x (by omega) (by omega) (by omega) (by omega) (by omega)))
      have hc69 : excC G M32 (c + 57) := hex.fr (fun x q8 q9 => (gb59 x (by omega)).trans (hf7 x (by omega) (by omega) (by omega) (by omega) (by omega)))
      have hc70 : M32 (m + 3) = some (sArr G 300 t) := ((hf39 (m + 3) (by omega) (by omega) (by omega) (by omega)).trans (ga28 ((m + 3)) (by omega) (by omega))).trans hm3
      have hc71 : M32 (m + 4) = some (sArr G 11 A4) := ((hf39 (m + 4) (by omega) (by omega) (by omega) (by omega)).trans (ga28 ((m + 4)) (by omega) (by omega))).trans hm4
      have hc72 : M32 (m + 5) = some (sArr G 1024 A5) := ((hf39 (m + 5) (by omega) (by omega) (by omega) (by omega)).trans (ga28 ((m + 5)) (by omega) (by omega))).trans hm5
      have hc73 : M32 (m + 6) = some (sArr G 1024 A6) := ((hf39 (m + 6) (by omega) (by omega) (by omega) (by omega)).trans (ga28 ((m + 6)) (by omega) (by omega))).trans hm6
      have hc74 : M32 (m + 7) = some (sArr G 10 A7) := ((hf39 (m + 7) (by omega) (by omega) (by omega) (by omega)).trans (ga28 ((m + 7)) (by omega) (by omega))).trans hm7
      have hc75 : M32 (m + 9) = some (sArr G 62 A9) := ((hf39 (m + 9) (by omega) (by omega) (by omega) (by omega)).trans (ga28 ((m + 9)) (by omega) (by omega))).trans hm9
      have hc76 : M32 (m + 10) = some (sArr G 8 A10) := ((hf39 (m + 10) (by omega) (by omega) (by omega) (by omega)).trans (ga28 ((m + 10)) (by omega) (by omega))).trans hm10
      have hc77 : M32 (m + 11) = some (sArr G 8 A11) := ((hf39 (m + 11) (by omega) (by omega) (by omega) (by omega)).trans (ga28 ((m + 11)) (by omega) (by omega))).trans hm11
      have hc78 : M32 (m + 12) = some (sArr G 60 A12) := ((hf39 (m + 12) (by omega) (by omega) (by omega) (by omega)).trans (ga28 ((m + 12)) (by omega) (by omega))).trans hm12
      have hc79 : M32 (m + 13) = some (sArr G 240 A13) := ((hf39 (m + 13) (by omega) (by omega) (by omega) (by omega)).trans (ga28 ((m + 13)) (by omega) (by omega))).trans hm13
      have hc80 : M32 (m + 14) = some (sArr G 574 A14) := ((hf39 (m + 14) (by omega) (by omega) (by omega) (by omega)).trans (ga28 ((m + 14)) (by omega) (by omega))).trans hm14
      have hc81 : M32 (m + 15) = some (sArr G 200 T2) := ((hf39 (m + 15) (by omega) (by omega) (by omega) (by omega)).trans (ga28 ((m + 15)) (by omega) (by omega))).trans hm15
      have hc82 : M32 o = some (sArL G 1 g0) := (gb59 o (by omega)).trans hc14
      exact W.widen (by omega) (by omega) (hk _ _ _ _ _ (by omega) ⟨_, _, _, _, _, _, _, _, _, _, _, _, _, _, _, _, _, _, _, _, _, _, _, _, _, _, hc58, hc60, hc61, hc62, hc63, hc64, hc65, hc66, hc67, hc68, hc69, hc43, hc44, hc45, hc70, hc71, hc72, hc73, hc74, hc38, hc75, hc76, hc77, hc78, hc79, hc80, hc81, hc82, lF_s hlF, htp, hwr⟩ hV (lv_sub hl [2, 3, 4, 5, 6] rfl))
    · rw [ez47]
      exact (nx_lay_0_1 c9 c46).elim
    · rw [ez52]
      exact (nx_lay_0_2 c9 c51).elim
  · rw [ez16]
    refine lv_istore (lv' := [(5, .int (sI 2)), (0, .ref z), (1, .ref c), (2, .ref m), (3, .ref o), (4, .int (sI i))]) hx_ hb_ dL_law_1370 hl (by decide) rfl (fun ls hl => ?_)
    refine lv_aload_n hx_ hb_ dL_law_1372 rfl (lv_at hl 3 rfl) ?_
    refine lv_aload_n hx_ hb_ dL_law_1373 rfl (lv_at hl 1 rfl) ?_
    refine lv_iload hx_ hb_ dL_law_1374 (lv_at hl 5 rfl) ?_
    refine si_const S dL_law_1376 ?_
    refine si_add S dL_law_1377 ?_
    refine sc_sld S hV hX hzb (by omega) dL_law_1378 ?_
    refine lv_aload_n hx_ hb_ dL_law_1379 rfl (lv_at hl 1 rfl) ?_
    refine lv_iload hx_ hb_ dL_law_1380 (lv_at hl 5 rfl) ?_
    refine si_const S dL_law_1382 ?_
    refine si_add S dL_law_1383 ?_
    refine sc_sld S hV hX hzb (by omega) dL_law_1384 ?_
    have ga84 : ∀ x : Nat, m ≤ x → x < m + 16 → M1 x = M x := fun x u1 u2 => hf7 x (by omega) (by omega) (by omega) (by omega) (by omega)
    have hc83 : M1 m = some (mO m th ch tn te sn nm wn) := (ga84 m (by omega) (by omega)).trans hm0
    have hc85 : M1 (m + 1) = some (sArr G 574 f) := (ga84 ((m + 1)) (by omega) (by omega)).trans hm1
    have hc86 : svC G M1 (m + 2) ch fs := hsv.fr (fun x q8 q9 => ga84 x (by omega) (by omega))
    have hc87 : M1 (m + 8) = some (sArr G 10 A8) := (ga84 ((m + 8)) (by omega) (by omega)).trans hm8
    refine sk_Vi E hV (As := [.int (sI (lX xs (i + 1))), .int (sI (lX xs (i + 2)))]) (rest := []) (kX11_lay l_ G b_ M1 N2 m th ch tn te sn nm wn f fs A8 (lX xs (i + 1)) (lX xs (i + 2)) hc83 hc85 hc86 hc87 (hok) (hchr) (⟨lX_r xs _, lX_r xs _⟩)) (cwV 2 S.2.2.2.2 gL_law_X11_lay rfl rfl rfl (by decide +kernel) ⟨Nat.le_of_ble_eq_true rfl, Nat.le_of_ble_eq_true rfl⟩) (ci := 9) hc83 rfl rfl rfl hl.1 (Nat.le_of_ble_eq_true rfl) dL_law_1385 (c1 := cc_ + 25) (s1 := ss_ + 3000) ⟨⟨rfl, rfl⟩, by omega, by omega⟩ (fun z91 M88 N89 H locs hp90 hV => ?_)
    obtain ⟨p992, hN93, hc94, hf95, hq96⟩ := hp90
    rw [hN93] at hV
    rcases hq96 with ⟨c97, ez98, hc99, hc100, hc101⟩ | ⟨c102, ez103, hc104, hc105, hc106⟩ | ⟨c107, ez108, hc109, hc110, hc111⟩
    · rw [ez98]
      exact (nx_lay_1_0 c15 c97).elim
    · rw [ez103]
      refine lv_istore (lv' := [(6, .int (sI 0)), (5, .int (sI 2)), (0, .ref z), (1, .ref c), (2, .ref m), (3, .ref o), (4, .int (sI i))]) hx_ hb_ dL_law_1388 hl (by decide) rfl (fun ls hl => ?_)
      refine lv_aload_n hx_ hb_ dL_law_1390 rfl (lv_at hl 4 rfl) ?_
      refine sk_VP E hV (As := []) (rest := []) (kX11_thrown l_ G b_ M88 N2 m 2 ch tn te sn nm wn hc104) (cwV 0 S.2.2.2.2 gL_law_X11_thrown rfl rfl rfl (by decide +kernel) ⟨Nat.le_of_ble_eq_true rfl, Nat.le_of_ble_eq_true rfl⟩) (ci := 9) hc104 rfl rfl rfl hl.1 (Nat.le_of_ble_eq_true rfl) dL_law_1391 (c1 := cc_ + 25) (s1 := ss_ + 3000) ⟨⟨rfl, rfl⟩, by omega, by omega⟩ (fun H locs hV => ?_)
      refine lv_iload hx_ hb_ dL_law_1394 (lv_at hl 1 rfl) ?_
      refine sb_eq (tgt := 1401) S dL_law_1396 (by decide) (by omega) (fun _ => ?_) (fun c112 => absurd c112 (by omega))
      refine lv_iload hx_ hb_ dL_law_1401 (lv_at hl 1 rfl) ?_
      refine sz_ne (tgt := 1418) S dL_law_1403 (by decide) (by omega) (fun _ => ?_) (fun c113 => absurd c113 (by omega))
      refine lv_goto (tgt := 2853) hx_ hb_ dL_law_1418 (by decide) ?_
      have gb115 : ∀ x : Nat, (x < m ∨ m + 16 ≤ x) → M88 x = M1 x := fun x u1 => hf95 x (by omega) (by omega) (by omega) (by omega)
      have hc114 : M88 c = some (xO c kn15 ch) := (gb115 c (by omega)).trans hc17
      have hc116 : stC G M88 (c + 1) f := hc18.fr (fun x q8 q9 => gb115 x (by omega))
      have hc117 : triC G M88 (c + 16) := htr.fr (fun x q8 q9 => (gb115 x (by omega)).trans (hf7 x (by omega) (by omega) (by omega) (by omega) (by omega)))
      have hc118 : kpC G M88 (c + 31) kb kn15 ch fs := hc19.fr (fun x q8 => gb115 x (by omega))
      have hc119 : M88 (c + 32) = some (sObj 7 [.ref (c + 33), .int (sI tn), .int (sI te)]) := ((gb115 ((c + 32)) (by omega)).trans (hf7 (c + 32) (by omega) (by omega) (by omega) (by omega) (by omega))).trans ht0
      have hc120 : M88 (c + 33) = some (sArr G 300 t) := ((gb115 ((c + 33)) (by omega)).trans (hf7 (c + 33) (by omega) (by omega) (by omega) (by omega) (by omega))).trans ht1
      have hc121 : catC G M88 (c + 34) wc T := hct.fr (fun x q8 q9 => (gb115 x (by omega)).trans (hf7 x (by omega) (by omega) (by omega) (by omega) (by omega)))
      have hc122 : orfC G M88 (c + 38) := hft.fr (fun x q8 q9 => (gb115 x (by omega)).trans (hf7 x (by omega) (by omega) (by omega) (by omega) (by omega)))
      have hc123 : layC G M88 (c + 48) := hly.fr (fun x q8 q9 => (gb115 x (by omega)).trans (hf7 x (by omega) (by omega) (by omega) (by omega) (by omega)))
      have hc124 : knoC G M88 (c + 54) := hkn.fr (fun x q8 q9 => (gb115 x (by omega)).trans (hf7 x (by omega) (by omega) (by omega) (by omega) (by omega)))
      have hc125 : excC G M88 (c + 57) := hex.fr (fun x q8 q9 => (gb115 x (by omega)).trans (hf7 x (by omega) (by omega) (by omega) (by omega) (by omega)))
      have hc126 : M88 (m + 3) = some (sArr G 300 t) := ((hf95 (m + 3) (by omega) (by omega) (by omega) (by omega)).trans (ga84 ((m + 3)) (by omega) (by omega))).trans hm3
      have hc127 : M88 (m + 4) = some (sArr G 11 A4) := ((hf95 (m + 4) (by omega) (by omega) (by omega) (by omega)).trans (ga84 ((m + 4)) (by omega) (by omega))).trans hm4
      have hc128 : M88 (m + 5) = some (sArr G 1024 A5) := ((hf95 (m + 5) (by omega) (by omega) (by omega) (by omega)).trans (ga84 ((m + 5)) (by omega) (by omega))).trans hm5
      have hc129 : M88 (m + 6) = some (sArr G 1024 A6) := ((hf95 (m + 6) (by omega) (by omega) (by omega) (by omega)).trans (ga84 ((m + 6)) (by omega) (by omega))).trans hm6
      have hc130 : M88 (m + 7) = some (sArr G 10 A7) := ((hf95 (m + 7) (by omega) (by omega) (by omega) (by omega)).trans (ga84 ((m + 7)) (by omega) (by omega))).trans hm7
      have hc131 : M88 (m + 9) = some (sArr G 62 A9) := ((hf95 (m + 9) (by omega) (by omega) (by omega) (by omega)).trans (ga84 ((m + 9)) (by omega) (by omega))).trans hm9
      have hc132 : M88 (m + 10) = some (sArr G 8 A10) := ((hf95 (m + 10) (by omega) (by omega) (by omega) (by omega)).trans (ga84 ((m + 10)) (by omega) (by omega))).trans hm10
      have hc133 : M88 (m + 11) = some (sArr G 8 A11) := ((hf95 (m + 11) (by omega) (by omega) (by omega) (by omega)).trans (ga84 ((m + 11)) (by omega) (by omega))).trans hm11
      have hc134 : M88 (m + 12) = some (sArr G 60 A12) := ((hf95 (m + 12) (by omega) (by omega) (by omega) (by omega)).trans (ga84 ((m + 12)) (by omega) (by omega))).trans hm12
      have hc135 : M88 (m + 13) = some (sArr G 240 A13) := ((hf95 (m + 13) (by omega) (by omega) (by omega) (by omega)).trans (ga84 ((m + 13)) (by omega) (by omega))).trans hm13
      have hc136 : M88 (m + 14) = some (sArr G 574 A14) := ((hf95 (m + 14) (by omega) (by omega) (by omega) (by omega)).trans (ga84 ((m + 14)) (by omega) (by omega))).trans hm14
      have hc137 : M88 (m + 15) = some (sArr G 200 T2) := ((hf95 (m + 15) (by omega) (by omega) (by omega) (by omega)).trans (ga84 ((m + 15)) (by omega) (by omega))).trans hm15
      have hc138 : M88 o = some (sArL G 1 g0) := (gb115 o (by omega)).trans hc20
      exact W.widen (by omega) (by omega) (hk _ _ _ _ _ (by omega) ⟨_, _, _, _, _, _, _, _, _, _, _, _, _, _, _, _, _, _, _, _, _, _, _, _, _, _, hc114, hc116, hc117, hc118, hc119, hc120, hc121, hc122, hc123, hc124, hc125, hc104, hc105, hc106, hc126, hc127, hc128, hc129, hc130, hc94, hc131, hc132, hc133, hc134, hc135, hc136, hc137, hc138, lF_s hlF, htp, hwr⟩ hV (lv_sub hl [2, 3, 4, 5, 6] rfl))
    · rw [ez108]
      exact (nx_lay_1_2 c15 c107).elim
  · rw [ez22]
    refine lv_istore (lv' := [(5, .int (sI 0)), (0, .ref z), (1, .ref c), (2, .ref m), (3, .ref o), (4, .int (sI i))]) hx_ hb_ dL_law_1370 hl (by decide) rfl (fun ls hl => ?_)
    refine lv_aload_n hx_ hb_ dL_law_1372 rfl (lv_at hl 3 rfl) ?_
    refine lv_aload_n hx_ hb_ dL_law_1373 rfl (lv_at hl 1 rfl) ?_
    refine lv_iload hx_ hb_ dL_law_1374 (lv_at hl 5 rfl) ?_
    refine si_const S dL_law_1376 ?_
    refine si_add S dL_law_1377 ?_
    refine sc_sld S hV hX hzb (by omega) dL_law_1378 ?_
    refine lv_aload_n hx_ hb_ dL_law_1379 rfl (lv_at hl 1 rfl) ?_
    refine lv_iload hx_ hb_ dL_law_1380 (lv_at hl 5 rfl) ?_
    refine si_const S dL_law_1382 ?_
    refine si_add S dL_law_1383 ?_
    refine sc_sld S hV hX hzb (by omega) dL_law_1384 ?_
    have ga140 : ∀ x : Nat, m ≤ x → x < m + 16 → M1 x = M x := fun x u1 u2 => hf7 x (by omega) (by omega) (by omega) (by omega) (by omega)
    have hc139 : M1 m = some (mO m th ch tn te sn nm wn) := (ga140 m (by omega) (by omega)).trans hm0
    have hc141 : M1 (m + 1) = some (sArr G 574 f) := (ga140 ((m + 1)) (by omega) (by omega)).trans hm1
    have hc142 : svC G M1 (m + 2) ch fs := hsv.fr (fun x q8 q9 => ga140 x (by omega) (by omega))
    have hc143 : M1 (m + 8) = some (sArr G 10 A8) := (ga140 ((m + 8)) (by omega) (by omega)).trans hm8
    refine sk_Vi E hV (As := [.int (sI (lX xs (i + 1))), .int (sI (lX xs (i + 2)))]) (rest := []) (kX11_lay l_ G b_ M1 N2 m th ch tn te sn nm wn f fs A8 (lX xs (i + 1)) (lX xs (i + 2)) hc139 hc141 hc142 hc143 (hok) (hchr) (⟨lX_r xs _, lX_r xs _⟩)) (cwV 2 S.2.2.2.2 gL_law_X11_lay rfl rfl rfl (by decide +kernel) ⟨Nat.le_of_ble_eq_true rfl, Nat.le_of_ble_eq_true rfl⟩) (ci := 9) hc139 rfl rfl rfl hl.1 (Nat.le_of_ble_eq_true rfl) dL_law_1385 (c1 := cc_ + 25) (s1 := ss_ + 3000) ⟨⟨rfl, rfl⟩, by omega, by omega⟩ (fun z147 M144 N145 H locs hp146 hV => ?_)
    obtain ⟨p9148, hN149, hc150, hf151, hq152⟩ := hp146
    rw [hN149] at hV
    rcases hq152 with ⟨c153, ez154, hc155, hc156, hc157⟩ | ⟨c158, ez159, hc160, hc161, hc162⟩ | ⟨c163, ez164, hc165, hc166, hc167⟩
    · rw [ez154]
      exact (nx_lay_2_0 c21 c153).elim
    · rw [ez159]
      exact (nx_lay_2_1 c21 c158).elim
    · rw [ez164]
      refine lv_istore (lv' := [(6, .int (sI (whyL f (lX xs (i + 1)) (lX xs (i + 2))))), (5, .int (sI 0)), (0, .ref z), (1, .ref c), (2, .ref m), (3, .ref o), (4, .int (sI i))]) hx_ hb_ dL_law_1388 hl (by decide) rfl (fun ls hl => ?_)
      refine lv_aload_n hx_ hb_ dL_law_1390 rfl (lv_at hl 4 rfl) ?_
      refine sk_VP E hV (As := []) (rest := []) (kX11_thrown l_ G b_ M144 N2 m 0 (chn ch) tn te sn nm wn hc165) (cwV 0 S.2.2.2.2 gL_law_X11_thrown rfl rfl rfl (by decide +kernel) ⟨Nat.le_of_ble_eq_true rfl, Nat.le_of_ble_eq_true rfl⟩) (ci := 9) hc165 rfl rfl rfl hl.1 (Nat.le_of_ble_eq_true rfl) dL_law_1391 (c1 := cc_ + 25) (s1 := ss_ + 3000) ⟨⟨rfl, rfl⟩, by omega, by omega⟩ (fun H locs hV => ?_)
      refine lv_iload hx_ hb_ dL_law_1394 (lv_at hl 1 rfl) ?_
      refine sb_eq (tgt := 1401) S dL_law_1396 (by decide) (by omega) (fun _ => ?_) (fun c168 => absurd c168 (by omega))
      refine lv_iload hx_ hb_ dL_law_1401 (lv_at hl 1 rfl) ?_
      refine sz_ne (tgt := 1418) S dL_law_1403 (by decide) (by omega) (fun c169 => absurd c169 (by omega)) (fun _ => ?_)
      refine lv_aload_n hx_ hb_ dL_law_1406 rfl (lv_at hl 5 rfl) ?_
      refine si_const S dL_law_1407 ?_
      have gb171 : ∀ x : Nat, (x < m ∨ m + 16 ≤ x) → M144 x = M1 x := fun x u1 => hf151 x (by omega) (by omega) (by omega) (by omega)
      have hc170 : M144 o = some (sArL G 1 (iup g0 0 (sW (whyL f (lX xs (i + 1)) (lX xs (i + 2)))))) := (gb171 o (by omega)).trans hc26
      refine sc_lald S hK hV hc170 (by omega) dL_law_1408 ?_
      rw [show (iup g0 0 (sW (whyL f (lX xs (i + 1)) (lX xs (i + 2))))) 0 = sW (whyL f (lX xs (i + 1)) (lX xs (i + 2))) from if_pos rfl]
      refine lv_iload hx_ hb_ dL_law_1409 (lv_at hl 0 rfl) ?_
      refine sl_i2w S dL_law_1411 ?_
      refine sl_cmp0 S (rfl) dL_law_1412 ?_
      refine sz_eq (tgt := 1418) S dL_law_1413 (by decide) (by omega) (fun _ => ?_) (fun c172 => absurd c172 (by omega))
      refine lv_goto (tgt := 2853) hx_ hb_ dL_law_1418 (by decide) ?_
      have hc173 : M144 c = some (xO c kn15 (chn ch)) := (gb171 c (by omega)).trans hc23
      have hc174 : stC G M144 (c + 1) (layF f (lX xs (i + 1)) (lX xs (i + 2))) := hc24.fr (fun x q8 q9 => gb171 x (by omega))
      have hc175 : triC G M144 (c + 16) := htr.fr (fun x q8 q9 => (gb171 x (by omega)).trans (hf7 x (by omega) (by omega) (by omega) (by omega) (by omega)))
      have hc176 : kpC G M144 (c + 31) kb kn15 (chn ch) (fsn ch fs f) := hc25.fr (fun x q8 => gb171 x (by omega))
      have hc177 : M144 (c + 32) = some (sObj 7 [.ref (c + 33), .int (sI tn), .int (sI te)]) := ((gb171 ((c + 32)) (by omega)).trans (hf7 (c + 32) (by omega) (by omega) (by omega) (by omega) (by omega))).trans ht0
      have hc178 : M144 (c + 33) = some (sArr G 300 t) := ((gb171 ((c + 33)) (by omega)).trans (hf7 (c + 33) (by omega) (by omega) (by omega) (by omega) (by omega))).trans ht1
      have hc179 : catC G M144 (c + 34) wc T := hct.fr (fun x q8 q9 => (gb171 x (by omega)).trans (hf7 x (by omega) (by omega) (by omega) (by omega) (by omega)))
      have hc180 : orfC G M144 (c + 38) := hft.fr (fun x q8 q9 => (gb171 x (by omega)).trans (hf7 x (by omega) (by omega) (by omega) (by omega) (by omega)))
      have hc181 : layC G M144 (c + 48) := hly.fr (fun x q8 q9 => (gb171 x (by omega)).trans (hf7 x (by omega) (by omega) (by omega) (by omega) (by omega)))
      have hc182 : knoC G M144 (c + 54) := hkn.fr (fun x q8 q9 => (gb171 x (by omega)).trans (hf7 x (by omega) (by omega) (by omega) (by omega) (by omega)))
      have hc183 : excC G M144 (c + 57) := hex.fr (fun x q8 q9 => (gb171 x (by omega)).trans (hf7 x (by omega) (by omega) (by omega) (by omega) (by omega)))
      have hc184 : M144 (m + 3) = some (sArr G 300 t) := ((hf151 (m + 3) (by omega) (by omega) (by omega) (by omega)).trans (ga140 ((m + 3)) (by omega) (by omega))).trans hm3
      have hc185 : M144 (m + 4) = some (sArr G 11 A4) := ((hf151 (m + 4) (by omega) (by omega) (by omega) (by omega)).trans (ga140 ((m + 4)) (by omega) (by omega))).trans hm4
      have hc186 : M144 (m + 5) = some (sArr G 1024 A5) := ((hf151 (m + 5) (by omega) (by omega) (by omega) (by omega)).trans (ga140 ((m + 5)) (by omega) (by omega))).trans hm5
      have hc187 : M144 (m + 6) = some (sArr G 1024 A6) := ((hf151 (m + 6) (by omega) (by omega) (by omega) (by omega)).trans (ga140 ((m + 6)) (by omega) (by omega))).trans hm6
      have hc188 : M144 (m + 7) = some (sArr G 10 A7) := ((hf151 (m + 7) (by omega) (by omega) (by omega) (by omega)).trans (ga140 ((m + 7)) (by omega) (by omega))).trans hm7
      have hc189 : M144 (m + 9) = some (sArr G 62 A9) := ((hf151 (m + 9) (by omega) (by omega) (by omega) (by omega)).trans (ga140 ((m + 9)) (by omega) (by omega))).trans hm9
      have hc190 : M144 (m + 10) = some (sArr G 8 A10) := ((hf151 (m + 10) (by omega) (by omega) (by omega) (by omega)).trans (ga140 ((m + 10)) (by omega) (by omega))).trans hm10
      have hc191 : M144 (m + 11) = some (sArr G 8 A11) := ((hf151 (m + 11) (by omega) (by omega) (by omega) (by omega)).trans (ga140 ((m + 11)) (by omega) (by omega))).trans hm11
      have hc192 : M144 (m + 12) = some (sArr G 60 A12) := ((hf151 (m + 12) (by omega) (by omega) (by omega) (by omega)).trans (ga140 ((m + 12)) (by omega) (by omega))).trans hm12
      have hc193 : M144 (m + 13) = some (sArr G 240 A13) := ((hf151 (m + 13) (by omega) (by omega) (by omega) (by omega)).trans (ga140 ((m + 13)) (by omega) (by omega))).trans hm13
      have hc194 : M144 (m + 14) = some (sArr G 574 A14) := ((hf151 (m + 14) (by omega) (by omega) (by omega) (by omega)).trans (ga140 ((m + 14)) (by omega) (by omega))).trans hm14
      have hc195 : M144 (m + 15) = some (sArr G 200 T2) := ((hf151 (m + 15) (by omega) (by omega) (by omega) (by omega)).trans (ga140 ((m + 15)) (by omega) (by omega))).trans hm15
      exact W.widen (by omega) (by omega) (hk _ _ _ _ _ (by omega) ⟨_, _, _, _, _, _, _, _, _, _, _, _, _, _, _, _, _, _, _, _, _, _, _, _, _, _, hc173, hc174, hc175, hc176, hc177, hc178, hc179, hc180, hc181, hc182, hc183, hc165, hc166, hc167, hc184, hc185, hc186, hc187, hc188, hc150, hc189, hc190, hc191, hc192, hc193, hc194, hc195, hc170, lF_k hchr hlF (g_ly hlF.1 (by omega) c21.2), htp, hwr⟩ hV (lv_sub hl [2, 3, 4, 5, 6] rfl))

theorem nx_lies_0_1 {d : Int} {j : Int} (h1 : ¬ ((0 ≤ d ∧ d ≤ 3) ∧ (0 ≤ j ∧ j ≤ 2))) (h2 : (0 ≤ d ∧ d ≤ 3) ∧ (0 ≤ j ∧ j ≤ 2)) : False := by
  first
  | omega
  | (simp_all; done)
  | (simp_all; omega)
theorem nx_lies_1_0 {d : Int} {j : Int} (h1 : ((0 ≤ d ∧ d ≤ 3) ∧ (0 ≤ j ∧ j ≤ 2))) (h2 : ¬ ((0 ≤ d ∧ d ≤ 3) ∧ (0 ≤ j ∧ j ≤ 2))) : False := by
  first
  | omega
  | (simp_all; done)
  | (simp_all; omega)
set_option maxHeartbeats 4000000 in
set_option maxRecDepth 100000 in
theorem law_20 {p_ : Program} {l_ : Launch} {e_ : Env} {s_ : State} {m_ : MethodId} {args_ : Array Value} {below_ : List Frame} {meth_ : Method} {c_ : Code} {nm_ : String} {G : sG} {b_ : Nat} {M0 : sM} {N0 : Nat} {Q : State → Prop} (E : sE p_ l_ e_ room_1 s_ m_ args_ below_ meth_ c_ cL_law 9 wsL_law RL nm_ (some .boolean) G b_ M0 N0) (hF_ : xcF s_) (hlt : l_.stackTraces = false) {z L : Nat} {xs : Nat → Int32} (hX : va_X z L xs s_ s_.heap) (hzb : z < b_) {c m o kb : Nat} (hg : c + 60 ≤ m ∧ m + 16 ≤ o ∧ o < kb) {cc_ ss_ : Nat} (hcc : cc_ + 1170 ≤ room_1.cells ∧ ss_ + 14000 ≤ room_1.slots) {q i : Int} (hi : 0 ≤ i ∧ i + 6 ≤ L ∧ (L : Int) ≤ 3072) (hq : 0 ≤ q ∧ q ≤ 600) {M : sM} {N : Nat} (hkN : kb ≤ N) (hI : lI G M c m o kb q) {H : Heap} {locs : List Loc} {ls : Array Slot} (hV : sV G b_ M N s_ H locs) (hl : lv_has ls 9 [(0, .ref z), (1, .ref c), (2, .ref m), (3, .ref o), (4, .int (sI i))])
    (hk : ∀ (M1 : sM) (N1 : Nat) (H1 : Heap) (locs1 : List Loc) (ls1 : Array Slot), kb ≤ N1 → lI G M1 c m o kb (q + 1) → sV G b_ M1 N1 s_ H1 locs1 → lv_has ls1 9 [(0, .ref z), (1, .ref c), (2, .ref m), (3, .ref o), (4, .int (sI i))] → W p_ l_ e_ room_1 s_ m_ args_ below_ meth_ c_ H1 locs1 (cc_ + 1170) (ss_ + 14000) Q (F0 m_ 2853 ls1 [])) : W p_ l_ e_ room_1 s_ m_ args_ below_ meth_ c_ H locs cc_ ss_ Q (F0 m_ 1421 ls []) := by
  have S := E.1
  have hx_ := S.1
  have hb_ := S.2.1
  have hK := E.2.2.2.2.1
  have hI2 := hI
  obtain ⟨kn, ch, f, fs, tn, te, t, wc, wn, T, T2, th, sn, nm, g0, A4, A5, A6, A7, A8, A9, A10, A11, A12, A13, A14, hc0, hst, htr, hkp, ht0, ht1, hct, hft, hly, hkn, hex, hm0, hm1, hsv, hm3, hm4, hm5, hm6, hm7, hm8, hm9, hm10, hm11, hm12, hm13, hm14, hm15, ho9, hlF, htp, hwr⟩ := hI2
  have hok := hlF.1.1
  have hdI := hlF.1.2.1
  have hsL := hlF.1.2.2.1
  have hclk := hlF.1.2.2.2
  have hchr : 0 ≤ ch ∧ ch ≤ 15 := ⟨hkp.r.2.2.1, hkp.r.2.2.2⟩
  have htp1 := htp.1
  have htp2 := htp.2.1
  have hwq := wrQ_e hwr
  have hwq1 := hwq.1
  have hwq2 := hwq.2.1
  have kn0 := sOk_N hok
  refine lv_aload_n hx_ hb_ dL_law_1421 rfl (lv_at hl 1 rfl) ?_
  refine lv_aload_n hx_ hb_ dL_law_1422 rfl (lv_at hl 0 rfl) ?_
  refine lv_iload hx_ hb_ dL_law_1423 (lv_at hl 4 rfl) ?_
  refine si_const S dL_law_1425 ?_
  refine si_add S dL_law_1426 ?_
  refine sc_sld S hV hX hzb (by omega) dL_law_1427 ?_
  refine lv_aload_n hx_ hb_ dL_law_1428 rfl (lv_at hl 0 rfl) ?_
  refine lv_iload hx_ hb_ dL_law_1429 (lv_at hl 4 rfl) ?_
  refine si_const S dL_law_1431 ?_
  refine si_add S dL_law_1432 ?_
  refine sc_sld S hV hX hzb (by omega) dL_law_1433 ?_
  refine lv_aload_n hx_ hb_ dL_law_1434 rfl (lv_at hl 3 rfl) ?_
  refine yk_Si (hh := [(0, 10, 13, 19)]) E hF_ hV (As := [.ref c, .int (sI (lX xs (i + 1))), .int (sI (lX xs (i + 2))), .ref o]) (rest := []) (kL_lies l_ G b_ M N o g0 c kn ch f (lX xs (i + 1)) (lX xs (i + 2)) hc0 hst ho9 (hlt) (hok) (⟨lX_r xs _, lX_r xs _⟩) (by omega)) (vx_cwSW 4 S.2.2.2.2 gL_law_L_lies rfl rfl rfl (by decide +kernel) ⟨Nat.le_of_ble_eq_true rfl, Nat.le_of_ble_eq_true rfl⟩) rfl rfl hl.1 (Nat.le_of_ble_eq_true rfl) dL_law_1435 (c1 := cc_ + 8) (s1 := ss_ + 50) ⟨⟨rfl, rfl⟩, by omega, by omega⟩ (fun z4 M1 N2 H locs hp3 hV => ?_)
  obtain ⟨hN5, hf6, hq7⟩ := hp3
  rcases hq7 with ⟨c8, ez9, hc10⟩ | ⟨c11, ez12, hc13⟩
  · rw [ez9]
    refine lv_istore (lv' := [(5, .int (sI 1)), (0, .ref z), (1, .ref c), (2, .ref m), (3, .ref o), (4, .int (sI i))]) hx_ hb_ dL_law_1438 hl (by decide) rfl (fun ls hl => ?_)
    refine lv_aload_n hx_ hb_ dL_law_1440 rfl (lv_at hl 3 rfl) ?_
    refine lv_aload_n hx_ hb_ dL_law_1441 rfl (lv_at hl 1 rfl) ?_
    refine lv_iload hx_ hb_ dL_law_1442 (lv_at hl 5 rfl) ?_
    refine si_const S dL_law_1444 ?_
    refine si_add S dL_law_1445 ?_
    refine sc_sld S hV hX hzb (by omega) dL_law_1446 ?_
    refine lv_aload_n hx_ hb_ dL_law_1447 rfl (lv_at hl 1 rfl) ?_
    refine lv_iload hx_ hb_ dL_law_1448 (lv_at hl 5 rfl) ?_
    refine si_const S dL_law_1450 ?_
    refine si_add S dL_law_1451 ?_
    refine sc_sld S hV hX hzb (by omega) dL_law_1452 ?_
    have ga15 : ∀ x : Nat, m ≤ x → x < m + 16 → M1 x = M x := fun x u1 u2 => hf6 x (by omega)
    have hc14 : M1 m = some (mO m th ch tn te sn nm wn) := (ga15 m (by omega) (by omega)).trans hm0
    have hc16 : M1 (m + 1) = some (sArr G 574 f) := (ga15 ((m + 1)) (by omega) (by omega)).trans hm1
    refine sk_Vi E hV (As := [.int (sI (lX xs (i + 1))), .int (sI (lX xs (i + 2)))]) (rest := []) (kX11_lies l_ G b_ M1 N2 m th ch tn te sn nm wn f (lX xs (i + 1)) (lX xs (i + 2)) hc14 hc16 (hok) (⟨lX_r xs _, lX_r xs _⟩)) (cwV 2 S.2.2.2.2 gL_law_X11_lies rfl rfl rfl (by decide +kernel) ⟨Nat.le_of_ble_eq_true rfl, Nat.le_of_ble_eq_true rfl⟩) (ci := 9) hc14 rfl rfl rfl hl.1 (Nat.le_of_ble_eq_true rfl) dL_law_1453 (c1 := cc_ + 8) (s1 := ss_ + 50) ⟨⟨rfl, rfl⟩, by omega, by omega⟩ (fun z20 M17 N18 H locs hp19 hV => ?_)
    obtain ⟨hN21, hf22, hq23⟩ := hp19
    rw [hN21] at hV
    rcases hq23 with ⟨c24, ez25, hc26⟩ | ⟨c27, ez28, hc29⟩
    · rw [ez25]
      refine lv_istore (lv' := [(6, .int (sI 0)), (5, .int (sI 1)), (0, .ref z), (1, .ref c), (2, .ref m), (3, .ref o), (4, .int (sI i))]) hx_ hb_ dL_law_1456 hl (by decide) rfl (fun ls hl => ?_)
      refine lv_aload_n hx_ hb_ dL_law_1458 rfl (lv_at hl 4 rfl) ?_
      refine sk_VP E hV (As := []) (rest := []) (kX11_thrown l_ G b_ M17 N2 m 1 ch tn te sn nm wn hc26) (cwV 0 S.2.2.2.2 gL_law_X11_thrown rfl rfl rfl (by decide +kernel) ⟨Nat.le_of_ble_eq_true rfl, Nat.le_of_ble_eq_true rfl⟩) (ci := 9) hc26 rfl rfl rfl hl.1 (Nat.le_of_ble_eq_true rfl) dL_law_1459 (c1 := cc_ + 8) (s1 := ss_ + 50) ⟨⟨rfl, rfl⟩, by omega, by omega⟩ (fun H locs hV => ?_)
      refine lv_iload hx_ hb_ dL_law_1462 (lv_at hl 1 rfl) ?_
      refine sb_eq (tgt := 1469) S dL_law_1464 (by decide) (by omega) (fun _ => ?_) (fun c30 => absurd c30 (by omega))
      refine lv_iload hx_ hb_ dL_law_1469 (lv_at hl 1 rfl) ?_
      refine sz_ne (tgt := 1486) S dL_law_1471 (by decide) (by omega) (fun _ => ?_) (fun c31 => absurd c31 (by omega))
      refine lv_goto (tgt := 2853) hx_ hb_ dL_law_1486 (by decide) ?_
      have gb33 : ∀ x : Nat, (x < m ∨ m + 16 ≤ x) → M17 x = M1 x := fun x u1 => hf22 x (by omega)
      have hc32 : M17 c = some (xO c kn ch) := ((gb33 c (by omega)).trans (hf6 c (by omega))).trans hc0
      have hc34 : stC G M17 (c + 1) f := hst.fr (fun x q8 q9 => (gb33 x (by omega)).trans (hf6 x (by omega)))
      have hc35 : triC G M17 (c + 16) := htr.fr (fun x q8 q9 => (gb33 x (by omega)).trans (hf6 x (by omega)))
      have hc36 : kpC G M17 (c + 31) kb kn ch fs := hkp.fr (fun x q8 => (gb33 x (by omega)).trans (hf6 x (by omega)))
      have hc37 : M17 (c + 32) = some (sObj 7 [.ref (c + 33), .int (sI tn), .int (sI te)]) := ((gb33 ((c + 32)) (by omega)).trans (hf6 (c + 32) (by omega))).trans ht0
      have hc38 : M17 (c + 33) = some (sArr G 300 t) := ((gb33 ((c + 33)) (by omega)).trans (hf6 (c + 33) (by omega))).trans ht1
      have hc39 : catC G M17 (c + 34) wc T := hct.fr (fun x q8 q9 => (gb33 x (by omega)).trans (hf6 x (by omega)))
      have hc40 : orfC G M17 (c + 38) := hft.fr (fun x q8 q9 => (gb33 x (by omega)).trans (hf6 x (by omega)))
      have hc41 : layC G M17 (c + 48) := hly.fr (fun x q8 q9 => (gb33 x (by omega)).trans (hf6 x (by omega)))
      have hc42 : knoC G M17 (c + 54) := hkn.fr (fun x q8 q9 => (gb33 x (by omega)).trans (hf6 x (by omega)))
      have hc43 : excC G M17 (c + 57) := hex.fr (fun x q8 q9 => (gb33 x (by omega)).trans (hf6 x (by omega)))
      have hc44 : M17 (m + 1) = some (sArr G 574 f) := (hf22 (m + 1) (by omega)).trans hc16
      have hc45 : svC G M17 (m + 2) ch fs := hsv.fr (fun x q8 q9 => (hf22 x (by omega)).trans (ga15 x (by omega) (by omega)))
      have hc46 : M17 (m + 3) = some (sArr G 300 t) := ((hf22 (m + 3) (by omega)).trans (ga15 ((m + 3)) (by omega) (by omega))).trans hm3
      have hc47 : M17 (m + 4) = some (sArr G 11 A4) := ((hf22 (m + 4) (by omega)).trans (ga15 ((m + 4)) (by omega) (by omega))).trans hm4
      have hc48 : M17 (m + 5) = some (sArr G 1024 A5) := ((hf22 (m + 5) (by omega)).trans (ga15 ((m + 5)) (by omega) (by omega))).trans hm5
      have hc49 : M17 (m + 6) = some (sArr G 1024 A6) := ((hf22 (m + 6) (by omega)).trans (ga15 ((m + 6)) (by omega) (by omega))).trans hm6
      have hc50 : M17 (m + 7) = some (sArr G 10 A7) := ((hf22 (m + 7) (by omega)).trans (ga15 ((m + 7)) (by omega) (by omega))).trans hm7
      have hc51 : M17 (m + 8) = some (sArr G 10 A8) := ((hf22 (m + 8) (by omega)).trans (ga15 ((m + 8)) (by omega) (by omega))).trans hm8
      have hc52 : M17 (m + 9) = some (sArr G 62 A9) := ((hf22 (m + 9) (by omega)).trans (ga15 ((m + 9)) (by omega) (by omega))).trans hm9
      have hc53 : M17 (m + 10) = some (sArr G 8 A10) := ((hf22 (m + 10) (by omega)).trans (ga15 ((m + 10)) (by omega) (by omega))).trans hm10
      have hc54 : M17 (m + 11) = some (sArr G 8 A11) := ((hf22 (m + 11) (by omega)).trans (ga15 ((m + 11)) (by omega) (by omega))).trans hm11
      have hc55 : M17 (m + 12) = some (sArr G 60 A12) := ((hf22 (m + 12) (by omega)).trans (ga15 ((m + 12)) (by omega) (by omega))).trans hm12
      have hc56 : M17 (m + 13) = some (sArr G 240 A13) := ((hf22 (m + 13) (by omega)).trans (ga15 ((m + 13)) (by omega) (by omega))).trans hm13
      have hc57 : M17 (m + 14) = some (sArr G 574 A14) := ((hf22 (m + 14) (by omega)).trans (ga15 ((m + 14)) (by omega) (by omega))).trans hm14
      have hc58 : M17 (m + 15) = some (sArr G 200 T2) := ((hf22 (m + 15) (by omega)).trans (ga15 ((m + 15)) (by omega) (by omega))).trans hm15
      have hc59 : M17 o = some (sArL G 1 g0) := (gb33 o (by omega)).trans hc10
      exact W.widen (by omega) (by omega) (hk _ _ _ _ _ (by omega) ⟨_, _, _, _, _, _, _, _, _, _, _, _, _, _, _, _, _, _, _, _, _, _, _, _, _, _, hc32, hc34, hc35, hc36, hc37, hc38, hc39, hc40, hc41, hc42, hc43, hc26, hc44, hc45, hc46, hc47, hc48, hc49, hc50, hc51, hc52, hc53, hc54, hc55, hc56, hc57, hc58, hc59, lF_s hlF, htp, hwr⟩ hV (lv_sub hl [2, 3, 4, 5, 6] rfl))
    · rw [ez28]
      exact (nx_lies_0_1 c8 c27).elim
  · rw [ez12]
    refine lv_istore (lv' := [(5, .int (sI 0)), (0, .ref z), (1, .ref c), (2, .ref m), (3, .ref o), (4, .int (sI i))]) hx_ hb_ dL_law_1438 hl (by decide) rfl (fun ls hl => ?_)
    refine lv_aload_n hx_ hb_ dL_law_1440 rfl (lv_at hl 3 rfl) ?_
    refine lv_aload_n hx_ hb_ dL_law_1441 rfl (lv_at hl 1 rfl) ?_
    refine lv_iload hx_ hb_ dL_law_1442 (lv_at hl 5 rfl) ?_
    refine si_const S dL_law_1444 ?_
    refine si_add S dL_law_1445 ?_
    refine sc_sld S hV hX hzb (by omega) dL_law_1446 ?_
    refine lv_aload_n hx_ hb_ dL_law_1447 rfl (lv_at hl 1 rfl) ?_
    refine lv_iload hx_ hb_ dL_law_1448 (lv_at hl 5 rfl) ?_
    refine si_const S dL_law_1450 ?_
    refine si_add S dL_law_1451 ?_
    refine sc_sld S hV hX hzb (by omega) dL_law_1452 ?_
    have ga61 : ∀ x : Nat, m ≤ x → x < m + 16 → M1 x = M x := fun x u1 u2 => hf6 x (by omega)
    have hc60 : M1 m = some (mO m th ch tn te sn nm wn) := (ga61 m (by omega) (by omega)).trans hm0
    have hc62 : M1 (m + 1) = some (sArr G 574 f) := (ga61 ((m + 1)) (by omega) (by omega)).trans hm1
    refine sk_Vi E hV (As := [.int (sI (lX xs (i + 1))), .int (sI (lX xs (i + 2)))]) (rest := []) (kX11_lies l_ G b_ M1 N2 m th ch tn te sn nm wn f (lX xs (i + 1)) (lX xs (i + 2)) hc60 hc62 (hok) (⟨lX_r xs _, lX_r xs _⟩)) (cwV 2 S.2.2.2.2 gL_law_X11_lies rfl rfl rfl (by decide +kernel) ⟨Nat.le_of_ble_eq_true rfl, Nat.le_of_ble_eq_true rfl⟩) (ci := 9) hc60 rfl rfl rfl hl.1 (Nat.le_of_ble_eq_true rfl) dL_law_1453 (c1 := cc_ + 8) (s1 := ss_ + 50) ⟨⟨rfl, rfl⟩, by omega, by omega⟩ (fun z66 M63 N64 H locs hp65 hV => ?_)
    obtain ⟨hN67, hf68, hq69⟩ := hp65
    rw [hN67] at hV
    rcases hq69 with ⟨c70, ez71, hc72⟩ | ⟨c73, ez74, hc75⟩
    · rw [ez71]
      exact (nx_lies_1_0 c11 c70).elim
    · rw [ez74]
      refine lv_istore (lv' := [(6, .int (sI (isum (f 568) (lyT f (lX xs (i + 1)) (lX xs (i + 2)))))), (5, .int (sI 0)), (0, .ref z), (1, .ref c), (2, .ref m), (3, .ref o), (4, .int (sI i))]) hx_ hb_ dL_law_1456 hl (by decide) rfl (fun ls hl => ?_)
      refine lv_aload_n hx_ hb_ dL_law_1458 rfl (lv_at hl 4 rfl) ?_
      refine sk_VP E hV (As := []) (rest := []) (kX11_thrown l_ G b_ M63 N2 m 0 ch tn te sn nm wn hc75) (cwV 0 S.2.2.2.2 gL_law_X11_thrown rfl rfl rfl (by decide +kernel) ⟨Nat.le_of_ble_eq_true rfl, Nat.le_of_ble_eq_true rfl⟩) (ci := 9) hc75 rfl rfl rfl hl.1 (Nat.le_of_ble_eq_true rfl) dL_law_1459 (c1 := cc_ + 8) (s1 := ss_ + 50) ⟨⟨rfl, rfl⟩, by omega, by omega⟩ (fun H locs hV => ?_)
      refine lv_iload hx_ hb_ dL_law_1462 (lv_at hl 1 rfl) ?_
      refine sb_eq (tgt := 1469) S dL_law_1464 (by decide) (by omega) (fun _ => ?_) (fun c76 => absurd c76 (by omega))
      refine lv_iload hx_ hb_ dL_law_1469 (lv_at hl 1 rfl) ?_
      refine sz_ne (tgt := 1486) S dL_law_1471 (by decide) (by omega) (fun c77 => absurd c77 (by omega)) (fun _ => ?_)
      refine lv_aload_n hx_ hb_ dL_law_1474 rfl (lv_at hl 5 rfl) ?_
      refine si_const S dL_law_1475 ?_
      have gb79 : ∀ x : Nat, (x < m ∨ m + 16 ≤ x) → M63 x = M1 x := fun x u1 => hf68 x (by omega)
      have hc78 : M63 o = some (sArL G 1 (iup g0 0 (sW (isum (f 568) (lyT f (lX xs (i + 1)) (lX xs (i + 2))))))) := (gb79 o (by omega)).trans hc13
      refine sc_lald S hK hV hc78 (by omega) dL_law_1476 ?_
      rw [show (iup g0 0 (sW (isum (f 568) (lyT f (lX xs (i + 1)) (lX xs (i + 2)))))) 0 = sW (isum (f 568) (lyT f (lX xs (i + 1)) (lX xs (i + 2)))) from if_pos rfl]
      refine lv_iload hx_ hb_ dL_law_1477 (lv_at hl 0 rfl) ?_
      refine sl_i2w S dL_law_1479 ?_
      refine sl_cmp0 S (rfl) dL_law_1480 ?_
      refine sz_eq (tgt := 1486) S dL_law_1481 (by decide) (by omega) (fun _ => ?_) (fun c80 => absurd c80 (by omega))
      refine lv_goto (tgt := 2853) hx_ hb_ dL_law_1486 (by decide) ?_
      have hc81 : M63 c = some (xO c kn ch) := ((gb79 c (by omega)).trans (hf6 c (by omega))).trans hc0
      have hc82 : stC G M63 (c + 1) f := hst.fr (fun x q8 q9 => (gb79 x (by omega)).trans (hf6 x (by omega)))
      have hc83 : triC G M63 (c + 16) := htr.fr (fun x q8 q9 => (gb79 x (by omega)).trans (hf6 x (by omega)))
      have hc84 : kpC G M63 (c + 31) kb kn ch fs := hkp.fr (fun x q8 => (gb79 x (by omega)).trans (hf6 x (by omega)))
      have hc85 : M63 (c + 32) = some (sObj 7 [.ref (c + 33), .int (sI tn), .int (sI te)]) := ((gb79 ((c + 32)) (by omega)).trans (hf6 (c + 32) (by omega))).trans ht0
      have hc86 : M63 (c + 33) = some (sArr G 300 t) := ((gb79 ((c + 33)) (by omega)).trans (hf6 (c + 33) (by omega))).trans ht1
      have hc87 : catC G M63 (c + 34) wc T := hct.fr (fun x q8 q9 => (gb79 x (by omega)).trans (hf6 x (by omega)))
      have hc88 : orfC G M63 (c + 38) := hft.fr (fun x q8 q9 => (gb79 x (by omega)).trans (hf6 x (by omega)))
      have hc89 : layC G M63 (c + 48) := hly.fr (fun x q8 q9 => (gb79 x (by omega)).trans (hf6 x (by omega)))
      have hc90 : knoC G M63 (c + 54) := hkn.fr (fun x q8 q9 => (gb79 x (by omega)).trans (hf6 x (by omega)))
      have hc91 : excC G M63 (c + 57) := hex.fr (fun x q8 q9 => (gb79 x (by omega)).trans (hf6 x (by omega)))
      have hc92 : M63 (m + 1) = some (sArr G 574 f) := (hf68 (m + 1) (by omega)).trans hc62
      have hc93 : svC G M63 (m + 2) ch fs := hsv.fr (fun x q8 q9 => (hf68 x (by omega)).trans (ga61 x (by omega) (by omega)))
      have hc94 : M63 (m + 3) = some (sArr G 300 t) := ((hf68 (m + 3) (by omega)).trans (ga61 ((m + 3)) (by omega) (by omega))).trans hm3
      have hc95 : M63 (m + 4) = some (sArr G 11 A4) := ((hf68 (m + 4) (by omega)).trans (ga61 ((m + 4)) (by omega) (by omega))).trans hm4
      have hc96 : M63 (m + 5) = some (sArr G 1024 A5) := ((hf68 (m + 5) (by omega)).trans (ga61 ((m + 5)) (by omega) (by omega))).trans hm5
      have hc97 : M63 (m + 6) = some (sArr G 1024 A6) := ((hf68 (m + 6) (by omega)).trans (ga61 ((m + 6)) (by omega) (by omega))).trans hm6
      have hc98 : M63 (m + 7) = some (sArr G 10 A7) := ((hf68 (m + 7) (by omega)).trans (ga61 ((m + 7)) (by omega) (by omega))).trans hm7
      have hc99 : M63 (m + 8) = some (sArr G 10 A8) := ((hf68 (m + 8) (by omega)).trans (ga61 ((m + 8)) (by omega) (by omega))).trans hm8
      have hc100 : M63 (m + 9) = some (sArr G 62 A9) := ((hf68 (m + 9) (by omega)).trans (ga61 ((m + 9)) (by omega) (by omega))).trans hm9
      have hc101 : M63 (m + 10) = some (sArr G 8 A10) := ((hf68 (m + 10) (by omega)).trans (ga61 ((m + 10)) (by omega) (by omega))).trans hm10
      have hc102 : M63 (m + 11) = some (sArr G 8 A11) := ((hf68 (m + 11) (by omega)).trans (ga61 ((m + 11)) (by omega) (by omega))).trans hm11
      have hc103 : M63 (m + 12) = some (sArr G 60 A12) := ((hf68 (m + 12) (by omega)).trans (ga61 ((m + 12)) (by omega) (by omega))).trans hm12
      have hc104 : M63 (m + 13) = some (sArr G 240 A13) := ((hf68 (m + 13) (by omega)).trans (ga61 ((m + 13)) (by omega) (by omega))).trans hm13
      have hc105 : M63 (m + 14) = some (sArr G 574 A14) := ((hf68 (m + 14) (by omega)).trans (ga61 ((m + 14)) (by omega) (by omega))).trans hm14
      have hc106 : M63 (m + 15) = some (sArr G 200 T2) := ((hf68 (m + 15) (by omega)).trans (ga61 ((m + 15)) (by omega) (by omega))).trans hm15
      exact W.widen (by omega) (by omega) (hk _ _ _ _ _ (by omega) ⟨_, _, _, _, _, _, _, _, _, _, _, _, _, _, _, _, _, _, _, _, _, _, _, _, _, _, hc81, hc82, hc83, hc84, hc85, hc86, hc87, hc88, hc89, hc90, hc91, hc75, hc92, hc93, hc94, hc95, hc96, hc97, hc98, hc99, hc100, hc101, hc102, hc103, hc104, hc105, hc106, hc78, lF_s hlF, htp, hwr⟩ hV (lv_sub hl [2, 3, 4, 5, 6] rfl))

theorem nx_layAll_0_1 {f : sF} {B : Prop} (h1 : ¬ ∃ p, laP f B p) (h2 : ∃ p, laP f B p) : False := by
  first
  | omega
  | (simp_all; done)
  | (simp_all; omega)
theorem nx_layAll_1_0 {f : sF} {B : Prop} (h1 : ∃ p, laP f B p) (h2 : ¬ ∃ p, laP f B p) : False := by
  first
  | omega
  | (simp_all; done)
  | (simp_all; omega)
set_option maxHeartbeats 4000000 in
set_option maxRecDepth 100000 in
theorem law_21 {p_ : Program} {l_ : Launch} {e_ : Env} {s_ : State} {m_ : MethodId} {args_ : Array Value} {below_ : List Frame} {meth_ : Method} {c_ : Code} {nm_ : String} {G : sG} {b_ : Nat} {M0 : sM} {N0 : Nat} {Q : State → Prop} (E : sE p_ l_ e_ room_1 s_ m_ args_ below_ meth_ c_ cL_law 9 wsL_law RL nm_ (some .boolean) G b_ M0 N0) (hF_ : xcF s_) (hlt : l_.stackTraces = false) {z L : Nat} {xs : Nat → Int32} (hX : va_X z L xs s_ s_.heap) (hzb : z < b_) {c m o kb : Nat} (hg : c + 60 ≤ m ∧ m + 16 ≤ o ∧ o < kb) {cc_ ss_ : Nat} (hcc : cc_ + 1170 ≤ room_1.cells ∧ ss_ + 14000 ≤ room_1.slots) {q i : Int} (hi : 0 ≤ i ∧ i + 6 ≤ L ∧ (L : Int) ≤ 3072) (hq : 0 ≤ q ∧ q ≤ 600) {M : sM} {N : Nat} (hkN : kb ≤ N) (hI : lI G M c m o kb q) {H : Heap} {locs : List Loc} {ls : Array Slot} (hV : sV G b_ M N s_ H locs) (hl : lv_has ls 9 [(0, .ref z), (1, .ref c), (2, .ref m), (3, .ref o), (4, .int (sI i))])
    (hk : ∀ (M1 : sM) (N1 : Nat) (H1 : Heap) (locs1 : List Loc) (ls1 : Array Slot), kb ≤ N1 → lI G M1 c m o kb (q + 1) → sV G b_ M1 N1 s_ H1 locs1 → lv_has ls1 9 [(0, .ref z), (1, .ref c), (2, .ref m), (3, .ref o), (4, .int (sI i))] → W p_ l_ e_ room_1 s_ m_ args_ below_ meth_ c_ H1 locs1 (cc_ + 1170) (ss_ + 14000) Q (F0 m_ 2853 ls1 [])) : W p_ l_ e_ room_1 s_ m_ args_ below_ meth_ c_ H locs cc_ ss_ Q (F0 m_ 1489 ls []) := by
  have S := E.1
  have hx_ := S.1
  have hb_ := S.2.1
  have hK := E.2.2.2.2.1
  have hI2 := hI
  obtain ⟨kn, ch, f, fs, tn, te, t, wc, wn, T, T2, th, sn, nm, g0, A4, A5, A6, A7, A8, A9, A10, A11, A12, A13, A14, hc0, hst, htr, hkp, ht0, ht1, hct, hft, hly, hkn, hex, hm0, hm1, hsv, hm3, hm4, hm5, hm6, hm7, hm8, hm9, hm10, hm11, hm12, hm13, hm14, hm15, ho9, hlF, htp, hwr⟩ := hI2
  have hok := hlF.1.1
  have hdI := hlF.1.2.1
  have hsL := hlF.1.2.2.1
  have hclk := hlF.1.2.2.2
  have hchr : 0 ≤ ch ∧ ch ≤ 15 := ⟨hkp.r.2.2.1, hkp.r.2.2.2⟩
  have htp1 := htp.1
  have htp2 := htp.2.1
  have hwq := wrQ_e hwr
  have hwq1 := hwq.1
  have hwq2 := hwq.2.1
  have kn0 := sOk_N hok
  refine lv_aload_n hx_ hb_ dL_law_1489 rfl (lv_at hl 1 rfl) ?_
  refine lv_aload_n hx_ hb_ dL_law_1490 rfl (lv_at hl 0 rfl) ?_
  refine lv_iload hx_ hb_ dL_law_1491 (lv_at hl 4 rfl) ?_
  refine si_const S dL_law_1493 ?_
  refine si_add S dL_law_1494 ?_
  refine sc_sld S hV hX hzb (by omega) dL_law_1495 ?_
  refine sb_bool (t0 := 1503) (t1 := 1504) S (lX_r xs _) dL_law_1496 (by decide) dL_law_1499 dL_law_1500 (by decide) dL_law_1503 rfl ?_
  refine sk_Vi E hV (As := [.int (sI (bI (lX xs (i + 1) ≠ 0)))]) (rest := []) (kX10_layAll l_ G b_ M N c kn ch f kb fs (lX xs (i + 1) ≠ 0) hc0 hst hkp hly (hok) (by omega) (by omega)) (cwV 1 S.2.2.2.2 gL_law_X10_layAll rfl rfl rfl (by decide +kernel) ⟨Nat.le_of_ble_eq_true rfl, Nat.le_of_ble_eq_true rfl⟩) (ci := 8) hc0 rfl rfl rfl hl.1 (Nat.le_of_ble_eq_true rfl) dL_law_1504 (c1 := cc_ + 25) (s1 := ss_ + 3000) ⟨⟨rfl, rfl⟩, by omega, by omega⟩ (fun z4 M1 N2 H locs hp3 hV => ?_)
  obtain ⟨kn15, hN6, hc7, hc8, hc9, hf10, hq11⟩ := hp3
  rcases hq11 with ⟨c12, ez13, hc14⟩ | ⟨c15, ez16, hc17⟩
  · rw [ez13]
    refine lv_aload_n hx_ hb_ dL_law_1507 rfl (lv_at hl 2 rfl) ?_
    refine lv_aload_n hx_ hb_ dL_law_1508 rfl (lv_at hl 0 rfl) ?_
    refine lv_iload hx_ hb_ dL_law_1509 (lv_at hl 4 rfl) ?_
    refine si_const S dL_law_1511 ?_
    refine si_add S dL_law_1512 ?_
    refine sc_sld S hV hX hzb (by omega) dL_law_1513 ?_
    refine sb_bool (t0 := 1521) (t1 := 1522) S (lX_r xs _) dL_law_1514 (by decide) dL_law_1517 dL_law_1518 (by decide) dL_law_1521 rfl ?_
    have ga19 : ∀ x : Nat, m ≤ x → x < m + 16 → M1 x = M x := fun x u1 u2 => hf10 x (by omega) (by omega) (by omega) (by omega) (by omega)
    have hc18 : M1 m = some (mO m th ch tn te sn nm wn) := (ga19 m (by omega) (by omega)).trans hm0
    have hc20 : M1 (m + 1) = some (sArr G 574 f) := (ga19 ((m + 1)) (by omega) (by omega)).trans hm1
    have hc21 : svC G M1 (m + 2) ch fs := hsv.fr (fun x q8 q9 => ga19 x (by omega) (by omega))
    have hc22 : M1 (m + 8) = some (sArr G 10 A8) := (ga19 ((m + 8)) (by omega) (by omega)).trans hm8
    refine sk_Vi E hV (As := [.int (sI (bI (lX xs (i + 1) ≠ 0)))]) (rest := [.int (sI (-1))]) (kX11_layAll l_ G b_ M1 N2 m th ch tn te sn nm wn f fs A8 (lX xs (i + 1) ≠ 0) hc18 hc20 hc21 hc22 (hok) (hchr)) (cwV 1 S.2.2.2.2 gL_law_X11_layAll rfl rfl rfl (by decide +kernel) ⟨Nat.le_of_ble_eq_true rfl, Nat.le_of_ble_eq_true rfl⟩) (ci := 9) hc18 rfl rfl rfl hl.1 (Nat.le_of_ble_eq_true rfl) dL_law_1522 (c1 := cc_ + 25) (s1 := ss_ + 3000) ⟨⟨rfl, rfl⟩, by omega, by omega⟩ (fun z26 M23 N24 H locs hp25 hV => ?_)
    obtain ⟨p927, hN28, hc29, hc30, hf31, hq32⟩ := hp25
    rw [hN28] at hV
    rcases hq32 with ⟨c33, ez34, hc35, hc36⟩ | ⟨c37, ez38, hc39, hc40⟩
    · rw [ez34]
      refine sb_eq (tgt := 2853) S dL_law_1525 (by decide) (by omega) (fun _ => ?_) (fun c41 => absurd c41 (by omega))
      have gb43 : ∀ x : Nat, (x < m ∨ m + 16 ≤ x) → M23 x = M1 x := fun x u1 => hf31 x (by omega) (by omega) (by omega) (by omega)
      have hc42 : M23 c = some (xO c kn15 (chn ch)) := (gb43 c (by omega)).trans hc7
      have hc44 : stC G M23 (c + 1) f := hc14.fr (fun x q8 q9 => gb43 x (by omega))
      have hc45 : triC G M23 (c + 16) := htr.fr (fun x q8 q9 => (gb43 x (by omega)).trans (hf10 x (by omega) (by omega) (by omega) (by omega) (by omega)))
      have hc46 : kpC G M23 (c + 31) kb kn15 (chn ch) (fsn ch fs f) := hc8.fr (fun x q8 => gb43 x (by omega))
      have hc47 : M23 (c + 32) = some (sObj 7 [.ref (c + 33), .int (sI tn), .int (sI te)]) := ((gb43 ((c + 32)) (by omega)).trans (hf10 (c + 32) (by omega) (by omega) (by omega) (by omega) (by omega))).trans ht0
      have hc48 : M23 (c + 33) = some (sArr G 300 t) := ((gb43 ((c + 33)) (by omega)).trans (hf10 (c + 33) (by omega) (by omega) (by omega) (by omega) (by omega))).trans ht1
      have hc49 : catC G M23 (c + 34) wc T := hct.fr (fun x q8 q9 => (gb43 x (by omega)).trans (hf10 x (by omega) (by omega) (by omega) (by omega) (by omega)))
      have hc50 : orfC G M23 (c + 38) := hft.fr (fun x q8 q9 => (gb43 x (by omega)).trans (hf10 x (by omega) (by omega) (by omega) (by omega) (by omega)))
      have hc51 : layC G M23 (c + 48) := hc9.fr (fun x q8 q9 => gb43 x (by omega))
      have hc52 : knoC G M23 (c + 54) := hkn.fr (fun x q8 q9 => (gb43 x (by omega)).trans (hf10 x (by omega) (by omega) (by omega) (by omega) (by omega)))
      have hc53 : excC G M23 (c + 57) := hex.fr (fun x q8 q9 => (gb43 x (by omega)).trans (hf10 x (by omega) (by omega) (by omega) (by omega) (by omega)))
      have hc54 : M23 (m + 3) = some (sArr G 300 t) := ((hf31 (m + 3) (by omega) (by omega) (by omega) (by omega)).trans (ga19 ((m + 3)) (by omega) (by omega))).trans hm3
      have hc55 : M23 (m + 4) = some (sArr G 11 A4) := ((hf31 (m + 4) (by omega) (by omega) (by omega) (by omega)).trans (ga19 ((m + 4)) (by omega) (by omega))).trans hm4
      have hc56 : M23 (m + 5) = some (sArr G 1024 A5) := ((hf31 (m + 5) (by omega) (by omega) (by omega) (by omega)).trans (ga19 ((m + 5)) (by omega) (by omega))).trans hm5
      have hc57 : M23 (m + 6) = some (sArr G 1024 A6) := ((hf31 (m + 6) (by omega) (by omega) (by omega) (by omega)).trans (ga19 ((m + 6)) (by omega) (by omega))).trans hm6
      have hc58 : M23 (m + 7) = some (sArr G 10 A7) := ((hf31 (m + 7) (by omega) (by omega) (by omega) (by omega)).trans (ga19 ((m + 7)) (by omega) (by omega))).trans hm7
      have hc59 : M23 (m + 9) = some (sArr G 62 A9) := ((hf31 (m + 9) (by omega) (by omega) (by omega) (by omega)).trans (ga19 ((m + 9)) (by omega) (by omega))).trans hm9
      have hc60 : M23 (m + 10) = some (sArr G 8 A10) := ((hf31 (m + 10) (by omega) (by omega) (by omega) (by omega)).trans (ga19 ((m + 10)) (by omega) (by omega))).trans hm10
      have hc61 : M23 (m + 11) = some (sArr G 8 A11) := ((hf31 (m + 11) (by omega) (by omega) (by omega) (by omega)).trans (ga19 ((m + 11)) (by omega) (by omega))).trans hm11
      have hc62 : M23 (m + 12) = some (sArr G 60 A12) := ((hf31 (m + 12) (by omega) (by omega) (by omega) (by omega)).trans (ga19 ((m + 12)) (by omega) (by omega))).trans hm12
      have hc63 : M23 (m + 13) = some (sArr G 240 A13) := ((hf31 (m + 13) (by omega) (by omega) (by omega) (by omega)).trans (ga19 ((m + 13)) (by omega) (by omega))).trans hm13
      have hc64 : M23 (m + 14) = some (sArr G 574 A14) := ((hf31 (m + 14) (by omega) (by omega) (by omega) (by omega)).trans (ga19 ((m + 14)) (by omega) (by omega))).trans hm14
      have hc65 : M23 (m + 15) = some (sArr G 200 T2) := ((hf31 (m + 15) (by omega) (by omega) (by omega) (by omega)).trans (ga19 ((m + 15)) (by omega) (by omega))).trans hm15
      have hc66 : M23 o = some (sArL G 1 g0) := ((gb43 o (by omega)).trans (hf10 o (by omega) (by omega) (by omega) (by omega) (by omega))).trans ho9
      exact W.widen (by omega) (by omega) (hk _ _ _ _ _ (by omega) ⟨_, _, _, _, _, _, _, _, _, _, _, _, _, _, _, _, _, _, _, _, _, _, _, _, _, _, hc42, hc44, hc45, hc46, hc47, hc48, hc49, hc50, hc51, hc52, hc53, hc35, hc36, hc30, hc54, hc55, hc56, hc57, hc58, hc29, hc59, hc60, hc61, hc62, hc63, hc64, hc65, hc66, lF_k hchr hlF (gS_m hlF.1), htp, hwr⟩ hV (lv_sub hl [0, 1, 2, 3, 4] rfl))
    · rw [ez38]
      exact (nx_layAll_0_1 c12 c37).elim
  · rw [ez16]
    refine lv_aload_n hx_ hb_ dL_law_1507 rfl (lv_at hl 2 rfl) ?_
    refine lv_aload_n hx_ hb_ dL_law_1508 rfl (lv_at hl 0 rfl) ?_
    refine lv_iload hx_ hb_ dL_law_1509 (lv_at hl 4 rfl) ?_
    refine si_const S dL_law_1511 ?_
    refine si_add S dL_law_1512 ?_
    refine sc_sld S hV hX hzb (by omega) dL_law_1513 ?_
    refine sb_bool (t0 := 1521) (t1 := 1522) S (lX_r xs _) dL_law_1514 (by decide) dL_law_1517 dL_law_1518 (by decide) dL_law_1521 rfl ?_
    have ga68 : ∀ x : Nat, m ≤ x → x < m + 16 → M1 x = M x := fun x u1 u2 => hf10 x (by omega) (by omega) (by omega) (by omega) (by omega)
    have hc67 : M1 m = some (mO m th ch tn te sn nm wn) := (ga68 m (by omega) (by omega)).trans hm0
    have hc69 : M1 (m + 1) = some (sArr G 574 f) := (ga68 ((m + 1)) (by omega) (by omega)).trans hm1
    have hc70 : svC G M1 (m + 2) ch fs := hsv.fr (fun x q8 q9 => ga68 x (by omega) (by omega))
    have hc71 : M1 (m + 8) = some (sArr G 10 A8) := (ga68 ((m + 8)) (by omega) (by omega)).trans hm8
    refine sk_Vi E hV (As := [.int (sI (bI (lX xs (i + 1) ≠ 0)))]) (rest := [.int (sI (laN f (lX xs (i + 1) ≠ 0)))]) (kX11_layAll l_ G b_ M1 N2 m th ch tn te sn nm wn f fs A8 (lX xs (i + 1) ≠ 0) hc67 hc69 hc70 hc71 (hok) (hchr)) (cwV 1 S.2.2.2.2 gL_law_X11_layAll rfl rfl rfl (by decide +kernel) ⟨Nat.le_of_ble_eq_true rfl, Nat.le_of_ble_eq_true rfl⟩) (ci := 9) hc67 rfl rfl rfl hl.1 (Nat.le_of_ble_eq_true rfl) dL_law_1522 (c1 := cc_ + 25) (s1 := ss_ + 3000) ⟨⟨rfl, rfl⟩, by omega, by omega⟩ (fun z75 M72 N73 H locs hp74 hV => ?_)
    obtain ⟨p976, hN77, hc78, hc79, hf80, hq81⟩ := hp74
    rw [hN77] at hV
    rcases hq81 with ⟨c82, ez83, hc84, hc85⟩ | ⟨c86, ez87, hc88, hc89⟩
    · rw [ez83]
      exact (nx_layAll_1_0 c15 c82).elim
    · rw [ez87]
      refine sb_eq1 (tgt := 2853) S (rfl) dL_law_1525 (by decide) ?_
      have gb91 : ∀ x : Nat, (x < m ∨ m + 16 ≤ x) → M72 x = M1 x := fun x u1 => hf80 x (by omega) (by omega) (by omega) (by omega)
      have hc90 : M72 c = some (xO c kn15 (chn ch)) := (gb91 c (by omega)).trans hc7
      have hc92 : stC G M72 (c + 1) (laF f (lX xs (i + 1) ≠ 0)) := hc17.fr (fun x q8 q9 => gb91 x (by omega))
      have hc93 : triC G M72 (c + 16) := htr.fr (fun x q8 q9 => (gb91 x (by omega)).trans (hf10 x (by omega) (by omega) (by omega) (by omega) (by omega)))
      have hc94 : kpC G M72 (c + 31) kb kn15 (chn ch) (fsn ch fs f) := hc8.fr (fun x q8 => gb91 x (by omega))
      have hc95 : M72 (c + 32) = some (sObj 7 [.ref (c + 33), .int (sI tn), .int (sI te)]) := ((gb91 ((c + 32)) (by omega)).trans (hf10 (c + 32) (by omega) (by omega) (by omega) (by omega) (by omega))).trans ht0
      have hc96 : M72 (c + 33) = some (sArr G 300 t) := ((gb91 ((c + 33)) (by omega)).trans (hf10 (c + 33) (by omega) (by omega) (by omega) (by omega) (by omega))).trans ht1
      have hc97 : catC G M72 (c + 34) wc T := hct.fr (fun x q8 q9 => (gb91 x (by omega)).trans (hf10 x (by omega) (by omega) (by omega) (by omega) (by omega)))
      have hc98 : orfC G M72 (c + 38) := hft.fr (fun x q8 q9 => (gb91 x (by omega)).trans (hf10 x (by omega) (by omega) (by omega) (by omega) (by omega)))
      have hc99 : layC G M72 (c + 48) := hc9.fr (fun x q8 q9 => gb91 x (by omega))
      have hc100 : knoC G M72 (c + 54) := hkn.fr (fun x q8 q9 => (gb91 x (by omega)).trans (hf10 x (by omega) (by omega) (by omega) (by omega) (by omega)))
      have hc101 : excC G M72 (c + 57) := hex.fr (fun x q8 q9 => (gb91 x (by omega)).trans (hf10 x (by omega) (by omega) (by omega) (by omega) (by omega)))
      have hc102 : M72 (m + 3) = some (sArr G 300 t) := ((hf80 (m + 3) (by omega) (by omega) (by omega) (by omega)).trans (ga68 ((m + 3)) (by omega) (by omega))).trans hm3
      have hc103 : M72 (m + 4) = some (sArr G 11 A4) := ((hf80 (m + 4) (by omega) (by omega) (by omega) (by omega)).trans (ga68 ((m + 4)) (by omega) (by omega))).trans hm4
      have hc104 : M72 (m + 5) = some (sArr G 1024 A5) := ((hf80 (m + 5) (by omega) (by omega) (by omega) (by omega)).trans (ga68 ((m + 5)) (by omega) (by omega))).trans hm5
      have hc105 : M72 (m + 6) = some (sArr G 1024 A6) := ((hf80 (m + 6) (by omega) (by omega) (by omega) (by omega)).trans (ga68 ((m + 6)) (by omega) (by omega))).trans hm6
      have hc106 : M72 (m + 7) = some (sArr G 10 A7) := ((hf80 (m + 7) (by omega) (by omega) (by omega) (by omega)).trans (ga68 ((m + 7)) (by omega) (by omega))).trans hm7
      have hc107 : M72 (m + 9) = some (sArr G 62 A9) := ((hf80 (m + 9) (by omega) (by omega) (by omega) (by omega)).trans (ga68 ((m + 9)) (by omega) (by omega))).trans hm9
      have hc108 : M72 (m + 10) = some (sArr G 8 A10) := ((hf80 (m + 10) (by omega) (by omega) (by omega) (by omega)).trans (ga68 ((m + 10)) (by omega) (by omega))).trans hm10
      have hc109 : M72 (m + 11) = some (sArr G 8 A11) := ((hf80 (m + 11) (by omega) (by omega) (by omega) (by omega)).trans (ga68 ((m + 11)) (by omega) (by omega))).trans hm11
      have hc110 : M72 (m + 12) = some (sArr G 60 A12) := ((hf80 (m + 12) (by omega) (by omega) (by omega) (by omega)).trans (ga68 ((m + 12)) (by omega) (by omega))).trans hm12
      have hc111 : M72 (m + 13) = some (sArr G 240 A13) := ((hf80 (m + 13) (by omega) (by omega) (by omega) (by omega)).trans (ga68 ((m + 13)) (by omega) (by omega))).trans hm13
      have hc112 : M72 (m + 14) = some (sArr G 574 A14) := ((hf80 (m + 14) (by omega) (by omega) (by omega) (by omega)).trans (ga68 ((m + 14)) (by omega) (by omega))).trans hm14
      have hc113 : M72 (m + 15) = some (sArr G 200 T2) := ((hf80 (m + 15) (by omega) (by omega) (by omega) (by omega)).trans (ga68 ((m + 15)) (by omega) (by omega))).trans hm15
      have hc114 : M72 o = some (sArL G 1 g0) := ((gb91 o (by omega)).trans (hf10 o (by omega) (by omega) (by omega) (by omega) (by omega))).trans ho9
      exact W.widen (by omega) (by omega) (hk _ _ _ _ _ (by omega) ⟨_, _, _, _, _, _, _, _, _, _, _, _, _, _, _, _, _, _, _, _, _, _, _, _, _, _, hc90, hc92, hc93, hc94, hc95, hc96, hc97, hc98, hc99, hc100, hc101, hc88, hc89, hc79, hc102, hc103, hc104, hc105, hc106, hc78, hc107, hc108, hc109, hc110, hc111, hc112, hc113, hc114, lF_k hchr hlF (g_la hlF.1 c15), htp, hwr⟩ hV (lv_sub hl [0, 1, 2, 3, 4] rfl))

theorem nx_tell_0_1 {s : Int} {f : sF} {d : Int} {h2 : Int} (h1 : ¬ (0 ≤ s ∧ s < f 568)) (h2 : (0 ≤ s ∧ s < f 568) ∧ ¬ (isDt d ∧ 0 ≤ h2 ∧ h2 ≤ 6)) : False := by
  first
  | omega
  | (simp_all; done)
  | (simp_all; omega)
theorem nx_tell_0_2 {s : Int} {f : sF} {d : Int} {h2 : Int} (h1 : ¬ (0 ≤ s ∧ s < f 568)) (h2 : (0 ≤ s ∧ s < f 568) ∧ (isDt d ∧ 0 ≤ h2 ∧ h2 ≤ 6) ∧ 60 ≤ f 570) : False := by
  first
  | omega
  | (simp_all; done)
  | (simp_all; omega)
theorem nx_tell_0_3 {s : Int} {f : sF} {d : Int} {h2 : Int} (h1 : ¬ (0 ≤ s ∧ s < f 568)) (h2 : (0 ≤ s ∧ s < f 568) ∧ (isDt d ∧ 0 ≤ h2 ∧ h2 ≤ 6) ∧ f 570 < 60) : False := by
  first
  | omega
  | (simp_all; done)
  | (simp_all; omega)
theorem nx_tell_1_0 {s : Int} {f : sF} {d : Int} {h2 : Int} (h1 : (0 ≤ s ∧ s < f 568) ∧ ¬ (isDt d ∧ 0 ≤ h2 ∧ h2 ≤ 6)) (h2 : ¬ (0 ≤ s ∧ s < f 568)) : False := by
  first
  | omega
  | (simp_all; done)
  | (simp_all; omega)
theorem nx_tell_1_2 {s : Int} {f : sF} {d : Int} {h2 : Int} (h1 : (0 ≤ s ∧ s < f 568) ∧ ¬ (isDt d ∧ 0 ≤ h2 ∧ h2 ≤ 6)) (h2 : (0 ≤ s ∧ s < f 568) ∧ (isDt d ∧ 0 ≤ h2 ∧ h2 ≤ 6) ∧ 60 ≤ f 570) : False := by
  first
  | omega
  | (simp_all; done)
  | (simp_all; omega)
theorem nx_tell_1_3 {s : Int} {f : sF} {d : Int} {h2 : Int} (h1 : (0 ≤ s ∧ s < f 568) ∧ ¬ (isDt d ∧ 0 ≤ h2 ∧ h2 ≤ 6)) (h2 : (0 ≤ s ∧ s < f 568) ∧ (isDt d ∧ 0 ≤ h2 ∧ h2 ≤ 6) ∧ f 570 < 60) : False := by
  first
  | omega
  | (simp_all; done)
  | (simp_all; omega)
theorem nx_tell_2_0 {s : Int} {f : sF} {d : Int} {h2 : Int} (h1 : (0 ≤ s ∧ s < f 568) ∧ (isDt d ∧ 0 ≤ h2 ∧ h2 ≤ 6) ∧ 60 ≤ f 570) (h2 : ¬ (0 ≤ s ∧ s < f 568)) : False := by
  first
  | omega
  | (simp_all; done)
  | (simp_all; omega)
theorem nx_tell_2_1 {s : Int} {f : sF} {d : Int} {h2 : Int} (h1 : (0 ≤ s ∧ s < f 568) ∧ (isDt d ∧ 0 ≤ h2 ∧ h2 ≤ 6) ∧ 60 ≤ f 570) (h2 : (0 ≤ s ∧ s < f 568) ∧ ¬ (isDt d ∧ 0 ≤ h2 ∧ h2 ≤ 6)) : False := by
  first
  | omega
  | (simp_all; done)
  | (simp_all; omega)
theorem nx_tell_2_3 {s : Int} {f : sF} {d : Int} {h2 : Int} (h1 : (0 ≤ s ∧ s < f 568) ∧ (isDt d ∧ 0 ≤ h2 ∧ h2 ≤ 6) ∧ 60 ≤ f 570) (h2 : (0 ≤ s ∧ s < f 568) ∧ (isDt d ∧ 0 ≤ h2 ∧ h2 ≤ 6) ∧ f 570 < 60) : False := by
  first
  | omega
  | (simp_all; done)
  | (simp_all; omega)
theorem nx_tell_3_0 {s : Int} {f : sF} {d : Int} {h2 : Int} (h1 : (0 ≤ s ∧ s < f 568) ∧ (isDt d ∧ 0 ≤ h2 ∧ h2 ≤ 6) ∧ f 570 < 60) (h2 : ¬ (0 ≤ s ∧ s < f 568)) : False := by
  first
  | omega
  | (simp_all; done)
  | (simp_all; omega)
theorem nx_tell_3_1 {s : Int} {f : sF} {d : Int} {h2 : Int} (h1 : (0 ≤ s ∧ s < f 568) ∧ (isDt d ∧ 0 ≤ h2 ∧ h2 ≤ 6) ∧ f 570 < 60) (h2 : (0 ≤ s ∧ s < f 568) ∧ ¬ (isDt d ∧ 0 ≤ h2 ∧ h2 ≤ 6)) : False := by
  first
  | omega
  | (simp_all; done)
  | (simp_all; omega)
theorem nx_tell_3_2 {s : Int} {f : sF} {d : Int} {h2 : Int} (h1 : (0 ≤ s ∧ s < f 568) ∧ (isDt d ∧ 0 ≤ h2 ∧ h2 ≤ 6) ∧ f 570 < 60) (h2 : (0 ≤ s ∧ s < f 568) ∧ (isDt d ∧ 0 ≤ h2 ∧ h2 ≤ 6) ∧ 60 ≤ f 570) : False := by
  first
  | omega
  | (simp_all; done)
  | (simp_all; omega)
set_option maxHeartbeats 4000000 in
set_option maxRecDepth 100000 in
theorem law_22 {p_ : Program} {l_ : Launch} {e_ : Env} {s_ : State} {m_ : MethodId} {args_ : Array Value} {below_ : List Frame} {meth_ : Method} {c_ : Code} {nm_ : String} {G : sG} {b_ : Nat} {M0 : sM} {N0 : Nat} {Q : State → Prop} (E : sE p_ l_ e_ room_1 s_ m_ args_ below_ meth_ c_ cL_law 9 wsL_law RL nm_ (some .boolean) G b_ M0 N0) (hF_ : xcF s_) (hlt : l_.stackTraces = false) {z L : Nat} {xs : Nat → Int32} (hX : va_X z L xs s_ s_.heap) (hzb : z < b_) {c m o kb : Nat} (hg : c + 60 ≤ m ∧ m + 16 ≤ o ∧ o < kb) {cc_ ss_ : Nat} (hcc : cc_ + 1170 ≤ room_1.cells ∧ ss_ + 14000 ≤ room_1.slots) {q i : Int} (hi : 0 ≤ i ∧ i + 6 ≤ L ∧ (L : Int) ≤ 3072) (hq : 0 ≤ q ∧ q ≤ 600) {M : sM} {N : Nat} (hkN : kb ≤ N) (hI : lI G M c m o kb q) {H : Heap} {locs : List Loc} {ls : Array Slot} (hV : sV G b_ M N s_ H locs) (hl : lv_has ls 9 [(0, .ref z), (1, .ref c), (2, .ref m), (3, .ref o), (4, .int (sI i))])
    (hk : ∀ (M1 : sM) (N1 : Nat) (H1 : Heap) (locs1 : List Loc) (ls1 : Array Slot), kb ≤ N1 → lI G M1 c m o kb (q + 1) → sV G b_ M1 N1 s_ H1 locs1 → lv_has ls1 9 [(0, .ref z), (1, .ref c), (2, .ref m), (3, .ref o), (4, .int (sI i))] → W p_ l_ e_ room_1 s_ m_ args_ below_ meth_ c_ H1 locs1 (cc_ + 1170) (ss_ + 14000) Q (F0 m_ 2853 ls1 [])) : W p_ l_ e_ room_1 s_ m_ args_ below_ meth_ c_ H locs cc_ ss_ Q (F0 m_ 1530 ls []) := by
  have S := E.1
  have hx_ := S.1
  have hb_ := S.2.1
  have hK := E.2.2.2.2.1
  have hI2 := hI
  obtain ⟨kn, ch, f, fs, tn, te, t, wc, wn, T, T2, th, sn, nm, g0, A4, A5, A6, A7, A8, A9, A10, A11, A12, A13, A14, hc0, hst, htr, hkp, ht0, ht1, hct, hft, hly, hkn, hex, hm0, hm1, hsv, hm3, hm4, hm5, hm6, hm7, hm8, hm9, hm10, hm11, hm12, hm13, hm14, hm15, ho9, hlF, htp, hwr⟩ := hI2
  have hok := hlF.1.1
  have hdI := hlF.1.2.1
  have hsL := hlF.1.2.2.1
  have hclk := hlF.1.2.2.2
  have hchr : 0 ≤ ch ∧ ch ≤ 15 := ⟨hkp.r.2.2.1, hkp.r.2.2.2⟩
  have htp1 := htp.1
  have htp2 := htp.2.1
  have hwq := wrQ_e hwr
  have hwq1 := hwq.1
  have hwq2 := hwq.2.1
  have kn0 := sOk_N hok
  refine lv_aload_n hx_ hb_ dL_law_1530 rfl (lv_at hl 1 rfl) ?_
  refine lv_aload_n hx_ hb_ dL_law_1531 rfl (lv_at hl 0 rfl) ?_
  refine lv_iload hx_ hb_ dL_law_1532 (lv_at hl 4 rfl) ?_
  refine si_const S dL_law_1534 ?_
  refine si_add S dL_law_1535 ?_
  refine sc_sld S hV hX hzb (by omega) dL_law_1536 ?_
  refine lv_aload_n hx_ hb_ dL_law_1537 rfl (lv_at hl 0 rfl) ?_
  refine lv_iload hx_ hb_ dL_law_1538 (lv_at hl 4 rfl) ?_
  refine si_const S dL_law_1540 ?_
  refine si_add S dL_law_1541 ?_
  refine sc_sld S hV hX hzb (by omega) dL_law_1542 ?_
  refine lv_aload_n hx_ hb_ dL_law_1543 rfl (lv_at hl 0 rfl) ?_
  refine lv_iload hx_ hb_ dL_law_1544 (lv_at hl 4 rfl) ?_
  refine si_const S dL_law_1546 ?_
  refine si_add S dL_law_1547 ?_
  refine sc_sld S hV hX hzb (by omega) dL_law_1548 ?_
  refine lv_aload_n hx_ hb_ dL_law_1549 rfl (lv_at hl 3 rfl) ?_
  refine yk_Si (hh := [(0, 12, 15, 25), (0, 12, 19, 19), (0, 12, 23, 13)]) E hF_ hV (As := [.ref c, .int (sI (lX xs (i + 1))), .int (sI (lX xs (i + 2))), .int (sI (lX xs (i + 3))), .ref o]) (rest := []) (kL_tell l_ G b_ M N o g0 c kn ch f kb fs (lX xs (i + 1)) (lX xs (i + 2)) (lX xs (i + 3)) hc0 hst hkp ho9 (hlt) (hok) (by omega) (by omega) (⟨lX_r xs _, lX_r xs _, lX_r xs _⟩) (by omega) (by omega)) (vx_cwSW 5 S.2.2.2.2 gL_law_L_tell rfl rfl rfl (by decide +kernel) ⟨Nat.le_of_ble_eq_true rfl, Nat.le_of_ble_eq_true rfl⟩) rfl rfl hl.1 (Nat.le_of_ble_eq_true rfl) dL_law_1550 (c1 := cc_ + 25) (s1 := ss_ + 3000) ⟨⟨rfl, rfl⟩, by omega, by omega⟩ (fun z4 M1 N2 H locs hp3 hV => ?_)
  obtain ⟨kn15, hN6, hf7, hq8⟩ := hp3
  rcases hq8 with ⟨c9, ez10, hc11, hc12, hc13, hc14⟩ | ⟨c15, ez16, hc17, hc18, hc19, hc20⟩ | ⟨c21, ez22, hc23, hc24, hc25, hc26⟩ | ⟨c27, ez28, hc29, hc30, hc31, hc32⟩
  · rw [ez10]
    refine lv_istore (lv' := [(5, .int (sI 1)), (0, .ref z), (1, .ref c), (2, .ref m), (3, .ref o), (4, .int (sI i))]) hx_ hb_ dL_law_1553 hl (by decide) rfl (fun ls hl => ?_)
    refine lv_aload_n hx_ hb_ dL_law_1555 rfl (lv_at hl 3 rfl) ?_
    refine lv_aload_n hx_ hb_ dL_law_1556 rfl (lv_at hl 1 rfl) ?_
    refine lv_iload hx_ hb_ dL_law_1557 (lv_at hl 5 rfl) ?_
    refine si_const S dL_law_1559 ?_
    refine si_add S dL_law_1560 ?_
    refine sc_sld S hV hX hzb (by omega) dL_law_1561 ?_
    refine lv_aload_n hx_ hb_ dL_law_1562 rfl (lv_at hl 1 rfl) ?_
    refine lv_iload hx_ hb_ dL_law_1563 (lv_at hl 5 rfl) ?_
    refine si_const S dL_law_1565 ?_
    refine si_add S dL_law_1566 ?_
    refine sc_sld S hV hX hzb (by omega) dL_law_1567 ?_
    refine lv_aload_n hx_ hb_ dL_law_1568 rfl (lv_at hl 1 rfl) ?_
    refine lv_iload hx_ hb_ dL_law_1569 (lv_at hl 5 rfl) ?_
    refine si_const S dL_law_1571 ?_
    refine si_add S dL_law_1572 ?_
    refine sc_sld S hV hX hzb (by omega) dL_law_1573 ?_
    have ga34 : ∀ x : Nat, m ≤ x → x < m + 16 → M1 x = M x := fun x u1 u2 => hf7 x (by omega) (by omega) (by omega) (by omega) (by omega)
    have hc33 : M1 m = some (mO m th ch tn te sn nm wn) := (ga34 m (by omega) (by omega)).trans hm0
    have hc35 : M1 (m + 1) = some (sArr G 574 f) := (ga34 ((m + 1)) (by omega) (by omega)).trans hm1
    have hc36 : svC G M1 (m + 2) ch fs := hsv.fr (fun x q8 q9 => ga34 x (by omega) (by omega))
    refine sk_Vi E hV (As := [.int (sI (lX xs (i + 1))), .int (sI (lX xs (i + 2))), .int (sI (lX xs (i + 3)))]) (rest := []) (kX11_tell l_ G b_ M1 N2 m th ch tn te sn nm wn f fs (lX xs (i + 1)) (lX xs (i + 2)) (lX xs (i + 3)) hc33 hc35 hc36 (hok) (hchr) (⟨lX_r xs _, lX_r xs _, lX_r xs _⟩)) (cwV 3 S.2.2.2.2 gL_law_X11_tell rfl rfl rfl (by decide +kernel) ⟨Nat.le_of_ble_eq_true rfl, Nat.le_of_ble_eq_true rfl⟩) (ci := 9) hc33 rfl rfl rfl hl.1 (Nat.le_of_ble_eq_true rfl) dL_law_1574 (c1 := cc_ + 25) (s1 := ss_ + 3000) ⟨⟨rfl, rfl⟩, by omega, by omega⟩ (fun z40 M37 N38 H locs hp39 hV => ?_)
    obtain ⟨hN41, hf42, hq43⟩ := hp39
    rw [hN41] at hV
    rcases hq43 with ⟨c44, ez45, hc46, hc47, hc48⟩ | ⟨c49, ez50, hc51, hc52, hc53⟩ | ⟨c54, ez55, hc56, hc57, hc58⟩ | ⟨c59, ez60, hc61, hc62, hc63⟩
    · rw [ez45]
      refine lv_istore (lv' := [(6, .int (sI 0)), (5, .int (sI 1)), (0, .ref z), (1, .ref c), (2, .ref m), (3, .ref o), (4, .int (sI i))]) hx_ hb_ dL_law_1577 hl (by decide) rfl (fun ls hl => ?_)
      refine lv_aload_n hx_ hb_ dL_law_1579 rfl (lv_at hl 4 rfl) ?_
      refine sk_VP E hV (As := []) (rest := []) (kX11_thrown l_ G b_ M37 N2 m 1 ch tn te sn nm wn hc46) (cwV 0 S.2.2.2.2 gL_law_X11_thrown rfl rfl rfl (by decide +kernel) ⟨Nat.le_of_ble_eq_true rfl, Nat.le_of_ble_eq_true rfl⟩) (ci := 9) hc46 rfl rfl rfl hl.1 (Nat.le_of_ble_eq_true rfl) dL_law_1580 (c1 := cc_ + 25) (s1 := ss_ + 3000) ⟨⟨rfl, rfl⟩, by omega, by omega⟩ (fun H locs hV => ?_)
      refine lv_iload hx_ hb_ dL_law_1583 (lv_at hl 1 rfl) ?_
      refine sb_eq (tgt := 1590) S dL_law_1585 (by decide) (by omega) (fun _ => ?_) (fun c64 => absurd c64 (by omega))
      refine lv_iload hx_ hb_ dL_law_1590 (lv_at hl 1 rfl) ?_
      refine sz_ne (tgt := 1607) S dL_law_1592 (by decide) (by omega) (fun _ => ?_) (fun c65 => absurd c65 (by omega))
      refine lv_goto (tgt := 2853) hx_ hb_ dL_law_1607 (by decide) ?_
      have gb67 : ∀ x : Nat, (x < m ∨ m + 16 ≤ x) → M37 x = M1 x := fun x u1 => hf42 x (by omega) (by omega) (by omega)
      have hc66 : M37 c = some (xO c kn15 ch) := (gb67 c (by omega)).trans hc11
      have hc68 : stC G M37 (c + 1) f := hc12.fr (fun x q8 q9 => gb67 x (by omega))
      have hc69 : triC G M37 (c + 16) := htr.fr (fun x q8 q9 => (gb67 x (by omega)).trans (hf7 x (by omega) (by omega) (by omega) (by omega) (by omega)))
      have hc70 : kpC G M37 (c + 31) kb kn15 ch fs := hc13.fr (fun x q8 => gb67 x (by omega))
      have hc71 : M37 (c + 32) = some (sObj 7 [.ref (c + 33), .int (sI tn), .int (sI te)]) := ((gb67 ((c + 32)) (by omega)).trans (hf7 (c + 32) (by omega) (by omega) (by omega) (by omega) (by omega))).trans ht0
      have hc72 : M37 (c + 33) = some (sArr G 300 t) := ((gb67 ((c + 33)) (by omega)).trans (hf7 (c + 33) (by omega) (by omega) (by omega) (by omega) (by omega))).trans ht1
      have hc73 : catC G M37 (c + 34) wc T := hct.fr (fun x q8 q9 => (gb67 x (by omega)).trans (hf7 x (by omega) (by omega) (by omega) (by omega) (by omega)))
      have hc74 : orfC G M37 (c + 38) := hft.fr (fun x q8 q9 => (gb67 x (by omega)).trans (hf7 x (by omega) (by omega) (by omega) (by omega) (by omega)))
      have hc75 : layC G M37 (c + 48) := hly.fr (fun x q8 q9 => (gb67 x (by omega)).trans (hf7 x (by omega) (by omega) (by omega) (by omega) (by omega)))
      have hc76 : knoC G M37 (c + 54) := hkn.fr (fun x q8 q9 => (gb67 x (by omega)).trans (hf7 x (by omega) (by omega) (by omega) (by omega) (by omega)))
      have hc77 : excC G M37 (c + 57) := hex.fr (fun x q8 q9 => (gb67 x (by omega)).trans (hf7 x (by omega) (by omega) (by omega) (by omega) (by omega)))
      have hc78 : M37 (m + 3) = some (sArr G 300 t) := ((hf42 (m + 3) (by omega) (by omega) (by omega)).trans (ga34 ((m + 3)) (by omega) (by omega))).trans hm3
      have hc79 : M37 (m + 4) = some (sArr G 11 A4) := ((hf42 (m + 4) (by omega) (by omega) (by omega)).trans (ga34 ((m + 4)) (by omega) (by omega))).trans hm4
      have hc80 : M37 (m + 5) = some (sArr G 1024 A5) := ((hf42 (m + 5) (by omega) (by omega) (by omega)).trans (ga34 ((m + 5)) (by omega) (by omega))).trans hm5
      have hc81 : M37 (m + 6) = some (sArr G 1024 A6) := ((hf42 (m + 6) (by omega) (by omega) (by omega)).trans (ga34 ((m + 6)) (by omega) (by omega))).trans hm6
      have hc82 : M37 (m + 7) = some (sArr G 10 A7) := ((hf42 (m + 7) (by omega) (by omega) (by omega)).trans (ga34 ((m + 7)) (by omega) (by omega))).trans hm7
      have hc83 : M37 (m + 8) = some (sArr G 10 A8) := ((hf42 (m + 8) (by omega) (by omega) (by omega)).trans (ga34 ((m + 8)) (by omega) (by omega))).trans hm8
      have hc84 : M37 (m + 9) = some (sArr G 62 A9) := ((hf42 (m + 9) (by omega) (by omega) (by omega)).trans (ga34 ((m + 9)) (by omega) (by omega))).trans hm9
      have hc85 : M37 (m + 10) = some (sArr G 8 A10) := ((hf42 (m + 10) (by omega) (by omega) (by omega)).trans (ga34 ((m + 10)) (by omega) (by omega))).trans hm10
      have hc86 : M37 (m + 11) = some (sArr G 8 A11) := ((hf42 (m + 11) (by omega) (by omega) (by omega)).trans (ga34 ((m + 11)) (by omega) (by omega))).trans hm11
      have hc87 : M37 (m + 12) = some (sArr G 60 A12) := ((hf42 (m + 12) (by omega) (by omega) (by omega)).trans (ga34 ((m + 12)) (by omega) (by omega))).trans hm12
      have hc88 : M37 (m + 13) = some (sArr G 240 A13) := ((hf42 (m + 13) (by omega) (by omega) (by omega)).trans (ga34 ((m + 13)) (by omega) (by omega))).trans hm13
      have hc89 : M37 (m + 14) = some (sArr G 574 A14) := ((hf42 (m + 14) (by omega) (by omega) (by omega)).trans (ga34 ((m + 14)) (by omega) (by omega))).trans hm14
      have hc90 : M37 (m + 15) = some (sArr G 200 T2) := ((hf42 (m + 15) (by omega) (by omega) (by omega)).trans (ga34 ((m + 15)) (by omega) (by omega))).trans hm15
      have hc91 : M37 o = some (sArL G 1 g0) := (gb67 o (by omega)).trans hc14
      exact W.widen (by omega) (by omega) (hk _ _ _ _ _ (by omega) ⟨_, _, _, _, _, _, _, _, _, _, _, _, _, _, _, _, _, _, _, _, _, _, _, _, _, _, hc66, hc68, hc69, hc70, hc71, hc72, hc73, hc74, hc75, hc76, hc77, hc46, hc47, hc48, hc78, hc79, hc80, hc81, hc82, hc83, hc84, hc85, hc86, hc87, hc88, hc89, hc90, hc91, lF_s hlF, htp, hwr⟩ hV (lv_sub hl [2, 3, 4, 5, 6] rfl))
    · rw [ez50]
      exact (nx_tell_0_1 c9 c49).elim
    · rw [ez55]
      exact (nx_tell_0_2 c9 c54).elim
    · rw [ez60]
      exact (nx_tell_0_3 c9 c59).elim
  · rw [ez16]
    refine lv_istore (lv' := [(5, .int (sI 2)), (0, .ref z), (1, .ref c), (2, .ref m), (3, .ref o), (4, .int (sI i))]) hx_ hb_ dL_law_1553 hl (by decide) rfl (fun ls hl => ?_)
    refine lv_aload_n hx_ hb_ dL_law_1555 rfl (lv_at hl 3 rfl) ?_
    refine lv_aload_n hx_ hb_ dL_law_1556 rfl (lv_at hl 1 rfl) ?_
    refine lv_iload hx_ hb_ dL_law_1557 (lv_at hl 5 rfl) ?_
    refine si_const S dL_law_1559 ?_
    refine si_add S dL_law_1560 ?_
    refine sc_sld S hV hX hzb (by omega) dL_law_1561 ?_
    refine lv_aload_n hx_ hb_ dL_law_1562 rfl (lv_at hl 1 rfl) ?_
    refine lv_iload hx_ hb_ dL_law_1563 (lv_at hl 5 rfl) ?_
    refine si_const S dL_law_1565 ?_
    refine si_add S dL_law_1566 ?_
    refine sc_sld S hV hX hzb (by omega) dL_law_1567 ?_
    refine lv_aload_n hx_ hb_ dL_law_1568 rfl (lv_at hl 1 rfl) ?_
    refine lv_iload hx_ hb_ dL_law_1569 (lv_at hl 5 rfl) ?_
    refine si_const S dL_law_1571 ?_
    refine si_add S dL_law_1572 ?_
    refine sc_sld S hV hX hzb (by omega) dL_law_1573 ?_
    have ga93 : ∀ x : Nat, m ≤ x → x < m + 16 → M1 x = M x := fun x u1 u2 => hf7 x (by omega) (by omega) (by omega) (by omega) (by omega)
    have hc92 : M1 m = some (mO m th ch tn te sn nm wn) := (ga93 m (by omega) (by omega)).trans hm0
    have hc94 : M1 (m + 1) = some (sArr G 574 f) := (ga93 ((m + 1)) (by omega) (by omega)).trans hm1
    have hc95 : svC G M1 (m + 2) ch fs := hsv.fr (fun x q8 q9 => ga93 x (by omega) (by omega))
    refine sk_Vi E hV (As := [.int (sI (lX xs (i + 1))), .int (sI (lX xs (i + 2))), .int (sI (lX xs (i + 3)))]) (rest := []) (kX11_tell l_ G b_ M1 N2 m th ch tn te sn nm wn f fs (lX xs (i + 1)) (lX xs (i + 2)) (lX xs (i + 3)) hc92 hc94 hc95 (hok) (hchr) (⟨lX_r xs _, lX_r xs _, lX_r xs _⟩)) (cwV 3 S.2.2.2.2 gL_law_X11_tell rfl rfl rfl (by decide +kernel) ⟨Nat.le_of_ble_eq_true rfl, Nat.le_of_ble_eq_true rfl⟩) (ci := 9) hc92 rfl rfl rfl hl.1 (Nat.le_of_ble_eq_true rfl) dL_law_1574 (c1 := cc_ + 25) (s1 := ss_ + 3000) ⟨⟨rfl, rfl⟩, by omega, by omega⟩ (fun z99 M96 N97 H locs hp98 hV => ?_)
    obtain ⟨hN100, hf101, hq102⟩ := hp98
    rw [hN100] at hV
    rcases hq102 with ⟨c103, ez104, hc105, hc106, hc107⟩ | ⟨c108, ez109, hc110, hc111, hc112⟩ | ⟨c113, ez114, hc115, hc116, hc117⟩ | ⟨c118, ez119, hc120, hc121, hc122⟩
    · rw [ez104]
      exact (nx_tell_1_0 c15 c103).elim
    · rw [ez109]
      refine lv_istore (lv' := [(6, .int (sI 0)), (5, .int (sI 2)), (0, .ref z), (1, .ref c), (2, .ref m), (3, .ref o), (4, .int (sI i))]) hx_ hb_ dL_law_1577 hl (by decide) rfl (fun ls hl => ?_)
      refine lv_aload_n hx_ hb_ dL_law_1579 rfl (lv_at hl 4 rfl) ?_
      refine sk_VP E hV (As := []) (rest := []) (kX11_thrown l_ G b_ M96 N2 m 2 ch tn te sn nm wn hc110) (cwV 0 S.2.2.2.2 gL_law_X11_thrown rfl rfl rfl (by decide +kernel) ⟨Nat.le_of_ble_eq_true rfl, Nat.le_of_ble_eq_true rfl⟩) (ci := 9) hc110 rfl rfl rfl hl.1 (Nat.le_of_ble_eq_true rfl) dL_law_1580 (c1 := cc_ + 25) (s1 := ss_ + 3000) ⟨⟨rfl, rfl⟩, by omega, by omega⟩ (fun H locs hV => ?_)
      refine lv_iload hx_ hb_ dL_law_1583 (lv_at hl 1 rfl) ?_
      refine sb_eq (tgt := 1590) S dL_law_1585 (by decide) (by omega) (fun _ => ?_) (fun c123 => absurd c123 (by omega))
      refine lv_iload hx_ hb_ dL_law_1590 (lv_at hl 1 rfl) ?_
      refine sz_ne (tgt := 1607) S dL_law_1592 (by decide) (by omega) (fun _ => ?_) (fun c124 => absurd c124 (by omega))
      refine lv_goto (tgt := 2853) hx_ hb_ dL_law_1607 (by decide) ?_
      have gb126 : ∀ x : Nat, (x < m ∨ m + 16 ≤ x) → M96 x = M1 x := fun x u1 => hf101 x (by omega) (by omega) (by omega)
      have hc125 : M96 c = some (xO c kn15 ch) := (gb126 c (by omega)).trans hc17
      have hc127 : stC G M96 (c + 1) f := hc18.fr (fun x q8 q9 => gb126 x (by omega))
      have hc128 : triC G M96 (c + 16) := htr.fr (fun x q8 q9 => (gb126 x (by omega)).trans (hf7 x (by omega) (by omega) (by omega) (by omega) (by omega)))
      have hc129 : kpC G M96 (c + 31) kb kn15 ch fs := hc19.fr (fun x q8 => gb126 x (by omega))
      have hc130 : M96 (c + 32) = some (sObj 7 [.ref (c + 33), .int (sI tn), .int (sI te)]) := ((gb126 ((c + 32)) (by omega)).trans (hf7 (c + 32) (by omega) (by omega) (by omega) (by omega) (by omega))).trans ht0
      have hc131 : M96 (c + 33) = some (sArr G 300 t) := ((gb126 ((c + 33)) (by omega)).trans (hf7 (c + 33) (by omega) (by omega) (by omega) (by omega) (by omega))).trans ht1
      have hc132 : catC G M96 (c + 34) wc T := hct.fr (fun x q8 q9 => (gb126 x (by omega)).trans (hf7 x (by omega) (by omega) (by omega) (by omega) (by omega)))
      have hc133 : orfC G M96 (c + 38) := hft.fr (fun x q8 q9 => (gb126 x (by omega)).trans (hf7 x (by omega) (by omega) (by omega) (by omega) (by omega)))
      have hc134 : layC G M96 (c + 48) := hly.fr (fun x q8 q9 => (gb126 x (by omega)).trans (hf7 x (by omega) (by omega) (by omega) (by omega) (by omega)))
      have hc135 : knoC G M96 (c + 54) := hkn.fr (fun x q8 q9 => (gb126 x (by omega)).trans (hf7 x (by omega) (by omega) (by omega) (by omega) (by omega)))
      have hc136 : excC G M96 (c + 57) := hex.fr (fun x q8 q9 => (gb126 x (by omega)).trans (hf7 x (by omega) (by omega) (by omega) (by omega) (by omega)))
      have hc137 : M96 (m + 3) = some (sArr G 300 t) := ((hf101 (m + 3) (by omega) (by omega) (by omega)).trans (ga93 ((m + 3)) (by omega) (by omega))).trans hm3
      have hc138 : M96 (m + 4) = some (sArr G 11 A4) := ((hf101 (m + 4) (by omega) (by omega) (by omega)).trans (ga93 ((m + 4)) (by omega) (by omega))).trans hm4
      have hc139 : M96 (m + 5) = some (sArr G 1024 A5) := ((hf101 (m + 5) (by omega) (by omega) (by omega)).trans (ga93 ((m + 5)) (by omega) (by omega))).trans hm5
      have hc140 : M96 (m + 6) = some (sArr G 1024 A6) := ((hf101 (m + 6) (by omega) (by omega) (by omega)).trans (ga93 ((m + 6)) (by omega) (by omega))).trans hm6
      have hc141 : M96 (m + 7) = some (sArr G 10 A7) := ((hf101 (m + 7) (by omega) (by omega) (by omega)).trans (ga93 ((m + 7)) (by omega) (by omega))).trans hm7
      have hc142 : M96 (m + 8) = some (sArr G 10 A8) := ((hf101 (m + 8) (by omega) (by omega) (by omega)).trans (ga93 ((m + 8)) (by omega) (by omega))).trans hm8
      have hc143 : M96 (m + 9) = some (sArr G 62 A9) := ((hf101 (m + 9) (by omega) (by omega) (by omega)).trans (ga93 ((m + 9)) (by omega) (by omega))).trans hm9
      have hc144 : M96 (m + 10) = some (sArr G 8 A10) := ((hf101 (m + 10) (by omega) (by omega) (by omega)).trans (ga93 ((m + 10)) (by omega) (by omega))).trans hm10
      have hc145 : M96 (m + 11) = some (sArr G 8 A11) := ((hf101 (m + 11) (by omega) (by omega) (by omega)).trans (ga93 ((m + 11)) (by omega) (by omega))).trans hm11
      have hc146 : M96 (m + 12) = some (sArr G 60 A12) := ((hf101 (m + 12) (by omega) (by omega) (by omega)).trans (ga93 ((m + 12)) (by omega) (by omega))).trans hm12
      have hc147 : M96 (m + 13) = some (sArr G 240 A13) := ((hf101 (m + 13) (by omega) (by omega) (by omega)).trans (ga93 ((m + 13)) (by omega) (by omega))).trans hm13
      have hc148 : M96 (m + 14) = some (sArr G 574 A14) := ((hf101 (m + 14) (by omega) (by omega) (by omega)).trans (ga93 ((m + 14)) (by omega) (by omega))).trans hm14
      have hc149 : M96 (m + 15) = some (sArr G 200 T2) := ((hf101 (m + 15) (by omega) (by omega) (by omega)).trans (ga93 ((m + 15)) (by omega) (by omega))).trans hm15
      have hc150 : M96 o = some (sArL G 1 g0) := (gb126 o (by omega)).trans hc20
      exact W.widen (by omega) (by omega) (hk _ _ _ _ _ (by omega) ⟨_, _, _, _, _, _, _, _, _, _, _, _, _, _, _, _, _, _, _, _, _, _, _, _, _, _, hc125, hc127, hc128, hc129, hc130, hc131, hc132, hc133, hc134, hc135, hc136, hc110, hc111, hc112, hc137, hc138, hc139, hc140, hc141, hc142, hc143, hc144, hc145, hc146, hc147, hc148, hc149, hc150, lF_s hlF, htp, hwr⟩ hV (lv_sub hl [2, 3, 4, 5, 6] rfl))
    · rw [ez114]
      exact (nx_tell_1_2 c15 c113).elim
    · rw [ez119]
      exact (nx_tell_1_3 c15 c118).elim
  · rw [ez22]
    refine lv_istore (lv' := [(5, .int (sI 3)), (0, .ref z), (1, .ref c), (2, .ref m), (3, .ref o), (4, .int (sI i))]) hx_ hb_ dL_law_1553 hl (by decide) rfl (fun ls hl => ?_)
    refine lv_aload_n hx_ hb_ dL_law_1555 rfl (lv_at hl 3 rfl) ?_
    refine lv_aload_n hx_ hb_ dL_law_1556 rfl (lv_at hl 1 rfl) ?_
    refine lv_iload hx_ hb_ dL_law_1557 (lv_at hl 5 rfl) ?_
    refine si_const S dL_law_1559 ?_
    refine si_add S dL_law_1560 ?_
    refine sc_sld S hV hX hzb (by omega) dL_law_1561 ?_
    refine lv_aload_n hx_ hb_ dL_law_1562 rfl (lv_at hl 1 rfl) ?_
    refine lv_iload hx_ hb_ dL_law_1563 (lv_at hl 5 rfl) ?_
    refine si_const S dL_law_1565 ?_
    refine si_add S dL_law_1566 ?_
    refine sc_sld S hV hX hzb (by omega) dL_law_1567 ?_
    refine lv_aload_n hx_ hb_ dL_law_1568 rfl (lv_at hl 1 rfl) ?_
    refine lv_iload hx_ hb_ dL_law_1569 (lv_at hl 5 rfl) ?_
    refine si_const S dL_law_1571 ?_
    refine si_add S dL_law_1572 ?_
    refine sc_sld S hV hX hzb (by omega) dL_law_1573 ?_
    have ga152 : ∀ x : Nat, m ≤ x → x < m + 16 → M1 x = M x := fun x u1 u2 => hf7 x (by omega) (by omega) (by omega) (by omega) (by omega)
    have hc151 : M1 m = some (mO m th ch tn te sn nm wn) := (ga152 m (by omega) (by omega)).trans hm0
    have hc153 : M1 (m + 1) = some (sArr G 574 f) := (ga152 ((m + 1)) (by omega) (by omega)).trans hm1
    have hc154 : svC G M1 (m + 2) ch fs := hsv.fr (fun x q8 q9 => ga152 x (by omega) (by omega))
    refine sk_Vi E hV (As := [.int (sI (lX xs (i + 1))), .int (sI (lX xs (i + 2))), .int (sI (lX xs (i + 3)))]) (rest := []) (kX11_tell l_ G b_ M1 N2 m th ch tn te sn nm wn f fs (lX xs (i + 1)) (lX xs (i + 2)) (lX xs (i + 3)) hc151 hc153 hc154 (hok) (hchr) (⟨lX_r xs _, lX_r xs _, lX_r xs _⟩)) (cwV 3 S.2.2.2.2 gL_law_X11_tell rfl rfl rfl (by decide +kernel) ⟨Nat.le_of_ble_eq_true rfl, Nat.le_of_ble_eq_true rfl⟩) (ci := 9) hc151 rfl rfl rfl hl.1 (Nat.le_of_ble_eq_true rfl) dL_law_1574 (c1 := cc_ + 25) (s1 := ss_ + 3000) ⟨⟨rfl, rfl⟩, by omega, by omega⟩ (fun z158 M155 N156 H locs hp157 hV => ?_)
    obtain ⟨hN159, hf160, hq161⟩ := hp157
    rw [hN159] at hV
    rcases hq161 with ⟨c162, ez163, hc164, hc165, hc166⟩ | ⟨c167, ez168, hc169, hc170, hc171⟩ | ⟨c172, ez173, hc174, hc175, hc176⟩ | ⟨c177, ez178, hc179, hc180, hc181⟩
    · rw [ez163]
      exact (nx_tell_2_0 c21 c162).elim
    · rw [ez168]
      exact (nx_tell_2_1 c21 c167).elim
    · rw [ez173]
      refine lv_istore (lv' := [(6, .int (sI 0)), (5, .int (sI 3)), (0, .ref z), (1, .ref c), (2, .ref m), (3, .ref o), (4, .int (sI i))]) hx_ hb_ dL_law_1577 hl (by decide) rfl (fun ls hl => ?_)
      refine lv_aload_n hx_ hb_ dL_law_1579 rfl (lv_at hl 4 rfl) ?_
      refine sk_VP E hV (As := []) (rest := []) (kX11_thrown l_ G b_ M155 N2 m 3 ch tn te sn nm wn hc174) (cwV 0 S.2.2.2.2 gL_law_X11_thrown rfl rfl rfl (by decide +kernel) ⟨Nat.le_of_ble_eq_true rfl, Nat.le_of_ble_eq_true rfl⟩) (ci := 9) hc174 rfl rfl rfl hl.1 (Nat.le_of_ble_eq_true rfl) dL_law_1580 (c1 := cc_ + 25) (s1 := ss_ + 3000) ⟨⟨rfl, rfl⟩, by omega, by omega⟩ (fun H locs hV => ?_)
      refine lv_iload hx_ hb_ dL_law_1583 (lv_at hl 1 rfl) ?_
      refine sb_eq (tgt := 1590) S dL_law_1585 (by decide) (by omega) (fun _ => ?_) (fun c182 => absurd c182 (by omega))
      refine lv_iload hx_ hb_ dL_law_1590 (lv_at hl 1 rfl) ?_
      refine sz_ne (tgt := 1607) S dL_law_1592 (by decide) (by omega) (fun _ => ?_) (fun c183 => absurd c183 (by omega))
      refine lv_goto (tgt := 2853) hx_ hb_ dL_law_1607 (by decide) ?_
      have gb185 : ∀ x : Nat, (x < m ∨ m + 16 ≤ x) → M155 x = M1 x := fun x u1 => hf160 x (by omega) (by omega) (by omega)
      have hc184 : M155 c = some (xO c kn15 ch) := (gb185 c (by omega)).trans hc23
      have hc186 : stC G M155 (c + 1) f := hc24.fr (fun x q8 q9 => gb185 x (by omega))
      have hc187 : triC G M155 (c + 16) := htr.fr (fun x q8 q9 => (gb185 x (by omega)).trans (hf7 x (by omega) (by omega) (by omega) (by omega) (by omega)))
      have hc188 : kpC G M155 (c + 31) kb kn15 ch fs := hc25.fr (fun x q8 => gb185 x (by omega))
      have hc189 : M155 (c + 32) = some (sObj 7 [.ref (c + 33), .int (sI tn), .int (sI te)]) := ((gb185 ((c + 32)) (by omega)).trans (hf7 (c + 32) (by omega) (by omega) (by omega) (by omega) (by omega))).trans ht0
      have hc190 : M155 (c + 33) = some (sArr G 300 t) := ((gb185 ((c + 33)) (by omega)).trans (hf7 (c + 33) (by omega) (by omega) (by omega) (by omega) (by omega))).trans ht1
      have hc191 : catC G M155 (c + 34) wc T := hct.fr (fun x q8 q9 => (gb185 x (by omega)).trans (hf7 x (by omega) (by omega) (by omega) (by omega) (by omega)))
      have hc192 : orfC G M155 (c + 38) := hft.fr (fun x q8 q9 => (gb185 x (by omega)).trans (hf7 x (by omega) (by omega) (by omega) (by omega) (by omega)))
      have hc193 : layC G M155 (c + 48) := hly.fr (fun x q8 q9 => (gb185 x (by omega)).trans (hf7 x (by omega) (by omega) (by omega) (by omega) (by omega)))
      have hc194 : knoC G M155 (c + 54) := hkn.fr (fun x q8 q9 => (gb185 x (by omega)).trans (hf7 x (by omega) (by omega) (by omega) (by omega) (by omega)))
      have hc195 : excC G M155 (c + 57) := hex.fr (fun x q8 q9 => (gb185 x (by omega)).trans (hf7 x (by omega) (by omega) (by omega) (by omega) (by omega)))
      have hc196 : M155 (m + 3) = some (sArr G 300 t) := ((hf160 (m + 3) (by omega) (by omega) (by omega)).trans (ga152 ((m + 3)) (by omega) (by omega))).trans hm3
      have hc197 : M155 (m + 4) = some (sArr G 11 A4) := ((hf160 (m + 4) (by omega) (by omega) (by omega)).trans (ga152 ((m + 4)) (by omega) (by omega))).trans hm4
      have hc198 : M155 (m + 5) = some (sArr G 1024 A5) := ((hf160 (m + 5) (by omega) (by omega) (by omega)).trans (ga152 ((m + 5)) (by omega) (by omega))).trans hm5
      have hc199 : M155 (m + 6) = some (sArr G 1024 A6) := ((hf160 (m + 6) (by omega) (by omega) (by omega)).trans (ga152 ((m + 6)) (by omega) (by omega))).trans hm6
      have hc200 : M155 (m + 7) = some (sArr G 10 A7) := ((hf160 (m + 7) (by omega) (by omega) (by omega)).trans (ga152 ((m + 7)) (by omega) (by omega))).trans hm7
      have hc201 : M155 (m + 8) = some (sArr G 10 A8) := ((hf160 (m + 8) (by omega) (by omega) (by omega)).trans (ga152 ((m + 8)) (by omega) (by omega))).trans hm8
      have hc202 : M155 (m + 9) = some (sArr G 62 A9) := ((hf160 (m + 9) (by omega) (by omega) (by omega)).trans (ga152 ((m + 9)) (by omega) (by omega))).trans hm9
      have hc203 : M155 (m + 10) = some (sArr G 8 A10) := ((hf160 (m + 10) (by omega) (by omega) (by omega)).trans (ga152 ((m + 10)) (by omega) (by omega))).trans hm10
      have hc204 : M155 (m + 11) = some (sArr G 8 A11) := ((hf160 (m + 11) (by omega) (by omega) (by omega)).trans (ga152 ((m + 11)) (by omega) (by omega))).trans hm11
      have hc205 : M155 (m + 12) = some (sArr G 60 A12) := ((hf160 (m + 12) (by omega) (by omega) (by omega)).trans (ga152 ((m + 12)) (by omega) (by omega))).trans hm12
      have hc206 : M155 (m + 13) = some (sArr G 240 A13) := ((hf160 (m + 13) (by omega) (by omega) (by omega)).trans (ga152 ((m + 13)) (by omega) (by omega))).trans hm13
      have hc207 : M155 (m + 14) = some (sArr G 574 A14) := ((hf160 (m + 14) (by omega) (by omega) (by omega)).trans (ga152 ((m + 14)) (by omega) (by omega))).trans hm14
      have hc208 : M155 (m + 15) = some (sArr G 200 T2) := ((hf160 (m + 15) (by omega) (by omega) (by omega)).trans (ga152 ((m + 15)) (by omega) (by omega))).trans hm15
      have hc209 : M155 o = some (sArL G 1 g0) := (gb185 o (by omega)).trans hc26
      exact W.widen (by omega) (by omega) (hk _ _ _ _ _ (by omega) ⟨_, _, _, _, _, _, _, _, _, _, _, _, _, _, _, _, _, _, _, _, _, _, _, _, _, _, hc184, hc186, hc187, hc188, hc189, hc190, hc191, hc192, hc193, hc194, hc195, hc174, hc175, hc176, hc196, hc197, hc198, hc199, hc200, hc201, hc202, hc203, hc204, hc205, hc206, hc207, hc208, hc209, lF_s hlF, htp, hwr⟩ hV (lv_sub hl [2, 3, 4, 5, 6] rfl))
    · rw [ez178]
      exact (nx_tell_2_3 c21 c177).elim
  · rw [ez28]
    refine lv_istore (lv' := [(5, .int (sI 0)), (0, .ref z), (1, .ref c), (2, .ref m), (3, .ref o), (4, .int (sI i))]) hx_ hb_ dL_law_1553 hl (by decide) rfl (fun ls hl => ?_)
    refine lv_aload_n hx_ hb_ dL_law_1555 rfl (lv_at hl 3 rfl) ?_
    refine lv_aload_n hx_ hb_ dL_law_1556 rfl (lv_at hl 1 rfl) ?_
    refine lv_iload hx_ hb_ dL_law_1557 (lv_at hl 5 rfl) ?_
    refine si_const S dL_law_1559 ?_
    refine si_add S dL_law_1560 ?_
    refine sc_sld S hV hX hzb (by omega) dL_law_1561 ?_
    refine lv_aload_n hx_ hb_ dL_law_1562 rfl (lv_at hl 1 rfl) ?_
    refine lv_iload hx_ hb_ dL_law_1563 (lv_at hl 5 rfl) ?_
    refine si_const S dL_law_1565 ?_
    refine si_add S dL_law_1566 ?_
    refine sc_sld S hV hX hzb (by omega) dL_law_1567 ?_
    refine lv_aload_n hx_ hb_ dL_law_1568 rfl (lv_at hl 1 rfl) ?_
    refine lv_iload hx_ hb_ dL_law_1569 (lv_at hl 5 rfl) ?_
    refine si_const S dL_law_1571 ?_
    refine si_add S dL_law_1572 ?_
    refine sc_sld S hV hX hzb (by omega) dL_law_1573 ?_
    have ga211 : ∀ x : Nat, m ≤ x → x < m + 16 → M1 x = M x := fun x u1 u2 => hf7 x (by omega) (by omega) (by omega) (by omega) (by omega)
    have hc210 : M1 m = some (mO m th ch tn te sn nm wn) := (ga211 m (by omega) (by omega)).trans hm0
    have hc212 : M1 (m + 1) = some (sArr G 574 f) := (ga211 ((m + 1)) (by omega) (by omega)).trans hm1
    have hc213 : svC G M1 (m + 2) ch fs := hsv.fr (fun x q8 q9 => ga211 x (by omega) (by omega))
    refine sk_Vi E hV (As := [.int (sI (lX xs (i + 1))), .int (sI (lX xs (i + 2))), .int (sI (lX xs (i + 3)))]) (rest := []) (kX11_tell l_ G b_ M1 N2 m th ch tn te sn nm wn f fs (lX xs (i + 1)) (lX xs (i + 2)) (lX xs (i + 3)) hc210 hc212 hc213 (hok) (hchr) (⟨lX_r xs _, lX_r xs _, lX_r xs _⟩)) (cwV 3 S.2.2.2.2 gL_law_X11_tell rfl rfl rfl (by decide +kernel) ⟨Nat.le_of_ble_eq_true rfl, Nat.le_of_ble_eq_true rfl⟩) (ci := 9) hc210 rfl rfl rfl hl.1 (Nat.le_of_ble_eq_true rfl) dL_law_1574 (c1 := cc_ + 25) (s1 := ss_ + 3000) ⟨⟨rfl, rfl⟩, by omega, by omega⟩ (fun z217 M214 N215 H locs hp216 hV => ?_)
    obtain ⟨hN218, hf219, hq220⟩ := hp216
    rw [hN218] at hV
    rcases hq220 with ⟨c221, ez222, hc223, hc224, hc225⟩ | ⟨c226, ez227, hc228, hc229, hc230⟩ | ⟨c231, ez232, hc233, hc234, hc235⟩ | ⟨c236, ez237, hc238, hc239, hc240⟩
    · rw [ez222]
      exact (nx_tell_3_0 c27 c221).elim
    · rw [ez227]
      exact (nx_tell_3_1 c27 c226).elim
    · rw [ez232]
      exact (nx_tell_3_2 c27 c231).elim
    · rw [ez237]
      refine lv_istore (lv' := [(6, .int (sI (f 570))), (5, .int (sI 0)), (0, .ref z), (1, .ref c), (2, .ref m), (3, .ref o), (4, .int (sI i))]) hx_ hb_ dL_law_1577 hl (by decide) rfl (fun ls hl => ?_)
      refine lv_aload_n hx_ hb_ dL_law_1579 rfl (lv_at hl 4 rfl) ?_
      refine sk_VP E hV (As := []) (rest := []) (kX11_thrown l_ G b_ M214 N2 m 0 (chn ch) tn te sn nm wn hc238) (cwV 0 S.2.2.2.2 gL_law_X11_thrown rfl rfl rfl (by decide +kernel) ⟨Nat.le_of_ble_eq_true rfl, Nat.le_of_ble_eq_true rfl⟩) (ci := 9) hc238 rfl rfl rfl hl.1 (Nat.le_of_ble_eq_true rfl) dL_law_1580 (c1 := cc_ + 25) (s1 := ss_ + 3000) ⟨⟨rfl, rfl⟩, by omega, by omega⟩ (fun H locs hV => ?_)
      refine lv_iload hx_ hb_ dL_law_1583 (lv_at hl 1 rfl) ?_
      refine sb_eq (tgt := 1590) S dL_law_1585 (by decide) (by omega) (fun _ => ?_) (fun c241 => absurd c241 (by omega))
      refine lv_iload hx_ hb_ dL_law_1590 (lv_at hl 1 rfl) ?_
      refine sz_ne (tgt := 1607) S dL_law_1592 (by decide) (by omega) (fun c242 => absurd c242 (by omega)) (fun _ => ?_)
      refine lv_aload_n hx_ hb_ dL_law_1595 rfl (lv_at hl 5 rfl) ?_
      refine si_const S dL_law_1596 ?_
      have gb244 : ∀ x : Nat, (x < m ∨ m + 16 ≤ x) → M214 x = M1 x := fun x u1 => hf219 x (by omega) (by omega) (by omega)
      have hc243 : M214 o = some (sArL G 1 (iup g0 0 (sW (f 570)))) := (gb244 o (by omega)).trans hc32
      refine sc_lald S hK hV hc243 (by omega) dL_law_1597 ?_
      rw [show (iup g0 0 (sW (f 570))) 0 = sW (f 570) from if_pos rfl]
      refine lv_iload hx_ hb_ dL_law_1598 (lv_at hl 0 rfl) ?_
      refine sl_i2w S dL_law_1600 ?_
      refine sl_cmp0 S (rfl) dL_law_1601 ?_
      refine sz_eq (tgt := 1607) S dL_law_1602 (by decide) (by omega) (fun _ => ?_) (fun c245 => absurd c245 (by omega))
      refine lv_goto (tgt := 2853) hx_ hb_ dL_law_1607 (by decide) ?_
      have hc246 : M214 c = some (xO c kn15 (chn ch)) := (gb244 c (by omega)).trans hc29
      have hc247 : stC G M214 (c + 1) (tlF f (lX xs (i + 1)) (dayI (lX xs (i + 2)) + 3652) (lX xs (i + 3))) := hc30.fr (fun x q8 q9 => gb244 x (by omega))
      have hc248 : triC G M214 (c + 16) := htr.fr (fun x q8 q9 => (gb244 x (by omega)).trans (hf7 x (by omega) (by omega) (by omega) (by omega) (by omega)))
      have hc249 : kpC G M214 (c + 31) kb kn15 (chn ch) (fsn ch fs f) := hc31.fr (fun x q8 => gb244 x (by omega))
      have hc250 : M214 (c + 32) = some (sObj 7 [.ref (c + 33), .int (sI tn), .int (sI te)]) := ((gb244 ((c + 32)) (by omega)).trans (hf7 (c + 32) (by omega) (by omega) (by omega) (by omega) (by omega))).trans ht0
      have hc251 : M214 (c + 33) = some (sArr G 300 t) := ((gb244 ((c + 33)) (by omega)).trans (hf7 (c + 33) (by omega) (by omega) (by omega) (by omega) (by omega))).trans ht1
      have hc252 : catC G M214 (c + 34) wc T := hct.fr (fun x q8 q9 => (gb244 x (by omega)).trans (hf7 x (by omega) (by omega) (by omega) (by omega) (by omega)))
      have hc253 : orfC G M214 (c + 38) := hft.fr (fun x q8 q9 => (gb244 x (by omega)).trans (hf7 x (by omega) (by omega) (by omega) (by omega) (by omega)))
      have hc254 : layC G M214 (c + 48) := hly.fr (fun x q8 q9 => (gb244 x (by omega)).trans (hf7 x (by omega) (by omega) (by omega) (by omega) (by omega)))
      have hc255 : knoC G M214 (c + 54) := hkn.fr (fun x q8 q9 => (gb244 x (by omega)).trans (hf7 x (by omega) (by omega) (by omega) (by omega) (by omega)))
      have hc256 : excC G M214 (c + 57) := hex.fr (fun x q8 q9 => (gb244 x (by omega)).trans (hf7 x (by omega) (by omega) (by omega) (by omega) (by omega)))
      have hc257 : M214 (m + 3) = some (sArr G 300 t) := ((hf219 (m + 3) (by omega) (by omega) (by omega)).trans (ga211 ((m + 3)) (by omega) (by omega))).trans hm3
      have hc258 : M214 (m + 4) = some (sArr G 11 A4) := ((hf219 (m + 4) (by omega) (by omega) (by omega)).trans (ga211 ((m + 4)) (by omega) (by omega))).trans hm4
      have hc259 : M214 (m + 5) = some (sArr G 1024 A5) := ((hf219 (m + 5) (by omega) (by omega) (by omega)).trans (ga211 ((m + 5)) (by omega) (by omega))).trans hm5
      have hc260 : M214 (m + 6) = some (sArr G 1024 A6) := ((hf219 (m + 6) (by omega) (by omega) (by omega)).trans (ga211 ((m + 6)) (by omega) (by omega))).trans hm6
      have hc261 : M214 (m + 7) = some (sArr G 10 A7) := ((hf219 (m + 7) (by omega) (by omega) (by omega)).trans (ga211 ((m + 7)) (by omega) (by omega))).trans hm7
      have hc262 : M214 (m + 8) = some (sArr G 10 A8) := ((hf219 (m + 8) (by omega) (by omega) (by omega)).trans (ga211 ((m + 8)) (by omega) (by omega))).trans hm8
      have hc263 : M214 (m + 9) = some (sArr G 62 A9) := ((hf219 (m + 9) (by omega) (by omega) (by omega)).trans (ga211 ((m + 9)) (by omega) (by omega))).trans hm9
      have hc264 : M214 (m + 10) = some (sArr G 8 A10) := ((hf219 (m + 10) (by omega) (by omega) (by omega)).trans (ga211 ((m + 10)) (by omega) (by omega))).trans hm10
      have hc265 : M214 (m + 11) = some (sArr G 8 A11) := ((hf219 (m + 11) (by omega) (by omega) (by omega)).trans (ga211 ((m + 11)) (by omega) (by omega))).trans hm11
      have hc266 : M214 (m + 12) = some (sArr G 60 A12) := ((hf219 (m + 12) (by omega) (by omega) (by omega)).trans (ga211 ((m + 12)) (by omega) (by omega))).trans hm12
      have hc267 : M214 (m + 13) = some (sArr G 240 A13) := ((hf219 (m + 13) (by omega) (by omega) (by omega)).trans (ga211 ((m + 13)) (by omega) (by omega))).trans hm13
      have hc268 : M214 (m + 14) = some (sArr G 574 A14) := ((hf219 (m + 14) (by omega) (by omega) (by omega)).trans (ga211 ((m + 14)) (by omega) (by omega))).trans hm14
      have hc269 : M214 (m + 15) = some (sArr G 200 T2) := ((hf219 (m + 15) (by omega) (by omega) (by omega)).trans (ga211 ((m + 15)) (by omega) (by omega))).trans hm15
      exact W.widen (by omega) (by omega) (hk _ _ _ _ _ (by omega) ⟨_, _, _, _, _, _, _, _, _, _, _, _, _, _, _, _, _, _, _, _, _, _, _, _, _, _, hc246, hc247, hc248, hc249, hc250, hc251, hc252, hc253, hc254, hc255, hc256, hc238, hc239, hc240, hc257, hc258, hc259, hc260, hc261, hc262, hc263, hc264, hc265, hc266, hc267, hc268, hc269, hc243, lF_k hchr hlF (g_tl hlF.1 (by omega) (by omega) (by omega) c27.2.1.1 rfl (by omega)), htp, hwr⟩ hV (lv_sub hl [2, 3, 4, 5, 6] rfl))

theorem nx_takeBack_0_1 {a0 : Int} {f : sF} (h1 : ¬ (0 ≤ a0 ∧ a0 < f 570)) (h2 : (0 ≤ a0 ∧ a0 < f 570) ∧ f (404 + a0) ≠ 0) : False := by
  first
  | omega
  | (simp_all; done)
  | (simp_all; omega)
theorem nx_takeBack_0_2 {a0 : Int} {f : sF} (h1 : ¬ (0 ≤ a0 ∧ a0 < f 570)) (h2 : (0 ≤ a0 ∧ a0 < f 570) ∧ f (404 + a0) = 0) : False := by
  first
  | omega
  | (simp_all; done)
  | (simp_all; omega)
theorem nx_takeBack_1_0 {a0 : Int} {f : sF} (h1 : (0 ≤ a0 ∧ a0 < f 570) ∧ f (404 + a0) ≠ 0) (h2 : ¬ (0 ≤ a0 ∧ a0 < f 570)) : False := by
  first
  | omega
  | (simp_all; done)
  | (simp_all; omega)
theorem nx_takeBack_1_2 {a0 : Int} {f : sF} (h1 : (0 ≤ a0 ∧ a0 < f 570) ∧ f (404 + a0) ≠ 0) (h2 : (0 ≤ a0 ∧ a0 < f 570) ∧ f (404 + a0) = 0) : False := by
  first
  | omega
  | (simp_all; done)
  | (simp_all; omega)
theorem nx_takeBack_2_0 {a0 : Int} {f : sF} (h1 : (0 ≤ a0 ∧ a0 < f 570) ∧ f (404 + a0) = 0) (h2 : ¬ (0 ≤ a0 ∧ a0 < f 570)) : False := by
  first
  | omega
  | (simp_all; done)
  | (simp_all; omega)
theorem nx_takeBack_2_1 {a0 : Int} {f : sF} (h1 : (0 ≤ a0 ∧ a0 < f 570) ∧ f (404 + a0) = 0) (h2 : (0 ≤ a0 ∧ a0 < f 570) ∧ f (404 + a0) ≠ 0) : False := by
  first
  | omega
  | (simp_all; done)
  | (simp_all; omega)
set_option maxHeartbeats 4000000 in
set_option maxRecDepth 100000 in
theorem law_23 {p_ : Program} {l_ : Launch} {e_ : Env} {s_ : State} {m_ : MethodId} {args_ : Array Value} {below_ : List Frame} {meth_ : Method} {c_ : Code} {nm_ : String} {G : sG} {b_ : Nat} {M0 : sM} {N0 : Nat} {Q : State → Prop} (E : sE p_ l_ e_ room_1 s_ m_ args_ below_ meth_ c_ cL_law 9 wsL_law RL nm_ (some .boolean) G b_ M0 N0) (hF_ : xcF s_) (hlt : l_.stackTraces = false) {z L : Nat} {xs : Nat → Int32} (hX : va_X z L xs s_ s_.heap) (hzb : z < b_) {c m o kb : Nat} (hg : c + 60 ≤ m ∧ m + 16 ≤ o ∧ o < kb) {cc_ ss_ : Nat} (hcc : cc_ + 1170 ≤ room_1.cells ∧ ss_ + 14000 ≤ room_1.slots) {q i : Int} (hi : 0 ≤ i ∧ i + 6 ≤ L ∧ (L : Int) ≤ 3072) (hq : 0 ≤ q ∧ q ≤ 600) {M : sM} {N : Nat} (hkN : kb ≤ N) (hI : lI G M c m o kb q) {H : Heap} {locs : List Loc} {ls : Array Slot} (hV : sV G b_ M N s_ H locs) (hl : lv_has ls 9 [(0, .ref z), (1, .ref c), (2, .ref m), (3, .ref o), (4, .int (sI i))])
    (hk : ∀ (M1 : sM) (N1 : Nat) (H1 : Heap) (locs1 : List Loc) (ls1 : Array Slot), kb ≤ N1 → lI G M1 c m o kb (q + 1) → sV G b_ M1 N1 s_ H1 locs1 → lv_has ls1 9 [(0, .ref z), (1, .ref c), (2, .ref m), (3, .ref o), (4, .int (sI i))] → W p_ l_ e_ room_1 s_ m_ args_ below_ meth_ c_ H1 locs1 (cc_ + 1170) (ss_ + 14000) Q (F0 m_ 2853 ls1 [])) : W p_ l_ e_ room_1 s_ m_ args_ below_ meth_ c_ H locs cc_ ss_ Q (F0 m_ 1610 ls []) := by
  have S := E.1
  have hx_ := S.1
  have hb_ := S.2.1
  have hK := E.2.2.2.2.1
  have hI2 := hI
  obtain ⟨kn, ch, f, fs, tn, te, t, wc, wn, T, T2, th, sn, nm, g0, A4, A5, A6, A7, A8, A9, A10, A11, A12, A13, A14, hc0, hst, htr, hkp, ht0, ht1, hct, hft, hly, hkn, hex, hm0, hm1, hsv, hm3, hm4, hm5, hm6, hm7, hm8, hm9, hm10, hm11, hm12, hm13, hm14, hm15, ho9, hlF, htp, hwr⟩ := hI2
  have hok := hlF.1.1
  have hdI := hlF.1.2.1
  have hsL := hlF.1.2.2.1
  have hclk := hlF.1.2.2.2
  have hchr : 0 ≤ ch ∧ ch ≤ 15 := ⟨hkp.r.2.2.1, hkp.r.2.2.2⟩
  have htp1 := htp.1
  have htp2 := htp.2.1
  have hwq := wrQ_e hwr
  have hwq1 := hwq.1
  have hwq2 := hwq.2.1
  have kn0 := sOk_N hok
  refine lv_aload_n hx_ hb_ dL_law_1610 rfl (lv_at hl 1 rfl) ?_
  refine lv_aload_n hx_ hb_ dL_law_1611 rfl (lv_at hl 0 rfl) ?_
  refine lv_iload hx_ hb_ dL_law_1612 (lv_at hl 4 rfl) ?_
  refine si_const S dL_law_1614 ?_
  refine si_add S dL_law_1615 ?_
  refine sc_sld S hV hX hzb (by omega) dL_law_1616 ?_
  refine lv_aload_n hx_ hb_ dL_law_1617 rfl (lv_at hl 3 rfl) ?_
  refine yk_Si (hh := [(0, 9, 12, 25), (0, 9, 15, 13)]) E hF_ hV (As := [.ref c, .int (sI (lX xs (i + 1))), .ref o]) (rest := []) (kL_takeBack l_ G b_ M N o g0 c kn ch f kb fs (lX xs (i + 1)) hc0 hst hkp ho9 (hlt) (hok) (by omega) (by omega) ((lX_r xs _)) (by omega) (by omega)) (vx_cwSW 3 S.2.2.2.2 gL_law_L_takeBack rfl rfl rfl (by decide +kernel) ⟨Nat.le_of_ble_eq_true rfl, Nat.le_of_ble_eq_true rfl⟩) rfl rfl hl.1 (Nat.le_of_ble_eq_true rfl) dL_law_1618 (c1 := cc_ + 25) (s1 := ss_ + 3000) ⟨⟨rfl, rfl⟩, by omega, by omega⟩ (fun z4 M1 N2 H locs hp3 hV => ?_)
  obtain ⟨kn15, hN6, hf7, hq8⟩ := hp3
  rcases hq8 with ⟨c9, ez10, hc11, hc12, hc13, hc14⟩ | ⟨c15, ez16, hc17, hc18, hc19, hc20⟩ | ⟨c21, ez22, hc23, hc24, hc25, hc26⟩
  · rw [ez10]
    refine lv_istore (lv' := [(5, .int (sI 1)), (0, .ref z), (1, .ref c), (2, .ref m), (3, .ref o), (4, .int (sI i))]) hx_ hb_ dL_law_1621 hl (by decide) rfl (fun ls hl => ?_)
    refine lv_aload_n hx_ hb_ dL_law_1623 rfl (lv_at hl 3 rfl) ?_
    refine lv_aload_n hx_ hb_ dL_law_1624 rfl (lv_at hl 1 rfl) ?_
    refine lv_iload hx_ hb_ dL_law_1625 (lv_at hl 5 rfl) ?_
    refine si_const S dL_law_1627 ?_
    refine si_add S dL_law_1628 ?_
    refine sc_sld S hV hX hzb (by omega) dL_law_1629 ?_
    have ga28 : ∀ x : Nat, m ≤ x → x < m + 16 → M1 x = M x := fun x u1 u2 => hf7 x (by omega) (by omega) (by omega) (by omega) (by omega)
    have hc27 : M1 m = some (mO m th ch tn te sn nm wn) := (ga28 m (by omega) (by omega)).trans hm0
    have hc29 : M1 (m + 1) = some (sArr G 574 f) := (ga28 ((m + 1)) (by omega) (by omega)).trans hm1
    have hc30 : svC G M1 (m + 2) ch fs := hsv.fr (fun x q8 q9 => ga28 x (by omega) (by omega))
    refine sk_Vi E hV (As := [.int (sI (lX xs (i + 1)))]) (rest := []) (kX11_takeBack l_ G b_ M1 N2 m th ch tn te sn nm wn f fs (lX xs (i + 1)) hc27 hc29 hc30 (hok) (hchr) ((lX_r xs _))) (cwV 1 S.2.2.2.2 gL_law_X11_takeBack rfl rfl rfl (by decide +kernel) ⟨Nat.le_of_ble_eq_true rfl, Nat.le_of_ble_eq_true rfl⟩) (ci := 9) hc27 rfl rfl rfl hl.1 (Nat.le_of_ble_eq_true rfl) dL_law_1630 (c1 := cc_ + 25) (s1 := ss_ + 3000) ⟨⟨rfl, rfl⟩, by omega, by omega⟩ (fun z34 M31 N32 H locs hp33 hV => ?_)
    obtain ⟨hN35, hf36, hq37⟩ := hp33
    rw [hN35] at hV
    rcases hq37 with ⟨c38, ez39, hc40, hc41, hc42⟩ | ⟨c43, ez44, hc45, hc46, hc47⟩ | ⟨c48, ez49, hc50, hc51, hc52⟩
    · rw [ez39]
      refine lv_istore (lv' := [(6, .int (sI 0)), (5, .int (sI 1)), (0, .ref z), (1, .ref c), (2, .ref m), (3, .ref o), (4, .int (sI i))]) hx_ hb_ dL_law_1633 hl (by decide) rfl (fun ls hl => ?_)
      refine lv_aload_n hx_ hb_ dL_law_1635 rfl (lv_at hl 4 rfl) ?_
      refine sk_VP E hV (As := []) (rest := []) (kX11_thrown l_ G b_ M31 N2 m 1 ch tn te sn nm wn hc40) (cwV 0 S.2.2.2.2 gL_law_X11_thrown rfl rfl rfl (by decide +kernel) ⟨Nat.le_of_ble_eq_true rfl, Nat.le_of_ble_eq_true rfl⟩) (ci := 9) hc40 rfl rfl rfl hl.1 (Nat.le_of_ble_eq_true rfl) dL_law_1636 (c1 := cc_ + 25) (s1 := ss_ + 3000) ⟨⟨rfl, rfl⟩, by omega, by omega⟩ (fun H locs hV => ?_)
      refine lv_iload hx_ hb_ dL_law_1639 (lv_at hl 1 rfl) ?_
      refine sb_eq (tgt := 1646) S dL_law_1641 (by decide) (by omega) (fun _ => ?_) (fun c53 => absurd c53 (by omega))
      refine lv_iload hx_ hb_ dL_law_1646 (lv_at hl 1 rfl) ?_
      refine sz_ne (tgt := 1663) S dL_law_1648 (by decide) (by omega) (fun _ => ?_) (fun c54 => absurd c54 (by omega))
      refine lv_goto (tgt := 2853) hx_ hb_ dL_law_1663 (by decide) ?_
      have gb56 : ∀ x : Nat, (x < m ∨ m + 16 ≤ x) → M31 x = M1 x := fun x u1 => hf36 x (by omega) (by omega) (by omega)
      have hc55 : M31 c = some (xO c kn15 ch) := (gb56 c (by omega)).trans hc11
      have hc57 : stC G M31 (c + 1) f := hc12.fr (fun x q8 q9 => gb56 x (by omega))
      have hc58 : triC G M31 (c + 16) := htr.fr (fun x q8 q9 => (gb56 x (by omega)).trans (hf7 x (by omega) (by omega) (by omega) (by omega) (by omega)))
      have hc59 : kpC G M31 (c + 31) kb kn15 ch fs := hc13.fr (fun x q8 => gb56 x (by omega))
      have hc60 : M31 (c + 32) = some (sObj 7 [.ref (c + 33), .int (sI tn), .int (sI te)]) := ((gb56 ((c + 32)) (by omega)).trans (hf7 (c + 32) (by omega) (by omega) (by omega) (by omega) (by omega))).trans ht0
      have hc61 : M31 (c + 33) = some (sArr G 300 t) := ((gb56 ((c + 33)) (by omega)).trans (hf7 (c + 33) (by omega) (by omega) (by omega) (by omega) (by omega))).trans ht1
      have hc62 : catC G M31 (c + 34) wc T := hct.fr (fun x q8 q9 => (gb56 x (by omega)).trans (hf7 x (by omega) (by omega) (by omega) (by omega) (by omega)))
      have hc63 : orfC G M31 (c + 38) := hft.fr (fun x q8 q9 => (gb56 x (by omega)).trans (hf7 x (by omega) (by omega) (by omega) (by omega) (by omega)))
      have hc64 : layC G M31 (c + 48) := hly.fr (fun x q8 q9 => (gb56 x (by omega)).trans (hf7 x (by omega) (by omega) (by omega) (by omega) (by omega)))
      have hc65 : knoC G M31 (c + 54) := hkn.fr (fun x q8 q9 => (gb56 x (by omega)).trans (hf7 x (by omega) (by omega) (by omega) (by omega) (by omega)))
      have hc66 : excC G M31 (c + 57) := hex.fr (fun x q8 q9 => (gb56 x (by omega)).trans (hf7 x (by omega) (by omega) (by omega) (by omega) (by omega)))
      have hc67 : M31 (m + 3) = some (sArr G 300 t) := ((hf36 (m + 3) (by omega) (by omega) (by omega)).trans (ga28 ((m + 3)) (by omega) (by omega))).trans hm3
      have hc68 : M31 (m + 4) = some (sArr G 11 A4) := ((hf36 (m + 4) (by omega) (by omega) (by omega)).trans (ga28 ((m + 4)) (by omega) (by omega))).trans hm4
      have hc69 : M31 (m + 5) = some (sArr G 1024 A5) := ((hf36 (m + 5) (by omega) (by omega) (by omega)).trans (ga28 ((m + 5)) (by omega) (by omega))).trans hm5
      have hc70 : M31 (m + 6) = some (sArr G 1024 A6) := ((hf36 (m + 6) (by omega) (by omega) (by omega)).trans (ga28 ((m + 6)) (by omega) (by omega))).trans hm6
      have hc71 : M31 (m + 7) = some (sArr G 10 A7) := ((hf36 (m + 7) (by omega) (by omega) (by omega)).trans (ga28 ((m + 7)) (by omega) (by omega))).trans hm7
      have hc72 : M31 (m + 8) = some (sArr G 10 A8) := ((hf36 (m + 8) (by omega) (by omega) (by omega)).trans (ga28 ((m + 8)) (by omega) (by omega))).trans hm8
      have hc73 : M31 (m + 9) = some (sArr G 62 A9) := ((hf36 (m + 9) (by omega) (by omega) (by omega)).trans (ga28 ((m + 9)) (by omega) (by omega))).trans hm9
      have hc74 : M31 (m + 10) = some (sArr G 8 A10) := ((hf36 (m + 10) (by omega) (by omega) (by omega)).trans (ga28 ((m + 10)) (by omega) (by omega))).trans hm10
      have hc75 : M31 (m + 11) = some (sArr G 8 A11) := ((hf36 (m + 11) (by omega) (by omega) (by omega)).trans (ga28 ((m + 11)) (by omega) (by omega))).trans hm11
      have hc76 : M31 (m + 12) = some (sArr G 60 A12) := ((hf36 (m + 12) (by omega) (by omega) (by omega)).trans (ga28 ((m + 12)) (by omega) (by omega))).trans hm12
      have hc77 : M31 (m + 13) = some (sArr G 240 A13) := ((hf36 (m + 13) (by omega) (by omega) (by omega)).trans (ga28 ((m + 13)) (by omega) (by omega))).trans hm13
      have hc78 : M31 (m + 14) = some (sArr G 574 A14) := ((hf36 (m + 14) (by omega) (by omega) (by omega)).trans (ga28 ((m + 14)) (by omega) (by omega))).trans hm14
      have hc79 : M31 (m + 15) = some (sArr G 200 T2) := ((hf36 (m + 15) (by omega) (by omega) (by omega)).trans (ga28 ((m + 15)) (by omega) (by omega))).trans hm15
      have hc80 : M31 o = some (sArL G 1 g0) := (gb56 o (by omega)).trans hc14
      exact W.widen (by omega) (by omega) (hk _ _ _ _ _ (by omega) ⟨_, _, _, _, _, _, _, _, _, _, _, _, _, _, _, _, _, _, _, _, _, _, _, _, _, _, hc55, hc57, hc58, hc59, hc60, hc61, hc62, hc63, hc64, hc65, hc66, hc40, hc41, hc42, hc67, hc68, hc69, hc70, hc71, hc72, hc73, hc74, hc75, hc76, hc77, hc78, hc79, hc80, lF_s hlF, htp, hwr⟩ hV (lv_sub hl [2, 3, 4, 5, 6] rfl))
    · rw [ez44]
      exact (nx_takeBack_0_1 c9 c43).elim
    · rw [ez49]
      exact (nx_takeBack_0_2 c9 c48).elim
  · rw [ez16]
    refine lv_istore (lv' := [(5, .int (sI 2)), (0, .ref z), (1, .ref c), (2, .ref m), (3, .ref o), (4, .int (sI i))]) hx_ hb_ dL_law_1621 hl (by decide) rfl (fun ls hl => ?_)
    refine lv_aload_n hx_ hb_ dL_law_1623 rfl (lv_at hl 3 rfl) ?_
    refine lv_aload_n hx_ hb_ dL_law_1624 rfl (lv_at hl 1 rfl) ?_
    refine lv_iload hx_ hb_ dL_law_1625 (lv_at hl 5 rfl) ?_
    refine si_const S dL_law_1627 ?_
    refine si_add S dL_law_1628 ?_
    refine sc_sld S hV hX hzb (by omega) dL_law_1629 ?_
    have ga82 : ∀ x : Nat, m ≤ x → x < m + 16 → M1 x = M x := fun x u1 u2 => hf7 x (by omega) (by omega) (by omega) (by omega) (by omega)
    have hc81 : M1 m = some (mO m th ch tn te sn nm wn) := (ga82 m (by omega) (by omega)).trans hm0
    have hc83 : M1 (m + 1) = some (sArr G 574 f) := (ga82 ((m + 1)) (by omega) (by omega)).trans hm1
    have hc84 : svC G M1 (m + 2) ch fs := hsv.fr (fun x q8 q9 => ga82 x (by omega) (by omega))
    refine sk_Vi E hV (As := [.int (sI (lX xs (i + 1)))]) (rest := []) (kX11_takeBack l_ G b_ M1 N2 m th ch tn te sn nm wn f fs (lX xs (i + 1)) hc81 hc83 hc84 (hok) (hchr) ((lX_r xs _))) (cwV 1 S.2.2.2.2 gL_law_X11_takeBack rfl rfl rfl (by decide +kernel) ⟨Nat.le_of_ble_eq_true rfl, Nat.le_of_ble_eq_true rfl⟩) (ci := 9) hc81 rfl rfl rfl hl.1 (Nat.le_of_ble_eq_true rfl) dL_law_1630 (c1 := cc_ + 25) (s1 := ss_ + 3000) ⟨⟨rfl, rfl⟩, by omega, by omega⟩ (fun z88 M85 N86 H locs hp87 hV => ?_)
    obtain ⟨hN89, hf90, hq91⟩ := hp87
    rw [hN89] at hV
    rcases hq91 with ⟨c92, ez93, hc94, hc95, hc96⟩ | ⟨c97, ez98, hc99, hc100, hc101⟩ | ⟨c102, ez103, hc104, hc105, hc106⟩
    · rw [ez93]
      exact (nx_takeBack_1_0 c15 c92).elim
    · rw [ez98]
      refine lv_istore (lv' := [(6, .int (sI 0)), (5, .int (sI 2)), (0, .ref z), (1, .ref c), (2, .ref m), (3, .ref o), (4, .int (sI i))]) hx_ hb_ dL_law_1633 hl (by decide) rfl (fun ls hl => ?_)
      refine lv_aload_n hx_ hb_ dL_law_1635 rfl (lv_at hl 4 rfl) ?_
      refine sk_VP E hV (As := []) (rest := []) (kX11_thrown l_ G b_ M85 N2 m 2 ch tn te sn nm wn hc99) (cwV 0 S.2.2.2.2 gL_law_X11_thrown rfl rfl rfl (by decide +kernel) ⟨Nat.le_of_ble_eq_true rfl, Nat.le_of_ble_eq_true rfl⟩) (ci := 9) hc99 rfl rfl rfl hl.1 (Nat.le_of_ble_eq_true rfl) dL_law_1636 (c1 := cc_ + 25) (s1 := ss_ + 3000) ⟨⟨rfl, rfl⟩, by omega, by omega⟩ (fun H locs hV => ?_)
      refine lv_iload hx_ hb_ dL_law_1639 (lv_at hl 1 rfl) ?_
      refine sb_eq (tgt := 1646) S dL_law_1641 (by decide) (by omega) (fun _ => ?_) (fun c107 => absurd c107 (by omega))
      refine lv_iload hx_ hb_ dL_law_1646 (lv_at hl 1 rfl) ?_
      refine sz_ne (tgt := 1663) S dL_law_1648 (by decide) (by omega) (fun _ => ?_) (fun c108 => absurd c108 (by omega))
      refine lv_goto (tgt := 2853) hx_ hb_ dL_law_1663 (by decide) ?_
      have gb110 : ∀ x : Nat, (x < m ∨ m + 16 ≤ x) → M85 x = M1 x := fun x u1 => hf90 x (by omega) (by omega) (by omega)
      have hc109 : M85 c = some (xO c kn15 ch) := (gb110 c (by omega)).trans hc17
      have hc111 : stC G M85 (c + 1) f := hc18.fr (fun x q8 q9 => gb110 x (by omega))
      have hc112 : triC G M85 (c + 16) := htr.fr (fun x q8 q9 => (gb110 x (by omega)).trans (hf7 x (by omega) (by omega) (by omega) (by omega) (by omega)))
      have hc113 : kpC G M85 (c + 31) kb kn15 ch fs := hc19.fr (fun x q8 => gb110 x (by omega))
      have hc114 : M85 (c + 32) = some (sObj 7 [.ref (c + 33), .int (sI tn), .int (sI te)]) := ((gb110 ((c + 32)) (by omega)).trans (hf7 (c + 32) (by omega) (by omega) (by omega) (by omega) (by omega))).trans ht0
      have hc115 : M85 (c + 33) = some (sArr G 300 t) := ((gb110 ((c + 33)) (by omega)).trans (hf7 (c + 33) (by omega) (by omega) (by omega) (by omega) (by omega))).trans ht1
      have hc116 : catC G M85 (c + 34) wc T := hct.fr (fun x q8 q9 => (gb110 x (by omega)).trans (hf7 x (by omega) (by omega) (by omega) (by omega) (by omega)))
      have hc117 : orfC G M85 (c + 38) := hft.fr (fun x q8 q9 => (gb110 x (by omega)).trans (hf7 x (by omega) (by omega) (by omega) (by omega) (by omega)))
      have hc118 : layC G M85 (c + 48) := hly.fr (fun x q8 q9 => (gb110 x (by omega)).trans (hf7 x (by omega) (by omega) (by omega) (by omega) (by omega)))
      have hc119 : knoC G M85 (c + 54) := hkn.fr (fun x q8 q9 => (gb110 x (by omega)).trans (hf7 x (by omega) (by omega) (by omega) (by omega) (by omega)))
      have hc120 : excC G M85 (c + 57) := hex.fr (fun x q8 q9 => (gb110 x (by omega)).trans (hf7 x (by omega) (by omega) (by omega) (by omega) (by omega)))
      have hc121 : M85 (m + 3) = some (sArr G 300 t) := ((hf90 (m + 3) (by omega) (by omega) (by omega)).trans (ga82 ((m + 3)) (by omega) (by omega))).trans hm3
      have hc122 : M85 (m + 4) = some (sArr G 11 A4) := ((hf90 (m + 4) (by omega) (by omega) (by omega)).trans (ga82 ((m + 4)) (by omega) (by omega))).trans hm4
      have hc123 : M85 (m + 5) = some (sArr G 1024 A5) := ((hf90 (m + 5) (by omega) (by omega) (by omega)).trans (ga82 ((m + 5)) (by omega) (by omega))).trans hm5
      have hc124 : M85 (m + 6) = some (sArr G 1024 A6) := ((hf90 (m + 6) (by omega) (by omega) (by omega)).trans (ga82 ((m + 6)) (by omega) (by omega))).trans hm6
      have hc125 : M85 (m + 7) = some (sArr G 10 A7) := ((hf90 (m + 7) (by omega) (by omega) (by omega)).trans (ga82 ((m + 7)) (by omega) (by omega))).trans hm7
      have hc126 : M85 (m + 8) = some (sArr G 10 A8) := ((hf90 (m + 8) (by omega) (by omega) (by omega)).trans (ga82 ((m + 8)) (by omega) (by omega))).trans hm8
      have hc127 : M85 (m + 9) = some (sArr G 62 A9) := ((hf90 (m + 9) (by omega) (by omega) (by omega)).trans (ga82 ((m + 9)) (by omega) (by omega))).trans hm9
      have hc128 : M85 (m + 10) = some (sArr G 8 A10) := ((hf90 (m + 10) (by omega) (by omega) (by omega)).trans (ga82 ((m + 10)) (by omega) (by omega))).trans hm10
      have hc129 : M85 (m + 11) = some (sArr G 8 A11) := ((hf90 (m + 11) (by omega) (by omega) (by omega)).trans (ga82 ((m + 11)) (by omega) (by omega))).trans hm11
      have hc130 : M85 (m + 12) = some (sArr G 60 A12) := ((hf90 (m + 12) (by omega) (by omega) (by omega)).trans (ga82 ((m + 12)) (by omega) (by omega))).trans hm12
      have hc131 : M85 (m + 13) = some (sArr G 240 A13) := ((hf90 (m + 13) (by omega) (by omega) (by omega)).trans (ga82 ((m + 13)) (by omega) (by omega))).trans hm13
      have hc132 : M85 (m + 14) = some (sArr G 574 A14) := ((hf90 (m + 14) (by omega) (by omega) (by omega)).trans (ga82 ((m + 14)) (by omega) (by omega))).trans hm14
      have hc133 : M85 (m + 15) = some (sArr G 200 T2) := ((hf90 (m + 15) (by omega) (by omega) (by omega)).trans (ga82 ((m + 15)) (by omega) (by omega))).trans hm15
      have hc134 : M85 o = some (sArL G 1 g0) := (gb110 o (by omega)).trans hc20
      exact W.widen (by omega) (by omega) (hk _ _ _ _ _ (by omega) ⟨_, _, _, _, _, _, _, _, _, _, _, _, _, _, _, _, _, _, _, _, _, _, _, _, _, _, hc109, hc111, hc112, hc113, hc114, hc115, hc116, hc117, hc118, hc119, hc120, hc99, hc100, hc101, hc121, hc122, hc123, hc124, hc125, hc126, hc127, hc128, hc129, hc130, hc131, hc132, hc133, hc134, lF_s hlF, htp, hwr⟩ hV (lv_sub hl [2, 3, 4, 5, 6] rfl))
    · rw [ez103]
      exact (nx_takeBack_1_2 c15 c102).elim
  · rw [ez22]
    refine lv_istore (lv' := [(5, .int (sI 0)), (0, .ref z), (1, .ref c), (2, .ref m), (3, .ref o), (4, .int (sI i))]) hx_ hb_ dL_law_1621 hl (by decide) rfl (fun ls hl => ?_)
    refine lv_aload_n hx_ hb_ dL_law_1623 rfl (lv_at hl 3 rfl) ?_
    refine lv_aload_n hx_ hb_ dL_law_1624 rfl (lv_at hl 1 rfl) ?_
    refine lv_iload hx_ hb_ dL_law_1625 (lv_at hl 5 rfl) ?_
    refine si_const S dL_law_1627 ?_
    refine si_add S dL_law_1628 ?_
    refine sc_sld S hV hX hzb (by omega) dL_law_1629 ?_
    have ga136 : ∀ x : Nat, m ≤ x → x < m + 16 → M1 x = M x := fun x u1 u2 => hf7 x (by omega) (by omega) (by omega) (by omega) (by omega)
    have hc135 : M1 m = some (mO m th ch tn te sn nm wn) := (ga136 m (by omega) (by omega)).trans hm0
    have hc137 : M1 (m + 1) = some (sArr G 574 f) := (ga136 ((m + 1)) (by omega) (by omega)).trans hm1
    have hc138 : svC G M1 (m + 2) ch fs := hsv.fr (fun x q8 q9 => ga136 x (by omega) (by omega))
    refine sk_Vi E hV (As := [.int (sI (lX xs (i + 1)))]) (rest := []) (kX11_takeBack l_ G b_ M1 N2 m th ch tn te sn nm wn f fs (lX xs (i + 1)) hc135 hc137 hc138 (hok) (hchr) ((lX_r xs _))) (cwV 1 S.2.2.2.2 gL_law_X11_takeBack rfl rfl rfl (by decide +kernel) ⟨Nat.le_of_ble_eq_true rfl, Nat.le_of_ble_eq_true rfl⟩) (ci := 9) hc135 rfl rfl rfl hl.1 (Nat.le_of_ble_eq_true rfl) dL_law_1630 (c1 := cc_ + 25) (s1 := ss_ + 3000) ⟨⟨rfl, rfl⟩, by omega, by omega⟩ (fun z142 M139 N140 H locs hp141 hV => ?_)
    obtain ⟨hN143, hf144, hq145⟩ := hp141
    rw [hN143] at hV
    rcases hq145 with ⟨c146, ez147, hc148, hc149, hc150⟩ | ⟨c151, ez152, hc153, hc154, hc155⟩ | ⟨c156, ez157, hc158, hc159, hc160⟩
    · rw [ez147]
      exact (nx_takeBack_2_0 c21 c146).elim
    · rw [ez152]
      exact (nx_takeBack_2_1 c21 c151).elim
    · rw [ez157]
      refine lv_istore (lv' := [(6, .int (sI (f 571 + 1))), (5, .int (sI 0)), (0, .ref z), (1, .ref c), (2, .ref m), (3, .ref o), (4, .int (sI i))]) hx_ hb_ dL_law_1633 hl (by decide) rfl (fun ls hl => ?_)
      refine lv_aload_n hx_ hb_ dL_law_1635 rfl (lv_at hl 4 rfl) ?_
      refine sk_VP E hV (As := []) (rest := []) (kX11_thrown l_ G b_ M139 N2 m 0 (chn ch) tn te sn nm wn hc158) (cwV 0 S.2.2.2.2 gL_law_X11_thrown rfl rfl rfl (by decide +kernel) ⟨Nat.le_of_ble_eq_true rfl, Nat.le_of_ble_eq_true rfl⟩) (ci := 9) hc158 rfl rfl rfl hl.1 (Nat.le_of_ble_eq_true rfl) dL_law_1636 (c1 := cc_ + 25) (s1 := ss_ + 3000) ⟨⟨rfl, rfl⟩, by omega, by omega⟩ (fun H locs hV => ?_)
      refine lv_iload hx_ hb_ dL_law_1639 (lv_at hl 1 rfl) ?_
      refine sb_eq (tgt := 1646) S dL_law_1641 (by decide) (by omega) (fun _ => ?_) (fun c161 => absurd c161 (by omega))
      refine lv_iload hx_ hb_ dL_law_1646 (lv_at hl 1 rfl) ?_
      refine sz_ne (tgt := 1663) S dL_law_1648 (by decide) (by omega) (fun c162 => absurd c162 (by omega)) (fun _ => ?_)
      refine lv_aload_n hx_ hb_ dL_law_1651 rfl (lv_at hl 5 rfl) ?_
      refine si_const S dL_law_1652 ?_
      have gb164 : ∀ x : Nat, (x < m ∨ m + 16 ≤ x) → M139 x = M1 x := fun x u1 => hf144 x (by omega) (by omega) (by omega)
      have hc163 : M139 o = some (sArL G 1 (iup g0 0 (sW (f 571 + 1)))) := (gb164 o (by omega)).trans hc26
      refine sc_lald S hK hV hc163 (by omega) dL_law_1653 ?_
      rw [show (iup g0 0 (sW (f 571 + 1))) 0 = sW (f 571 + 1) from if_pos rfl]
      refine lv_iload hx_ hb_ dL_law_1654 (lv_at hl 0 rfl) ?_
      refine sl_i2w S dL_law_1656 ?_
      refine sl_cmp0 S (rfl) dL_law_1657 ?_
      refine sz_eq (tgt := 1663) S dL_law_1658 (by decide) (by omega) (fun _ => ?_) (fun c165 => absurd c165 (by omega))
      refine lv_goto (tgt := 2853) hx_ hb_ dL_law_1663 (by decide) ?_
      have hc166 : M139 c = some (xO c kn15 (chn ch)) := (gb164 c (by omega)).trans hc23
      have hc167 : stC G M139 (c + 1) (tbF f (lX xs (i + 1))) := hc24.fr (fun x q8 q9 => gb164 x (by omega))
      have hc168 : triC G M139 (c + 16) := htr.fr (fun x q8 q9 => (gb164 x (by omega)).trans (hf7 x (by omega) (by omega) (by omega) (by omega) (by omega)))
      have hc169 : kpC G M139 (c + 31) kb kn15 (chn ch) (fsn ch fs f) := hc25.fr (fun x q8 => gb164 x (by omega))
      have hc170 : M139 (c + 32) = some (sObj 7 [.ref (c + 33), .int (sI tn), .int (sI te)]) := ((gb164 ((c + 32)) (by omega)).trans (hf7 (c + 32) (by omega) (by omega) (by omega) (by omega) (by omega))).trans ht0
      have hc171 : M139 (c + 33) = some (sArr G 300 t) := ((gb164 ((c + 33)) (by omega)).trans (hf7 (c + 33) (by omega) (by omega) (by omega) (by omega) (by omega))).trans ht1
      have hc172 : catC G M139 (c + 34) wc T := hct.fr (fun x q8 q9 => (gb164 x (by omega)).trans (hf7 x (by omega) (by omega) (by omega) (by omega) (by omega)))
      have hc173 : orfC G M139 (c + 38) := hft.fr (fun x q8 q9 => (gb164 x (by omega)).trans (hf7 x (by omega) (by omega) (by omega) (by omega) (by omega)))
      have hc174 : layC G M139 (c + 48) := hly.fr (fun x q8 q9 => (gb164 x (by omega)).trans (hf7 x (by omega) (by omega) (by omega) (by omega) (by omega)))
      have hc175 : knoC G M139 (c + 54) := hkn.fr (fun x q8 q9 => (gb164 x (by omega)).trans (hf7 x (by omega) (by omega) (by omega) (by omega) (by omega)))
      have hc176 : excC G M139 (c + 57) := hex.fr (fun x q8 q9 => (gb164 x (by omega)).trans (hf7 x (by omega) (by omega) (by omega) (by omega) (by omega)))
      have hc177 : M139 (m + 3) = some (sArr G 300 t) := ((hf144 (m + 3) (by omega) (by omega) (by omega)).trans (ga136 ((m + 3)) (by omega) (by omega))).trans hm3
      have hc178 : M139 (m + 4) = some (sArr G 11 A4) := ((hf144 (m + 4) (by omega) (by omega) (by omega)).trans (ga136 ((m + 4)) (by omega) (by omega))).trans hm4
      have hc179 : M139 (m + 5) = some (sArr G 1024 A5) := ((hf144 (m + 5) (by omega) (by omega) (by omega)).trans (ga136 ((m + 5)) (by omega) (by omega))).trans hm5
      have hc180 : M139 (m + 6) = some (sArr G 1024 A6) := ((hf144 (m + 6) (by omega) (by omega) (by omega)).trans (ga136 ((m + 6)) (by omega) (by omega))).trans hm6
      have hc181 : M139 (m + 7) = some (sArr G 10 A7) := ((hf144 (m + 7) (by omega) (by omega) (by omega)).trans (ga136 ((m + 7)) (by omega) (by omega))).trans hm7
      have hc182 : M139 (m + 8) = some (sArr G 10 A8) := ((hf144 (m + 8) (by omega) (by omega) (by omega)).trans (ga136 ((m + 8)) (by omega) (by omega))).trans hm8
      have hc183 : M139 (m + 9) = some (sArr G 62 A9) := ((hf144 (m + 9) (by omega) (by omega) (by omega)).trans (ga136 ((m + 9)) (by omega) (by omega))).trans hm9
      have hc184 : M139 (m + 10) = some (sArr G 8 A10) := ((hf144 (m + 10) (by omega) (by omega) (by omega)).trans (ga136 ((m + 10)) (by omega) (by omega))).trans hm10
      have hc185 : M139 (m + 11) = some (sArr G 8 A11) := ((hf144 (m + 11) (by omega) (by omega) (by omega)).trans (ga136 ((m + 11)) (by omega) (by omega))).trans hm11
      have hc186 : M139 (m + 12) = some (sArr G 60 A12) := ((hf144 (m + 12) (by omega) (by omega) (by omega)).trans (ga136 ((m + 12)) (by omega) (by omega))).trans hm12
      have hc187 : M139 (m + 13) = some (sArr G 240 A13) := ((hf144 (m + 13) (by omega) (by omega) (by omega)).trans (ga136 ((m + 13)) (by omega) (by omega))).trans hm13
      have hc188 : M139 (m + 14) = some (sArr G 574 A14) := ((hf144 (m + 14) (by omega) (by omega) (by omega)).trans (ga136 ((m + 14)) (by omega) (by omega))).trans hm14
      have hc189 : M139 (m + 15) = some (sArr G 200 T2) := ((hf144 (m + 15) (by omega) (by omega) (by omega)).trans (ga136 ((m + 15)) (by omega) (by omega))).trans hm15
      exact W.widen (by omega) (by omega) (hk _ _ _ _ _ (by omega) ⟨_, _, _, _, _, _, _, _, _, _, _, _, _, _, _, _, _, _, _, _, _, _, _, _, _, _, hc166, hc167, hc168, hc169, hc170, hc171, hc172, hc173, hc174, hc175, hc176, hc158, hc159, hc160, hc177, hc178, hc179, hc180, hc181, hc182, hc183, hc184, hc185, hc186, hc187, hc188, hc189, hc163, lF_k hchr hlF (g_tb hlF.1 (by omega) (by omega)), htp, hwr⟩ hV (lv_sub hl [2, 3, 4, 5, 6] rfl))
