theorem nx_join_0_1 {t : sF} {tn : Int} {f : sF} (h1 : rcE t tn ≠ -1) (h2 : rcE t tn = -1 ∧ ¬ jnQ f t tn) : False := by
  first
  | omega
  | (simp_all; done)
  | (simp_all; omega)
theorem nx_join_0_2 {t : sF} {tn : Int} {f : sF} (h1 : rcE t tn ≠ -1) (h2 : rcE t tn = -1 ∧ jnQ f t tn) : False := by
  first
  | omega
  | (simp_all; done)
  | (simp_all; omega)
theorem nx_join_1_0 {t : sF} {tn : Int} {f : sF} (h1 : rcE t tn = -1 ∧ ¬ jnQ f t tn) (h2 : rcE t tn ≠ -1) : False := by
  first
  | omega
  | (simp_all; done)
  | (simp_all; omega)
theorem nx_join_1_2 {t : sF} {tn : Int} {f : sF} (h1 : rcE t tn = -1 ∧ ¬ jnQ f t tn) (h2 : rcE t tn = -1 ∧ jnQ f t tn) : False := by
  first
  | omega
  | (simp_all; done)
  | (simp_all; omega)
theorem nx_join_2_0 {t : sF} {tn : Int} {f : sF} (h1 : rcE t tn = -1 ∧ jnQ f t tn) (h2 : rcE t tn ≠ -1) : False := by
  first
  | omega
  | (simp_all; done)
  | (simp_all; omega)
theorem nx_join_2_1 {t : sF} {tn : Int} {f : sF} (h1 : rcE t tn = -1 ∧ jnQ f t tn) (h2 : rcE t tn = -1 ∧ ¬ jnQ f t tn) : False := by
  first
  | omega
  | (simp_all; done)
  | (simp_all; omega)
set_option maxHeartbeats 4000000 in
set_option maxRecDepth 100000 in
theorem law_40 {p_ : Program} {l_ : Launch} {e_ : Env} {s_ : State} {m_ : MethodId} {args_ : Array Value} {below_ : List Frame} {meth_ : Method} {c_ : Code} {nm_ : String} {G : sG} {b_ : Nat} {M0 : sM} {N0 : Nat} {Q : State → Prop} (E : sE p_ l_ e_ room_1 s_ m_ args_ below_ meth_ c_ cL_law 9 wsL_law RL nm_ (some .boolean) G b_ M0 N0) (hF_ : xcF s_) (hlt : l_.stackTraces = false) {z L : Nat} {xs : Nat → Int32} (hX : va_X z L xs s_ s_.heap) (hzb : z < b_) {c m o kb : Nat} (hg : c + 60 ≤ m ∧ m + 16 ≤ o ∧ o < kb) {cc_ ss_ : Nat} (hcc : cc_ + 1170 ≤ room_1.cells ∧ ss_ + 14000 ≤ room_1.slots) {q i : Int} (hi : 0 ≤ i ∧ i + 6 ≤ L ∧ (L : Int) ≤ 3072) (hq : 0 ≤ q ∧ q ≤ 600) {M : sM} {N : Nat} (hkN : kb ≤ N) (hI : lI G M c m o kb q) {H : Heap} {locs : List Loc} {ls : Array Slot} (hV : sV G b_ M N s_ H locs) (hl : lv_has ls 9 [(0, .ref z), (1, .ref c), (2, .ref m), (3, .ref o), (4, .int (sI i))])
    (hk : ∀ (M1 : sM) (N1 : Nat) (H1 : Heap) (locs1 : List Loc) (ls1 : Array Slot), kb ≤ N1 → lI G M1 c m o kb (q + 1) → sV G b_ M1 N1 s_ H1 locs1 → lv_has ls1 9 [(0, .ref z), (1, .ref c), (2, .ref m), (3, .ref o), (4, .int (sI i))] → W p_ l_ e_ room_1 s_ m_ args_ below_ meth_ c_ H1 locs1 (cc_ + 1170) (ss_ + 14000) Q (F0 m_ 2853 ls1 [])) : W p_ l_ e_ room_1 s_ m_ args_ below_ meth_ c_ H locs cc_ ss_ Q (F0 m_ 2617 ls []) := by
  have S := E.1
  have hx_ := S.1
  have hb_ := S.2.1
  have hK := E.2.2.2.2.1
  have hI2 := hI
  obtain ⟨kn, ch, f, fs, tn, te, t, wc, wn, T, T2, th, sn, nm, g0, A4, A5, A6, A7, A8, A9, A10, A11, A12, A13, A14, hc0, hst, htr, hkp, ht0, ht1, hct, hft, hly, hkn, hex, hm0, hm1, hsv, hm3, hm4, hm5, hm6, hm7, hm8, hm9, hm10, hm11, hm12, hm13, hm14, hm15, ho9, hlF, htp, hwr⟩ := hI2
  have hok := hlF.1.1
  have hdI := hlF.1.2.1
  have hsL := hlF.1.2.2.1
  have hclk := hlF.1.2.2.2
  have hchr : 0 ≤ ch ∧ ch ≤ 15 := ⟨hkp.r.2.2.1, hkp.r.2.2.2⟩
  have htp1 := htp.1
  have htp2 := htp.2.1
  have hwq := wrQ_e hwr
  have hwq1 := hwq.1
  have hwq2 := hwq.2.1
  have kn0 := sOk_N hok
  refine lv_aload_n hx_ hb_ dL_law_2617 rfl (lv_at hl 1 rfl) ?_
  refine lv_aload_n hx_ hb_ dL_law_2618 rfl (lv_at hl 3 rfl) ?_
  refine yk_Si (hh := [(0, 8, 11, 19), (0, 8, 14, 13)]) E hF_ hV (As := [.ref c, .ref o]) (rest := []) (kL_join l_ G b_ M N o g0 c kn ch f kb fs tn te t wc T hc0 hst hkp ht0 ht1 hct htr ho9 (hlt) (hok) (by omega) (by omega) (htp) (by omega) (by omega)) (vx_cwSW 2 S.2.2.2.2 gL_law_L_join rfl rfl rfl (by decide +kernel) ⟨Nat.le_of_ble_eq_true rfl, Nat.le_of_ble_eq_true rfl⟩) rfl rfl hl.1 (Nat.le_of_ble_eq_true rfl) dL_law_2619 (c1 := cc_ + 25) (s1 := ss_ + 3000) ⟨⟨rfl, rfl⟩, by omega, by omega⟩ (fun z4 M1 N2 H locs hp3 hV => ?_)
  obtain ⟨kn15, hN6, hc7, hc8, hf9, hq10⟩ := hp3
  rcases hq10 with ⟨c11, ez12, hc13, hc14, hc15, hc16, hc17⟩ | ⟨c18, ez19, hc20, hc21, hc22, hc23, hc24⟩ | ⟨c25, ez26, hc27, hc28, hc29, hc30, hc31⟩
  · rw [ez12]
    refine lv_istore (lv' := [(5, .int (sI 1)), (0, .ref z), (1, .ref c), (2, .ref m), (3, .ref o), (4, .int (sI i))]) hx_ hb_ dL_law_2622 hl (by decide) rfl (fun ls hl => ?_)
    refine lv_aload_n hx_ hb_ dL_law_2624 rfl (lv_at hl 3 rfl) ?_
    have ga33 : ∀ x : Nat, m ≤ x → x < m + 16 → M1 x = M x := fun x u1 u2 => hf9 x (by omega) (by omega) (by omega) (by omega) (by omega) (by omega) (by omega) (by omega)
    have hc32 : M1 m = some (mO m th ch tn te sn nm wn) := (ga33 m (by omega) (by omega)).trans hm0
    have hc34 : M1 (m + 1) = some (sArr G 574 f) := (ga33 ((m + 1)) (by omega) (by omega)).trans hm1
    have hc35 : svC G M1 (m + 2) ch fs := hsv.fr (fun x q8 q9 => ga33 x (by omega) (by omega))
    have hc36 : M1 (m + 3) = some (sArr G 300 t) := (ga33 ((m + 3)) (by omega) (by omega)).trans hm3
    have hc37 : M1 (m + 8) = some (sArr G 10 A8) := (ga33 ((m + 8)) (by omega) (by omega)).trans hm8
    have hc38 : M1 (m + 12) = some (sArr G 60 A12) := (ga33 ((m + 12)) (by omega) (by omega)).trans hm12
    have hc39 : M1 (m + 13) = some (sArr G 240 A13) := (ga33 ((m + 13)) (by omega) (by omega)).trans hm13
    have hc40 : M1 (m + 14) = some (sArr G 574 A14) := (ga33 ((m + 14)) (by omega) (by omega)).trans hm14
    refine sk_Vi E hV (As := []) (rest := []) (kX11_join l_ G b_ M1 N2 m th ch tn te sn nm wn f fs t A8 A12 A13 A14 hc32 hc34 hc35 hc36 hc37 hc38 hc39 hc40 (hok) (hchr) (htp)) (cwV 0 S.2.2.2.2 gL_law_X11_join rfl rfl rfl (by decide +kernel) ⟨Nat.le_of_ble_eq_true rfl, Nat.le_of_ble_eq_true rfl⟩) (ci := 9) hc32 rfl rfl rfl hl.1 (Nat.le_of_ble_eq_true rfl) dL_law_2625 (c1 := cc_ + 25) (s1 := ss_ + 3000) ⟨⟨rfl, rfl⟩, by omega, by omega⟩ (fun z44 M41 N42 H locs hp43 hV => ?_)
    obtain ⟨c945, C946, V947, p948, o949, hN50, hc51, hc52, hc53, hc54, hf55, hq56⟩ := hp43
    rw [hN50] at hV
    rcases hq56 with ⟨c57, ez58, hc59, hc60, hc61⟩ | ⟨c62, ez63, hc64, hc65, hc66⟩ | ⟨c67, ez68, hc69, hc70, hc71⟩
    · rw [ez58]
      refine lv_istore (lv' := [(6, .int (sI 0)), (5, .int (sI 1)), (0, .ref z), (1, .ref c), (2, .ref m), (3, .ref o), (4, .int (sI i))]) hx_ hb_ dL_law_2628 hl (by decide) rfl (fun ls hl => ?_)
      refine lv_aload_n hx_ hb_ dL_law_2630 rfl (lv_at hl 4 rfl) ?_
      refine sk_VP E hV (As := []) (rest := []) (kX11_thrown l_ G b_ M41 N2 m 1 ch 0 (rcE t tn) sn c945 wn hc59) (cwV 0 S.2.2.2.2 gL_law_X11_thrown rfl rfl rfl (by decide +kernel) ⟨Nat.le_of_ble_eq_true rfl, Nat.le_of_ble_eq_true rfl⟩) (ci := 9) hc59 rfl rfl rfl hl.1 (Nat.le_of_ble_eq_true rfl) dL_law_2631 (c1 := cc_ + 25) (s1 := ss_ + 3000) ⟨⟨rfl, rfl⟩, by omega, by omega⟩ (fun H locs hV => ?_)
      refine lv_iload hx_ hb_ dL_law_2634 (lv_at hl 1 rfl) ?_
      refine sb_eq (tgt := 2641) S dL_law_2636 (by decide) (by omega) (fun _ => ?_) (fun c72 => absurd c72 (by omega))
      refine lv_iload hx_ hb_ dL_law_2641 (lv_at hl 1 rfl) ?_
      refine sz_ne (tgt := 2658) S dL_law_2643 (by decide) (by omega) (fun _ => ?_) (fun c73 => absurd c73 (by omega))
      refine lv_goto (tgt := 2853) hx_ hb_ dL_law_2658 (by decide) ?_
      have gb75 : ∀ x : Nat, (x < m ∨ m + 16 ≤ x) → M41 x = M1 x := fun x u1 => hf55 x (by omega) (by omega) (by omega) (by omega) (by omega) (by omega) (by omega)
      have hc74 : M41 c = some (xO c kn15 ch) := (gb75 c (by omega)).trans hc13
      have hc76 : stC G M41 (c + 1) f := hc14.fr (fun x q8 q9 => gb75 x (by omega))
      have hc77 : triC G M41 (c + 16) := hc7.fr (fun x q8 q9 => gb75 x (by omega))
      have hc78 : kpC G M41 (c + 31) kb kn15 ch fs := hc15.fr (fun x q8 => gb75 x (by omega))
      have hc79 : M41 (c + 32) = some (sObj 7 [.ref (c + 33), .int (sI 0), .int (sI (rcE t tn))]) := (gb75 ((c + 32)) (by omega)).trans hc16
      have hc80 : M41 (c + 33) = some (sArr G 300 t) := ((gb75 ((c + 33)) (by omega)).trans (hf9 (c + 33) (by omega) (by omega) (by omega) (by omega) (by omega) (by omega) (by omega) (by omega))).trans ht1
      have hc81 : catC G M41 (c + 34) wc T := hc8.fr (fun x q8 q9 => gb75 x (by omega))
      have hc82 : orfC G M41 (c + 38) := hft.fr (fun x q8 q9 => (gb75 x (by omega)).trans (hf9 x (by omega) (by omega) (by omega) (by omega) (by omega) (by omega) (by omega) (by omega)))
      have hc83 : layC G M41 (c + 48) := hly.fr (fun x q8 q9 => (gb75 x (by omega)).trans (hf9 x (by omega) (by omega) (by omega) (by omega) (by omega) (by omega) (by omega) (by omega)))
      have hc84 : knoC G M41 (c + 54) := hkn.fr (fun x q8 q9 => (gb75 x (by omega)).trans (hf9 x (by omega) (by omega) (by omega) (by omega) (by omega) (by omega) (by omega) (by omega)))
      have hc85 : excC G M41 (c + 57) := hex.fr (fun x q8 q9 => (gb75 x (by omega)).trans (hf9 x (by omega) (by omega) (by omega) (by omega) (by omega) (by omega) (by omega) (by omega)))
      have hc86 : M41 (m + 3) = some (sArr G 300 t) := (hf55 (m + 3) (by omega) (by omega) (by omega) (by omega) (by omega) (by omega) (by omega)).trans hc36
      have hc87 : M41 (m + 4) = some (sArr G 11 A4) := ((hf55 (m + 4) (by omega) (by omega) (by omega) (by omega) (by omega) (by omega) (by omega)).trans (ga33 ((m + 4)) (by omega) (by omega))).trans hm4
      have hc88 : M41 (m + 5) = some (sArr G 1024 A5) := ((hf55 (m + 5) (by omega) (by omega) (by omega) (by omega) (by omega) (by omega) (by omega)).trans (ga33 ((m + 5)) (by omega) (by omega))).trans hm5
      have hc89 : M41 (m + 6) = some (sArr G 1024 A6) := ((hf55 (m + 6) (by omega) (by omega) (by omega) (by omega) (by omega) (by omega) (by omega)).trans (ga33 ((m + 6)) (by omega) (by omega))).trans hm6
      have hc90 : M41 (m + 7) = some (sArr G 10 A7) := ((hf55 (m + 7) (by omega) (by omega) (by omega) (by omega) (by omega) (by omega) (by omega)).trans (ga33 ((m + 7)) (by omega) (by omega))).trans hm7
      have hc91 : M41 (m + 9) = some (sArr G 62 A9) := ((hf55 (m + 9) (by omega) (by omega) (by omega) (by omega) (by omega) (by omega) (by omega)).trans (ga33 ((m + 9)) (by omega) (by omega))).trans hm9
      have hc92 : M41 (m + 10) = some (sArr G 8 A10) := ((hf55 (m + 10) (by omega) (by omega) (by omega) (by omega) (by omega) (by omega) (by omega)).trans (ga33 ((m + 10)) (by omega) (by omega))).trans hm10
      have hc93 : M41 (m + 11) = some (sArr G 8 A11) := ((hf55 (m + 11) (by omega) (by omega) (by omega) (by omega) (by omega) (by omega) (by omega)).trans (ga33 ((m + 11)) (by omega) (by omega))).trans hm11
      have hc94 : M41 (m + 15) = some (sArr G 200 T2) := ((hf55 (m + 15) (by omega) (by omega) (by omega) (by omega) (by omega) (by omega) (by omega)).trans (ga33 ((m + 15)) (by omega) (by omega))).trans hm15
      have hc95 : M41 o = some (sArL G 1 g0) := (gb75 o (by omega)).trans hc17
      exact W.widen (by omega) (by omega) (hk _ _ _ _ _ (by omega) ⟨_, _, _, _, _, _, _, _, _, _, _, _, _, _, _, _, _, _, _, _, _, _, _, _, _, _, hc74, hc76, hc77, hc78, hc79, hc80, hc81, hc82, hc83, hc84, hc85, hc59, hc60, hc61, hc86, hc87, hc88, hc89, hc90, hc53, hc91, hc92, hc93, hc51, hc52, hc54, hc94, hc95, lF_s hlF, tp_0 _, hwr⟩ hV (lv_sub hl [2, 3, 4, 5, 6] rfl))
    · rw [ez63]
      exact (nx_join_0_1 c11 c62).elim
    · rw [ez68]
      exact (nx_join_0_2 c11 c67).elim
  · rw [ez19]
    refine lv_istore (lv' := [(5, .int (sI 2)), (0, .ref z), (1, .ref c), (2, .ref m), (3, .ref o), (4, .int (sI i))]) hx_ hb_ dL_law_2622 hl (by decide) rfl (fun ls hl => ?_)
    refine lv_aload_n hx_ hb_ dL_law_2624 rfl (lv_at hl 3 rfl) ?_
    have ga97 : ∀ x : Nat, m ≤ x → x < m + 16 → M1 x = M x := fun x u1 u2 => hf9 x (by omega) (by omega) (by omega) (by omega) (by omega) (by omega) (by omega) (by omega)
    have hc96 : M1 m = some (mO m th ch tn te sn nm wn) := (ga97 m (by omega) (by omega)).trans hm0
    have hc98 : M1 (m + 1) = some (sArr G 574 f) := (ga97 ((m + 1)) (by omega) (by omega)).trans hm1
    have hc99 : svC G M1 (m + 2) ch fs := hsv.fr (fun x q8 q9 => ga97 x (by omega) (by omega))
    have hc100 : M1 (m + 3) = some (sArr G 300 t) := (ga97 ((m + 3)) (by omega) (by omega)).trans hm3
    have hc101 : M1 (m + 8) = some (sArr G 10 A8) := (ga97 ((m + 8)) (by omega) (by omega)).trans hm8
    have hc102 : M1 (m + 12) = some (sArr G 60 A12) := (ga97 ((m + 12)) (by omega) (by omega)).trans hm12
    have hc103 : M1 (m + 13) = some (sArr G 240 A13) := (ga97 ((m + 13)) (by omega) (by omega)).trans hm13
    have hc104 : M1 (m + 14) = some (sArr G 574 A14) := (ga97 ((m + 14)) (by omega) (by omega)).trans hm14
    refine sk_Vi E hV (As := []) (rest := []) (kX11_join l_ G b_ M1 N2 m th ch tn te sn nm wn f fs t A8 A12 A13 A14 hc96 hc98 hc99 hc100 hc101 hc102 hc103 hc104 (hok) (hchr) (htp)) (cwV 0 S.2.2.2.2 gL_law_X11_join rfl rfl rfl (by decide +kernel) ⟨Nat.le_of_ble_eq_true rfl, Nat.le_of_ble_eq_true rfl⟩) (ci := 9) hc96 rfl rfl rfl hl.1 (Nat.le_of_ble_eq_true rfl) dL_law_2625 (c1 := cc_ + 25) (s1 := ss_ + 3000) ⟨⟨rfl, rfl⟩, by omega, by omega⟩ (fun z108 M105 N106 H locs hp107 hV => ?_)
    obtain ⟨c9109, C9110, V9111, p9112, o9113, hN114, hc115, hc116, hc117, hc118, hf119, hq120⟩ := hp107
    rw [hN114] at hV
    rcases hq120 with ⟨c121, ez122, hc123, hc124, hc125⟩ | ⟨c126, ez127, hc128, hc129, hc130⟩ | ⟨c131, ez132, hc133, hc134, hc135⟩
    · rw [ez122]
      exact (nx_join_1_0 c18 c121).elim
    · rw [ez127]
      refine lv_istore (lv' := [(6, .int (sI 0)), (5, .int (sI 2)), (0, .ref z), (1, .ref c), (2, .ref m), (3, .ref o), (4, .int (sI i))]) hx_ hb_ dL_law_2628 hl (by decide) rfl (fun ls hl => ?_)
      refine lv_aload_n hx_ hb_ dL_law_2630 rfl (lv_at hl 4 rfl) ?_
      refine sk_VP E hV (As := []) (rest := []) (kX11_thrown l_ G b_ M105 N2 m 2 ch 0 (-1) sn c9109 wn hc128) (cwV 0 S.2.2.2.2 gL_law_X11_thrown rfl rfl rfl (by decide +kernel) ⟨Nat.le_of_ble_eq_true rfl, Nat.le_of_ble_eq_true rfl⟩) (ci := 9) hc128 rfl rfl rfl hl.1 (Nat.le_of_ble_eq_true rfl) dL_law_2631 (c1 := cc_ + 25) (s1 := ss_ + 3000) ⟨⟨rfl, rfl⟩, by omega, by omega⟩ (fun H locs hV => ?_)
      refine lv_iload hx_ hb_ dL_law_2634 (lv_at hl 1 rfl) ?_
      refine sb_eq (tgt := 2641) S dL_law_2636 (by decide) (by omega) (fun _ => ?_) (fun c136 => absurd c136 (by omega))
      refine lv_iload hx_ hb_ dL_law_2641 (lv_at hl 1 rfl) ?_
      refine sz_ne (tgt := 2658) S dL_law_2643 (by decide) (by omega) (fun _ => ?_) (fun c137 => absurd c137 (by omega))
      refine lv_goto (tgt := 2853) hx_ hb_ dL_law_2658 (by decide) ?_
      have gb139 : ∀ x : Nat, (x < m ∨ m + 16 ≤ x) → M105 x = M1 x := fun x u1 => hf119 x (by omega) (by omega) (by omega) (by omega) (by omega) (by omega) (by omega)
      have hc138 : M105 c = some (xO c kn15 ch) := (gb139 c (by omega)).trans hc20
      have hc140 : stC G M105 (c + 1) f := hc21.fr (fun x q8 q9 => gb139 x (by omega))
      have hc141 : triC G M105 (c + 16) := hc7.fr (fun x q8 q9 => gb139 x (by omega))
      have hc142 : kpC G M105 (c + 31) kb kn15 ch fs := hc22.fr (fun x q8 => gb139 x (by omega))
      have hc143 : M105 (c + 32) = some (sObj 7 [.ref (c + 33), .int (sI 0), .int (sI (-1))]) := (gb139 ((c + 32)) (by omega)).trans hc23
      have hc144 : M105 (c + 33) = some (sArr G 300 t) := ((gb139 ((c + 33)) (by omega)).trans (hf9 (c + 33) (by omega) (by omega) (by omega) (by omega) (by omega) (by omega) (by omega) (by omega))).trans ht1
      have hc145 : catC G M105 (c + 34) wc T := hc8.fr (fun x q8 q9 => gb139 x (by omega))
      have hc146 : orfC G M105 (c + 38) := hft.fr (fun x q8 q9 => (gb139 x (by omega)).trans (hf9 x (by omega) (by omega) (by omega) (by omega) (by omega) (by omega) (by omega) (by omega)))
      have hc147 : layC G M105 (c + 48) := hly.fr (fun x q8 q9 => (gb139 x (by omega)).trans (hf9 x (by omega) (by omega) (by omega) (by omega) (by omega) (by omega) (by omega) (by omega)))
      have hc148 : knoC G M105 (c + 54) := hkn.fr (fun x q8 q9 => (gb139 x (by omega)).trans (hf9 x (by omega) (by omega) (by omega) (by omega) (by omega) (by omega) (by omega) (by omega)))
      have hc149 : excC G M105 (c + 57) := hex.fr (fun x q8 q9 => (gb139 x (by omega)).trans (hf9 x (by omega) (by omega) (by omega) (by omega) (by omega) (by omega) (by omega) (by omega)))
      have hc150 : M105 (m + 3) = some (sArr G 300 t) := (hf119 (m + 3) (by omega) (by omega) (by omega) (by omega) (by omega) (by omega) (by omega)).trans hc100
      have hc151 : M105 (m + 4) = some (sArr G 11 A4) := ((hf119 (m + 4) (by omega) (by omega) (by omega) (by omega) (by omega) (by omega) (by omega)).trans (ga97 ((m + 4)) (by omega) (by omega))).trans hm4
      have hc152 : M105 (m + 5) = some (sArr G 1024 A5) := ((hf119 (m + 5) (by omega) (by omega) (by omega) (by omega) (by omega) (by omega) (by omega)).trans (ga97 ((m + 5)) (by omega) (by omega))).trans hm5
      have hc153 : M105 (m + 6) = some (sArr G 1024 A6) := ((hf119 (m + 6) (by omega) (by omega) (by omega) (by omega) (by omega) (by omega) (by omega)).trans (ga97 ((m + 6)) (by omega) (by omega))).trans hm6
      have hc154 : M105 (m + 7) = some (sArr G 10 A7) := ((hf119 (m + 7) (by omega) (by omega) (by omega) (by omega) (by omega) (by omega) (by omega)).trans (ga97 ((m + 7)) (by omega) (by omega))).trans hm7
      have hc155 : M105 (m + 9) = some (sArr G 62 A9) := ((hf119 (m + 9) (by omega) (by omega) (by omega) (by omega) (by omega) (by omega) (by omega)).trans (ga97 ((m + 9)) (by omega) (by omega))).trans hm9
      have hc156 : M105 (m + 10) = some (sArr G 8 A10) := ((hf119 (m + 10) (by omega) (by omega) (by omega) (by omega) (by omega) (by omega) (by omega)).trans (ga97 ((m + 10)) (by omega) (by omega))).trans hm10
      have hc157 : M105 (m + 11) = some (sArr G 8 A11) := ((hf119 (m + 11) (by omega) (by omega) (by omega) (by omega) (by omega) (by omega) (by omega)).trans (ga97 ((m + 11)) (by omega) (by omega))).trans hm11
      have hc158 : M105 (m + 15) = some (sArr G 200 T2) := ((hf119 (m + 15) (by omega) (by omega) (by omega) (by omega) (by omega) (by omega) (by omega)).trans (ga97 ((m + 15)) (by omega) (by omega))).trans hm15
      have hc159 : M105 o = some (sArL G 1 g0) := (gb139 o (by omega)).trans hc24
      exact W.widen (by omega) (by omega) (hk _ _ _ _ _ (by omega) ⟨_, _, _, _, _, _, _, _, _, _, _, _, _, _, _, _, _, _, _, _, _, _, _, _, _, _, hc138, hc140, hc141, hc142, hc143, hc144, hc145, hc146, hc147, hc148, hc149, hc128, hc129, hc130, hc150, hc151, hc152, hc153, hc154, hc117, hc155, hc156, hc157, hc115, hc116, hc118, hc158, hc159, lF_s hlF, tp_0 _, hwr⟩ hV (lv_sub hl [2, 3, 4, 5, 6] rfl))
    · rw [ez132]
      exact (nx_join_1_2 c18 c131).elim
  · rw [ez26]
    refine lv_istore (lv' := [(5, .int (sI 0)), (0, .ref z), (1, .ref c), (2, .ref m), (3, .ref o), (4, .int (sI i))]) hx_ hb_ dL_law_2622 hl (by decide) rfl (fun ls hl => ?_)
    refine lv_aload_n hx_ hb_ dL_law_2624 rfl (lv_at hl 3 rfl) ?_
    have ga161 : ∀ x : Nat, m ≤ x → x < m + 16 → M1 x = M x := fun x u1 u2 => hf9 x (by omega) (by omega) (by omega) (by omega) (by omega) (by omega) (by omega) (by omega)
    have hc160 : M1 m = some (mO m th ch tn te sn nm wn) := (ga161 m (by omega) (by omega)).trans hm0
    have hc162 : M1 (m + 1) = some (sArr G 574 f) := (ga161 ((m + 1)) (by omega) (by omega)).trans hm1
    have hc163 : svC G M1 (m + 2) ch fs := hsv.fr (fun x q8 q9 => ga161 x (by omega) (by omega))
    have hc164 : M1 (m + 3) = some (sArr G 300 t) := (ga161 ((m + 3)) (by omega) (by omega)).trans hm3
    have hc165 : M1 (m + 8) = some (sArr G 10 A8) := (ga161 ((m + 8)) (by omega) (by omega)).trans hm8
    have hc166 : M1 (m + 12) = some (sArr G 60 A12) := (ga161 ((m + 12)) (by omega) (by omega)).trans hm12
    have hc167 : M1 (m + 13) = some (sArr G 240 A13) := (ga161 ((m + 13)) (by omega) (by omega)).trans hm13
    have hc168 : M1 (m + 14) = some (sArr G 574 A14) := (ga161 ((m + 14)) (by omega) (by omega)).trans hm14
    refine sk_Vi E hV (As := []) (rest := []) (kX11_join l_ G b_ M1 N2 m th ch tn te sn nm wn f fs t A8 A12 A13 A14 hc160 hc162 hc163 hc164 hc165 hc166 hc167 hc168 (hok) (hchr) (htp)) (cwV 0 S.2.2.2.2 gL_law_X11_join rfl rfl rfl (by decide +kernel) ⟨Nat.le_of_ble_eq_true rfl, Nat.le_of_ble_eq_true rfl⟩) (ci := 9) hc160 rfl rfl rfl hl.1 (Nat.le_of_ble_eq_true rfl) dL_law_2625 (c1 := cc_ + 25) (s1 := ss_ + 3000) ⟨⟨rfl, rfl⟩, by omega, by omega⟩ (fun z172 M169 N170 H locs hp171 hV => ?_)
    obtain ⟨c9173, C9174, V9175, p9176, o9177, hN178, hc179, hc180, hc181, hc182, hf183, hq184⟩ := hp171
    rw [hN178] at hV
    rcases hq184 with ⟨c185, ez186, hc187, hc188, hc189⟩ | ⟨c190, ez191, hc192, hc193, hc194⟩ | ⟨c195, ez196, hc197, hc198, hc199⟩
    · rw [ez186]
      exact (nx_join_2_0 c25 c185).elim
    · rw [ez191]
      exact (nx_join_2_1 c25 c190).elim
    · rw [ez196]
      refine lv_istore (lv' := [(6, .int (sI (jnF f t tn 568 - f 568))), (5, .int (sI 0)), (0, .ref z), (1, .ref c), (2, .ref m), (3, .ref o), (4, .int (sI i))]) hx_ hb_ dL_law_2628 hl (by decide) rfl (fun ls hl => ?_)
      refine lv_aload_n hx_ hb_ dL_law_2630 rfl (lv_at hl 4 rfl) ?_
      refine sk_VP E hV (As := []) (rest := []) (kX11_thrown l_ G b_ M169 N2 m 0 (chn ch) 0 (-1) sn c9173 wn hc197) (cwV 0 S.2.2.2.2 gL_law_X11_thrown rfl rfl rfl (by decide +kernel) ⟨Nat.le_of_ble_eq_true rfl, Nat.le_of_ble_eq_true rfl⟩) (ci := 9) hc197 rfl rfl rfl hl.1 (Nat.le_of_ble_eq_true rfl) dL_law_2631 (c1 := cc_ + 25) (s1 := ss_ + 3000) ⟨⟨rfl, rfl⟩, by omega, by omega⟩ (fun H locs hV => ?_)
      refine lv_iload hx_ hb_ dL_law_2634 (lv_at hl 1 rfl) ?_
      refine sb_eq (tgt := 2641) S dL_law_2636 (by decide) (by omega) (fun _ => ?_) (fun c200 => absurd c200 (by omega))
      refine lv_iload hx_ hb_ dL_law_2641 (lv_at hl 1 rfl) ?_
      refine sz_ne (tgt := 2658) S dL_law_2643 (by decide) (by omega) (fun c201 => absurd c201 (by omega)) (fun _ => ?_)
      refine lv_aload_n hx_ hb_ dL_law_2646 rfl (lv_at hl 5 rfl) ?_
      refine si_const S dL_law_2647 ?_
      have gb203 : ∀ x : Nat, (x < m ∨ m + 16 ≤ x) → M169 x = M1 x := fun x u1 => hf183 x (by omega) (by omega) (by omega) (by omega) (by omega) (by omega) (by omega)
      have hc202 : M169 o = some (sArL G 1 (iup g0 0 (sW (jnF f t tn 568 - f 568)))) := (gb203 o (by omega)).trans hc31
      refine sc_lald S hK hV hc202 (by omega) dL_law_2648 ?_
      rw [show (iup g0 0 (sW (jnF f t tn 568 - f 568))) 0 = sW (jnF f t tn 568 - f 568) from if_pos rfl]
      refine lv_iload hx_ hb_ dL_law_2649 (lv_at hl 0 rfl) ?_
      refine sl_i2w S dL_law_2651 ?_
      refine sl_cmp0 S (rfl) dL_law_2652 ?_
      refine sz_eq (tgt := 2658) S dL_law_2653 (by decide) (by omega) (fun _ => ?_) (fun c204 => absurd c204 (by omega))
      refine lv_goto (tgt := 2853) hx_ hb_ dL_law_2658 (by decide) ?_
      have hc205 : M169 c = some (xO c kn15 (chn ch)) := (gb203 c (by omega)).trans hc27
      have hc206 : stC G M169 (c + 1) (jnF f t tn) := hc28.fr (fun x q8 q9 => gb203 x (by omega))
      have hc207 : triC G M169 (c + 16) := hc7.fr (fun x q8 q9 => gb203 x (by omega))
      have hc208 : kpC G M169 (c + 31) kb kn15 (chn ch) (fsn ch fs f) := hc29.fr (fun x q8 => gb203 x (by omega))
      have hc209 : M169 (c + 32) = some (sObj 7 [.ref (c + 33), .int (sI 0), .int (sI (-1))]) := (gb203 ((c + 32)) (by omega)).trans hc30
      have hc210 : M169 (c + 33) = some (sArr G 300 t) := ((gb203 ((c + 33)) (by omega)).trans (hf9 (c + 33) (by omega) (by omega) (by omega) (by omega) (by omega) (by omega) (by omega) (by omega))).trans ht1
      have hc211 : catC G M169 (c + 34) wc T := hc8.fr (fun x q8 q9 => gb203 x (by omega))
      have hc212 : orfC G M169 (c + 38) := hft.fr (fun x q8 q9 => (gb203 x (by omega)).trans (hf9 x (by omega) (by omega) (by omega) (by omega) (by omega) (by omega) (by omega) (by omega)))
      have hc213 : layC G M169 (c + 48) := hly.fr (fun x q8 q9 => (gb203 x (by omega)).trans (hf9 x (by omega) (by omega) (by omega) (by omega) (by omega) (by omega) (by omega) (by omega)))
      have hc214 : knoC G M169 (c + 54) := hkn.fr (fun x q8 q9 => (gb203 x (by omega)).trans (hf9 x (by omega) (by omega) (by omega) (by omega) (by omega) (by omega) (by omega) (by omega)))
      have hc215 : excC G M169 (c + 57) := hex.fr (fun x q8 q9 => (gb203 x (by omega)).trans (hf9 x (by omega) (by omega) (by omega) (by omega) (by omega) (by omega) (by omega) (by omega)))
      have hc216 : M169 (m + 3) = some (sArr G 300 t) := (hf183 (m + 3) (by omega) (by omega) (by omega) (by omega) (by omega) (by omega) (by omega)).trans hc164
      have hc217 : M169 (m + 4) = some (sArr G 11 A4) := ((hf183 (m + 4) (by omega) (by omega) (by omega) (by omega) (by omega) (by omega) (by omega)).trans (ga161 ((m + 4)) (by omega) (by omega))).trans hm4
      have hc218 : M169 (m + 5) = some (sArr G 1024 A5) := ((hf183 (m + 5) (by omega) (by omega) (by omega) (by omega) (by omega) (by omega) (by omega)).trans (ga161 ((m + 5)) (by omega) (by omega))).trans hm5
      have hc219 : M169 (m + 6) = some (sArr G 1024 A6) := ((hf183 (m + 6) (by omega) (by omega) (by omega) (by omega) (by omega) (by omega) (by omega)).trans (ga161 ((m + 6)) (by omega) (by omega))).trans hm6
      have hc220 : M169 (m + 7) = some (sArr G 10 A7) := ((hf183 (m + 7) (by omega) (by omega) (by omega) (by omega) (by omega) (by omega) (by omega)).trans (ga161 ((m + 7)) (by omega) (by omega))).trans hm7
      have hc221 : M169 (m + 9) = some (sArr G 62 A9) := ((hf183 (m + 9) (by omega) (by omega) (by omega) (by omega) (by omega) (by omega) (by omega)).trans (ga161 ((m + 9)) (by omega) (by omega))).trans hm9
      have hc222 : M169 (m + 10) = some (sArr G 8 A10) := ((hf183 (m + 10) (by omega) (by omega) (by omega) (by omega) (by omega) (by omega) (by omega)).trans (ga161 ((m + 10)) (by omega) (by omega))).trans hm10
      have hc223 : M169 (m + 11) = some (sArr G 8 A11) := ((hf183 (m + 11) (by omega) (by omega) (by omega) (by omega) (by omega) (by omega) (by omega)).trans (ga161 ((m + 11)) (by omega) (by omega))).trans hm11
      have hc224 : M169 (m + 15) = some (sArr G 200 T2) := ((hf183 (m + 15) (by omega) (by omega) (by omega) (by omega) (by omega) (by omega) (by omega)).trans (ga161 ((m + 15)) (by omega) (by omega))).trans hm15
      exact W.widen (by omega) (by omega) (hk _ _ _ _ _ (by omega) ⟨_, _, _, _, _, _, _, _, _, _, _, _, _, _, _, _, _, _, _, _, _, _, _, _, _, _, hc205, hc206, hc207, hc208, hc209, hc210, hc211, hc212, hc213, hc214, hc215, hc197, hc198, hc199, hc216, hc217, hc218, hc219, hc220, hc181, hc221, hc222, hc223, hc179, hc180, hc182, hc224, hc202, lF_k hchr hlF (g_jn hlF.1 htp (by omega) c25.2), tp_0 _, hwr⟩ hV (lv_sub hl [2, 3, 4, 5, 6] rfl))

set_option maxHeartbeats 4000000 in
set_option maxRecDepth 100000 in
theorem law_41 {p_ : Program} {l_ : Launch} {e_ : Env} {s_ : State} {m_ : MethodId} {args_ : Array Value} {below_ : List Frame} {meth_ : Method} {c_ : Code} {nm_ : String} {G : sG} {b_ : Nat} {M0 : sM} {N0 : Nat} {Q : State → Prop} (E : sE p_ l_ e_ room_1 s_ m_ args_ below_ meth_ c_ cL_law 9 wsL_law RL nm_ (some .boolean) G b_ M0 N0) (hF_ : xcF s_) (hlt : l_.stackTraces = false) {z L : Nat} {xs : Nat → Int32} (hX : va_X z L xs s_ s_.heap) (hzb : z < b_) {c m o kb : Nat} (hg : c + 60 ≤ m ∧ m + 16 ≤ o ∧ o < kb) {cc_ ss_ : Nat} (hcc : cc_ + 1170 ≤ room_1.cells ∧ ss_ + 14000 ≤ room_1.slots) {q i : Int} (hi : 0 ≤ i ∧ i + 6 ≤ L ∧ (L : Int) ≤ 3072) (hq : 0 ≤ q ∧ q ≤ 600) {M : sM} {N : Nat} (hkN : kb ≤ N) (hI : lI G M c m o kb q) {H : Heap} {locs : List Loc} {ls : Array Slot} (hV : sV G b_ M N s_ H locs) (hl : lv_has ls 9 [(0, .ref z), (1, .ref c), (2, .ref m), (3, .ref o), (4, .int (sI i))])
    (hk : ∀ (M1 : sM) (N1 : Nat) (H1 : Heap) (locs1 : List Loc) (ls1 : Array Slot), kb ≤ N1 → lI G M1 c m o kb (q + 1) → sV G b_ M1 N1 s_ H1 locs1 → lv_has ls1 9 [(0, .ref z), (1, .ref c), (2, .ref m), (3, .ref o), (4, .int (sI i))] → W p_ l_ e_ room_1 s_ m_ args_ below_ meth_ c_ H1 locs1 (cc_ + 1170) (ss_ + 14000) Q (F0 m_ 2853 ls1 [])) : W p_ l_ e_ room_1 s_ m_ args_ below_ meth_ c_ H locs cc_ ss_ Q (F0 m_ 2661 ls []) := by
  have S := E.1
  have hx_ := S.1
  have hb_ := S.2.1
  have hK := E.2.2.2.2.1
  have hI2 := hI
  obtain ⟨kn, ch, f, fs, tn, te, t, wc, wn, T, T2, th, sn, nm, g0, A4, A5, A6, A7, A8, A9, A10, A11, A12, A13, A14, hc0, hst, htr, hkp, ht0, ht1, hct, hft, hly, hkn, hex, hm0, hm1, hsv, hm3, hm4, hm5, hm6, hm7, hm8, hm9, hm10, hm11, hm12, hm13, hm14, hm15, ho9, hlF, htp, hwr⟩ := hI2
  have hok := hlF.1.1
  have hdI := hlF.1.2.1
  have hsL := hlF.1.2.2.1
  have hclk := hlF.1.2.2.2
  have hchr : 0 ≤ ch ∧ ch ≤ 15 := ⟨hkp.r.2.2.1, hkp.r.2.2.2⟩
  have htp1 := htp.1
  have htp2 := htp.2.1
  have hwq := wrQ_e hwr
  have hwq1 := hwq.1
  have hwq2 := hwq.2.1
  have kn0 := sOk_N hok
  refine lv_aload_n hx_ hb_ dL_law_2661 rfl (lv_at hl 1 rfl) ?_
  refine sk_Vi E hV (As := []) (rest := []) (kX10_write l_ G b_ M N c kn ch f wc T hc0 hst hct (hok)) (cwV 0 S.2.2.2.2 gL_law_X10_write rfl rfl rfl (by decide +kernel) ⟨Nat.le_of_ble_eq_true rfl, Nat.le_of_ble_eq_true rfl⟩) (ci := 8) hc0 rfl rfl rfl hl.1 (Nat.le_of_ble_eq_true rfl) dL_law_2662 (c1 := cc_ + 8) (s1 := ss_ + 50) ⟨⟨rfl, rfl⟩, by omega, by omega⟩ (fun z4 M1 N2 H locs hp3 hV => ?_)
  obtain ⟨w95, T96, ez7, hN8, hc9, hf10, hw911⟩ := hp3
  rw [hN8] at hV
  rw [ez7]
  have hcw := hw911
  refine lv_aload_n hx_ hb_ dL_law_2665 rfl (lv_at hl 2 rfl) ?_
  have ga13 : ∀ x : Nat, m ≤ x → x < m + 16 → M1 x = M x := fun x u1 u2 => hf10 x (by omega)
  have hc12 : M1 m = some (mO m th ch tn te sn nm wn) := (ga13 m (by omega) (by omega)).trans hm0
  have hc14 : M1 (m + 1) = some (sArr G 574 f) := (ga13 ((m + 1)) (by omega) (by omega)).trans hm1
  have hc15 : M1 (m + 15) = some (sArr G 200 T2) := (ga13 ((m + 15)) (by omega) (by omega)).trans hm15
  refine sk_Vi E hV (As := []) (rest := [.int (sI ((wrS f (f 568).toNat).1))]) (kX11_write l_ G b_ M1 N m th ch tn te sn nm wn f T2 hc12 hc14 hc15 (hok)) (cwV 0 S.2.2.2.2 gL_law_X11_write rfl rfl rfl (by decide +kernel) ⟨Nat.le_of_ble_eq_true rfl, Nat.le_of_ble_eq_true rfl⟩) (ci := 9) hc12 rfl rfl rfl hl.1 (Nat.le_of_ble_eq_true rfl) dL_law_2666 (c1 := cc_ + 8) (s1 := ss_ + 50) ⟨⟨rfl, rfl⟩, by omega, by omega⟩ (fun z19 M16 N17 H locs hp18 hV => ?_)
  obtain ⟨w920, T921, ez22, hN23, hc24, hc25, hf26, hE927⟩ := hp18
  rw [hN23] at hV
  rw [ez22]
  have hrw := hE927
  refine sb_eq1 (tgt := 2853) S (rfl) dL_law_2669 (by decide) ?_
  have gb29 : ∀ x : Nat, (x < m ∨ m + 16 ≤ x) → M16 x = M1 x := fun x u1 => hf26 x (by omega) (by omega)
  have hc28 : M16 c = some (xO c kn ch) := ((gb29 c (by omega)).trans (hf10 c (by omega))).trans hc0
  have hc30 : stC G M16 (c + 1) f := hst.fr (fun x q8 q9 => (gb29 x (by omega)).trans (hf10 x (by omega)))
  have hc31 : triC G M16 (c + 16) := htr.fr (fun x q8 q9 => (gb29 x (by omega)).trans (hf10 x (by omega)))
  have hc32 : kpC G M16 (c + 31) kb kn ch fs := hkp.fr (fun x q8 => (gb29 x (by omega)).trans (hf10 x (by omega)))
  have hc33 : M16 (c + 32) = some (sObj 7 [.ref (c + 33), .int (sI tn), .int (sI te)]) := ((gb29 ((c + 32)) (by omega)).trans (hf10 (c + 32) (by omega))).trans ht0
  have hc34 : M16 (c + 33) = some (sArr G 300 t) := ((gb29 ((c + 33)) (by omega)).trans (hf10 (c + 33) (by omega))).trans ht1
  have hc35 : catC G M16 (c + 34) w95 T96 := hc9.fr (fun x q8 q9 => gb29 x (by omega))
  have hc36 : orfC G M16 (c + 38) := hft.fr (fun x q8 q9 => (gb29 x (by omega)).trans (hf10 x (by omega)))
  have hc37 : layC G M16 (c + 48) := hly.fr (fun x q8 q9 => (gb29 x (by omega)).trans (hf10 x (by omega)))
  have hc38 : knoC G M16 (c + 54) := hkn.fr (fun x q8 q9 => (gb29 x (by omega)).trans (hf10 x (by omega)))
  have hc39 : excC G M16 (c + 57) := hex.fr (fun x q8 q9 => (gb29 x (by omega)).trans (hf10 x (by omega)))
  have hc40 : M16 (m + 1) = some (sArr G 574 f) := (hf26 (m + 1) (by omega) (by omega)).trans hc14
  have hc41 : svC G M16 (m + 2) ch fs := hsv.fr (fun x q8 q9 => (hf26 x (by omega) (by omega)).trans (ga13 x (by omega) (by omega)))
  have hc42 : M16 (m + 3) = some (sArr G 300 t) := ((hf26 (m + 3) (by omega) (by omega)).trans (ga13 ((m + 3)) (by omega) (by omega))).trans hm3
  have hc43 : M16 (m + 4) = some (sArr G 11 A4) := ((hf26 (m + 4) (by omega) (by omega)).trans (ga13 ((m + 4)) (by omega) (by omega))).trans hm4
  have hc44 : M16 (m + 5) = some (sArr G 1024 A5) := ((hf26 (m + 5) (by omega) (by omega)).trans (ga13 ((m + 5)) (by omega) (by omega))).trans hm5
  have hc45 : M16 (m + 6) = some (sArr G 1024 A6) := ((hf26 (m + 6) (by omega) (by omega)).trans (ga13 ((m + 6)) (by omega) (by omega))).trans hm6
  have hc46 : M16 (m + 7) = some (sArr G 10 A7) := ((hf26 (m + 7) (by omega) (by omega)).trans (ga13 ((m + 7)) (by omega) (by omega))).trans hm7
  have hc47 : M16 (m + 8) = some (sArr G 10 A8) := ((hf26 (m + 8) (by omega) (by omega)).trans (ga13 ((m + 8)) (by omega) (by omega))).trans hm8
  have hc48 : M16 (m + 9) = some (sArr G 62 A9) := ((hf26 (m + 9) (by omega) (by omega)).trans (ga13 ((m + 9)) (by omega) (by omega))).trans hm9
  have hc49 : M16 (m + 10) = some (sArr G 8 A10) := ((hf26 (m + 10) (by omega) (by omega)).trans (ga13 ((m + 10)) (by omega) (by omega))).trans hm10
  have hc50 : M16 (m + 11) = some (sArr G 8 A11) := ((hf26 (m + 11) (by omega) (by omega)).trans (ga13 ((m + 11)) (by omega) (by omega))).trans hm11
  have hc51 : M16 (m + 12) = some (sArr G 60 A12) := ((hf26 (m + 12) (by omega) (by omega)).trans (ga13 ((m + 12)) (by omega) (by omega))).trans hm12
  have hc52 : M16 (m + 13) = some (sArr G 240 A13) := ((hf26 (m + 13) (by omega) (by omega)).trans (ga13 ((m + 13)) (by omega) (by omega))).trans hm13
  have hc53 : M16 (m + 14) = some (sArr G 574 A14) := ((hf26 (m + 14) (by omega) (by omega)).trans (ga13 ((m + 14)) (by omega) (by omega))).trans hm14
  have hc54 : M16 o = some (sArL G 1 g0) := ((gb29 o (by omega)).trans (hf10 o (by omega))).trans ho9
  exact W.widen (by omega) (by omega) (hk _ _ _ _ _ (by omega) ⟨_, _, _, _, _, _, _, _, _, _, _, _, _, _, _, _, _, _, _, _, _, _, _, _, _, _, hc28, hc30, hc31, hc32, hc33, hc34, hc35, hc36, hc37, hc38, hc39, hc24, hc40, hc41, hc42, hc43, hc44, hc45, hc46, hc47, hc48, hc49, hc50, hc51, hc52, hc53, hc25, hc54, lF_s hlF, htp, wrQ_w hcw hrw⟩ hV (lv_sub hl [0, 1, 2, 3, 4] rfl))

theorem nx_writtenAt_0_1 {i : Int} {wc : Int} {wn : Int} (h0 : wn = wc) (h1 : ¬ (0 ≤ i ∧ i < wc)) (h2 : 0 ≤ i ∧ i < wn) : False := by
  first
  | omega
  | (simp_all; done)
  | (simp_all; omega)
theorem nx_writtenAt_1_0 {i : Int} {wc : Int} {wn : Int} (h0 : wn = wc) (h1 : 0 ≤ i ∧ i < wc) (h2 : ¬ (0 ≤ i ∧ i < wn)) : False := by
  first
  | omega
  | (simp_all; done)
  | (simp_all; omega)
set_option maxHeartbeats 4000000 in
set_option maxRecDepth 100000 in
theorem law_42 {p_ : Program} {l_ : Launch} {e_ : Env} {s_ : State} {m_ : MethodId} {args_ : Array Value} {below_ : List Frame} {meth_ : Method} {c_ : Code} {nm_ : String} {G : sG} {b_ : Nat} {M0 : sM} {N0 : Nat} {Q : State → Prop} (E : sE p_ l_ e_ room_1 s_ m_ args_ below_ meth_ c_ cL_law 9 wsL_law RL nm_ (some .boolean) G b_ M0 N0) (hF_ : xcF s_) (hlt : l_.stackTraces = false) {z L : Nat} {xs : Nat → Int32} (hX : va_X z L xs s_ s_.heap) (hzb : z < b_) {c m o kb : Nat} (hg : c + 60 ≤ m ∧ m + 16 ≤ o ∧ o < kb) {cc_ ss_ : Nat} (hcc : cc_ + 1170 ≤ room_1.cells ∧ ss_ + 14000 ≤ room_1.slots) {q i : Int} (hi : 0 ≤ i ∧ i + 6 ≤ L ∧ (L : Int) ≤ 3072) (hq : 0 ≤ q ∧ q ≤ 600) {M : sM} {N : Nat} (hkN : kb ≤ N) (hI : lI G M c m o kb q) {H : Heap} {locs : List Loc} {ls : Array Slot} (hV : sV G b_ M N s_ H locs) (hl : lv_has ls 9 [(0, .ref z), (1, .ref c), (2, .ref m), (3, .ref o), (4, .int (sI i))])
    (hk : ∀ (M1 : sM) (N1 : Nat) (H1 : Heap) (locs1 : List Loc) (ls1 : Array Slot), kb ≤ N1 → lI G M1 c m o kb (q + 1) → sV G b_ M1 N1 s_ H1 locs1 → lv_has ls1 9 [(0, .ref z), (1, .ref c), (2, .ref m), (3, .ref o), (4, .int (sI i))] → W p_ l_ e_ room_1 s_ m_ args_ below_ meth_ c_ H1 locs1 (cc_ + 1170) (ss_ + 14000) Q (F0 m_ 2853 ls1 [])) : W p_ l_ e_ room_1 s_ m_ args_ below_ meth_ c_ H locs cc_ ss_ Q (F0 m_ 2674 ls []) := by
  have S := E.1
  have hx_ := S.1
  have hb_ := S.2.1
  have hK := E.2.2.2.2.1
  have hI2 := hI
  obtain ⟨kn, ch, f, fs, tn, te, t, wc, wn, T, T2, th, sn, nm, g0, A4, A5, A6, A7, A8, A9, A10, A11, A12, A13, A14, hc0, hst, htr, hkp, ht0, ht1, hct, hft, hly, hkn, hex, hm0, hm1, hsv, hm3, hm4, hm5, hm6, hm7, hm8, hm9, hm10, hm11, hm12, hm13, hm14, hm15, ho9, hlF, htp, hwr⟩ := hI2
  have hok := hlF.1.1
  have hdI := hlF.1.2.1
  have hsL := hlF.1.2.2.1
  have hclk := hlF.1.2.2.2
  have hchr : 0 ≤ ch ∧ ch ≤ 15 := ⟨hkp.r.2.2.1, hkp.r.2.2.2⟩
  have htp1 := htp.1
  have htp2 := htp.2.1
  have hwq := wrQ_e hwr
  have hwq1 := hwq.1
  have hwq2 := hwq.2.1
  have kn0 := sOk_N hok
  refine lv_aload_n hx_ hb_ dL_law_2674 rfl (lv_at hl 1 rfl) ?_
  refine lv_aload_n hx_ hb_ dL_law_2675 rfl (lv_at hl 0 rfl) ?_
  refine lv_iload hx_ hb_ dL_law_2676 (lv_at hl 4 rfl) ?_
  refine si_const S dL_law_2678 ?_
  refine si_add S dL_law_2679 ?_
  refine sc_sld S hV hX hzb (by omega) dL_law_2680 ?_
  refine lv_aload_n hx_ hb_ dL_law_2681 rfl (lv_at hl 3 rfl) ?_
  refine yk_Si (hh := [(0, 9, 12, 25)]) E hF_ hV (As := [.ref c, .int (sI (lX xs (i + 1))), .ref o]) (rest := []) (kL_writtenAt l_ G b_ M N o g0 c kn ch wc T (lX xs (i + 1)) hc0 hct ho9 (hlt) (by omega) (hwq.2.2.1) ((lX_r xs _)) (by omega)) (vx_cwSW 3 S.2.2.2.2 gL_law_L_writtenAt rfl rfl rfl (by decide +kernel) ⟨Nat.le_of_ble_eq_true rfl, Nat.le_of_ble_eq_true rfl⟩) rfl rfl hl.1 (Nat.le_of_ble_eq_true rfl) dL_law_2682 (c1 := cc_ + 8) (s1 := ss_ + 50) ⟨⟨rfl, rfl⟩, by omega, by omega⟩ (fun z4 M1 N2 H locs hp3 hV => ?_)
  obtain ⟨hN5, hf6, hq7⟩ := hp3
  rcases hq7 with ⟨c8, ez9, hc10⟩ | ⟨c11, ez12, hc13⟩
  · rw [ez9]
    refine lv_istore (lv' := [(5, .int (sI 1)), (0, .ref z), (1, .ref c), (2, .ref m), (3, .ref o), (4, .int (sI i))]) hx_ hb_ dL_law_2685 hl (by decide) rfl (fun ls hl => ?_)
    refine lv_aload_n hx_ hb_ dL_law_2687 rfl (lv_at hl 3 rfl) ?_
    refine lv_aload_n hx_ hb_ dL_law_2688 rfl (lv_at hl 1 rfl) ?_
    refine lv_iload hx_ hb_ dL_law_2689 (lv_at hl 5 rfl) ?_
    refine si_const S dL_law_2691 ?_
    refine si_add S dL_law_2692 ?_
    refine sc_sld S hV hX hzb (by omega) dL_law_2693 ?_
    have ga15 : ∀ x : Nat, m ≤ x → x < m + 16 → M1 x = M x := fun x u1 u2 => hf6 x (by omega)
    have hc14 : M1 m = some (mO m th ch tn te sn nm wn) := (ga15 m (by omega) (by omega)).trans hm0
    have hc16 : M1 (m + 15) = some (sArr G 200 T2) := (ga15 ((m + 15)) (by omega) (by omega)).trans hm15
    refine sk_Vi E hV (As := [.int (sI (lX xs (i + 1)))]) (rest := []) (kX11_writtenAt l_ G b_ M1 N2 m th ch tn te sn nm wn T2 (lX xs (i + 1)) hc14 hc16 (by omega) (hwq.2.2.2.1) ((lX_r xs _))) (cwV 1 S.2.2.2.2 gL_law_X11_writtenAt rfl rfl rfl (by decide +kernel) ⟨Nat.le_of_ble_eq_true rfl, Nat.le_of_ble_eq_true rfl⟩) (ci := 9) hc14 rfl rfl rfl hl.1 (Nat.le_of_ble_eq_true rfl) dL_law_2694 (c1 := cc_ + 8) (s1 := ss_ + 50) ⟨⟨rfl, rfl⟩, by omega, by omega⟩ (fun z20 M17 N18 H locs hp19 hV => ?_)
    obtain ⟨hN21, hf22, hq23⟩ := hp19
    rw [hN21] at hV
    rcases hq23 with ⟨c24, ez25, hc26⟩ | ⟨c27, ez28, hc29⟩
    · rw [ez25]
      refine lv_istore (lv' := [(6, .int (sI 32)), (5, .int (sI 1)), (0, .ref z), (1, .ref c), (2, .ref m), (3, .ref o), (4, .int (sI i))]) hx_ hb_ dL_law_2697 hl (by decide) rfl (fun ls hl => ?_)
      refine lv_aload_n hx_ hb_ dL_law_2699 rfl (lv_at hl 4 rfl) ?_
      refine sk_VP E hV (As := []) (rest := []) (kX11_thrown l_ G b_ M17 N2 m 1 ch tn te sn nm wn hc26) (cwV 0 S.2.2.2.2 gL_law_X11_thrown rfl rfl rfl (by decide +kernel) ⟨Nat.le_of_ble_eq_true rfl, Nat.le_of_ble_eq_true rfl⟩) (ci := 9) hc26 rfl rfl rfl hl.1 (Nat.le_of_ble_eq_true rfl) dL_law_2700 (c1 := cc_ + 8) (s1 := ss_ + 50) ⟨⟨rfl, rfl⟩, by omega, by omega⟩ (fun H locs hV => ?_)
      refine lv_iload hx_ hb_ dL_law_2703 (lv_at hl 1 rfl) ?_
      refine sb_eq (tgt := 2710) S dL_law_2705 (by decide) (by omega) (fun _ => ?_) (fun c30 => absurd c30 (by omega))
      refine lv_iload hx_ hb_ dL_law_2710 (lv_at hl 1 rfl) ?_
      refine sz_ne (tgt := 2727) S dL_law_2712 (by decide) (by omega) (fun _ => ?_) (fun c31 => absurd c31 (by omega))
      refine lv_goto (tgt := 2853) hx_ hb_ dL_law_2727 (by decide) ?_
      have gb33 : ∀ x : Nat, (x < m ∨ m + 16 ≤ x) → M17 x = M1 x := fun x u1 => hf22 x (by omega)
      have hc32 : M17 c = some (xO c kn ch) := ((gb33 c (by omega)).trans (hf6 c (by omega))).trans hc0
      have hc34 : stC G M17 (c + 1) f := hst.fr (fun x q8 q9 => (gb33 x (by omega)).trans (hf6 x (by omega)))
      have hc35 : triC G M17 (c + 16) := htr.fr (fun x q8 q9 => (gb33 x (by omega)).trans (hf6 x (by omega)))
      have hc36 : kpC G M17 (c + 31) kb kn ch fs := hkp.fr (fun x q8 => (gb33 x (by omega)).trans (hf6 x (by omega)))
      have hc37 : M17 (c + 32) = some (sObj 7 [.ref (c + 33), .int (sI tn), .int (sI te)]) := ((gb33 ((c + 32)) (by omega)).trans (hf6 (c + 32) (by omega))).trans ht0
      have hc38 : M17 (c + 33) = some (sArr G 300 t) := ((gb33 ((c + 33)) (by omega)).trans (hf6 (c + 33) (by omega))).trans ht1
      have hc39 : catC G M17 (c + 34) wc T := hct.fr (fun x q8 q9 => (gb33 x (by omega)).trans (hf6 x (by omega)))
      have hc40 : orfC G M17 (c + 38) := hft.fr (fun x q8 q9 => (gb33 x (by omega)).trans (hf6 x (by omega)))
      have hc41 : layC G M17 (c + 48) := hly.fr (fun x q8 q9 => (gb33 x (by omega)).trans (hf6 x (by omega)))
      have hc42 : knoC G M17 (c + 54) := hkn.fr (fun x q8 q9 => (gb33 x (by omega)).trans (hf6 x (by omega)))
      have hc43 : excC G M17 (c + 57) := hex.fr (fun x q8 q9 => (gb33 x (by omega)).trans (hf6 x (by omega)))
      have hc44 : M17 (m + 1) = some (sArr G 574 f) := ((hf22 (m + 1) (by omega)).trans (ga15 ((m + 1)) (by omega) (by omega))).trans hm1
      have hc45 : svC G M17 (m + 2) ch fs := hsv.fr (fun x q8 q9 => (hf22 x (by omega)).trans (ga15 x (by omega) (by omega)))
      have hc46 : M17 (m + 3) = some (sArr G 300 t) := ((hf22 (m + 3) (by omega)).trans (ga15 ((m + 3)) (by omega) (by omega))).trans hm3
      have hc47 : M17 (m + 4) = some (sArr G 11 A4) := ((hf22 (m + 4) (by omega)).trans (ga15 ((m + 4)) (by omega) (by omega))).trans hm4
      have hc48 : M17 (m + 5) = some (sArr G 1024 A5) := ((hf22 (m + 5) (by omega)).trans (ga15 ((m + 5)) (by omega) (by omega))).trans hm5
      have hc49 : M17 (m + 6) = some (sArr G 1024 A6) := ((hf22 (m + 6) (by omega)).trans (ga15 ((m + 6)) (by omega) (by omega))).trans hm6
      have hc50 : M17 (m + 7) = some (sArr G 10 A7) := ((hf22 (m + 7) (by omega)).trans (ga15 ((m + 7)) (by omega) (by omega))).trans hm7
      have hc51 : M17 (m + 8) = some (sArr G 10 A8) := ((hf22 (m + 8) (by omega)).trans (ga15 ((m + 8)) (by omega) (by omega))).trans hm8
      have hc52 : M17 (m + 9) = some (sArr G 62 A9) := ((hf22 (m + 9) (by omega)).trans (ga15 ((m + 9)) (by omega) (by omega))).trans hm9
      have hc53 : M17 (m + 10) = some (sArr G 8 A10) := ((hf22 (m + 10) (by omega)).trans (ga15 ((m + 10)) (by omega) (by omega))).trans hm10
      have hc54 : M17 (m + 11) = some (sArr G 8 A11) := ((hf22 (m + 11) (by omega)).trans (ga15 ((m + 11)) (by omega) (by omega))).trans hm11
      have hc55 : M17 (m + 12) = some (sArr G 60 A12) := ((hf22 (m + 12) (by omega)).trans (ga15 ((m + 12)) (by omega) (by omega))).trans hm12
      have hc56 : M17 (m + 13) = some (sArr G 240 A13) := ((hf22 (m + 13) (by omega)).trans (ga15 ((m + 13)) (by omega) (by omega))).trans hm13
      have hc57 : M17 (m + 14) = some (sArr G 574 A14) := ((hf22 (m + 14) (by omega)).trans (ga15 ((m + 14)) (by omega) (by omega))).trans hm14
      have hc58 : M17 (m + 15) = some (sArr G 200 T2) := (hf22 (m + 15) (by omega)).trans hc16
      have hc59 : M17 o = some (sArL G 1 g0) := (gb33 o (by omega)).trans hc10
      exact W.widen (by omega) (by omega) (hk _ _ _ _ _ (by omega) ⟨_, _, _, _, _, _, _, _, _, _, _, _, _, _, _, _, _, _, _, _, _, _, _, _, _, _, hc32, hc34, hc35, hc36, hc37, hc38, hc39, hc40, hc41, hc42, hc43, hc26, hc44, hc45, hc46, hc47, hc48, hc49, hc50, hc51, hc52, hc53, hc54, hc55, hc56, hc57, hc58, hc59, lF_s hlF, htp, hwr⟩ hV (lv_sub hl [2, 3, 4, 5, 6] rfl))
    · rw [ez28]
      exact (nx_writtenAt_0_1 hwq1 c8 c27).elim
  · rw [ez12]
    refine lv_istore (lv' := [(5, .int (sI 0)), (0, .ref z), (1, .ref c), (2, .ref m), (3, .ref o), (4, .int (sI i))]) hx_ hb_ dL_law_2685 hl (by decide) rfl (fun ls hl => ?_)
    refine lv_aload_n hx_ hb_ dL_law_2687 rfl (lv_at hl 3 rfl) ?_
    refine lv_aload_n hx_ hb_ dL_law_2688 rfl (lv_at hl 1 rfl) ?_
    refine lv_iload hx_ hb_ dL_law_2689 (lv_at hl 5 rfl) ?_
    refine si_const S dL_law_2691 ?_
    refine si_add S dL_law_2692 ?_
    refine sc_sld S hV hX hzb (by omega) dL_law_2693 ?_
    have ga61 : ∀ x : Nat, m ≤ x → x < m + 16 → M1 x = M x := fun x u1 u2 => hf6 x (by omega)
    have hc60 : M1 m = some (mO m th ch tn te sn nm wn) := (ga61 m (by omega) (by omega)).trans hm0
    have hc62 : M1 (m + 15) = some (sArr G 200 T2) := (ga61 ((m + 15)) (by omega) (by omega)).trans hm15
    refine sk_Vi E hV (As := [.int (sI (lX xs (i + 1)))]) (rest := []) (kX11_writtenAt l_ G b_ M1 N2 m th ch tn te sn nm wn T2 (lX xs (i + 1)) hc60 hc62 (by omega) (hwq.2.2.2.1) ((lX_r xs _))) (cwV 1 S.2.2.2.2 gL_law_X11_writtenAt rfl rfl rfl (by decide +kernel) ⟨Nat.le_of_ble_eq_true rfl, Nat.le_of_ble_eq_true rfl⟩) (ci := 9) hc60 rfl rfl rfl hl.1 (Nat.le_of_ble_eq_true rfl) dL_law_2694 (c1 := cc_ + 8) (s1 := ss_ + 50) ⟨⟨rfl, rfl⟩, by omega, by omega⟩ (fun z66 M63 N64 H locs hp65 hV => ?_)
    obtain ⟨hN67, hf68, hq69⟩ := hp65
    rw [hN67] at hV
    rcases hq69 with ⟨c70, ez71, hc72⟩ | ⟨c73, ez74, hc75⟩
    · rw [ez71]
      exact (nx_writtenAt_1_0 hwq1 c11 c70).elim
    · rw [ez74]
      refine lv_istore (lv' := [(6, .int (sI (T2 (lX xs (i + 1))))), (5, .int (sI 0)), (0, .ref z), (1, .ref c), (2, .ref m), (3, .ref o), (4, .int (sI i))]) hx_ hb_ dL_law_2697 hl (by decide) rfl (fun ls hl => ?_)
      refine lv_aload_n hx_ hb_ dL_law_2699 rfl (lv_at hl 4 rfl) ?_
      refine sk_VP E hV (As := []) (rest := []) (kX11_thrown l_ G b_ M63 N2 m 0 ch tn te sn nm wn hc75) (cwV 0 S.2.2.2.2 gL_law_X11_thrown rfl rfl rfl (by decide +kernel) ⟨Nat.le_of_ble_eq_true rfl, Nat.le_of_ble_eq_true rfl⟩) (ci := 9) hc75 rfl rfl rfl hl.1 (Nat.le_of_ble_eq_true rfl) dL_law_2700 (c1 := cc_ + 8) (s1 := ss_ + 50) ⟨⟨rfl, rfl⟩, by omega, by omega⟩ (fun H locs hV => ?_)
      refine lv_iload hx_ hb_ dL_law_2703 (lv_at hl 1 rfl) ?_
      refine sb_eq (tgt := 2710) S dL_law_2705 (by decide) (by omega) (fun _ => ?_) (fun c76 => absurd c76 (by omega))
      refine lv_iload hx_ hb_ dL_law_2710 (lv_at hl 1 rfl) ?_
      refine sz_ne (tgt := 2727) S dL_law_2712 (by decide) (by omega) (fun c77 => absurd c77 (by omega)) (fun _ => ?_)
      refine lv_aload_n hx_ hb_ dL_law_2715 rfl (lv_at hl 5 rfl) ?_
      refine si_const S dL_law_2716 ?_
      have gb79 : ∀ x : Nat, (x < m ∨ m + 16 ≤ x) → M63 x = M1 x := fun x u1 => hf68 x (by omega)
      have hc78 : M63 o = some (sArL G 1 (iup g0 0 (sW (T (lX xs (i + 1)))))) := (gb79 o (by omega)).trans hc13
      refine sc_lald S hK hV hc78 (by omega) dL_law_2717 ?_
      rw [show (iup g0 0 (sW (T (lX xs (i + 1))))) 0 = sW (T (lX xs (i + 1))) from if_pos rfl]
      refine lv_iload hx_ hb_ dL_law_2718 (lv_at hl 0 rfl) ?_
      refine sl_i2w S dL_law_2720 ?_
      refine sl_cmp0 S (congrArg sW (hwq.2.2.2.2 _ (by omega) (by omega))) dL_law_2721 ?_
      refine sz_eq (tgt := 2727) S dL_law_2722 (by decide) (by omega) (fun _ => ?_) (fun c80 => absurd c80 (by omega))
      refine lv_goto (tgt := 2853) hx_ hb_ dL_law_2727 (by decide) ?_
      have hc81 : M63 c = some (xO c kn ch) := ((gb79 c (by omega)).trans (hf6 c (by omega))).trans hc0
      have hc82 : stC G M63 (c + 1) f := hst.fr (fun x q8 q9 => (gb79 x (by omega)).trans (hf6 x (by omega)))
      have hc83 : triC G M63 (c + 16) := htr.fr (fun x q8 q9 => (gb79 x (by omega)).trans (hf6 x (by omega)))
      have hc84 : kpC G M63 (c + 31) kb kn ch fs := hkp.fr (fun x q8 => (gb79 x (by omega)).trans (hf6 x (by omega)))
      have hc85 : M63 (c + 32) = some (sObj 7 [.ref (c + 33), .int (sI tn), .int (sI te)]) := ((gb79 ((c + 32)) (by omega)).trans (hf6 (c + 32) (by omega))).trans ht0
      have hc86 : M63 (c + 33) = some (sArr G 300 t) := ((gb79 ((c + 33)) (by omega)).trans (hf6 (c + 33) (by omega))).trans ht1
      have hc87 : catC G M63 (c + 34) wc T := hct.fr (fun x q8 q9 => (gb79 x (by omega)).trans (hf6 x (by omega)))
      have hc88 : orfC G M63 (c + 38) := hft.fr (fun x q8 q9 => (gb79 x (by omega)).trans (hf6 x (by omega)))
      have hc89 : layC G M63 (c + 48) := hly.fr (fun x q8 q9 => (gb79 x (by omega)).trans (hf6 x (by omega)))
      have hc90 : knoC G M63 (c + 54) := hkn.fr (fun x q8 q9 => (gb79 x (by omega)).trans (hf6 x (by omega)))
      have hc91 : excC G M63 (c + 57) := hex.fr (fun x q8 q9 => (gb79 x (by omega)).trans (hf6 x (by omega)))
      have hc92 : M63 (m + 1) = some (sArr G 574 f) := ((hf68 (m + 1) (by omega)).trans (ga61 ((m + 1)) (by omega) (by omega))).trans hm1
      have hc93 : svC G M63 (m + 2) ch fs := hsv.fr (fun x q8 q9 => (hf68 x (by omega)).trans (ga61 x (by omega) (by omega)))
      have hc94 : M63 (m + 3) = some (sArr G 300 t) := ((hf68 (m + 3) (by omega)).trans (ga61 ((m + 3)) (by omega) (by omega))).trans hm3
      have hc95 : M63 (m + 4) = some (sArr G 11 A4) := ((hf68 (m + 4) (by omega)).trans (ga61 ((m + 4)) (by omega) (by omega))).trans hm4
      have hc96 : M63 (m + 5) = some (sArr G 1024 A5) := ((hf68 (m + 5) (by omega)).trans (ga61 ((m + 5)) (by omega) (by omega))).trans hm5
      have hc97 : M63 (m + 6) = some (sArr G 1024 A6) := ((hf68 (m + 6) (by omega)).trans (ga61 ((m + 6)) (by omega) (by omega))).trans hm6
      have hc98 : M63 (m + 7) = some (sArr G 10 A7) := ((hf68 (m + 7) (by omega)).trans (ga61 ((m + 7)) (by omega) (by omega))).trans hm7
      have hc99 : M63 (m + 8) = some (sArr G 10 A8) := ((hf68 (m + 8) (by omega)).trans (ga61 ((m + 8)) (by omega) (by omega))).trans hm8
      have hc100 : M63 (m + 9) = some (sArr G 62 A9) := ((hf68 (m + 9) (by omega)).trans (ga61 ((m + 9)) (by omega) (by omega))).trans hm9
      have hc101 : M63 (m + 10) = some (sArr G 8 A10) := ((hf68 (m + 10) (by omega)).trans (ga61 ((m + 10)) (by omega) (by omega))).trans hm10
      have hc102 : M63 (m + 11) = some (sArr G 8 A11) := ((hf68 (m + 11) (by omega)).trans (ga61 ((m + 11)) (by omega) (by omega))).trans hm11
      have hc103 : M63 (m + 12) = some (sArr G 60 A12) := ((hf68 (m + 12) (by omega)).trans (ga61 ((m + 12)) (by omega) (by omega))).trans hm12
      have hc104 : M63 (m + 13) = some (sArr G 240 A13) := ((hf68 (m + 13) (by omega)).trans (ga61 ((m + 13)) (by omega) (by omega))).trans hm13
      have hc105 : M63 (m + 14) = some (sArr G 574 A14) := ((hf68 (m + 14) (by omega)).trans (ga61 ((m + 14)) (by omega) (by omega))).trans hm14
      have hc106 : M63 (m + 15) = some (sArr G 200 T2) := (hf68 (m + 15) (by omega)).trans hc62
      exact W.widen (by omega) (by omega) (hk _ _ _ _ _ (by omega) ⟨_, _, _, _, _, _, _, _, _, _, _, _, _, _, _, _, _, _, _, _, _, _, _, _, _, _, hc81, hc82, hc83, hc84, hc85, hc86, hc87, hc88, hc89, hc90, hc91, hc75, hc92, hc93, hc94, hc95, hc96, hc97, hc98, hc99, hc100, hc101, hc102, hc103, hc104, hc105, hc106, hc78, lF_s hlF, htp, hwr⟩ hV (lv_sub hl [2, 3, 4, 5, 6] rfl))

theorem nx_undo_0_1 {ch : Int} (h1 : ch = 0) (h2 : 1 ≤ ch) : False := by
  first
  | omega
  | (simp_all; done)
  | (simp_all; omega)
theorem nx_undo_1_0 {ch : Int} (h1 : 1 ≤ ch) (h2 : ch = 0) : False := by
  first
  | omega
  | (simp_all; done)
  | (simp_all; omega)
set_option maxHeartbeats 4000000 in
set_option maxRecDepth 100000 in
theorem law_43 {p_ : Program} {l_ : Launch} {e_ : Env} {s_ : State} {m_ : MethodId} {args_ : Array Value} {below_ : List Frame} {meth_ : Method} {c_ : Code} {nm_ : String} {G : sG} {b_ : Nat} {M0 : sM} {N0 : Nat} {Q : State → Prop} (E : sE p_ l_ e_ room_1 s_ m_ args_ below_ meth_ c_ cL_law 9 wsL_law RL nm_ (some .boolean) G b_ M0 N0) (hF_ : xcF s_) (hlt : l_.stackTraces = false) {z L : Nat} {xs : Nat → Int32} (hX : va_X z L xs s_ s_.heap) (hzb : z < b_) {c m o kb : Nat} (hg : c + 60 ≤ m ∧ m + 16 ≤ o ∧ o < kb) {cc_ ss_ : Nat} (hcc : cc_ + 1170 ≤ room_1.cells ∧ ss_ + 14000 ≤ room_1.slots) {q i : Int} (hi : 0 ≤ i ∧ i + 6 ≤ L ∧ (L : Int) ≤ 3072) (hq : 0 ≤ q ∧ q ≤ 600) {M : sM} {N : Nat} (hkN : kb ≤ N) (hI : lI G M c m o kb q) {H : Heap} {locs : List Loc} {ls : Array Slot} (hV : sV G b_ M N s_ H locs) (hl : lv_has ls 9 [(0, .ref z), (1, .ref c), (2, .ref m), (3, .ref o), (4, .int (sI i))])
    (hk : ∀ (M1 : sM) (N1 : Nat) (H1 : Heap) (locs1 : List Loc) (ls1 : Array Slot), kb ≤ N1 → lI G M1 c m o kb (q + 1) → sV G b_ M1 N1 s_ H1 locs1 → lv_has ls1 9 [(0, .ref z), (1, .ref c), (2, .ref m), (3, .ref o), (4, .int (sI i))] → W p_ l_ e_ room_1 s_ m_ args_ below_ meth_ c_ H1 locs1 (cc_ + 1170) (ss_ + 14000) Q (F0 m_ 2853 ls1 [])) : W p_ l_ e_ room_1 s_ m_ args_ below_ meth_ c_ H locs cc_ ss_ Q (F0 m_ 2730 ls []) := by
  have S := E.1
  have hx_ := S.1
  have hb_ := S.2.1
  have hK := E.2.2.2.2.1
  have hI2 := hI
  obtain ⟨kn, ch, f, fs, tn, te, t, wc, wn, T, T2, th, sn, nm, g0, A4, A5, A6, A7, A8, A9, A10, A11, A12, A13, A14, hc0, hst, htr, hkp, ht0, ht1, hct, hft, hly, hkn, hex, hm0, hm1, hsv, hm3, hm4, hm5, hm6, hm7, hm8, hm9, hm10, hm11, hm12, hm13, hm14, hm15, ho9, hlF, htp, hwr⟩ := hI2
  have hok := hlF.1.1
  have hdI := hlF.1.2.1
  have hsL := hlF.1.2.2.1
  have hclk := hlF.1.2.2.2
  have hchr : 0 ≤ ch ∧ ch ≤ 15 := ⟨hkp.r.2.2.1, hkp.r.2.2.2⟩
  have htp1 := htp.1
  have htp2 := htp.2.1
  have hwq := wrQ_e hwr
  have hwq1 := hwq.1
  have hwq2 := hwq.2.1
  have kn0 := sOk_N hok
  refine lv_aload_n hx_ hb_ dL_law_2730 rfl (lv_at hl 1 rfl) ?_
  refine sk_Vi E hV (As := []) (rest := []) (kX10_undo l_ G b_ M N c kn ch f kb fs hc0 hst hkp (fun i a b => (hlF.2 i a b).1) (by omega)) (cwV 0 S.2.2.2.2 gL_law_X10_undo rfl rfl rfl (by decide +kernel) ⟨Nat.le_of_ble_eq_true rfl, Nat.le_of_ble_eq_true rfl⟩) (ci := 8) hc0 rfl rfl rfl hl.1 (Nat.le_of_ble_eq_true rfl) dL_law_2731 (c1 := cc_ + 0) (s1 := ss_ + 0) ⟨⟨rfl, rfl⟩, by omega, by omega⟩ (fun z4 M1 N2 H locs hp3 hV => ?_)
  obtain ⟨kn15, hN6, hf7, hq8⟩ := hp3
  rw [hN6] at hV
  rcases hq8 with ⟨c9, ez10, hc11, hc12, hc13⟩ | ⟨c14, ez15, hc16, hc17, hc18⟩
  · rw [ez10]
    refine lv_aload_n hx_ hb_ dL_law_2734 rfl (lv_at hl 2 rfl) ?_
    have ga20 : ∀ x : Nat, m ≤ x → x < m + 16 → M1 x = M x := fun x u1 u2 => hf7 x (by omega) (by omega) (by omega)
    have hc19 : M1 m = some (mO m th ch tn te sn nm wn) := (ga20 m (by omega) (by omega)).trans hm0
    have hc21 : M1 (m + 1) = some (sArr G 574 f) := (ga20 ((m + 1)) (by omega) (by omega)).trans hm1
    have hc22 : svC G M1 (m + 2) ch fs := hsv.fr (fun x q8 q9 => ga20 x (by omega) (by omega))
    refine sk_Vi E hV (As := []) (rest := [.int (sI (-1))]) (kX11_undo l_ G b_ M1 N m th ch tn te sn nm wn f fs hc19 hc21 hc22 (hchr)) (cwV 0 S.2.2.2.2 gL_law_X11_undo rfl rfl rfl (by decide +kernel) ⟨Nat.le_of_ble_eq_true rfl, Nat.le_of_ble_eq_true rfl⟩) (ci := 9) hc19 rfl rfl rfl hl.1 (Nat.le_of_ble_eq_true rfl) dL_law_2735 (c1 := cc_ + 0) (s1 := ss_ + 0) ⟨⟨rfl, rfl⟩, by omega, by omega⟩ (fun z26 M23 N24 H locs hp25 hV => ?_)
    obtain ⟨hN27, hf28, hq29⟩ := hp25
    rw [hN27] at hV
    rcases hq29 with ⟨c30, ez31, hc32, hc33, hc34⟩ | ⟨c35, ez36, hc37, hc38, hc39⟩
    · rw [ez31]
      refine sb_eq (tgt := 2853) S dL_law_2738 (by decide) (by omega) (fun _ => ?_) (fun c40 => absurd c40 (by omega))
      have gb42 : ∀ x : Nat, (x < m ∨ m + 16 ≤ x) → M23 x = M1 x := fun x u1 => hf28 x (by omega) (by omega)
      have hc41 : M23 c = some (xO c kn15 ch) := (gb42 c (by omega)).trans hc11
      have hc43 : stC G M23 (c + 1) f := hc12.fr (fun x q8 q9 => gb42 x (by omega))
      have hc44 : triC G M23 (c + 16) := htr.fr (fun x q8 q9 => (gb42 x (by omega)).trans (hf7 x (by omega) (by omega) (by omega)))
      have hc45 : kpC G M23 (c + 31) kb kn15 ch fs := hc13.fr (fun x q8 => gb42 x (by omega))
      have hc46 : M23 (c + 32) = some (sObj 7 [.ref (c + 33), .int (sI tn), .int (sI te)]) := ((gb42 ((c + 32)) (by omega)).trans (hf7 (c + 32) (by omega) (by omega) (by omega))).trans ht0
      have hc47 : M23 (c + 33) = some (sArr G 300 t) := ((gb42 ((c + 33)) (by omega)).trans (hf7 (c + 33) (by omega) (by omega) (by omega))).trans ht1
      have hc48 : catC G M23 (c + 34) wc T := hct.fr (fun x q8 q9 => (gb42 x (by omega)).trans (hf7 x (by omega) (by omega) (by omega)))
      have hc49 : orfC G M23 (c + 38) := hft.fr (fun x q8 q9 => (gb42 x (by omega)).trans (hf7 x (by omega) (by omega) (by omega)))
      have hc50 : layC G M23 (c + 48) := hly.fr (fun x q8 q9 => (gb42 x (by omega)).trans (hf7 x (by omega) (by omega) (by omega)))
      have hc51 : knoC G M23 (c + 54) := hkn.fr (fun x q8 q9 => (gb42 x (by omega)).trans (hf7 x (by omega) (by omega) (by omega)))
      have hc52 : excC G M23 (c + 57) := hex.fr (fun x q8 q9 => (gb42 x (by omega)).trans (hf7 x (by omega) (by omega) (by omega)))
      have hc53 : M23 (m + 3) = some (sArr G 300 t) := ((hf28 (m + 3) (by omega) (by omega)).trans (ga20 ((m + 3)) (by omega) (by omega))).trans hm3
      have hc54 : M23 (m + 4) = some (sArr G 11 A4) := ((hf28 (m + 4) (by omega) (by omega)).trans (ga20 ((m + 4)) (by omega) (by omega))).trans hm4
      have hc55 : M23 (m + 5) = some (sArr G 1024 A5) := ((hf28 (m + 5) (by omega) (by omega)).trans (ga20 ((m + 5)) (by omega) (by omega))).trans hm5
      have hc56 : M23 (m + 6) = some (sArr G 1024 A6) := ((hf28 (m + 6) (by omega) (by omega)).trans (ga20 ((m + 6)) (by omega) (by omega))).trans hm6
      have hc57 : M23 (m + 7) = some (sArr G 10 A7) := ((hf28 (m + 7) (by omega) (by omega)).trans (ga20 ((m + 7)) (by omega) (by omega))).trans hm7
      have hc58 : M23 (m + 8) = some (sArr G 10 A8) := ((hf28 (m + 8) (by omega) (by omega)).trans (ga20 ((m + 8)) (by omega) (by omega))).trans hm8
      have hc59 : M23 (m + 9) = some (sArr G 62 A9) := ((hf28 (m + 9) (by omega) (by omega)).trans (ga20 ((m + 9)) (by omega) (by omega))).trans hm9
      have hc60 : M23 (m + 10) = some (sArr G 8 A10) := ((hf28 (m + 10) (by omega) (by omega)).trans (ga20 ((m + 10)) (by omega) (by omega))).trans hm10
      have hc61 : M23 (m + 11) = some (sArr G 8 A11) := ((hf28 (m + 11) (by omega) (by omega)).trans (ga20 ((m + 11)) (by omega) (by omega))).trans hm11
      have hc62 : M23 (m + 12) = some (sArr G 60 A12) := ((hf28 (m + 12) (by omega) (by omega)).trans (ga20 ((m + 12)) (by omega) (by omega))).trans hm12
      have hc63 : M23 (m + 13) = some (sArr G 240 A13) := ((hf28 (m + 13) (by omega) (by omega)).trans (ga20 ((m + 13)) (by omega) (by omega))).trans hm13
      have hc64 : M23 (m + 14) = some (sArr G 574 A14) := ((hf28 (m + 14) (by omega) (by omega)).trans (ga20 ((m + 14)) (by omega) (by omega))).trans hm14
      have hc65 : M23 (m + 15) = some (sArr G 200 T2) := ((hf28 (m + 15) (by omega) (by omega)).trans (ga20 ((m + 15)) (by omega) (by omega))).trans hm15
      have hc66 : M23 o = some (sArL G 1 g0) := ((gb42 o (by omega)).trans (hf7 o (by omega) (by omega) (by omega))).trans ho9
      exact W.widen (by omega) (by omega) (hk _ _ _ _ _ (by omega) ⟨_, _, _, _, _, _, _, _, _, _, _, _, _, _, _, _, _, _, _, _, _, _, _, _, _, _, hc41, hc43, hc44, hc45, hc46, hc47, hc48, hc49, hc50, hc51, hc52, hc32, hc33, hc34, hc53, hc54, hc55, hc56, hc57, hc58, hc59, hc60, hc61, hc62, hc63, hc64, hc65, hc66, lF_s hlF, htp, hwr⟩ hV (lv_sub hl [0, 1, 2, 3, 4] rfl))
    · rw [ez36]
      exact (nx_undo_0_1 c9 c35).elim
  · rw [ez15]
    refine lv_aload_n hx_ hb_ dL_law_2734 rfl (lv_at hl 2 rfl) ?_
    have ga68 : ∀ x : Nat, m ≤ x → x < m + 16 → M1 x = M x := fun x u1 u2 => hf7 x (by omega) (by omega) (by omega)
    have hc67 : M1 m = some (mO m th ch tn te sn nm wn) := (ga68 m (by omega) (by omega)).trans hm0
    have hc69 : M1 (m + 1) = some (sArr G 574 f) := (ga68 ((m + 1)) (by omega) (by omega)).trans hm1
    have hc70 : svC G M1 (m + 2) ch fs := hsv.fr (fun x q8 q9 => ga68 x (by omega) (by omega))
    refine sk_Vi E hV (As := []) (rest := [.int (sI (ch - 1))]) (kX11_undo l_ G b_ M1 N m th ch tn te sn nm wn f fs hc67 hc69 hc70 (hchr)) (cwV 0 S.2.2.2.2 gL_law_X11_undo rfl rfl rfl (by decide +kernel) ⟨Nat.le_of_ble_eq_true rfl, Nat.le_of_ble_eq_true rfl⟩) (ci := 9) hc67 rfl rfl rfl hl.1 (Nat.le_of_ble_eq_true rfl) dL_law_2735 (c1 := cc_ + 0) (s1 := ss_ + 0) ⟨⟨rfl, rfl⟩, by omega, by omega⟩ (fun z74 M71 N72 H locs hp73 hV => ?_)
    obtain ⟨hN75, hf76, hq77⟩ := hp73
    rw [hN75] at hV
    rcases hq77 with ⟨c78, ez79, hc80, hc81, hc82⟩ | ⟨c83, ez84, hc85, hc86, hc87⟩
    · rw [ez79]
      exact (nx_undo_1_0 c14 c78).elim
    · rw [ez84]
      refine sb_eq1 (tgt := 2853) S (rfl) dL_law_2738 (by decide) ?_
      have gb89 : ∀ x : Nat, (x < m ∨ m + 16 ≤ x) → M71 x = M1 x := fun x u1 => hf76 x (by omega) (by omega)
      have hc88 : M71 c = some (xO c kn15 (ch - 1)) := (gb89 c (by omega)).trans hc16
      have hc90 : stC G M71 (c + 1) (fs (ch - 1)) := hc17.fr (fun x q8 q9 => gb89 x (by omega))
      have hc91 : triC G M71 (c + 16) := htr.fr (fun x q8 q9 => (gb89 x (by omega)).trans (hf7 x (by omega) (by omega) (by omega)))
      have hc92 : kpC G M71 (c + 31) kb kn15 (ch - 1) fs := hc18.fr (fun x q8 => gb89 x (by omega))
      have hc93 : M71 (c + 32) = some (sObj 7 [.ref (c + 33), .int (sI tn), .int (sI te)]) := ((gb89 ((c + 32)) (by omega)).trans (hf7 (c + 32) (by omega) (by omega) (by omega))).trans ht0
      have hc94 : M71 (c + 33) = some (sArr G 300 t) := ((gb89 ((c + 33)) (by omega)).trans (hf7 (c + 33) (by omega) (by omega) (by omega))).trans ht1
      have hc95 : catC G M71 (c + 34) wc T := hct.fr (fun x q8 q9 => (gb89 x (by omega)).trans (hf7 x (by omega) (by omega) (by omega)))
      have hc96 : orfC G M71 (c + 38) := hft.fr (fun x q8 q9 => (gb89 x (by omega)).trans (hf7 x (by omega) (by omega) (by omega)))
      have hc97 : layC G M71 (c + 48) := hly.fr (fun x q8 q9 => (gb89 x (by omega)).trans (hf7 x (by omega) (by omega) (by omega)))
      have hc98 : knoC G M71 (c + 54) := hkn.fr (fun x q8 q9 => (gb89 x (by omega)).trans (hf7 x (by omega) (by omega) (by omega)))
      have hc99 : excC G M71 (c + 57) := hex.fr (fun x q8 q9 => (gb89 x (by omega)).trans (hf7 x (by omega) (by omega) (by omega)))
      have hc100 : M71 (m + 3) = some (sArr G 300 t) := ((hf76 (m + 3) (by omega) (by omega)).trans (ga68 ((m + 3)) (by omega) (by omega))).trans hm3
      have hc101 : M71 (m + 4) = some (sArr G 11 A4) := ((hf76 (m + 4) (by omega) (by omega)).trans (ga68 ((m + 4)) (by omega) (by omega))).trans hm4
      have hc102 : M71 (m + 5) = some (sArr G 1024 A5) := ((hf76 (m + 5) (by omega) (by omega)).trans (ga68 ((m + 5)) (by omega) (by omega))).trans hm5
      have hc103 : M71 (m + 6) = some (sArr G 1024 A6) := ((hf76 (m + 6) (by omega) (by omega)).trans (ga68 ((m + 6)) (by omega) (by omega))).trans hm6
      have hc104 : M71 (m + 7) = some (sArr G 10 A7) := ((hf76 (m + 7) (by omega) (by omega)).trans (ga68 ((m + 7)) (by omega) (by omega))).trans hm7
      have hc105 : M71 (m + 8) = some (sArr G 10 A8) := ((hf76 (m + 8) (by omega) (by omega)).trans (ga68 ((m + 8)) (by omega) (by omega))).trans hm8
      have hc106 : M71 (m + 9) = some (sArr G 62 A9) := ((hf76 (m + 9) (by omega) (by omega)).trans (ga68 ((m + 9)) (by omega) (by omega))).trans hm9
      have hc107 : M71 (m + 10) = some (sArr G 8 A10) := ((hf76 (m + 10) (by omega) (by omega)).trans (ga68 ((m + 10)) (by omega) (by omega))).trans hm10
      have hc108 : M71 (m + 11) = some (sArr G 8 A11) := ((hf76 (m + 11) (by omega) (by omega)).trans (ga68 ((m + 11)) (by omega) (by omega))).trans hm11
      have hc109 : M71 (m + 12) = some (sArr G 60 A12) := ((hf76 (m + 12) (by omega) (by omega)).trans (ga68 ((m + 12)) (by omega) (by omega))).trans hm12
      have hc110 : M71 (m + 13) = some (sArr G 240 A13) := ((hf76 (m + 13) (by omega) (by omega)).trans (ga68 ((m + 13)) (by omega) (by omega))).trans hm13
      have hc111 : M71 (m + 14) = some (sArr G 574 A14) := ((hf76 (m + 14) (by omega) (by omega)).trans (ga68 ((m + 14)) (by omega) (by omega))).trans hm14
      have hc112 : M71 (m + 15) = some (sArr G 200 T2) := ((hf76 (m + 15) (by omega) (by omega)).trans (ga68 ((m + 15)) (by omega) (by omega))).trans hm15
      have hc113 : M71 o = some (sArL G 1 g0) := ((gb89 o (by omega)).trans (hf7 o (by omega) (by omega) (by omega))).trans ho9
      exact W.widen (by omega) (by omega) (hk _ _ _ _ _ (by omega) ⟨_, _, _, _, _, _, _, _, _, _, _, _, _, _, _, _, _, _, _, _, _, _, _, _, _, _, hc88, (stC_cg (sOk_N (hlF.2 _ (by omega) (by omega)).1) hc90 (fun x a b => if_pos ⟨a, b⟩)), hc91, hc92, hc93, hc94, hc95, hc96, hc97, hc98, hc99, hc85, hc86, hc87, hc100, hc101, hc102, hc103, hc104, hc105, hc106, hc107, hc108, hc109, hc110, hc111, hc112, hc113, ⟨g_cp (hlF.2 _ (by omega) (by omega)), fun i a b => gS_m (hlF.2 i a (by omega))⟩, htp, hwr⟩ hV (lv_sub hl [0, 1, 2, 3, 4] rfl))

set_option maxHeartbeats 4000000 in
set_option maxRecDepth 100000 in
theorem law_44 {p_ : Program} {l_ : Launch} {e_ : Env} {s_ : State} {m_ : MethodId} {args_ : Array Value} {below_ : List Frame} {meth_ : Method} {c_ : Code} {nm_ : String} {G : sG} {b_ : Nat} {M0 : sM} {N0 : Nat} {Q : State → Prop} (E : sE p_ l_ e_ room_1 s_ m_ args_ below_ meth_ c_ cL_law 9 wsL_law RL nm_ (some .boolean) G b_ M0 N0) (hF_ : xcF s_) (hlt : l_.stackTraces = false) {z L : Nat} {xs : Nat → Int32} (hX : va_X z L xs s_ s_.heap) (hzb : z < b_) {c m o kb : Nat} (hg : c + 60 ≤ m ∧ m + 16 ≤ o ∧ o < kb) {cc_ ss_ : Nat} (hcc : cc_ + 1170 ≤ room_1.cells ∧ ss_ + 14000 ≤ room_1.slots) {q i : Int} (hi : 0 ≤ i ∧ i + 6 ≤ L ∧ (L : Int) ≤ 3072) (hq : 0 ≤ q ∧ q ≤ 600) {M : sM} {N : Nat} (hkN : kb ≤ N) (hI : lI G M c m o kb q) {H : Heap} {locs : List Loc} {ls : Array Slot} (hV : sV G b_ M N s_ H locs) (hl : lv_has ls 9 [(0, .ref z), (1, .ref c), (2, .ref m), (3, .ref o), (4, .int (sI i))])
    (hk : ∀ (M1 : sM) (N1 : Nat) (H1 : Heap) (locs1 : List Loc) (ls1 : Array Slot), kb ≤ N1 → lI G M1 c m o kb (q + 1) → sV G b_ M1 N1 s_ H1 locs1 → lv_has ls1 9 [(0, .ref z), (1, .ref c), (2, .ref m), (3, .ref o), (4, .int (sI i))] → W p_ l_ e_ room_1 s_ m_ args_ below_ meth_ c_ H1 locs1 (cc_ + 1170) (ss_ + 14000) Q (F0 m_ 2853 ls1 [])) : W p_ l_ e_ room_1 s_ m_ args_ below_ meth_ c_ H locs cc_ ss_ Q (F0 m_ 2743 ls []) := by
  have S := E.1
  have hx_ := S.1
  have hb_ := S.2.1
  have hK := E.2.2.2.2.1
  have hI2 := hI
  obtain ⟨kn, ch, f, fs, tn, te, t, wc, wn, T, T2, th, sn, nm, g0, A4, A5, A6, A7, A8, A9, A10, A11, A12, A13, A14, hc0, hst, htr, hkp, ht0, ht1, hct, hft, hly, hkn, hex, hm0, hm1, hsv, hm3, hm4, hm5, hm6, hm7, hm8, hm9, hm10, hm11, hm12, hm13, hm14, hm15, ho9, hlF, htp, hwr⟩ := hI2
  have hok := hlF.1.1
  have hdI := hlF.1.2.1
  have hsL := hlF.1.2.2.1
  have hclk := hlF.1.2.2.2
  have hchr : 0 ≤ ch ∧ ch ≤ 15 := ⟨hkp.r.2.2.1, hkp.r.2.2.2⟩
  have htp1 := htp.1
  have htp2 := htp.2.1
  have hwq := wrQ_e hwr
  have hwq1 := hwq.1
  have hwq2 := hwq.2.1
  have kn0 := sOk_N hok
  refine lv_aload_n hx_ hb_ dL_law_2743 rfl (lv_at hl 1 rfl) ?_
  refine sk_VP E hV (As := []) (rest := []) (kX10_checksum l_ G b_ M N c kn ch f hc0 hst (hok)) (cwV 0 S.2.2.2.2 gL_law_X10_checksum rfl rfl rfl (by decide +kernel) ⟨Nat.le_of_ble_eq_true rfl, Nat.le_of_ble_eq_true rfl⟩) (ci := 8) hc0 rfl rfl rfl hl.1 (Nat.le_of_ble_eq_true rfl) dL_law_2744 (c1 := cc_ + 0) (s1 := ss_ + 0) ⟨⟨rfl, rfl⟩, by omega, by omega⟩ (fun H locs hV => ?_)
  refine lv_aload_n hx_ hb_ dL_law_2747 rfl (lv_at hl 2 rfl) ?_
  refine sk_Vi E hV (As := []) (rest := [.int (sI (chN f (f 568).toNat))]) (kX11_checksum l_ G b_ M N m th ch tn te sn nm wn f hm0 hm1 (hok)) (cwV 0 S.2.2.2.2 gL_law_X11_checksum rfl rfl rfl (by decide +kernel) ⟨Nat.le_of_ble_eq_true rfl, Nat.le_of_ble_eq_true rfl⟩) (ci := 9) hm0 rfl rfl rfl hl.1 (Nat.le_of_ble_eq_true rfl) dL_law_2748 (c1 := cc_ + 0) (s1 := ss_ + 0) ⟨⟨rfl, rfl⟩, by omega, by omega⟩ (fun z4 M1 N2 H locs hp3 hV => ?_)
  obtain ⟨ez5, hN6, hc7, hf8⟩ := hp3
  rw [hN6] at hV
  rw [ez5]
  refine sb_eq1 (tgt := 2853) S (rfl) dL_law_2751 (by decide) ?_
  have gb10 : ∀ x : Nat, (x < m ∨ m + 16 ≤ x) → M1 x = M x := fun x u1 => hf8 x (by omega)
  have hc9 : M1 c = some (xO c kn ch) := (gb10 c (by omega)).trans hc0
  have hc11 : stC G M1 (c + 1) f := hst.fr (fun x q8 q9 => gb10 x (by omega))
  have hc12 : triC G M1 (c + 16) := htr.fr (fun x q8 q9 => gb10 x (by omega))
  have hc13 : kpC G M1 (c + 31) kb kn ch fs := hkp.fr (fun x q8 => gb10 x (by omega))
  have hc14 : M1 (c + 32) = some (sObj 7 [.ref (c + 33), .int (sI tn), .int (sI te)]) := (gb10 ((c + 32)) (by omega)).trans ht0
  have hc15 : M1 (c + 33) = some (sArr G 300 t) := (gb10 ((c + 33)) (by omega)).trans ht1
  have hc16 : catC G M1 (c + 34) wc T := hct.fr (fun x q8 q9 => gb10 x (by omega))
  have hc17 : orfC G M1 (c + 38) := hft.fr (fun x q8 q9 => gb10 x (by omega))
  have hc18 : layC G M1 (c + 48) := hly.fr (fun x q8 q9 => gb10 x (by omega))
  have hc19 : knoC G M1 (c + 54) := hkn.fr (fun x q8 q9 => gb10 x (by omega))
  have hc20 : excC G M1 (c + 57) := hex.fr (fun x q8 q9 => gb10 x (by omega))
  have hc21 : M1 (m + 1) = some (sArr G 574 f) := (hf8 (m + 1) (by omega)).trans hm1
  have hc22 : svC G M1 (m + 2) ch fs := hsv.fr (fun x q8 q9 => hf8 x (by omega))
  have hc23 : M1 (m + 3) = some (sArr G 300 t) := (hf8 (m + 3) (by omega)).trans hm3
  have hc24 : M1 (m + 4) = some (sArr G 11 A4) := (hf8 (m + 4) (by omega)).trans hm4
  have hc25 : M1 (m + 5) = some (sArr G 1024 A5) := (hf8 (m + 5) (by omega)).trans hm5
  have hc26 : M1 (m + 6) = some (sArr G 1024 A6) := (hf8 (m + 6) (by omega)).trans hm6
  have hc27 : M1 (m + 7) = some (sArr G 10 A7) := (hf8 (m + 7) (by omega)).trans hm7
  have hc28 : M1 (m + 8) = some (sArr G 10 A8) := (hf8 (m + 8) (by omega)).trans hm8
  have hc29 : M1 (m + 9) = some (sArr G 62 A9) := (hf8 (m + 9) (by omega)).trans hm9
  have hc30 : M1 (m + 10) = some (sArr G 8 A10) := (hf8 (m + 10) (by omega)).trans hm10
  have hc31 : M1 (m + 11) = some (sArr G 8 A11) := (hf8 (m + 11) (by omega)).trans hm11
  have hc32 : M1 (m + 12) = some (sArr G 60 A12) := (hf8 (m + 12) (by omega)).trans hm12
  have hc33 : M1 (m + 13) = some (sArr G 240 A13) := (hf8 (m + 13) (by omega)).trans hm13
  have hc34 : M1 (m + 14) = some (sArr G 574 A14) := (hf8 (m + 14) (by omega)).trans hm14
  have hc35 : M1 (m + 15) = some (sArr G 200 T2) := (hf8 (m + 15) (by omega)).trans hm15
  have hc36 : M1 o = some (sArL G 1 g0) := (gb10 o (by omega)).trans ho9
  exact W.widen (by omega) (by omega) (hk _ _ _ _ _ (by omega) ⟨_, _, _, _, _, _, _, _, _, _, _, _, _, _, _, _, _, _, _, _, _, _, _, _, _, _, hc9, hc11, hc12, hc13, hc14, hc15, hc16, hc17, hc18, hc19, hc20, hc7, hc21, hc22, hc23, hc24, hc25, hc26, hc27, hc28, hc29, hc30, hc31, hc32, hc33, hc34, hc35, hc36, lF_s hlF, htp, hwr⟩ hV (lv_sub hl [0, 1, 2, 3, 4] rfl))

set_option maxHeartbeats 4000000 in
set_option maxRecDepth 100000 in
theorem law_45 {p_ : Program} {l_ : Launch} {e_ : Env} {s_ : State} {m_ : MethodId} {args_ : Array Value} {below_ : List Frame} {meth_ : Method} {c_ : Code} {nm_ : String} {G : sG} {b_ : Nat} {M0 : sM} {N0 : Nat} {Q : State → Prop} (E : sE p_ l_ e_ room_1 s_ m_ args_ below_ meth_ c_ cL_law 9 wsL_law RL nm_ (some .boolean) G b_ M0 N0) (hF_ : xcF s_) (hlt : l_.stackTraces = false) {z L : Nat} {xs : Nat → Int32} (hX : va_X z L xs s_ s_.heap) (hzb : z < b_) {c m o kb : Nat} (hg : c + 60 ≤ m ∧ m + 16 ≤ o ∧ o < kb) {cc_ ss_ : Nat} (hcc : cc_ + 1170 ≤ room_1.cells ∧ ss_ + 14000 ≤ room_1.slots) {q i : Int} (hi : 0 ≤ i ∧ i + 6 ≤ L ∧ (L : Int) ≤ 3072) (hq : 0 ≤ q ∧ q ≤ 600) {M : sM} {N : Nat} (hkN : kb ≤ N) (hI : lI G M c m o kb q) {H : Heap} {locs : List Loc} {ls : Array Slot} (hV : sV G b_ M N s_ H locs) (hl : lv_has ls 9 [(0, .ref z), (1, .ref c), (2, .ref m), (3, .ref o), (4, .int (sI i))])
    (hk : ∀ (M1 : sM) (N1 : Nat) (H1 : Heap) (locs1 : List Loc) (ls1 : Array Slot), kb ≤ N1 → lI G M1 c m o kb (q + 1) → sV G b_ M1 N1 s_ H1 locs1 → lv_has ls1 9 [(0, .ref z), (1, .ref c), (2, .ref m), (3, .ref o), (4, .int (sI i))] → W p_ l_ e_ room_1 s_ m_ args_ below_ meth_ c_ H1 locs1 (cc_ + 1170) (ss_ + 14000) Q (F0 m_ 2853 ls1 [])) : W p_ l_ e_ room_1 s_ m_ args_ below_ meth_ c_ H locs cc_ ss_ Q (F0 m_ 2756 ls []) := by
  have S := E.1
  have hx_ := S.1
  have hb_ := S.2.1
  have hK := E.2.2.2.2.1
  have hI2 := hI
  obtain ⟨kn, ch, f, fs, tn, te, t, wc, wn, T, T2, th, sn, nm, g0, A4, A5, A6, A7, A8, A9, A10, A11, A12, A13, A14, hc0, hst, htr, hkp, ht0, ht1, hct, hft, hly, hkn, hex, hm0, hm1, hsv, hm3, hm4, hm5, hm6, hm7, hm8, hm9, hm10, hm11, hm12, hm13, hm14, hm15, ho9, hlF, htp, hwr⟩ := hI2
  have hok := hlF.1.1
  have hdI := hlF.1.2.1
  have hsL := hlF.1.2.2.1
  have hclk := hlF.1.2.2.2
  have hchr : 0 ≤ ch ∧ ch ≤ 15 := ⟨hkp.r.2.2.1, hkp.r.2.2.2⟩
  have htp1 := htp.1
  have htp2 := htp.2.1
  have hwq := wrQ_e hwr
  have hwq1 := hwq.1
  have hwq2 := hwq.2.1
  have kn0 := sOk_N hok
  refine lv_aload_n hx_ hb_ dL_law_2756 rfl (lv_at hl 1 rfl) ?_
  refine sk_Vd E hV (As := []) (rest := []) (kX10_meanValue l_ G b_ M N c kn ch f hc0 hst (hok)) (cwV 0 S.2.2.2.2 gL_law_X10_meanValue rfl rfl rfl (by decide +kernel) ⟨Nat.le_of_ble_eq_true rfl, Nat.le_of_ble_eq_true rfl⟩) (ci := 8) hc0 rfl rfl rfl hl.1 (Nat.le_of_ble_eq_true rfl) dL_law_2757 (c1 := cc_ + 0) (s1 := ss_ + 0) ⟨⟨rfl, rfl⟩, by omega, by omega⟩ (fun z4 M1 N2 H locs hp3 hV => ?_)
  obtain ⟨ez5, hN6, hf7⟩ := hp3
  rw [hN6] at hV
  rw [ez5]
  refine lv_dstore (lv' := [(5, .double (mvD f)), (0, .ref z), (1, .ref c), (2, .ref m), (3, .ref o), (4, .int (sI i))]) hx_ hb_ dL_law_2760 hl (by decide) rfl (fun ls hl => ?_)
  refine lv_aload_n hx_ hb_ dL_law_2762 rfl (lv_at hl 3 rfl) ?_
  have hc8 : M1 m = some (mO m th ch tn te sn nm wn) := (hf7 m ).trans hm0
  have hc9 : M1 (m + 1) = some (sArr G 574 f) := (hf7 (m + 1) ).trans hm1
  refine sk_Vd E hV (As := []) (rest := []) (kX11_meanValue l_ G b_ M1 N m th ch tn te sn nm wn f hc8 hc9 (hok)) (cwV 0 S.2.2.2.2 gL_law_X11_meanValue rfl rfl rfl (by decide +kernel) ⟨Nat.le_of_ble_eq_true rfl, Nat.le_of_ble_eq_true rfl⟩) (ci := 9) hc8 rfl rfl rfl hl.1 (Nat.le_of_ble_eq_true rfl) dL_law_2763 (c1 := cc_ + 0) (s1 := ss_ + 0) ⟨⟨rfl, rfl⟩, by omega, by omega⟩ (fun z13 M10 N11 H locs hp12 hV => ?_)
  obtain ⟨ez14, hN15, hc16, hf17⟩ := hp12
  rw [hN15] at hV
  rw [ez14]
  refine lv_dstore (lv' := [(7, .double (mvD f)), (5, .double (mvD f)), (0, .ref z), (1, .ref c), (2, .ref m), (3, .ref o), (4, .int (sI i))]) hx_ hb_ dL_law_2766 hl (by decide) rfl (fun ls hl => ?_)
  refine lv_dload hx_ hb_ dL_law_2768 (lv_at hl 1 rfl) ?_
  refine lv_dload hx_ hb_ dL_law_2770 (lv_at hl 0 rfl) ?_
  refine sd_cmp0 S (mv_n hok) dL_law_2772 ?_
  refine sz_eq (tgt := 2794) S dL_law_2773 (by decide) (by omega) (fun _ => ?_) (fun c18 => absurd c18 (by omega))
  refine lv_goto (tgt := 2853) hx_ hb_ dL_law_2794 (by decide) ?_
  have gb20 : ∀ x : Nat, (x < m ∨ m + 16 ≤ x) → M10 x = M1 x := fun x u1 => hf17 x (by omega)
  have hc19 : M10 c = some (xO c kn ch) := ((gb20 c (by omega)).trans (hf7 c )).trans hc0
  have hc21 : stC G M10 (c + 1) f := hst.fr (fun x q8 q9 => (gb20 x (by omega)).trans (hf7 x ))
  have hc22 : triC G M10 (c + 16) := htr.fr (fun x q8 q9 => (gb20 x (by omega)).trans (hf7 x ))
  have hc23 : kpC G M10 (c + 31) kb kn ch fs := hkp.fr (fun x q8 => (gb20 x (by omega)).trans (hf7 x ))
  have hc24 : M10 (c + 32) = some (sObj 7 [.ref (c + 33), .int (sI tn), .int (sI te)]) := ((gb20 ((c + 32)) (by omega)).trans (hf7 (c + 32) )).trans ht0
  have hc25 : M10 (c + 33) = some (sArr G 300 t) := ((gb20 ((c + 33)) (by omega)).trans (hf7 (c + 33) )).trans ht1
  have hc26 : catC G M10 (c + 34) wc T := hct.fr (fun x q8 q9 => (gb20 x (by omega)).trans (hf7 x ))
  have hc27 : orfC G M10 (c + 38) := hft.fr (fun x q8 q9 => (gb20 x (by omega)).trans (hf7 x ))
  have hc28 : layC G M10 (c + 48) := hly.fr (fun x q8 q9 => (gb20 x (by omega)).trans (hf7 x ))
  have hc29 : knoC G M10 (c + 54) := hkn.fr (fun x q8 q9 => (gb20 x (by omega)).trans (hf7 x ))
  have hc30 : excC G M10 (c + 57) := hex.fr (fun x q8 q9 => (gb20 x (by omega)).trans (hf7 x ))
  have hc31 : M10 (m + 1) = some (sArr G 574 f) := (hf17 (m + 1) (by omega)).trans hc9
  have hc32 : svC G M10 (m + 2) ch fs := hsv.fr (fun x q8 q9 => (hf17 x (by omega)).trans (hf7 x ))
  have hc33 : M10 (m + 3) = some (sArr G 300 t) := ((hf17 (m + 3) (by omega)).trans (hf7 (m + 3) )).trans hm3
  have hc34 : M10 (m + 4) = some (sArr G 11 A4) := ((hf17 (m + 4) (by omega)).trans (hf7 (m + 4) )).trans hm4
  have hc35 : M10 (m + 5) = some (sArr G 1024 A5) := ((hf17 (m + 5) (by omega)).trans (hf7 (m + 5) )).trans hm5
  have hc36 : M10 (m + 6) = some (sArr G 1024 A6) := ((hf17 (m + 6) (by omega)).trans (hf7 (m + 6) )).trans hm6
  have hc37 : M10 (m + 7) = some (sArr G 10 A7) := ((hf17 (m + 7) (by omega)).trans (hf7 (m + 7) )).trans hm7
  have hc38 : M10 (m + 8) = some (sArr G 10 A8) := ((hf17 (m + 8) (by omega)).trans (hf7 (m + 8) )).trans hm8
  have hc39 : M10 (m + 9) = some (sArr G 62 A9) := ((hf17 (m + 9) (by omega)).trans (hf7 (m + 9) )).trans hm9
  have hc40 : M10 (m + 10) = some (sArr G 8 A10) := ((hf17 (m + 10) (by omega)).trans (hf7 (m + 10) )).trans hm10
  have hc41 : M10 (m + 11) = some (sArr G 8 A11) := ((hf17 (m + 11) (by omega)).trans (hf7 (m + 11) )).trans hm11
  have hc42 : M10 (m + 12) = some (sArr G 60 A12) := ((hf17 (m + 12) (by omega)).trans (hf7 (m + 12) )).trans hm12
  have hc43 : M10 (m + 13) = some (sArr G 240 A13) := ((hf17 (m + 13) (by omega)).trans (hf7 (m + 13) )).trans hm13
  have hc44 : M10 (m + 14) = some (sArr G 574 A14) := ((hf17 (m + 14) (by omega)).trans (hf7 (m + 14) )).trans hm14
  have hc45 : M10 (m + 15) = some (sArr G 200 T2) := ((hf17 (m + 15) (by omega)).trans (hf7 (m + 15) )).trans hm15
  have hc46 : M10 o = some (sArL G 1 g0) := ((gb20 o (by omega)).trans (hf7 o )).trans ho9
  exact W.widen (by omega) (by omega) (hk _ _ _ _ _ (by omega) ⟨_, _, _, _, _, _, _, _, _, _, _, _, _, _, _, _, _, _, _, _, _, _, _, _, _, _, hc19, hc21, hc22, hc23, hc24, hc25, hc26, hc27, hc28, hc29, hc30, hc16, hc31, hc32, hc33, hc34, hc35, hc36, hc37, hc38, hc39, hc40, hc41, hc42, hc43, hc44, hc45, hc46, lF_s hlF, htp, hwr⟩ hV (lv_sub hl [2, 3, 4, 5, 6] rfl))

set_option maxHeartbeats 4000000 in
set_option maxRecDepth 100000 in
theorem law_46 {p_ : Program} {l_ : Launch} {e_ : Env} {s_ : State} {m_ : MethodId} {args_ : Array Value} {below_ : List Frame} {meth_ : Method} {c_ : Code} {nm_ : String} {G : sG} {b_ : Nat} {M0 : sM} {N0 : Nat} {Q : State → Prop} (E : sE p_ l_ e_ room_1 s_ m_ args_ below_ meth_ c_ cL_law 9 wsL_law RL nm_ (some .boolean) G b_ M0 N0) (hF_ : xcF s_) (hlt : l_.stackTraces = false) {z L : Nat} {xs : Nat → Int32} (hX : va_X z L xs s_ s_.heap) (hzb : z < b_) {c m o kb : Nat} (hg : c + 60 ≤ m ∧ m + 16 ≤ o ∧ o < kb) {cc_ ss_ : Nat} (hcc : cc_ + 1170 ≤ room_1.cells ∧ ss_ + 14000 ≤ room_1.slots) {q i : Int} (hi : 0 ≤ i ∧ i + 6 ≤ L ∧ (L : Int) ≤ 3072) (hq : 0 ≤ q ∧ q ≤ 600) {M : sM} {N : Nat} (hkN : kb ≤ N) (hI : lI G M c m o kb q) {H : Heap} {locs : List Loc} {ls : Array Slot} (hV : sV G b_ M N s_ H locs) (hl : lv_has ls 9 [(0, .ref z), (1, .ref c), (2, .ref m), (3, .ref o), (4, .int (sI i))])
    (hk : ∀ (M1 : sM) (N1 : Nat) (H1 : Heap) (locs1 : List Loc) (ls1 : Array Slot), kb ≤ N1 → lI G M1 c m o kb (q + 1) → sV G b_ M1 N1 s_ H1 locs1 → lv_has ls1 9 [(0, .ref z), (1, .ref c), (2, .ref m), (3, .ref o), (4, .int (sI i))] → W p_ l_ e_ room_1 s_ m_ args_ below_ meth_ c_ H1 locs1 (cc_ + 1170) (ss_ + 14000) Q (F0 m_ 2853 ls1 [])) : W p_ l_ e_ room_1 s_ m_ args_ below_ meth_ c_ H locs cc_ ss_ Q (F0 m_ 2797 ls []) := by
  have S := E.1
  have hx_ := S.1
  have hb_ := S.2.1
  have hK := E.2.2.2.2.1
  have hI2 := hI
  obtain ⟨kn, ch, f, fs, tn, te, t, wc, wn, T, T2, th, sn, nm, g0, A4, A5, A6, A7, A8, A9, A10, A11, A12, A13, A14, hc0, hst, htr, hkp, ht0, ht1, hct, hft, hly, hkn, hex, hm0, hm1, hsv, hm3, hm4, hm5, hm6, hm7, hm8, hm9, hm10, hm11, hm12, hm13, hm14, hm15, ho9, hlF, htp, hwr⟩ := hI2
  have hok := hlF.1.1
  have hdI := hlF.1.2.1
  have hsL := hlF.1.2.2.1
  have hclk := hlF.1.2.2.2
  have hchr : 0 ≤ ch ∧ ch ≤ 15 := ⟨hkp.r.2.2.1, hkp.r.2.2.2⟩
  have htp1 := htp.1
  have htp2 := htp.2.1
  have hwq := wrQ_e hwr
  have hwq1 := hwq.1
  have hwq2 := hwq.2.1
  have kn0 := sOk_N hok
  refine lv_aload_n hx_ hb_ dL_law_2797 rfl (lv_at hl 1 rfl) ?_
  refine sk_Vf E hV (As := []) (rest := []) (kX10_laidShare l_ G b_ M N c kn ch f hc0 hst (hok)) (cwV 0 S.2.2.2.2 gL_law_X10_laidShare rfl rfl rfl (by decide +kernel) ⟨Nat.le_of_ble_eq_true rfl, Nat.le_of_ble_eq_true rfl⟩) (ci := 8) hc0 rfl rfl rfl hl.1 (Nat.le_of_ble_eq_true rfl) dL_law_2798 (c1 := cc_ + 0) (s1 := ss_ + 0) ⟨⟨rfl, rfl⟩, by omega, by omega⟩ (fun z4 M1 N2 H locs hp3 hV => ?_)
  obtain ⟨ez5, hN6, hf7⟩ := hp3
  rw [hN6] at hV
  rw [ez5]
  refine lv_f2d hx_ hb_ dL_law_2801 (dp_f2d (ls_n hok)).1 ?_
  refine lv_dstore (lv' := [(5, .double (FP.f2d (lsF f))), (0, .ref z), (1, .ref c), (2, .ref m), (3, .ref o), (4, .int (sI i))]) hx_ hb_ dL_law_2802 hl (by decide) rfl (fun ls hl => ?_)
  refine lv_aload_n hx_ hb_ dL_law_2804 rfl (lv_at hl 3 rfl) ?_
  have hc8 : M1 m = some (mO m th ch tn te sn nm wn) := (hf7 m ).trans hm0
  have hc9 : M1 (m + 1) = some (sArr G 574 f) := (hf7 (m + 1) ).trans hm1
  refine sk_Vf E hV (As := []) (rest := []) (kX11_laidShare l_ G b_ M1 N m th ch tn te sn nm wn f hc8 hc9 (hok)) (cwV 0 S.2.2.2.2 gL_law_X11_laidShare rfl rfl rfl (by decide +kernel) ⟨Nat.le_of_ble_eq_true rfl, Nat.le_of_ble_eq_true rfl⟩) (ci := 9) hc8 rfl rfl rfl hl.1 (Nat.le_of_ble_eq_true rfl) dL_law_2805 (c1 := cc_ + 0) (s1 := ss_ + 0) ⟨⟨rfl, rfl⟩, by omega, by omega⟩ (fun z13 M10 N11 H locs hp12 hV => ?_)
  obtain ⟨ez14, hN15, hc16, hf17⟩ := hp12
  rw [hN15] at hV
  rw [ez14]
  refine lv_f2d hx_ hb_ dL_law_2808 (dp_f2d (ls_n hok)).1 ?_
  refine lv_dstore (lv' := [(7, .double (FP.f2d (lsF f))), (5, .double (FP.f2d (lsF f))), (0, .ref z), (1, .ref c), (2, .ref m), (3, .ref o), (4, .int (sI i))]) hx_ hb_ dL_law_2809 hl (by decide) rfl (fun ls hl => ?_)
  refine lv_dload hx_ hb_ dL_law_2811 (lv_at hl 1 rfl) ?_
  refine lv_dload hx_ hb_ dL_law_2813 (lv_at hl 0 rfl) ?_
  refine sd_cmp0 S ((dp_f2d (ls_n hok)).2) dL_law_2815 ?_
  refine sz_eq (tgt := 2837) S dL_law_2816 (by decide) (by omega) (fun _ => ?_) (fun c18 => absurd c18 (by omega))
  refine lv_goto (tgt := 2853) hx_ hb_ dL_law_2837 (by decide) ?_
  have gb20 : ∀ x : Nat, (x < m ∨ m + 16 ≤ x) → M10 x = M1 x := fun x u1 => hf17 x (by omega)
  have hc19 : M10 c = some (xO c kn ch) := ((gb20 c (by omega)).trans (hf7 c )).trans hc0
  have hc21 : stC G M10 (c + 1) f := hst.fr (fun x q8 q9 => (gb20 x (by omega)).trans (hf7 x ))
  have hc22 : triC G M10 (c + 16) := htr.fr (fun x q8 q9 => (gb20 x (by omega)).trans (hf7 x ))
  have hc23 : kpC G M10 (c + 31) kb kn ch fs := hkp.fr (fun x q8 => (gb20 x (by omega)).trans (hf7 x ))
  have hc24 : M10 (c + 32) = some (sObj 7 [.ref (c + 33), .int (sI tn), .int (sI te)]) := ((gb20 ((c + 32)) (by omega)).trans (hf7 (c + 32) )).trans ht0
  have hc25 : M10 (c + 33) = some (sArr G 300 t) := ((gb20 ((c + 33)) (by omega)).trans (hf7 (c + 33) )).trans ht1
  have hc26 : catC G M10 (c + 34) wc T := hct.fr (fun x q8 q9 => (gb20 x (by omega)).trans (hf7 x ))
  have hc27 : orfC G M10 (c + 38) := hft.fr (fun x q8 q9 => (gb20 x (by omega)).trans (hf7 x ))
  have hc28 : layC G M10 (c + 48) := hly.fr (fun x q8 q9 => (gb20 x (by omega)).trans (hf7 x ))
  have hc29 : knoC G M10 (c + 54) := hkn.fr (fun x q8 q9 => (gb20 x (by omega)).trans (hf7 x ))
  have hc30 : excC G M10 (c + 57) := hex.fr (fun x q8 q9 => (gb20 x (by omega)).trans (hf7 x ))
  have hc31 : M10 (m + 1) = some (sArr G 574 f) := (hf17 (m + 1) (by omega)).trans hc9
  have hc32 : svC G M10 (m + 2) ch fs := hsv.fr (fun x q8 q9 => (hf17 x (by omega)).trans (hf7 x ))
  have hc33 : M10 (m + 3) = some (sArr G 300 t) := ((hf17 (m + 3) (by omega)).trans (hf7 (m + 3) )).trans hm3
  have hc34 : M10 (m + 4) = some (sArr G 11 A4) := ((hf17 (m + 4) (by omega)).trans (hf7 (m + 4) )).trans hm4
  have hc35 : M10 (m + 5) = some (sArr G 1024 A5) := ((hf17 (m + 5) (by omega)).trans (hf7 (m + 5) )).trans hm5
  have hc36 : M10 (m + 6) = some (sArr G 1024 A6) := ((hf17 (m + 6) (by omega)).trans (hf7 (m + 6) )).trans hm6
  have hc37 : M10 (m + 7) = some (sArr G 10 A7) := ((hf17 (m + 7) (by omega)).trans (hf7 (m + 7) )).trans hm7
  have hc38 : M10 (m + 8) = some (sArr G 10 A8) := ((hf17 (m + 8) (by omega)).trans (hf7 (m + 8) )).trans hm8
  have hc39 : M10 (m + 9) = some (sArr G 62 A9) := ((hf17 (m + 9) (by omega)).trans (hf7 (m + 9) )).trans hm9
  have hc40 : M10 (m + 10) = some (sArr G 8 A10) := ((hf17 (m + 10) (by omega)).trans (hf7 (m + 10) )).trans hm10
  have hc41 : M10 (m + 11) = some (sArr G 8 A11) := ((hf17 (m + 11) (by omega)).trans (hf7 (m + 11) )).trans hm11
  have hc42 : M10 (m + 12) = some (sArr G 60 A12) := ((hf17 (m + 12) (by omega)).trans (hf7 (m + 12) )).trans hm12
  have hc43 : M10 (m + 13) = some (sArr G 240 A13) := ((hf17 (m + 13) (by omega)).trans (hf7 (m + 13) )).trans hm13
  have hc44 : M10 (m + 14) = some (sArr G 574 A14) := ((hf17 (m + 14) (by omega)).trans (hf7 (m + 14) )).trans hm14
  have hc45 : M10 (m + 15) = some (sArr G 200 T2) := ((hf17 (m + 15) (by omega)).trans (hf7 (m + 15) )).trans hm15
  have hc46 : M10 o = some (sArL G 1 g0) := ((gb20 o (by omega)).trans (hf7 o )).trans ho9
  exact W.widen (by omega) (by omega) (hk _ _ _ _ _ (by omega) ⟨_, _, _, _, _, _, _, _, _, _, _, _, _, _, _, _, _, _, _, _, _, _, _, _, _, _, hc19, hc21, hc22, hc23, hc24, hc25, hc26, hc27, hc28, hc29, hc30, hc16, hc31, hc32, hc33, hc34, hc35, hc36, hc37, hc38, hc39, hc40, hc41, hc42, hc43, hc44, hc45, hc46, lF_s hlF, htp, hwr⟩ hV (lv_sub hl [2, 3, 4, 5, 6] rfl))

set_option maxHeartbeats 4000000 in
set_option maxRecDepth 100000 in
theorem law_47 {p_ : Program} {l_ : Launch} {e_ : Env} {s_ : State} {m_ : MethodId} {args_ : Array Value} {below_ : List Frame} {meth_ : Method} {c_ : Code} {nm_ : String} {G : sG} {b_ : Nat} {M0 : sM} {N0 : Nat} {Q : State → Prop} (E : sE p_ l_ e_ room_1 s_ m_ args_ below_ meth_ c_ cL_law 9 wsL_law RL nm_ (some .boolean) G b_ M0 N0) (hF_ : xcF s_) (hlt : l_.stackTraces = false) {z L : Nat} {xs : Nat → Int32} (hX : va_X z L xs s_ s_.heap) (hzb : z < b_) {c m o kb : Nat} (hg : c + 60 ≤ m ∧ m + 16 ≤ o ∧ o < kb) {cc_ ss_ : Nat} (hcc : cc_ + 1170 ≤ room_1.cells ∧ ss_ + 14000 ≤ room_1.slots) {q i : Int} (hi : 0 ≤ i ∧ i + 6 ≤ L ∧ (L : Int) ≤ 3072) (hq : 0 ≤ q ∧ q ≤ 600) {M : sM} {N : Nat} (hkN : kb ≤ N) (hI : lI G M c m o kb q) {H : Heap} {locs : List Loc} {ls : Array Slot} (hV : sV G b_ M N s_ H locs) (hl : lv_has ls 9 [(0, .ref z), (1, .ref c), (2, .ref m), (3, .ref o), (4, .int (sI i))])
    (hk : ∀ (M1 : sM) (N1 : Nat) (H1 : Heap) (locs1 : List Loc) (ls1 : Array Slot), kb ≤ N1 → lI G M1 c m o kb (q + 1) → sV G b_ M1 N1 s_ H1 locs1 → lv_has ls1 9 [(0, .ref z), (1, .ref c), (2, .ref m), (3, .ref o), (4, .int (sI i))] → W p_ l_ e_ room_1 s_ m_ args_ below_ meth_ c_ H1 locs1 (cc_ + 1170) (ss_ + 14000) Q (F0 m_ 2853 ls1 [])) : W p_ l_ e_ room_1 s_ m_ args_ below_ meth_ c_ H locs cc_ ss_ Q (F0 m_ 2840 ls []) := by
  have S := E.1
  have hx_ := S.1
  have hb_ := S.2.1
  have hK := E.2.2.2.2.1
  have hI2 := hI
  obtain ⟨kn, ch, f, fs, tn, te, t, wc, wn, T, T2, th, sn, nm, g0, A4, A5, A6, A7, A8, A9, A10, A11, A12, A13, A14, hc0, hst, htr, hkp, ht0, ht1, hct, hft, hly, hkn, hex, hm0, hm1, hsv, hm3, hm4, hm5, hm6, hm7, hm8, hm9, hm10, hm11, hm12, hm13, hm14, hm15, ho9, hlF, htp, hwr⟩ := hI2
  have hok := hlF.1.1
  have hdI := hlF.1.2.1
  have hsL := hlF.1.2.2.1
  have hclk := hlF.1.2.2.2
  have hchr : 0 ≤ ch ∧ ch ≤ 15 := ⟨hkp.r.2.2.1, hkp.r.2.2.2⟩
  have htp1 := htp.1
  have htp2 := htp.2.1
  have hwq := wrQ_e hwr
  have hwq1 := hwq.1
  have hwq2 := hwq.2.1
  have kn0 := sOk_N hok
  refine lv_aload_n hx_ hb_ dL_law_2840 rfl (lv_at hl 1 rfl) ?_
  refine sk_Vi E hV (As := []) (rest := []) (kX10_errors l_ G b_ M N c kn ch f hc0 hst hft hkn (hok) (hdI) (hsL)) (cwV 0 S.2.2.2.2 gL_law_X10_errors rfl rfl rfl (by decide +kernel) ⟨Nat.le_of_ble_eq_true rfl, Nat.le_of_ble_eq_true rfl⟩) (ci := 8) hc0 rfl rfl rfl hl.1 (Nat.le_of_ble_eq_true rfl) dL_law_2841 (c1 := cc_ + 200) (s1 := ss_ + 2000) ⟨⟨rfl, rfl⟩, by omega, by omega⟩ (fun z4 M1 N2 H locs hp3 hV => ?_)
  obtain ⟨ez5, hN6, hc7, hc8, hf9⟩ := hp3
  rw [hN6] at hV
  rw [ez5]
  refine lv_aload_n hx_ hb_ dL_law_2844 rfl (lv_at hl 2 rfl) ?_
  have ga11 : ∀ x : Nat, m ≤ x → x < m + 16 → M1 x = M x := fun x u1 u2 => hf9 x (by omega) (by omega)
  have hc10 : M1 m = some (mO m th ch tn te sn nm wn) := (ga11 m (by omega) (by omega)).trans hm0
  refine sk_Vi E hV (As := []) (rest := [.int (sI 0)]) (kX11_errors l_ G b_ M1 N m th ch tn te sn nm wn hc10) (cwV 0 S.2.2.2.2 gL_law_X11_errors rfl rfl rfl (by decide +kernel) ⟨Nat.le_of_ble_eq_true rfl, Nat.le_of_ble_eq_true rfl⟩) (ci := 9) hc10 rfl rfl rfl hl.1 (Nat.le_of_ble_eq_true rfl) dL_law_2845 (c1 := cc_ + 200) (s1 := ss_ + 2000) ⟨⟨rfl, rfl⟩, by omega, by omega⟩ (fun z15 M12 N13 H locs hp14 hV => ?_)
  obtain ⟨ez16, hN17, hc18, hf19⟩ := hp14
  rw [hN17] at hV
  rw [ez16]
  refine sb_eq (tgt := 2853) S dL_law_2848 (by decide) (by omega) (fun _ => ?_) (fun c20 => absurd c20 (by omega))
  have gb22 : ∀ x : Nat, (x < m ∨ m + 16 ≤ x) → M12 x = M1 x := fun x u1 => hf19 x (by omega)
  have hc21 : M12 c = some (xO c kn ch) := ((gb22 c (by omega)).trans (hf9 c (by omega) (by omega))).trans hc0
  have hc23 : stC G M12 (c + 1) f := hst.fr (fun x q8 q9 => (gb22 x (by omega)).trans (hf9 x (by omega) (by omega)))
  have hc24 : triC G M12 (c + 16) := htr.fr (fun x q8 q9 => (gb22 x (by omega)).trans (hf9 x (by omega) (by omega)))
  have hc25 : kpC G M12 (c + 31) kb kn ch fs := hkp.fr (fun x q8 => (gb22 x (by omega)).trans (hf9 x (by omega) (by omega)))
  have hc26 : M12 (c + 32) = some (sObj 7 [.ref (c + 33), .int (sI tn), .int (sI te)]) := ((gb22 ((c + 32)) (by omega)).trans (hf9 (c + 32) (by omega) (by omega))).trans ht0
  have hc27 : M12 (c + 33) = some (sArr G 300 t) := ((gb22 ((c + 33)) (by omega)).trans (hf9 (c + 33) (by omega) (by omega))).trans ht1
  have hc28 : catC G M12 (c + 34) wc T := hct.fr (fun x q8 q9 => (gb22 x (by omega)).trans (hf9 x (by omega) (by omega)))
  have hc29 : orfC G M12 (c + 38) := hc7.fr (fun x q8 q9 => gb22 x (by omega))
  have hc30 : layC G M12 (c + 48) := hly.fr (fun x q8 q9 => (gb22 x (by omega)).trans (hf9 x (by omega) (by omega)))
  have hc31 : knoC G M12 (c + 54) := hc8.fr (fun x q8 q9 => gb22 x (by omega))
  have hc32 : excC G M12 (c + 57) := hex.fr (fun x q8 q9 => (gb22 x (by omega)).trans (hf9 x (by omega) (by omega)))
  have hc33 : M12 (m + 1) = some (sArr G 574 f) := ((hf19 (m + 1) (by omega)).trans (ga11 ((m + 1)) (by omega) (by omega))).trans hm1
  have hc34 : svC G M12 (m + 2) ch fs := hsv.fr (fun x q8 q9 => (hf19 x (by omega)).trans (ga11 x (by omega) (by omega)))
  have hc35 : M12 (m + 3) = some (sArr G 300 t) := ((hf19 (m + 3) (by omega)).trans (ga11 ((m + 3)) (by omega) (by omega))).trans hm3
  have hc36 : M12 (m + 4) = some (sArr G 11 A4) := ((hf19 (m + 4) (by omega)).trans (ga11 ((m + 4)) (by omega) (by omega))).trans hm4
  have hc37 : M12 (m + 5) = some (sArr G 1024 A5) := ((hf19 (m + 5) (by omega)).trans (ga11 ((m + 5)) (by omega) (by omega))).trans hm5
  have hc38 : M12 (m + 6) = some (sArr G 1024 A6) := ((hf19 (m + 6) (by omega)).trans (ga11 ((m + 6)) (by omega) (by omega))).trans hm6
  have hc39 : M12 (m + 7) = some (sArr G 10 A7) := ((hf19 (m + 7) (by omega)).trans (ga11 ((m + 7)) (by omega) (by omega))).trans hm7
  have hc40 : M12 (m + 8) = some (sArr G 10 A8) := ((hf19 (m + 8) (by omega)).trans (ga11 ((m + 8)) (by omega) (by omega))).trans hm8
  have hc41 : M12 (m + 9) = some (sArr G 62 A9) := ((hf19 (m + 9) (by omega)).trans (ga11 ((m + 9)) (by omega) (by omega))).trans hm9
  have hc42 : M12 (m + 10) = some (sArr G 8 A10) := ((hf19 (m + 10) (by omega)).trans (ga11 ((m + 10)) (by omega) (by omega))).trans hm10
  have hc43 : M12 (m + 11) = some (sArr G 8 A11) := ((hf19 (m + 11) (by omega)).trans (ga11 ((m + 11)) (by omega) (by omega))).trans hm11
  have hc44 : M12 (m + 12) = some (sArr G 60 A12) := ((hf19 (m + 12) (by omega)).trans (ga11 ((m + 12)) (by omega) (by omega))).trans hm12
  have hc45 : M12 (m + 13) = some (sArr G 240 A13) := ((hf19 (m + 13) (by omega)).trans (ga11 ((m + 13)) (by omega) (by omega))).trans hm13
  have hc46 : M12 (m + 14) = some (sArr G 574 A14) := ((hf19 (m + 14) (by omega)).trans (ga11 ((m + 14)) (by omega) (by omega))).trans hm14
  have hc47 : M12 (m + 15) = some (sArr G 200 T2) := ((hf19 (m + 15) (by omega)).trans (ga11 ((m + 15)) (by omega) (by omega))).trans hm15
  have hc48 : M12 o = some (sArL G 1 g0) := ((gb22 o (by omega)).trans (hf9 o (by omega) (by omega))).trans ho9
  exact W.widen (by omega) (by omega) (hk _ _ _ _ _ (by omega) ⟨_, _, _, _, _, _, _, _, _, _, _, _, _, _, _, _, _, _, _, _, _, _, _, _, _, _, hc21, hc23, hc24, hc25, hc26, hc27, hc28, hc29, hc30, hc31, hc32, hc18, hc33, hc34, hc35, hc36, hc37, hc38, hc39, hc40, hc41, hc42, hc43, hc44, hc45, hc46, hc47, hc48, lF_s hlF, htp, hwr⟩ hV (lv_sub hl [0, 1, 2, 3, 4] rfl))
