theorem ok_num {f : sF} (h : sOk f) (s w : Int) (hs : 0 ≤ s ∧ s < f 568) (hw : 0 ≤ w ∧ w ≤ 3) : 0 ≤ f (10 + 10 * w + s) ∧ f (10 + 10 * w + s) ≤ 10000 := by
  have h1 := sOk_S h s hs.1 hs.2
  unfold okS at h1
  rcases (show w = 0 ∨ w = 1 ∨ w = 2 ∨ w = 3 by omega) with rfl | rfl | rfl | rfl
  · rw [show (10 + 10 * 0 + s : Int) = 10 + s by omega]; omega
  · rw [show (10 + 10 * 1 + s : Int) = 20 + s by omega]; omega
  · rw [show (10 + 10 * 2 + s : Int) = 30 + s by omega]; omega
  · rw [show (10 + 10 * 3 + s : Int) = 40 + s by omega]; omega
theorem jn_n {C V f : sF} {c : Int} (hO : rcO 0 c C V) (h : sOk f) (x : Int) (hx : 0 ≤ x ∧ x ≤ c) (hf : ∀ y, 0 ≤ y → y < x → ¬ jnU C V c f y) : f 568 ≤ jnS C V c f x.toNat 568 := by
  have key : ∀ m : Nat, (m : Int) ≤ x → f 568 ≤ jnS C V c f m 568 := by
    intro m
    induction m with
    | zero => intro _; exact Int.le_refl _
    | succ m ih =>
      intro hm
      have h0 := ih (by omega)
      have h1 := ok_jn hO h (m : Int) (by omega) (fun y a b => hf y a (by omega))
      have h2 := hf (m : Int) (by omega) (by omega)
      unfold jnU at h2
      rw [Int.toNat_natCast] at h1 h2
      have h3 := sOk_N h1
      show f 568 ≤ joX C V (eoI C c (m : Int)) (jnS C V c f m) 568
      unfold joX
      rcases idx_cases (fun q => jnS C V c f m q = C (eoI C c (m : Int))) (jnS C V c f m 568) with ⟨q1, q2⟩ | ⟨q1, q2, q3, q4⟩
      · rw [if_pos q1, (cm_w (by omega)).2.2.2.2.2.2.2]
        omega
      · rw [if_neg (by omega), ra_o 4 (fun y a b => by omega)]
        exact h0
  exact key x.toNat (by omega)
theorem jnI_r {C V f : sF} {c : Int} (hc : 0 ≤ c) (hO : rcO 0 c C V) (h : sOk f) : -1 ≤ jnI C V c f ∧ jnI C V c f ≤ 10 ∧ (jnI C V c f = -1 ↔ ¬ jnK C V c f) := by
  have h0 := sOk_N h
  unfold jnI
  rcases pif_cases (jnK C V c f) (jnS C V c f c.toNat 568 - f 568) (-1) with ⟨q, e⟩ | ⟨q, e⟩
  · have h1 := ok_jn hO h c ⟨hc, Int.le_refl _⟩ q.1
    have h2 := jn_n hO h c ⟨hc, Int.le_refl _⟩ q.1
    have h3 := sOk_N h1
    rw [e]
    exact ⟨by omega, by omega, ⟨fun r => by omega, fun r => absurd q r⟩⟩
  · rw [e]
    exact ⟨by omega, by omega, ⟨fun _ => q, fun _ => rfl⟩⟩
theorem rcO_r {C V : sF} {c : Int} (h : rcO 0 c C V) : (∀ o, 0 ≤ o → o < c → 1 ≤ C o ∧ C o < 531441) ∧ ∀ o q, 0 ≤ o → o < c → 0 ≤ q → q < 4 → 0 ≤ V (4 * o + q) ∧ V (4 * o + q) ≤ 10000 := by
  have hd := rcO_d h
  refine ⟨hd.1.1, fun o q a b d e => ?_⟩
  have := hd.2 o q a b d e
  unfold irP at this
  omega
theorem ds_ok {f : sF} (h : sOk f) : dsP f (f 568) := ⟨fun o a b => (sOk_S h o a b).1, fun o p a b c d e => sOk_i h o p a b c d e⟩

theorem cpD_v {f p : sF} {n : Int} (o : Int) (a : 0 ≤ o) (b : o < n) : cpD f p n o = drF f o := if_pos ⟨a, b⟩

abbrev rmX11_joins : Room := { frames := 3, cells := 0, slots := 0, locals := 89 }
set_option maxHeartbeats 4000000 in
set_option maxRecDepth 100000 in
theorem kX11_joins (l_ : Launch) (G : sG) (b_ : Nat) (M : sM) (N : Nat) (m : Nat) (th ch tn ea sn nm wn : Int) (f : sF) (p C V cc vv : sF) (hm0 : M m = some (mO m th ch tn ea sn nm wn)) (hm1 : M (m + 1) = some (sArr G 574 f)) (hm8 : M (m + 8) = some (sArr G 10 p)) (hm12 : M (m + 12) = some (sArr G 60 cc)) (hm13 : M (m + 13) = some (sArr G 240 vv)) (hok : sOk f) (hO : rcO 0 nm C V) (hnm : nm ≤ 50) (hC : ∀ o, 0 ≤ o → o < nm → cc o = C o) (hVv : ∀ q, 0 ≤ q → q < 4 * nm → vv q = V q) : cI l_ yX11_joins wsX11_joins rmX11_joins G b_ M N [.ref m] (fun z_ M1 N1 => ∃ g9 : Int → Int, ∃ p9 : Int → Int, z_ = jnI C V nm f ∧ N1 = N ∧ M1 (m + 1) = some (sArr G 574 g9) ∧ M1 (m + 8) = some (sArr G 10 p9) ∧ (∀ x : Nat, ¬ (x = m + 1) → ¬ (x = m + 8) → M1 x = M x) ∧ (jnK C V nm f → g9 = jnS C V nm f nm.toNat) ∧ (∀ q, (q < 0 ∨ 70 ≤ q ∧ q ≠ 568) → g9 q = f q)) := by
  refine sE.ofI (cc := cX11_joins) (nL := 6) (ret := (some .int)) (by decide) rfl (Nat.le_of_ble_eq_true rfl) ?_
  intro p_ e_ s_ m_ args_ below_ meth_ c_ ls Q hQ E hl
  have E : sE p_ l_ e_ rmX11_joins s_ m_ args_ below_ meth_ c_ cX11_joins 6 wsX11_joins RX11 "joins" (some .int) G b_ M N := E
  have S := E.1
  have hx_ := S.1
  have hb_ := S.2.1
  have hK := E.2.2.2.2.1
  have hV := E.2.2.2.2.2.2
  have hl : lv_has ls 6 [(0, .ref m)] := hl
  have inX11_ : ∀ w ∈ wsX110, w ∈ wsX11_joins := fun _ h => List.mem_cons_of_mem _ (List.mem_append_right _ h)
  have kn0 := sOk_N hok
  have hnn : 0 ≤ nm := hO.1
  have hD := (rcO_d hO).1
  have hCr := (rcO_r hO).1
  have hVr := (rcO_r hO).2
  refine si_const S dX11_joins_0 ?_
  refine lv_istore_n (lv' := [(1, .int (sI 0)), (0, .ref m)]) hx_ hb_ dX11_joins_1 rfl hl (by decide) rfl (fun ls hl => ?_)
  refine si_const S dX11_joins_2 ?_
  refine lv_istore_n (lv' := [(2, .int (sI 0)), (1, .int (sI 0)), (0, .ref m)]) hx_ hb_ dX11_joins_3 rfl hl (by decide) rfl (fun ls hl => ?_)
  have L4 : ∀ (fuel : Nat) (cm : Int) (x : Int) (g2 : Int → Int) (Ml4 : sM) (H : Heap) (locs : List Loc) (ls : Array Slot), ((nm - x).toNat) < fuel → (0 ≤ x ∧ x ≤ nm) → (g2 = jnS C V nm f x.toNat) → (∀ y, 0 ≤ y → y < x → ¬ jnU C V nm f y) → (cm = g2 568 - f 568) → (Ml4 (m + 1) = some (sArr G 574 g2)) → (∀ x : Nat, ¬ (x = m + 1) → Ml4 x = M x) → sV G b_ Ml4 N s_ H locs → lv_has ls 6 [(0, .ref m), (1, .int (sI cm)), (2, .int (sI x))] → W p_ l_ e_ rmX11_joins s_ m_ args_ below_ meth_ c_ H locs 0 0 Q (F0 m_ 4 ls []) := by
    intro fuel
    induction fuel with
    | zero => intro cm x g2 Ml4 H locs ls hmu; exact absurd hmu (Nat.not_lt_zero _)
    | succ fuel ih4 =>
      intro cm x g2 Ml4 H locs ls hmu4 hv4_0 hg hnf hcm hm4_0 hfr4 hV hl
      have hok2 : sOk g2 := by rw [hg]; exact ok_jn hO hok x (by omega) hnf
      have hN2 := sOk_N hok2
      refine lv_iload_n hx_ hb_ dX11_joins_4 rfl (lv_at hl 2 rfl) ?_
      refine lv_aload_n hx_ hb_ dX11_joins_5 rfl (lv_at hl 0 rfl) ?_
      have hc1 : Ml4 m = some (mO m th ch tn ea sn nm wn) := (hfr4 m (by omega)).trans hm0
      refine sc_get (ci := 9) (C := RX11) (T := TX11) (n := 22) S hK hV inX11_ hc1 rfl 18 (by decide) (S.2.2.2.2 _ (List.mem_of_getElem? (i := 1) rfl)) rfl rfl dX11_joins_6 ?_
      refine sb_ge (tgt := 211) S dX11_joins_9 (by decide) (by omega) (fun c2 => ?_) (fun c2 => ?_)
      · refine lv_aload_n hx_ hb_ dX11_joins_211 rfl (lv_at hl 0 rfl) ?_
        have hgx : g2 = jnS C V nm f nm.toNat := by rw [hg, show x = nm by omega]
        have hc3 : Ml4 (m + 8) = some (sArr G 10 p) := (hfr4 (m + 8) (by omega)).trans hm8
        refine sk_Vv E hV (As := []) (rest := []) (kX11_looksAtDrawers l_ G b_ Ml4 N m th ch tn ea sn nm wn g2 p hc1 hm4_0 hc3 (hok2)) (cwV 0 S.2.2.2.2 gX11_joins_X11_looksAtDrawers rfl rfl rfl (by decide +kernel) ⟨Nat.le_of_ble_eq_true rfl, Nat.le_of_ble_eq_true rfl⟩) (ci := 9) hc1 rfl rfl rfl hl.1 (Nat.le_of_ble_eq_true rfl) dX11_joins_212 (c1 := 0) (s1 := 0) ⟨⟨rfl, rfl⟩, by decide, by decide⟩ (fun M4 N5 H locs hp6 hV => ?_)
        obtain ⟨hN8, hc9, hf10⟩ := hp6
        rw [hN8] at hV
        refine si_const S dX11_joins_215 ?_
        refine lv_istore_n (lv' := [(2, .int (sI 0)), (0, .ref m), (1, .int (sI cm))]) hx_ hb_ dX11_joins_216 rfl hl (by decide) rfl (fun ls hl => ?_)
        have L217 : ∀ (fuel : Nat) (y : Int)  (H : Heap) (locs : List Loc) (ls : Array Slot), ((g2 568 - y).toNat) < fuel → (0 ≤ y ∧ y ≤ g2 568) → (∀ k, 0 ≤ k → k < y → ¬ (g2 (50 + k) ≠ -1 ∧ whyM g2 (drF g2) k (g2 568) ≠ 0)) → sV G b_ M4 N s_ H locs → lv_has ls 6 [(0, .ref m), (1, .int (sI cm)), (2, .int (sI y))] → W p_ l_ e_ rmX11_joins s_ m_ args_ below_ meth_ c_ H locs 0 0 Q (F0 m_ 217 ls []) := by
          intro fuel
          induction fuel with
          | zero => intro y H locs ls hmu; exact absurd hmu (Nat.not_lt_zero _)
          | succ fuel ih217 =>
            intro y H locs ls hmu217 hv217_0 hnb  hV hl
            refine lv_iload_n hx_ hb_ dX11_joins_217 rfl (lv_at hl 2 rfl) ?_
            refine lv_aload_n hx_ hb_ dX11_joins_218 rfl (lv_at hl 0 rfl) ?_
            have hc11 : M4 m = some (mO m th ch tn ea sn nm wn) := (hf10 m (by omega)).trans hc1
            have hc12 : M4 (m + 1) = some (sArr G 574 g2) := (hf10 (m + 1) (by omega)).trans hm4_0
            refine sk_VP E hV (As := []) (rest := [.int (sI y)]) (kX11_many l_ G b_ M4 N m th ch tn ea sn nm wn g2 hc11 hc12) (cwV 0 S.2.2.2.2 gX11_joins_X11_many rfl rfl rfl (by decide +kernel) ⟨Nat.le_of_ble_eq_true rfl, Nat.le_of_ble_eq_true rfl⟩) (ci := 9) hc11 rfl rfl rfl hl.1 (Nat.le_of_ble_eq_true rfl) dX11_joins_219 (c1 := 0) (s1 := 0) ⟨⟨rfl, rfl⟩, by decide, by decide⟩ (fun H locs hV => ?_)
            refine sb_ge (tgt := 255) S dX11_joins_222 (by decide) (by omega) (fun c13 => ?_) (fun c13 => ?_)
            · refine lv_iload_n hx_ hb_ dX11_joins_255 rfl (lv_at hl 1 rfl) ?_
              have hyk : jnK C V nm f := ⟨fun k a b => hnf k a (by omega), fun ⟨k, a, b, c⟩ => by rw [← hgx] at b c; exact hnb k a (by omega) c⟩
              exact sr_i E hQ dX11_joins_256 ⟨Nat.le_of_ble_eq_true rfl, Nat.le_of_ble_eq_true rfl⟩ hV (⟨g2, (cpD g2 p (g2 568)), by unfold jnI; rw [pif_t hyk, hcm, ← hgx], rfl, hc12, hc9, fun x q0 q1 => (hf10 x (by omega)).trans (hfr4 x (by omega)), fun _ => hgx, fun q hq => by rw [hg]; exact jn_o hO hok x (by omega) hnf q hq⟩)
            · refine lv_aload_n hx_ hb_ dX11_joins_225 rfl (lv_at hl 0 rfl) ?_
              refine sc_get (ci := 9) (C := RX11) (T := TX11) (n := 22) S hK hV inX11_ hc11 rfl 11 (by decide) (S.2.2.2.2 _ (List.mem_of_getElem? (i := 5) rfl)) rfl rfl dX11_joins_226 ?_
              refine lv_iload_n hx_ hb_ dX11_joins_229 rfl (lv_at hl 2 rfl) ?_
              refine sc_iald S hK hV hc9 (by omega) dX11_joins_230 ?_
              rw [show (cpD g2 p (g2 568)) y = g2 (50 + y) from cpD_v y (by omega) (by omega)]
              have hdy := (sOk_S hok2 y (by omega) (by omega)).2.2.2.2.2.1
              refine si_const S dX11_joins_231 ?_
              refine sb_eq (tgt := 249) S dX11_joins_232 (by decide) (by omega) (fun h232 => ?_) (fun h232 => ?_)
              · refine si_inc (lv' := [(2, .int (sI (y + 1))), (0, .ref m), (1, .int (sI cm))]) S dX11_joins_249 hl (k := 2) rfl (by decide) rfl (fun ls hl => ?_)
                refine lv_goto (tgt := 217) hx_ hb_ dX11_joins_252 (by decide) ?_
                exact ih217 (y + 1) _ _ _ (by omega) (by omega) (idx_st hnb (fun h => by first | exact h.1 h232 | exact h.2 h244)) hV (lv_sub hl [1, 2, 0] rfl)
              · refine lv_aload_n hx_ hb_ dX11_joins_235 rfl (lv_at hl 0 rfl) ?_
                refine lv_iload_n hx_ hb_ dX11_joins_236 rfl (lv_at hl 2 rfl) ?_
                refine lv_aload_n hx_ hb_ dX11_joins_237 rfl (lv_at hl 0 rfl) ?_
                refine sk_VP E hV (As := []) (rest := [.int (sI y), .ref m]) (kX11_many l_ G b_ M4 N m th ch tn ea sn nm wn g2 hc11 hc12) (cwV 0 S.2.2.2.2 gX11_joins_X11_many rfl rfl rfl (by decide +kernel) ⟨Nat.le_of_ble_eq_true rfl, Nat.le_of_ble_eq_true rfl⟩) (ci := 9) hc11 rfl rfl rfl hl.1 (Nat.le_of_ble_eq_true rfl) dX11_joins_238 (c1 := 0) (s1 := 0) ⟨⟨rfl, rfl⟩, by decide, by decide⟩ (fun H locs hV => ?_)
                refine sk_VP E hV (As := [.int (sI y), .int (sI (g2 568))]) (rest := []) (kX11_why l_ G b_ M4 N m th ch tn ea sn nm wn g2 (cpD g2 p (g2 568)) y (g2 568) hc11 hc12 hc9 (hok2) (by omega) (by omega) (fun o a b => by rw [cpD_v o a (by omega)]; have := (sOk_S hok2 o a (by omega)).2.2.2.2.2.1; unfold drF; omega) (by rw [cpD_v y (by omega) (by omega)]; unfold drF; omega)) (cwV 2 S.2.2.2.2 gX11_joins_X11_why rfl rfl rfl (by decide +kernel) ⟨Nat.le_of_ble_eq_true rfl, Nat.le_of_ble_eq_true rfl⟩) (ci := 9) hc11 rfl rfl rfl hl.1 (Nat.le_of_ble_eq_true rfl) dX11_joins_241 (c1 := 0) (s1 := 0) ⟨⟨rfl, rfl⟩, by decide, by decide⟩ (fun H locs hV => ?_)
                have hwe : whyM g2 (cpD g2 p (g2 568)) y (g2 568) = whyM g2 (drF g2) y (g2 568) := whyM_c (cpD_v y (by omega) (by omega)) (fun o a b => cpD_v o a (by omega))
                have hwr := whyM_r g2 (drF g2) y (g2 568)
                rw [hwe]
                refine sz_eq (tgt := 249) S dX11_joins_244 (by decide) (by omega) (fun h244 => ?_) (fun h244 => ?_)
                · refine si_inc (lv' := [(2, .int (sI (y + 1))), (0, .ref m), (1, .int (sI cm))]) S dX11_joins_249 hl (k := 2) rfl (by decide) rfl (fun ls hl => ?_)
                  refine lv_goto (tgt := 217) hx_ hb_ dX11_joins_252 (by decide) ?_
                  exact ih217 (y + 1) _ _ _ (by omega) (by omega) (idx_st hnb (fun h => by first | exact h.1 h232 | exact h.2 h244)) hV (lv_sub hl [1, 2, 0] rfl)
                · refine si_const S dX11_joins_247 ?_
                  have hnk : ¬ jnK C V nm f := fun q => q.2 ⟨y, by omega, by rw [← hgx]; omega, by rw [← hgx]; exact ⟨h232, h244⟩⟩
                  exact sr_i E hQ dX11_joins_248 ⟨Nat.le_of_ble_eq_true rfl, Nat.le_of_ble_eq_true rfl⟩ hV (⟨g2, (cpD g2 p (g2 568)), by unfold jnI; rw [pif_f hnk], rfl, hc12, hc9, fun x q0 q1 => (hf10 x (by omega)).trans (hfr4 x (by omega)), fun q => absurd q hnk, fun q hq => by rw [hg]; exact jn_o hO hok x (by omega) hnf q hq⟩)
        exact L217 _ 0 _ _ _ (Nat.lt_succ_self _) (by omega) (fun k a b => by omega) hV (lv_sub hl [1, 2, 0] rfl)
      · refine si_const S dX11_joins_12 ?_
        refine lv_istore_n (lv' := [(3, .int (sI (-1))), (0, .ref m), (1, .int (sI cm)), (2, .int (sI x))]) hx_ hb_ dX11_joins_13 rfl hl (by decide) rfl (fun ls hl => ?_)
        refine si_const S dX11_joins_14 ?_
        refine lv_istore (lv' := [(4, .int (sI 0)), (3, .int (sI (-1))), (0, .ref m), (1, .int (sI cm)), (2, .int (sI x))]) hx_ hb_ dX11_joins_15 hl (by decide) rfl (fun ls hl => ?_)
        have L17 : ∀ (fuel : Nat) (its : Int) (k : Int)  (H : Heap) (locs : List Loc) (ls : Array Slot), ((nm - k).toNat) < fuel → (0 ≤ k ∧ k ≤ nm) → ((its = -1 ∧ ∀ y, 0 ≤ y → y < k → ¬ isum nm (plT C y) = x) ∨ ((0 ≤ its ∧ its < k) ∧ isum nm (plT C its) = x)) → sV G b_ Ml4 N s_ H locs → lv_has ls 6 [(0, .ref m), (1, .int (sI cm)), (2, .int (sI x)), (3, .int (sI its)), (4, .int (sI k))] → W p_ l_ e_ rmX11_joins s_ m_ args_ below_ meth_ c_ H locs 0 0 Q (F0 m_ 17 ls []) := by
          intro fuel
          induction fuel with
          | zero => intro its k H locs ls hmu; exact absurd hmu (Nat.not_lt_zero _)
          | succ fuel ih17 =>
            intro its k H locs ls hmu17 hv17_0 hit  hV hl
            have hnp := np_r C nm k (by omega)
            refine lv_iload hx_ hb_ dX11_joins_17 (lv_at hl 4 rfl) ?_
            refine lv_aload_n hx_ hb_ dX11_joins_19 rfl (lv_at hl 0 rfl) ?_
            refine sc_get (ci := 9) (C := RX11) (T := TX11) (n := 22) S hK hV inX11_ hc1 rfl 18 (by decide) (S.2.2.2.2 _ (List.mem_of_getElem? (i := 1) rfl)) rfl rfl dX11_joins_20 ?_
            refine sb_ge (tgt := 45) S dX11_joins_23 (by decide) (by omega) (fun c14 => ?_) (fun c14 => ?_)
            · have hitr : 0 ≤ its ∧ its < nm ∧ its = eoI C nm x := by obtain ⟨y, hy, hye⟩ := np_ex hD x (by omega); rcases hit with ⟨e, h⟩ | ⟨e, h⟩; exact absurd hye (h y (by omega) (by omega)); exact ⟨by omega, by omega, eo_u hD (by omega) h⟩
              have heo := hitr.2.2
              refine lv_aload_n hx_ hb_ dX11_joins_45 rfl (lv_at hl 0 rfl) ?_
              refine lv_aload_n hx_ hb_ dX11_joins_46 rfl (lv_at hl 0 rfl) ?_
              refine sc_get (ci := 9) (C := RX11) (T := TX11) (n := 22) S hK hV inX11_ hc1 rfl 16 (by decide) (S.2.2.2.2 _ (List.mem_of_getElem? (i := 2) rfl)) rfl rfl dX11_joins_47 ?_
              refine lv_iload_n hx_ hb_ dX11_joins_50 rfl (lv_at hl 3 rfl) ?_
              have hc15 : Ml4 (m + 12) = some (sArr G 60 cc) := (hfr4 (m + 12) (by omega)).trans hm12
              refine sc_iald S hK hV hc15 (by omega) dX11_joins_51 ?_
              rw [show cc its = C its from hC its (by omega) (by omega)]
              have kn16 := hCr its (by omega) (by omega)
              refine sk_VP E hV (As := [.int (sI (C its))]) (rest := []) (kX11_withCode l_ G b_ Ml4 N m th ch tn ea sn nm wn g2 (C its) hc1 hm4_0 (hok2) (by omega)) (cwV 1 S.2.2.2.2 gX11_joins_X11_withCode rfl rfl rfl (by decide +kernel) ⟨Nat.le_of_ble_eq_true rfl, Nat.le_of_ble_eq_true rfl⟩) (ci := 9) hc1 rfl rfl rfl hl.1 (Nat.le_of_ble_eq_true rfl) dX11_joins_52 (c1 := 0) (s1 := 0) ⟨⟨rfl, rfl⟩, by decide, by decide⟩ (fun H locs hV => ?_)
              refine lv_istore (lv' := [(4, .int (sI (idx (fun q => g2 q = (C its)) (g2 568)))), (0, .ref m), (1, .int (sI cm)), (2, .int (sI x)), (3, .int (sI its))]) hx_ hb_ dX11_joins_55 hl (by decide) rfl (fun ls hl => ?_)
              obtain ⟨s5, hs5⟩ : ∃ s5, s5 = idx (fun q => g2 q = C its) (g2 568) := ⟨_, rfl⟩
              have hix := idx_cases (fun q => g2 q = C its) (g2 568)
              rw [← hs5] at hl hix
              have hixr : -1 ≤ s5 ∧ s5 < g2 568 := by rcases hix with ⟨a, -⟩ | ⟨a, b, -, -⟩ <;> omega
              refine lv_iload hx_ hb_ dX11_joins_57 (lv_at hl 0 rfl) ?_
              refine si_const S dX11_joins_59 ?_
              refine sb_ne (tgt := 74) S dX11_joins_60 (by decide) (by omega) (fun c17 => ?_) (fun c17 => ?_)
              · refine lv_iload hx_ hb_ dX11_joins_74 (lv_at hl 0 rfl) ?_
                refine si_const S dX11_joins_76 ?_
                refine sb_ne (tgt := 133) S dX11_joins_77 (by decide) (by omega) (fun _ => ?_) (fun c18 => absurd c18 (by omega))
                have hokA := hok2
                have hjo : joX C V its g2 = raN g2 V its s5 4 := by unfold joX; rw [← hs5, if_neg (by omega)]
                have hSr : 0 ≤ s5 ∧ s5 < g2 568 := by omega
                have hS5 : s5 ≤ 9 := by omega
                have hA8 : g2 568 = g2 568 := rfl
                refine si_const S dX11_joins_133 ?_
                refine lv_istore (lv' := [(5, .int (sI 0)), (4, .int (sI s5)), (0, .ref m), (1, .int (sI cm)), (2, .int (sI x)), (3, .int (sI its))]) hx_ hb_ dX11_joins_134 hl (by decide) rfl (fun ls hl => ?_)
                have L136 : ∀ (fuel : Nat) (w : Int) (g3 : Int → Int) (Ml136 : sM) (H : Heap) (locs : List Loc) (ls : Array Slot), ((4 - w).toNat) < fuel → (0 ≤ w ∧ w ≤ 4) → (g3 = raN g2 V its s5 w.toNat) → (Ml136 (m + 1) = some (sArr G 574 g3)) → (∀ x : Nat, ¬ (x = m + 1) → Ml136 x = Ml4 x) → sV G b_ Ml136 N s_ H locs → lv_has ls 6 [(0, .ref m), (1, .int (sI cm)), (2, .int (sI x)), (3, .int (sI its)), (4, .int (sI s5)), (5, .int (sI w))] → W p_ l_ e_ rmX11_joins s_ m_ args_ below_ meth_ c_ H locs 0 0 Q (F0 m_ 136 ls []) := by
                  intro fuel
                  induction fuel with
                  | zero => intro w g3 Ml136 H locs ls hmu; exact absurd hmu (Nat.not_lt_zero _)
                  | succ fuel ih136 =>
                    intro w g3 Ml136 H locs ls hmu136 hv136_0 hg3 hm136_0 hfr136 hV hl
                    refine lv_iload hx_ hb_ dX11_joins_136 (lv_at hl 5 rfl) ?_
                    refine si_const S dX11_joins_138 ?_
                    refine sb_ge (tgt := 205) S dX11_joins_139 (by decide) (by omega) (fun c19 => ?_) (fun c19 => ?_)
                    · refine si_inc (lv' := [(2, .int (sI (x + 1))), (0, .ref m), (1, .int (sI cm)), (3, .int (sI its)), (4, .int (sI s5)), (5, .int (sI w))]) S dX11_joins_205 hl (k := 2) rfl (by decide) rfl (fun ls hl => ?_)
                      refine lv_goto (tgt := 4) hx_ hb_ dX11_joins_208 (by decide) ?_
                      exact ih4 cm (x + 1) g3 Ml136 _ _ _ (by omega) (by omega) (by rw [jnS_s _ _ _ _ _ (by omega), ← hg, ← heo, hjo, hg3, show w = 4 by omega]; rfl) (fun y a b => by by_cases e9 : y = x; exact (by rw [e9]; unfold jnU; rw [← hg, ← heo, ← hs5]; omega); exact hnf y a (by omega)) (by rw [hg3, ra_o (q := 568) _ (fun y a b => by omega)]; omega) hm136_0 (fun x q0 => (hfr136 x (by omega)).trans (hfr4 x (by omega))) hV (lv_sub hl [1, 2, 0] rfl)
                    · have e168 : g3 (10 + 10 * w + s5) = g2 (10 + 10 * w + s5) := by rw [hg3]; exact ra_o _ (fun y a b => by omega)
                      have hnb := ok_num hokA s5 w hSr (by omega)
                      have hvb := hVr its w (by omega) (by omega) (by omega) (by omega)
                      refine lv_aload_n hx_ hb_ dX11_joins_142 rfl (lv_at hl 0 rfl) ?_
                      have hc20 : Ml136 m = some (mO m th ch tn ea sn nm wn) := (hfr136 m (by omega)).trans hc1
                      refine sc_get (ci := 9) (C := RX11) (T := TX11) (n := 22) S hK hV inX11_ hc20 rfl 17 (by decide) (S.2.2.2.2 _ (List.mem_of_getElem? (i := 3) rfl)) rfl rfl dX11_joins_143 ?_
                      refine si_const S dX11_joins_146 ?_
                      refine lv_iload_n hx_ hb_ dX11_joins_147 rfl (lv_at hl 3 rfl) ?_
                      refine si_mul S dX11_joins_148 ?_
                      refine lv_iload hx_ hb_ dX11_joins_149 (lv_at hl 5 rfl) ?_
                      refine si_add S dX11_joins_151 ?_
                      have hc21 : Ml136 (m + 13) = some (sArr G 240 vv) := ((hfr136 (m + 13) (by omega)).trans (hfr4 (m + 13) (by omega))).trans hm13
                      refine sc_iald S hK hV hc21 (by omega) dX11_joins_152 ?_
                      rw [show vv ((4 * its) + w) = V (4 * its + w) from hVv _ (by omega) (by omega)]
                      refine lv_aload_n hx_ hb_ dX11_joins_153 rfl (lv_at hl 0 rfl) ?_
                      refine sc_get (ci := 9) (C := RX11) (T := TX11) (n := 22) S hK hV inX11_ hc20 rfl 1 (by decide) (S.2.2.2.2 _ (List.mem_of_getElem? (i := 4) rfl)) rfl rfl dX11_joins_154 ?_
                      refine si_bipush S dX11_joins_157 (by decide) ?_
                      refine si_bipush S dX11_joins_159 (by decide) ?_
                      refine lv_iload hx_ hb_ dX11_joins_161 (lv_at hl 5 rfl) ?_
                      refine si_mul S dX11_joins_163 ?_
                      refine si_add S dX11_joins_164 ?_
                      refine lv_iload hx_ hb_ dX11_joins_165 (lv_at hl 4 rfl) ?_
                      refine si_add S dX11_joins_167 ?_
                      refine sc_iald S hK hV hm136_0 (by omega) dX11_joins_168 ?_
                      rw [show g3 ((10 + (10 * w)) + s5) = g2 (10 + 10 * w + s5) from e168]
                      refine sb_le (tgt := 199) S dX11_joins_169 (by decide) (by omega) (fun c22 => ?_) (fun c22 => ?_)
                      · refine si_inc (lv' := [(5, .int (sI (w + 1))), (0, .ref m), (1, .int (sI cm)), (2, .int (sI x)), (3, .int (sI its)), (4, .int (sI s5))]) S dX11_joins_199 hl (k := 5) rfl (by decide) rfl (fun ls hl => ?_)
                        refine lv_goto (tgt := 136) hx_ hb_ dX11_joins_202 (by decide) ?_
                        exact ih136 (w + 1) g3 Ml136 _ _ _ (by omega) (by omega) (by rw [ra_s _ _ _ _ _ (by omega), show max (g2 (10 + 10 * w + s5)) (V (4 * its + w)) = g2 (10 + 10 * w + s5) by omega, ← hg3, ← e168]; exact (iup_id _ _).symm) hm136_0 (fun x q0 => hfr136 x (by omega)) hV (lv_sub hl [1, 2, 3, 4, 5, 0] rfl)
                      · refine lv_aload_n hx_ hb_ dX11_joins_172 rfl (lv_at hl 0 rfl) ?_
                        refine sc_get (ci := 9) (C := RX11) (T := TX11) (n := 22) S hK hV inX11_ hc20 rfl 1 (by decide) (S.2.2.2.2 _ (List.mem_of_getElem? (i := 4) rfl)) rfl rfl dX11_joins_173 ?_
                        refine si_bipush S dX11_joins_176 (by decide) ?_
                        refine si_bipush S dX11_joins_178 (by decide) ?_
                        refine lv_iload hx_ hb_ dX11_joins_180 (lv_at hl 5 rfl) ?_
                        refine si_mul S dX11_joins_182 ?_
                        refine si_add S dX11_joins_183 ?_
                        refine lv_iload hx_ hb_ dX11_joins_184 (lv_at hl 4 rfl) ?_
                        refine si_add S dX11_joins_186 ?_
                        refine lv_aload_n hx_ hb_ dX11_joins_187 rfl (lv_at hl 0 rfl) ?_
                        refine sc_get (ci := 9) (C := RX11) (T := TX11) (n := 22) S hK hV inX11_ hc20 rfl 17 (by decide) (S.2.2.2.2 _ (List.mem_of_getElem? (i := 3) rfl)) rfl rfl dX11_joins_188 ?_
                        refine si_const S dX11_joins_191 ?_
                        refine lv_iload_n hx_ hb_ dX11_joins_192 rfl (lv_at hl 3 rfl) ?_
                        refine si_mul S dX11_joins_193 ?_
                        refine lv_iload hx_ hb_ dX11_joins_194 (lv_at hl 5 rfl) ?_
                        refine si_add S dX11_joins_196 ?_
                        refine sc_iald S hK hV hc21 (by omega) dX11_joins_197 ?_
                        rw [show vv ((4 * its) + w) = V (4 * its + w) from hVv _ (by omega) (by omega)]
                        refine sc_iast S hK hV hm136_0 (by omega) dX11_joins_198 (fun M23 H locs hM23 hV => ?_)
                        have hc24 : M23 (m + 1) = some (sArr G 574 (iup g3 ((10 + (10 * w)) + s5) (V (4 * its + w)))) := (congrFun hM23 (m + 1)).trans (va_up_self Ml136 (m + 1) _)
                        refine si_inc (lv' := [(5, .int (sI (w + 1))), (0, .ref m), (1, .int (sI cm)), (2, .int (sI x)), (3, .int (sI its)), (4, .int (sI s5))]) S dX11_joins_199 hl (k := 5) rfl (by decide) rfl (fun ls hl => ?_)
                        refine lv_goto (tgt := 136) hx_ hb_ dX11_joins_202 (by decide) ?_
                        exact ih136 (w + 1) (iup g3 ((10 + (10 * w)) + s5) (V (4 * its + w))) M23 _ _ _ (by omega) (by omega) (by rw [ra_s _ _ _ _ _ (by omega), hg3, show max (g2 (10 + 10 * w + s5)) (V (4 * its + w)) = V (4 * its + w) by omega]) hc24 (fun x q0 => ((congrFun hM23 x).trans (va_up_ne Ml136 _ (by omega))).trans (hfr136 x (by omega))) hV (lv_sub hl [1, 2, 3, 4, 5, 0] rfl)
                exact L136 _ 0 g2 Ml4 _ _ _ (Nat.lt_succ_self _) (by omega) (rfl) hm4_0 (fun x q0 => rfl) hV (lv_sub hl [2, 3, 4, 5, 1, 0] rfl)
              · refine lv_aload_n hx_ hb_ dX11_joins_63 rfl (lv_at hl 1 rfl) ?_
                refine sk_VP E hV (As := []) (rest := []) (kX11_many l_ G b_ Ml4 N m th ch tn ea sn nm wn g2 hc1 hm4_0) (cwV 0 S.2.2.2.2 gX11_joins_X11_many rfl rfl rfl (by decide +kernel) ⟨Nat.le_of_ble_eq_true rfl, Nat.le_of_ble_eq_true rfl⟩) (ci := 9) hc1 rfl rfl rfl hl.1 (Nat.le_of_ble_eq_true rfl) dX11_joins_64 (c1 := 0) (s1 := 0) ⟨⟨rfl, rfl⟩, by decide, by decide⟩ (fun H locs hV => ?_)
                refine si_bipush S dX11_joins_67 (by decide) ?_
                refine sb_ne (tgt := 74) S dX11_joins_69 (by decide) (by omega) (fun c25 => ?_) (fun c25 => ?_)
                · refine lv_iload hx_ hb_ dX11_joins_74 (lv_at hl 0 rfl) ?_
                  refine si_const S dX11_joins_76 ?_
                  refine sb_ne (tgt := 133) S dX11_joins_77 (by decide) (by omega) (fun c26 => absurd c26 (by omega)) (fun _ => ?_)
                  refine lv_aload_n hx_ hb_ dX11_joins_80 rfl (lv_at hl 1 rfl) ?_
                  refine lv_aload_n hx_ hb_ dX11_joins_81 rfl (lv_at hl 1 rfl) ?_
                  refine sc_get (ci := 9) (C := RX11) (T := TX11) (n := 22) S hK hV inX11_ hc1 rfl 16 (by decide) (S.2.2.2.2 _ (List.mem_of_getElem? (i := 2) rfl)) rfl rfl dX11_joins_82 ?_
                  refine lv_iload_n hx_ hb_ dX11_joins_85 rfl (lv_at hl 4 rfl) ?_
                  refine sc_iald S hK hV hc15 (by omega) dX11_joins_86 ?_
                  rw [show cc its = C its from hC its (by omega) (by omega)]
                  have kn27 := hCr its (by omega) (by omega)
                  refine lv_aload_n hx_ hb_ dX11_joins_87 rfl (lv_at hl 1 rfl) ?_
                  refine sc_get (ci := 9) (C := RX11) (T := TX11) (n := 22) S hK hV inX11_ hc1 rfl 17 (by decide) (S.2.2.2.2 _ (List.mem_of_getElem? (i := 3) rfl)) rfl rfl dX11_joins_88 ?_
                  refine si_const S dX11_joins_91 ?_
                  refine lv_iload_n hx_ hb_ dX11_joins_92 rfl (lv_at hl 4 rfl) ?_
                  refine si_mul S dX11_joins_93 ?_
                  have hc28 : Ml4 (m + 13) = some (sArr G 240 vv) := (hfr4 (m + 13) (by omega)).trans hm13
                  refine sc_iald S hK hV hc28 (by omega) dX11_joins_94 ?_
                  rw [show vv (4 * its) = V (4 * its) from hVv _ (by omega) (by omega)]
                  refine lv_aload_n hx_ hb_ dX11_joins_95 rfl (lv_at hl 1 rfl) ?_
                  refine sc_get (ci := 9) (C := RX11) (T := TX11) (n := 22) S hK hV inX11_ hc1 rfl 17 (by decide) (S.2.2.2.2 _ (List.mem_of_getElem? (i := 3) rfl)) rfl rfl dX11_joins_96 ?_
                  refine si_const S dX11_joins_99 ?_
                  refine lv_iload_n hx_ hb_ dX11_joins_100 rfl (lv_at hl 4 rfl) ?_
                  refine si_mul S dX11_joins_101 ?_
                  refine si_const S dX11_joins_102 ?_
                  refine si_add S dX11_joins_103 ?_
                  refine sc_iald S hK hV hc28 (by omega) dX11_joins_104 ?_
                  rw [show vv ((4 * its) + 1) = V (4 * its + 1) from hVv _ (by omega) (by omega)]
                  refine lv_aload_n hx_ hb_ dX11_joins_105 rfl (lv_at hl 1 rfl) ?_
                  refine sc_get (ci := 9) (C := RX11) (T := TX11) (n := 22) S hK hV inX11_ hc1 rfl 17 (by decide) (S.2.2.2.2 _ (List.mem_of_getElem? (i := 3) rfl)) rfl rfl dX11_joins_106 ?_
                  refine si_const S dX11_joins_109 ?_
                  refine lv_iload_n hx_ hb_ dX11_joins_110 rfl (lv_at hl 4 rfl) ?_
                  refine si_mul S dX11_joins_111 ?_
                  refine si_const S dX11_joins_112 ?_
                  refine si_add S dX11_joins_113 ?_
                  refine sc_iald S hK hV hc28 (by omega) dX11_joins_114 ?_
                  rw [show vv ((4 * its) + 2) = V (4 * its + 2) from hVv _ (by omega) (by omega)]
                  refine lv_aload_n hx_ hb_ dX11_joins_115 rfl (lv_at hl 1 rfl) ?_
                  refine sc_get (ci := 9) (C := RX11) (T := TX11) (n := 22) S hK hV inX11_ hc1 rfl 17 (by decide) (S.2.2.2.2 _ (List.mem_of_getElem? (i := 3) rfl)) rfl rfl dX11_joins_116 ?_
                  refine si_const S dX11_joins_119 ?_
                  refine lv_iload_n hx_ hb_ dX11_joins_120 rfl (lv_at hl 4 rfl) ?_
                  refine si_mul S dX11_joins_121 ?_
                  refine si_const S dX11_joins_122 ?_
                  refine si_add S dX11_joins_123 ?_
                  refine sc_iald S hK hV hc28 (by omega) dX11_joins_124 ?_
                  rw [show vv ((4 * its) + 3) = V (4 * its + 3) from hVv _ (by omega) (by omega)]
                  refine sk_Vi E hV (As := [.int (sI (C its)), .int (sI (V (4 * its))), .int (sI (V (4 * its + 1))), .int (sI (V (4 * its + 2))), .int (sI (V (4 * its + 3)))]) (rest := []) (kX11_comes l_ G b_ Ml4 N m th ch tn ea sn nm wn g2 (C its) (V (4 * its)) (V (4 * its + 1)) (V (4 * its + 2)) (V (4 * its + 3)) hc1 hm4_0 (by omega)) (cwV 5 S.2.2.2.2 gX11_joins_X11_comes rfl rfl rfl (by decide +kernel) ⟨Nat.le_of_ble_eq_true rfl, Nat.le_of_ble_eq_true rfl⟩) (ci := 9) hc1 rfl rfl rfl hl.1 (Nat.le_of_ble_eq_true rfl) dX11_joins_125 (c1 := 0) (s1 := 0) ⟨⟨rfl, rfl⟩, by decide, by decide⟩ (fun z32 M29 N30 H locs hp31 hV => ?_)
                  obtain ⟨ez33, hN34, hc35, hf36⟩ := hp31
                  rw [hN34] at hV
                  rw [ez33]
                  refine lv_istore (lv' := [(4, .int (sI (g2 568))), (0, .ref m), (1, .int (sI cm)), (2, .int (sI x)), (3, .int (sI its))]) hx_ hb_ dX11_joins_128 hl (by decide) rfl (fun ls hl => ?_)
                  refine si_inc (lv' := [(1, .int (sI (cm + 1))), (4, .int (sI (g2 568))), (0, .ref m), (2, .int (sI x)), (3, .int (sI its))]) S dX11_joins_130 hl (k := 2) rfl (by decide) rfl (fun ls hl => ?_)
                  have hjoA : joX C V its g2 = (comF g2 (C its) (V (4 * its)) (V (4 * its + 1)) (V (4 * its + 2)) (V (4 * its + 3))) := by unfold joX; rw [← hs5, if_pos (by omega)]
                  have hokA : sOk (comF g2 (C its) (V (4 * its)) (V (4 * its + 1)) (V (4 * its + 2)) (V (4 * its + 3))) := by rw [← hjoA]; exact ok_jo hO (by omega) hok2 (by rw [← hs5]; omega)
                  have hjo : joX C V its g2 = raN (comF g2 (C its) (V (4 * its)) (V (4 * its + 1)) (V (4 * its + 2)) (V (4 * its + 3))) V its (g2 568) 4 := by rw [ra_com (C its) (by omega)]; exact hjoA
                  have hA8 : (comF g2 (C its) (V (4 * its)) (V (4 * its + 1)) (V (4 * its + 2)) (V (4 * its + 3))) 568 = g2 568 + 1 := (cm_w (by omega)).2.2.2.2.2.2.2
                  have hSr : 0 ≤ g2 568 ∧ g2 568 < (comF g2 (C its) (V (4 * its)) (V (4 * its + 1)) (V (4 * its + 2)) (V (4 * its + 3))) 568 := by omega
                  have hS5 : g2 568 ≤ 9 := by omega
                  refine si_const S dX11_joins_133 ?_
                  refine lv_istore (lv' := [(5, .int (sI 0)), (1, .int (sI (cm + 1))), (4, .int (sI (g2 568))), (0, .ref m), (2, .int (sI x)), (3, .int (sI its))]) hx_ hb_ dX11_joins_134 hl (by decide) rfl (fun ls hl => ?_)
                  have L136 : ∀ (fuel : Nat) (w : Int) (g3 : Int → Int) (Ml136 : sM) (H : Heap) (locs : List Loc) (ls : Array Slot), ((4 - w).toNat) < fuel → (0 ≤ w ∧ w ≤ 4) → (g3 = raN (comF g2 (C its) (V (4 * its)) (V (4 * its + 1)) (V (4 * its + 2)) (V (4 * its + 3))) V its (g2 568) w.toNat) → (Ml136 (m + 1) = some (sArr G 574 g3)) → (∀ x : Nat, ¬ (x = m + 1) → Ml136 x = M29 x) → sV G b_ Ml136 N s_ H locs → lv_has ls 6 [(0, .ref m), (1, .int (sI (cm + 1))), (2, .int (sI x)), (3, .int (sI its)), (4, .int (sI (g2 568))), (5, .int (sI w))] → W p_ l_ e_ rmX11_joins s_ m_ args_ below_ meth_ c_ H locs 0 0 Q (F0 m_ 136 ls []) := by
                    intro fuel
                    induction fuel with
                    | zero => intro w g3 Ml136 H locs ls hmu; exact absurd hmu (Nat.not_lt_zero _)
                    | succ fuel ih136 =>
                      intro w g3 Ml136 H locs ls hmu136 hv136_0 hg3 hm136_0 hfr136 hV hl
                      refine lv_iload hx_ hb_ dX11_joins_136 (lv_at hl 5 rfl) ?_
                      refine si_const S dX11_joins_138 ?_
                      refine sb_ge (tgt := 205) S dX11_joins_139 (by decide) (by omega) (fun c37 => ?_) (fun c37 => ?_)
                      · refine si_inc (lv' := [(2, .int (sI (x + 1))), (0, .ref m), (1, .int (sI (cm + 1))), (3, .int (sI its)), (4, .int (sI (g2 568))), (5, .int (sI w))]) S dX11_joins_205 hl (k := 2) rfl (by decide) rfl (fun ls hl => ?_)
                        refine lv_goto (tgt := 4) hx_ hb_ dX11_joins_208 (by decide) ?_
                        exact ih4 (cm + 1) (x + 1) g3 Ml136 _ _ _ (by omega) (by omega) (by rw [jnS_s _ _ _ _ _ (by omega), ← hg, ← heo, hjo, hg3, show w = 4 by omega]; rfl) (fun y a b => by by_cases e9 : y = x; exact (by rw [e9]; unfold jnU; rw [← hg, ← heo, ← hs5]; omega); exact hnf y a (by omega)) (by rw [hg3, ra_o (q := 568) _ (fun y a b => by omega)]; omega) hm136_0 (fun x q0 => ((hfr136 x (by omega)).trans (hf36 x (by omega))).trans (hfr4 x (by omega))) hV (lv_sub hl [1, 2, 0] rfl)
                      · have e168 : g3 (10 + 10 * w + (g2 568)) = (comF g2 (C its) (V (4 * its)) (V (4 * its + 1)) (V (4 * its + 2)) (V (4 * its + 3))) (10 + 10 * w + (g2 568)) := by rw [hg3]; exact ra_o _ (fun y a b => by omega)
                        have hnb := ok_num hokA (g2 568) w hSr (by omega)
                        have hvb := hVr its w (by omega) (by omega) (by omega) (by omega)
                        refine lv_aload_n hx_ hb_ dX11_joins_142 rfl (lv_at hl 0 rfl) ?_
                        have hc38 : Ml136 m = some (mO m th ch tn ea sn nm wn) := ((hfr136 m (by omega)).trans (hf36 m (by omega))).trans hc1
                        refine sc_get (ci := 9) (C := RX11) (T := TX11) (n := 22) S hK hV inX11_ hc38 rfl 17 (by decide) (S.2.2.2.2 _ (List.mem_of_getElem? (i := 3) rfl)) rfl rfl dX11_joins_143 ?_
                        refine si_const S dX11_joins_146 ?_
                        refine lv_iload_n hx_ hb_ dX11_joins_147 rfl (lv_at hl 3 rfl) ?_
                        refine si_mul S dX11_joins_148 ?_
                        refine lv_iload hx_ hb_ dX11_joins_149 (lv_at hl 5 rfl) ?_
                        refine si_add S dX11_joins_151 ?_
                        have hc39 : Ml136 (m + 13) = some (sArr G 240 vv) := ((hfr136 (m + 13) (by omega)).trans (hf36 (m + 13) (by omega))).trans hc28
                        refine sc_iald S hK hV hc39 (by omega) dX11_joins_152 ?_
                        rw [show vv ((4 * its) + w) = V (4 * its + w) from hVv _ (by omega) (by omega)]
                        refine lv_aload_n hx_ hb_ dX11_joins_153 rfl (lv_at hl 0 rfl) ?_
                        refine sc_get (ci := 9) (C := RX11) (T := TX11) (n := 22) S hK hV inX11_ hc38 rfl 1 (by decide) (S.2.2.2.2 _ (List.mem_of_getElem? (i := 4) rfl)) rfl rfl dX11_joins_154 ?_
                        refine si_bipush S dX11_joins_157 (by decide) ?_
                        refine si_bipush S dX11_joins_159 (by decide) ?_
                        refine lv_iload hx_ hb_ dX11_joins_161 (lv_at hl 5 rfl) ?_
                        refine si_mul S dX11_joins_163 ?_
                        refine si_add S dX11_joins_164 ?_
                        refine lv_iload hx_ hb_ dX11_joins_165 (lv_at hl 4 rfl) ?_
                        refine si_add S dX11_joins_167 ?_
                        refine sc_iald S hK hV hm136_0 (by omega) dX11_joins_168 ?_
                        rw [show g3 ((10 + (10 * w)) + (g2 568)) = (comF g2 (C its) (V (4 * its)) (V (4 * its + 1)) (V (4 * its + 2)) (V (4 * its + 3))) (10 + 10 * w + (g2 568)) from e168]
                        refine sb_le (tgt := 199) S dX11_joins_169 (by decide) (by omega) (fun c40 => ?_) (fun c40 => ?_)
                        · refine si_inc (lv' := [(5, .int (sI (w + 1))), (0, .ref m), (1, .int (sI (cm + 1))), (2, .int (sI x)), (3, .int (sI its)), (4, .int (sI (g2 568)))]) S dX11_joins_199 hl (k := 5) rfl (by decide) rfl (fun ls hl => ?_)
                          refine lv_goto (tgt := 136) hx_ hb_ dX11_joins_202 (by decide) ?_
                          exact ih136 (w + 1) g3 Ml136 _ _ _ (by omega) (by omega) (by rw [ra_s _ _ _ _ _ (by omega), show max ((comF g2 (C its) (V (4 * its)) (V (4 * its + 1)) (V (4 * its + 2)) (V (4 * its + 3))) (10 + 10 * w + (g2 568))) (V (4 * its + w)) = (comF g2 (C its) (V (4 * its)) (V (4 * its + 1)) (V (4 * its + 2)) (V (4 * its + 3))) (10 + 10 * w + (g2 568)) by omega, ← hg3, ← e168]; exact (iup_id _ _).symm) hm136_0 (fun x q0 => hfr136 x (by omega)) hV (lv_sub hl [1, 2, 3, 4, 5, 0] rfl)
                        · refine lv_aload_n hx_ hb_ dX11_joins_172 rfl (lv_at hl 0 rfl) ?_
                          refine sc_get (ci := 9) (C := RX11) (T := TX11) (n := 22) S hK hV inX11_ hc38 rfl 1 (by decide) (S.2.2.2.2 _ (List.mem_of_getElem? (i := 4) rfl)) rfl rfl dX11_joins_173 ?_
                          refine si_bipush S dX11_joins_176 (by decide) ?_
                          refine si_bipush S dX11_joins_178 (by decide) ?_
                          refine lv_iload hx_ hb_ dX11_joins_180 (lv_at hl 5 rfl) ?_
                          refine si_mul S dX11_joins_182 ?_
                          refine si_add S dX11_joins_183 ?_
                          refine lv_iload hx_ hb_ dX11_joins_184 (lv_at hl 4 rfl) ?_
                          refine si_add S dX11_joins_186 ?_
                          refine lv_aload_n hx_ hb_ dX11_joins_187 rfl (lv_at hl 0 rfl) ?_
                          refine sc_get (ci := 9) (C := RX11) (T := TX11) (n := 22) S hK hV inX11_ hc38 rfl 17 (by decide) (S.2.2.2.2 _ (List.mem_of_getElem? (i := 3) rfl)) rfl rfl dX11_joins_188 ?_
                          refine si_const S dX11_joins_191 ?_
                          refine lv_iload_n hx_ hb_ dX11_joins_192 rfl (lv_at hl 3 rfl) ?_
                          refine si_mul S dX11_joins_193 ?_
                          refine lv_iload hx_ hb_ dX11_joins_194 (lv_at hl 5 rfl) ?_
                          refine si_add S dX11_joins_196 ?_
                          refine sc_iald S hK hV hc39 (by omega) dX11_joins_197 ?_
                          rw [show vv ((4 * its) + w) = V (4 * its + w) from hVv _ (by omega) (by omega)]
                          refine sc_iast S hK hV hm136_0 (by omega) dX11_joins_198 (fun M41 H locs hM41 hV => ?_)
                          have hc42 : M41 (m + 1) = some (sArr G 574 (iup g3 ((10 + (10 * w)) + (g2 568)) (V (4 * its + w)))) := (congrFun hM41 (m + 1)).trans (va_up_self Ml136 (m + 1) _)
                          refine si_inc (lv' := [(5, .int (sI (w + 1))), (0, .ref m), (1, .int (sI (cm + 1))), (2, .int (sI x)), (3, .int (sI its)), (4, .int (sI (g2 568)))]) S dX11_joins_199 hl (k := 5) rfl (by decide) rfl (fun ls hl => ?_)
                          refine lv_goto (tgt := 136) hx_ hb_ dX11_joins_202 (by decide) ?_
                          exact ih136 (w + 1) (iup g3 ((10 + (10 * w)) + (g2 568)) (V (4 * its + w))) M41 _ _ _ (by omega) (by omega) (by rw [ra_s _ _ _ _ _ (by omega), hg3, show max ((comF g2 (C its) (V (4 * its)) (V (4 * its + 1)) (V (4 * its + 2)) (V (4 * its + 3))) (10 + 10 * w + (g2 568))) (V (4 * its + w)) = V (4 * its + w) by omega]) hc42 (fun x q0 => ((congrFun hM41 x).trans (va_up_ne Ml136 _ (by omega))).trans (hfr136 x (by omega))) hV (lv_sub hl [1, 2, 3, 4, 5, 0] rfl)
                  exact L136 _ 0 (comF g2 (C its) (V (4 * its)) (V (4 * its + 1)) (V (4 * its + 2)) (V (4 * its + 3))) M29 _ _ _ (Nat.lt_succ_self _) (by omega) (rfl) hc35 (fun x q0 => rfl) hV (lv_sub hl [3, 1, 4, 5, 2, 0] rfl)
                · refine si_const S dX11_joins_72 ?_
                  have hc43 : Ml4 (m + 8) = some (sArr G 10 p) := (hfr4 (m + 8) (by omega)).trans hm8
                  exact sr_i E hQ dX11_joins_73 ⟨Nat.le_of_ble_eq_true rfl, Nat.le_of_ble_eq_true rfl⟩ hV (⟨g2, p, by unfold jnI; rw [pif_f (fun q => q.1 x (by omega) (by omega) (by unfold jnU; rw [← hg, ← heo, ← hs5]; omega))], rfl, hm4_0, hc43, fun x q0 q1 => hfr4 x (by omega), fun q => absurd (by unfold jnU; rw [← hg, ← heo, ← hs5]; omega) (q.1 x (by omega) (by omega)), fun q hq => by rw [hg]; exact jn_o hO hok x (by omega) hnf q hq⟩)
            · refine lv_aload_n hx_ hb_ dX11_joins_26 rfl (lv_at hl 0 rfl) ?_
              refine lv_iload hx_ hb_ dX11_joins_27 (lv_at hl 4 rfl) ?_
              have hc44 : Ml4 (m + 12) = some (sArr G 60 cc) := (hfr4 (m + 12) (by omega)).trans hm12
              refine sk_VP E hV (As := [.int (sI k)]) (rest := []) (kX11_newPlace l_ G b_ Ml4 N m th ch tn ea sn nm wn C cc k hc1 hc44 (by omega) (by omega) (hC) (hCr)) (cwV 1 S.2.2.2.2 gX11_joins_X11_newPlace rfl rfl rfl (by decide +kernel) ⟨Nat.le_of_ble_eq_true rfl, Nat.le_of_ble_eq_true rfl⟩) (ci := 9) hc1 rfl rfl rfl hl.1 (Nat.le_of_ble_eq_true rfl) dX11_joins_29 (c1 := 0) (s1 := 0) ⟨⟨rfl, rfl⟩, by decide, by decide⟩ (fun H locs hV => ?_)
              refine lv_iload_n hx_ hb_ dX11_joins_32 rfl (lv_at hl 2 rfl) ?_
              refine sb_ne (tgt := 39) S dX11_joins_33 (by decide) (by omega) (fun h33 => ?_) (fun h33 => ?_)
              · refine si_inc (lv' := [(4, .int (sI (k + 1))), (0, .ref m), (1, .int (sI cm)), (2, .int (sI x)), (3, .int (sI its))]) S dX11_joins_39 hl (k := 4) rfl (by decide) rfl (fun ls hl => ?_)
                refine lv_goto (tgt := 17) hx_ hb_ dX11_joins_42 (by decide) ?_
                exact ih17 its (k + 1) _ _ _ (by omega) (by omega) (by rcases hit with ⟨e, h⟩ | ⟨e, h⟩; exact Or.inl ⟨e, idx_st h h33⟩; exact Or.inr ⟨by omega, h⟩) hV (lv_sub hl [1, 2, 3, 4, 0] rfl)
              · refine lv_iload hx_ hb_ dX11_joins_36 (lv_at hl 4 rfl) ?_
                refine lv_istore_n (lv' := [(3, .int (sI k)), (0, .ref m), (1, .int (sI cm)), (2, .int (sI x)), (4, .int (sI k))]) hx_ hb_ dX11_joins_38 rfl hl (by decide) rfl (fun ls hl => ?_)
                refine si_inc (lv' := [(4, .int (sI (k + 1))), (3, .int (sI k)), (0, .ref m), (1, .int (sI cm)), (2, .int (sI x))]) S dX11_joins_39 hl (k := 4) rfl (by decide) rfl (fun ls hl => ?_)
                refine lv_goto (tgt := 17) hx_ hb_ dX11_joins_42 (by decide) ?_
                exact ih17 k (k + 1) _ _ _ (by omega) (by omega) (Or.inr ⟨by omega, h33⟩) hV (lv_sub hl [2, 3, 4, 1, 0] rfl)
        exact L17 _ (-1) 0 _ _ _ (Nat.lt_succ_self _) (by omega) (Or.inl ⟨rfl, fun y a b => by omega⟩) hV (lv_sub hl [2, 3, 4, 1, 0] rfl)
  exact L4 _ 0 0 f M _ _ _ (Nat.lt_succ_self _) (by omega) (rfl) (fun y a b => by omega) (by omega) hm1 (fun x q0 => rfl) hV (lv_sub hl [2, 1, 0] rfl)
