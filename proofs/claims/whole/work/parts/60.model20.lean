abbrev rmX11_readsTape : Room := { frames := 3, cells := 0, slots := 0, locals := 86 }
set_option maxHeartbeats 4000000 in
set_option maxRecDepth 100000 in
theorem kX11_readsTape (l_ : Launch) (G : sG) (b_ : Nat) (M : sM) (N : Nat) (m : Nat) (th ch tn ea sn nm wn : Int) (t cc vv : sF) (hm0 : M m = some (mO m th ch tn ea sn nm wn)) (hm3 : M (m + 3) = some (sArr G 300 t)) (hm12 : M (m + 12) = some (sArr G 60 cc)) (hm13 : M (m + 13) = some (sArr G 240 vv)) (ht : tpOk t tn) : cI l_ yX11_readsTape wsX11_readsTape rmX11_readsTape G b_ M N [.ref m] (fun z_ M1 N1 => ∃ c9 : Int, ∃ C9 : Int → Int, ∃ V9 : Int → Int, z_ = rcE t tn ∧ N1 = N ∧ M1 m = some (mO m th ch tn ea sn c9 wn) ∧ M1 (m + 12) = some (sArr G 60 C9) ∧ M1 (m + 13) = some (sArr G 240 V9) ∧ (∀ x : Nat, ¬ (x = m) → ¬ (x = m + 12) → ¬ (x = m + 13) → M1 x = M x) ∧ (0 ≤ c9 ∧ c9 ≤ 50) ∧ (-1 ≤ rcE t tn ∧ rcE t tn ≤ 300) ∧ (rcE t tn = -1 → rcK t tn = c9 ∧ (∀ o, 0 ≤ o → o < c9 → C9 o = rcC t tn o) ∧ ∀ q, 0 ≤ q → q < 4 * c9 → V9 q = rcV t tn q)) := by
  refine sE.ofI (cc := cX11_readsTape) (nL := 5) (ret := (some .int)) (by decide) rfl (Nat.le_of_ble_eq_true rfl) ?_
  intro p_ e_ s_ m_ args_ below_ meth_ c_ ls Q hQ E hl
  have E : sE p_ l_ e_ rmX11_readsTape s_ m_ args_ below_ meth_ c_ cX11_readsTape 5 wsX11_readsTape RX11 "readsTape" (some .int) G b_ M N := E
  have S := E.1
  have hx_ := S.1
  have hb_ := S.2.1
  have hK := E.2.2.2.2.1
  have hV := E.2.2.2.2.2.2
  have hl : lv_has ls 5 [(0, .ref m)] := hl
  have inX11_ : ∀ w ∈ wsX110, w ∈ wsX11_readsTape := fun _ h => List.mem_cons_of_mem _ (List.mem_append_right _ h)
  have htn := ht.1
  have htn2 := ht.2.1
  refine lv_aload_n hx_ hb_ dX11_readsTape_0 rfl (lv_at hl 0 rfl) ?_
  refine si_const S dX11_readsTape_1 ?_
  refine sc_put (ci := 9) (C := RX11) (T := TX11) (n := 22) S hK hV inX11_ tyX11_ok nmX11 hm0 rfl 18 (by decide) (S.2.2.2.2 _ (List.mem_of_getElem? (i := 1) rfl)) rfl rfl rfl rfl (Nat.le_of_ble_eq_true rfl) dX11_readsTape_2 (fs1 := [.int (sI th), .ref (m + 1), .ref (m + 2), .int (sI ch), .ref (m + 3), .int (sI tn), .int (sI ea), .ref (m + 4), .ref (m + 5), .ref (m + 6), .ref (m + 7), .ref (m + 8), .ref (m + 9), .int (sI sn), .ref (m + 10), .ref (m + 11), .ref (m + 12), .ref (m + 13), .int (sI 0), .ref (m + 14), .ref (m + 15), .int (sI wn)]) rfl (fun M1 H locs hM1 hV => ?_)
  have hc2 : M1 m = some (mO m th ch tn ea sn 0 wn) := (congrFun hM1 m).trans (va_up_self M m _)
  refine si_const S dX11_readsTape_5 ?_
  refine lv_istore_n (lv' := [(1, .int (sI 0)), (0, .ref m)]) hx_ hb_ dX11_readsTape_6 rfl hl (by decide) rfl (fun ls hl => ?_)
  refine si_const S dX11_readsTape_7 ?_
  refine lv_istore_n (lv' := [(2, .int (sI 0)), (1, .int (sI 0)), (0, .ref m)]) hx_ hb_ dX11_readsTape_8 rfl hl (by decide) rfl (fun ls hl => ?_)
  have L9 : ∀ (fuel : Nat) (j : Int) (k : Int) (c2 : Int) (C2 : Int → Int) (V2 : Int → Int) (Ml9 : sM) (H : Heap) (locs : List Loc) (ls : Array Slot), ((tn - k).toNat) < fuel → (0 ≤ k ∧ k ≤ tn ∧ 0 ≤ j ∧ j ≤ 5 ∧ 0 ≤ c2 ∧ 6 * c2 + j ≤ k) → (rcI t tn k j c2 C2 V2) → (∀ o, 0 ≤ o → o ≤ c2 → (o < c2 ∨ 1 ≤ j) → 0 ≤ C2 o ∧ C2 o ≤ 531440) → (Ml9 m = some (mO m th ch tn ea sn c2 wn)) → (Ml9 (m + 12) = some (sArr G 60 C2)) → (Ml9 (m + 13) = some (sArr G 240 V2)) → (∀ x : Nat, ¬ (x = m) → ¬ (x = m + 12) → ¬ (x = m + 13) → Ml9 x = M1 x) → sV G b_ Ml9 N s_ H locs → lv_has ls 5 [(0, .ref m), (1, .int (sI j)), (2, .int (sI k))] → W p_ l_ e_ rmX11_readsTape s_ m_ args_ below_ meth_ c_ H locs 0 0 Q (F0 m_ 9 ls []) := by
    intro fuel
    induction fuel with
    | zero => intro j k c2 C2 V2 Ml9 H locs ls hmu; exact absurd hmu (Nat.not_lt_zero _)
    | succ fuel ih9 =>
      intro j k c2 C2 V2 Ml9 H locs ls hmu9 hv9_0 hri hcr hm9_0 hm9_1 hm9_2 hfr9 hV hl
      refine lv_iload_n hx_ hb_ dX11_readsTape_9 rfl (lv_at hl 2 rfl) ?_
      refine lv_aload_n hx_ hb_ dX11_readsTape_10 rfl (lv_at hl 0 rfl) ?_
      refine sc_get (ci := 9) (C := RX11) (T := TX11) (n := 22) S hK hV inX11_ hm9_0 rfl 5 (by decide) (S.2.2.2.2 _ (List.mem_of_getElem? (i := 2) rfl)) rfl rfl dX11_readsTape_11 ?_
      refine sb_ge (tgt := 269) S dX11_readsTape_14 (by decide) (by omega) (fun c3 => ?_) (fun c3 => ?_)
      · refine lv_iload_n hx_ hb_ dX11_readsTape_269 rfl (lv_at hl 1 rfl) ?_
        refine sz_ne (tgt := 277) S dX11_readsTape_270 (by decide) (by omega) (fun c4 => ?_) (fun c4 => ?_)
        · refine lv_aload_n hx_ hb_ dX11_readsTape_277 rfl (lv_at hl 0 rfl) ?_
          refine sc_get (ci := 9) (C := RX11) (T := TX11) (n := 22) S hK hV inX11_ hm9_0 rfl 5 (by decide) (S.2.2.2.2 _ (List.mem_of_getElem? (i := 2) rfl)) rfl rfl dX11_readsTape_278 ?_
          exact sr_i E hQ dX11_readsTape_281 ⟨Nat.le_of_ble_eq_true rfl, Nat.le_of_ble_eq_true rfl⟩ hV (⟨c2, C2, V2, by rw [(ri_end (by omega) (by omega) hri).1, if_neg (by omega)], rfl, hm9_0, hm9_1, hm9_2, fun x q0 q1 q2 => (hfr9 x (by omega) (by omega) (by omega)).trans ((congrFun hM1 x).trans (va_up_ne M _ (by omega))), by omega, by have h9 := (ri_end (by omega) (by omega) hri).1; rw [if_neg (by omega)] at h9; omega, fun h => by have h9 := (ri_end (by omega) (by omega) hri).1; rw [if_neg (by omega)] at h9; omega⟩)
        · refine si_const S dX11_readsTape_273 ?_
          refine lv_goto (tgt := 281) hx_ hb_ dX11_readsTape_274 (by decide) ?_
          exact sr_i E hQ dX11_readsTape_281 ⟨Nat.le_of_ble_eq_true rfl, Nat.le_of_ble_eq_true rfl⟩ hV (⟨c2, C2, V2, by rw [(ri_end (by omega) (by omega) hri).1, if_pos (by omega)], rfl, hm9_0, hm9_1, hm9_2, fun x q0 q1 q2 => (hfr9 x (by omega) (by omega) (by omega)).trans ((congrFun hM1 x).trans (va_up_ne M _ (by omega))), by omega, by have h9 := (ri_end (by omega) (by omega) hri).1; rw [if_pos (by omega)] at h9; omega, fun h => (ri_end (by omega) (by omega) hri).2 (by omega)⟩)
      · have hbk := ht.2.2 k (by omega) (by omega)
        refine lv_aload_n hx_ hb_ dX11_readsTape_17 rfl (lv_at hl 0 rfl) ?_
        refine sc_get (ci := 9) (C := RX11) (T := TX11) (n := 22) S hK hV inX11_ hm9_0 rfl 4 (by decide) (S.2.2.2.2 _ (List.mem_of_getElem? (i := 3) rfl)) rfl rfl dX11_readsTape_18 ?_
        refine lv_iload_n hx_ hb_ dX11_readsTape_21 rfl (lv_at hl 2 rfl) ?_
        have hc5 : Ml9 (m + 3) = some (sArr G 300 t) := ((hfr9 (m + 3) (by omega) (by omega) (by omega)).trans ((congrFun hM1 (m + 3)).trans (va_up_ne M _ (by omega)))).trans hm3
        refine sc_iald S hK hV hc5 (by omega) dX11_readsTape_22 ?_
        refine si_bipush S dX11_readsTape_23 (by decide) ?_
        refine sb_eq (tgt := 39) S dX11_readsTape_25 (by decide) (by omega) (fun c6 => ?_) (fun c6 => ?_)
        · refine si_inc (lv' := [(2, .int (sI (k + 1))), (0, .ref m), (1, .int (sI j))]) S dX11_readsTape_39 hl (k := 2) rfl (by decide) rfl (fun ls hl => ?_)
          refine lv_goto (tgt := 9) hx_ hb_ dX11_readsTape_42 (by decide) ?_
          exact ih9 j (k + 1) c2 C2 V2 Ml9 _ _ _ (by omega) (by omega) (ri_w (by omega) (Or.inl (by omega)) hri) (fun o x y z => hcr o x y (by omega)) hm9_0 hm9_1 hm9_2 (fun x q0 q1 q2 => hfr9 x (by omega) (by omega) (by omega)) hV (lv_sub hl [1, 2, 0] rfl)
        · refine lv_aload_n hx_ hb_ dX11_readsTape_28 rfl (lv_at hl 0 rfl) ?_
          refine sc_get (ci := 9) (C := RX11) (T := TX11) (n := 22) S hK hV inX11_ hm9_0 rfl 4 (by decide) (S.2.2.2.2 _ (List.mem_of_getElem? (i := 3) rfl)) rfl rfl dX11_readsTape_29 ?_
          refine lv_iload_n hx_ hb_ dX11_readsTape_32 rfl (lv_at hl 2 rfl) ?_
          refine sc_iald S hK hV hc5 (by omega) dX11_readsTape_33 ?_
          refine si_bipush S dX11_readsTape_34 (by decide) ?_
          refine sb_ne (tgt := 45) S dX11_readsTape_36 (by decide) (by omega) (fun c7 => ?_) (fun c7 => ?_)
          · have hws : ¬ wsP t k := fun q => by rcases q with q | q <;> omega
            refine lv_iload_n hx_ hb_ dX11_readsTape_45 rfl (lv_at hl 2 rfl) ?_
            refine lv_istore_n (lv' := [(3, .int (sI k)), (0, .ref m), (1, .int (sI j)), (2, .int (sI k))]) hx_ hb_ dX11_readsTape_46 rfl hl (by decide) rfl (fun ls hl => ?_)
            refine lv_iload_n hx_ hb_ dX11_readsTape_47 rfl (lv_at hl 2 rfl) ?_
            refine sz_ne (tgt := 134) S dX11_readsTape_48 (by decide) (by omega) (fun c8 => ?_) (fun c8 => ?_)
            · refine lv_iload_n hx_ hb_ dX11_readsTape_134 rfl (lv_at hl 2 rfl) ?_
              refine si_const S dX11_readsTape_135 ?_
              refine sb_ge (tgt := 233) S dX11_readsTape_136 (by decide) (by omega) (fun c9 => ?_) (fun c9 => ?_)
              · have hri5 : rcI t tn k 5 c2 C2 V2 := by have hj5 : j = 5 := (by omega); rw [hj5] at hri; exact hri
                refine lv_aload_n hx_ hb_ dX11_readsTape_233 rfl (lv_at hl 1 rfl) ?_
                refine sc_get (ci := 9) (C := RX11) (T := TX11) (n := 22) S hK hV inX11_ hm9_0 rfl 4 (by decide) (S.2.2.2.2 _ (List.mem_of_getElem? (i := 3) rfl)) rfl rfl dX11_readsTape_234 ?_
                refine lv_iload_n hx_ hb_ dX11_readsTape_237 rfl (lv_at hl 3 rfl) ?_
                refine sc_iald S hK hV hc5 (by omega) dX11_readsTape_238 ?_
                refine si_bipush S dX11_readsTape_239 (by decide) ?_
                refine sb_eq (tgt := 246) S dX11_readsTape_241 (by decide) (by omega) (fun h241 => ?_) (fun h241 => ?_)
                · refine si_inc (lv' := [(2, .int (sI (k + 1))), (3, .int (sI k)), (0, .ref m), (1, .int (sI j))]) S dX11_readsTape_246 hl (k := 3) rfl (by decide) rfl (fun ls hl => ?_)
                  refine lv_aload_n hx_ hb_ dX11_readsTape_249 rfl (lv_at hl 2 rfl) ?_
                  refine lv_dup hx_ hb_ dX11_readsTape_250 rfl ?_
                  refine sc_get (ci := 9) (C := RX11) (T := TX11) (n := 22) S hK hV inX11_ hm9_0 rfl 18 (by decide) (S.2.2.2.2 _ (List.mem_of_getElem? (i := 1) rfl)) rfl rfl dX11_readsTape_251 ?_
                  refine si_const S dX11_readsTape_254 ?_
                  refine si_add S dX11_readsTape_255 ?_
                  refine sc_put (ci := 9) (C := RX11) (T := TX11) (n := 22) S hK hV inX11_ tyX11_ok nmX11 hm9_0 rfl 18 (by decide) (S.2.2.2.2 _ (List.mem_of_getElem? (i := 1) rfl)) rfl rfl rfl rfl (Nat.le_of_ble_eq_true rfl) dX11_readsTape_256 (fs1 := [.int (sI th), .ref (m + 1), .ref (m + 2), .int (sI ch), .ref (m + 3), .int (sI tn), .int (sI ea), .ref (m + 4), .ref (m + 5), .ref (m + 6), .ref (m + 7), .ref (m + 8), .ref (m + 9), .int (sI sn), .ref (m + 10), .ref (m + 11), .ref (m + 12), .ref (m + 13), .int (sI (c2 + 1)), .ref (m + 14), .ref (m + 15), .int (sI wn)]) rfl (fun M10 H locs hM10 hV => ?_)
                  have hc11 : M10 m = some (mO m th ch tn ea sn (c2 + 1) wn) := (congrFun hM10 m).trans (va_up_self Ml9 m _)
                  refine lv_iload_n hx_ hb_ dX11_readsTape_259 rfl (lv_at hl 3 rfl) ?_
                  refine si_const S dX11_readsTape_260 ?_
                  refine si_add S dX11_readsTape_261 ?_
                  refine si_bipush S dX11_readsTape_262 (by decide) ?_
                  refine si_remN S dX11_readsTape_264 (by omega) ?_
                  refine lv_istore_n (lv' := [(1, .int (sI ((j + 1) % 6))), (2, .int (sI (k + 1))), (3, .int (sI k)), (0, .ref m)]) hx_ hb_ dX11_readsTape_265 rfl hl (by decide) rfl (fun ls hl => ?_)
                  refine lv_goto (tgt := 9) hx_ hb_ dX11_readsTape_266 (by decide) ?_
                  have hc12 : M10 (m + 12) = some (sArr G 60 C2) := ((congrFun hM10 (m + 12)).trans (va_up_ne Ml9 _ (by omega))).trans hm9_1
                  have hc13 : M10 (m + 13) = some (sArr G 240 V2) := ((congrFun hM10 (m + 13)).trans (va_up_ne Ml9 _ (by omega))).trans hm9_2
                  exact ih9 ((j + 1) % 6) (k + 1) (c2 + 1) C2 V2 M10 _ _ _ (by omega) (by omega) (by rw [show (j + 1) % 6 = 0 by omega]; exact ri_5t hri5 hws (by omega) (by omega)) (fun o x y z => by by_cases e9 : o = c2; exact hcr o x (by omega) (by omega); exact hcr o x (by omega) (by omega)) hc11 hc12 hc13 (fun x q0 q1 q2 => ((congrFun hM10 x).trans (va_up_ne Ml9 _ (by omega))).trans (hfr9 x (by omega) (by omega) (by omega))) hV (lv_sub hl [3, 0, 1] rfl)
                · refine lv_iload_n hx_ hb_ dX11_readsTape_244 rfl (lv_at hl 0 rfl) ?_
                  have hEr : rcE t tn = k := ri_er hri5 (by omega) (fun F C V _ => rc_5f (ws_0 (by omega) hws) (by omega) (by omega) h241)
                  exact sr_i E hQ dX11_readsTape_245 ⟨Nat.le_of_ble_eq_true rfl, Nat.le_of_ble_eq_true rfl⟩ hV (⟨c2, C2, V2, hEr.symm, rfl, hm9_0, hm9_1, hm9_2, fun x q0 q1 q2 => (hfr9 x (by omega) (by omega) (by omega)).trans ((congrFun hM1 x).trans (va_up_ne M _ (by omega))), by omega, by omega, fun h => by omega⟩)
              · refine si_const S dX11_readsTape_139 ?_
                refine lv_istore (lv' := [(4, .int (sI 0)), (3, .int (sI k)), (0, .ref m), (1, .int (sI j)), (2, .int (sI k))]) hx_ hb_ dX11_readsTape_140 hl (by decide) rfl (fun ls hl => ?_)
                have L142 : ∀ (fuel : Nat) (e : Int) (v : Int)  (H : Heap) (locs : List Loc) (ls : Array Slot), ((tn - e).toNat) < fuel → (k ≤ e ∧ e ≤ tn) → (∀ i, k ≤ i → i < e → dgP t tn i) → (v = dgV t k (min (e - k) 5).toNat) → sV G b_ Ml9 N s_ H locs → lv_has ls 5 [(0, .ref m), (1, .int (sI j)), (2, .int (sI e)), (3, .int (sI k)), (4, .int (sI v))] → W p_ l_ e_ rmX11_readsTape s_ m_ args_ below_ meth_ c_ H locs 0 0 Q (F0 m_ 142 ls []) := by
                  intro fuel
                  induction fuel with
                  | zero => intro e v H locs ls hmu; exact absurd hmu (Nat.not_lt_zero _)
                  | succ fuel ih142 =>
                    intro e v H locs ls hmu142 hv142_0 hdg hv  hV hl
                    refine lv_aload_n hx_ hb_ dX11_readsTape_142 rfl (lv_at hl 0 rfl) ?_
                    refine lv_iload_n hx_ hb_ dX11_readsTape_143 rfl (lv_at hl 2 rfl) ?_
                    refine sk_VP E hV (As := [.int (sI e)]) (rest := []) (kX11_isDigit l_ G b_ Ml9 N m th ch tn ea sn c2 wn t e hm9_0 hc5 (by omega) (by omega) (ht)) (cwV 1 S.2.2.2.2 gX11_readsTape_X11_isDigit rfl rfl rfl (by decide +kernel) ⟨Nat.le_of_ble_eq_true rfl, Nat.le_of_ble_eq_true rfl⟩) (ci := 9) hm9_0 rfl rfl rfl hl.1 (Nat.le_of_ble_eq_true rfl) dX11_readsTape_144 (c1 := 0) (s1 := 0) ⟨⟨rfl, rfl⟩, by decide, by decide⟩ (fun H locs hV => ?_)
                    refine sq_eq (tgt := 180) S dX11_readsTape_147 (by decide) (fun h147 => ?_) (fun h147 => ?_)
                    · have hE : reE (dgP t tn) tn k = e := reE_eq (by omega) hdg (fun _ => h147)
                      refine lv_iload_n hx_ hb_ dX11_readsTape_180 rfl (lv_at hl 2 rfl) ?_
                      refine lv_iload_n hx_ hb_ dX11_readsTape_181 rfl (lv_at hl 3 rfl) ?_
                      refine si_sub S dX11_readsTape_182 ?_
                      refine si_const S dX11_readsTape_183 ?_
                      refine si_const S dX11_readsTape_184 ?_
                      refine sk_SP E hV (As := [.int (sI (e - k)), .int (sI 1), .int (sI 5)]) (rest := []) (kX11_in l_ G b_ Ml9 N (e - k) 1 5 (by omega)) (va_cwS 3 S.2.2.2.2 gX11_readsTape_X11_in rfl rfl rfl (by decide +kernel) ⟨Nat.le_of_ble_eq_true rfl, Nat.le_of_ble_eq_true rfl⟩) rfl rfl hl.1 (Nat.le_of_ble_eq_true rfl) dX11_readsTape_185 (c1 := 0) (s1 := 0) ⟨⟨rfl, rfl⟩, by decide, by decide⟩ (fun H locs hV => ?_)
                      refine sq_eq (tgt := 211) S dX11_readsTape_188 (by decide) (fun h188 => ?_) (fun h188 => ?_)
                      · refine lv_iload_n hx_ hb_ dX11_readsTape_211 rfl (lv_at hl 3 rfl) ?_
                        have hEr : rcE t tn = k := ri_er hri (by omega) (fun F C V _ => rc_nf (ws_0 (by omega) hws) (by omega) (by omega) hE (fun q => h188 q.1))
                        exact sr_i E hQ dX11_readsTape_212 ⟨Nat.le_of_ble_eq_true rfl, Nat.le_of_ble_eq_true rfl⟩ hV (⟨c2, C2, V2, hEr.symm, rfl, hm9_0, hm9_1, hm9_2, fun x q0 q1 q2 => (hfr9 x (by omega) (by omega) (by omega)).trans ((congrFun hM1 x).trans (va_up_ne M _ (by omega))), by omega, by omega, fun h => by omega⟩)
                      · have hv2 : dgV t k (e - k).toNat = v := by rw [hv, show min (e - k) 5 = e - k by omega]
                        have hvr := dgV_5 (t := t) (n := tn) (a := k) (m := e - k) (by omega) (fun i x y => hdg i x (by omega))
                        refine lv_iload hx_ hb_ dX11_readsTape_191 (lv_at hl 4 rfl) ?_
                        refine lv_iload_n hx_ hb_ dX11_readsTape_193 rfl (lv_at hl 1 rfl) ?_
                        refine si_const S dX11_readsTape_194 ?_
                        refine si_sub S dX11_readsTape_195 ?_
                        refine sk_SP E hV (As := [.int (sI (j - 1))]) (rest := [.int (sI v)]) (kX11_least l_ G b_ Ml9 N (j - 1) (by omega)) (va_cwS 1 S.2.2.2.2 gX11_readsTape_X11_least rfl rfl rfl (by decide +kernel) ⟨Nat.le_of_ble_eq_true rfl, Nat.le_of_ble_eq_true rfl⟩) rfl rfl hl.1 (Nat.le_of_ble_eq_true rfl) dX11_readsTape_196 (c1 := 0) (s1 := 0) ⟨⟨rfl, rfl⟩, by decide, by decide⟩ (fun H locs hV => ?_)
                        have kn14 := ls_r (j - 1)
                        refine lv_iload_n hx_ hb_ dX11_readsTape_199 rfl (lv_at hl 1 rfl) ?_
                        refine si_const S dX11_readsTape_200 ?_
                        refine si_sub S dX11_readsTape_201 ?_
                        refine sk_SP E hV (As := [.int (sI (j - 1))]) (rest := [.int (sI (lsI (j - 1))), .int (sI v)]) (kX11_greatest l_ G b_ Ml9 N (j - 1) (by omega)) (va_cwS 1 S.2.2.2.2 gX11_readsTape_X11_greatest rfl rfl rfl (by decide +kernel) ⟨Nat.le_of_ble_eq_true rfl, Nat.le_of_ble_eq_true rfl⟩) rfl rfl hl.1 (Nat.le_of_ble_eq_true rfl) dX11_readsTape_202 (c1 := 0) (s1 := 0) ⟨⟨rfl, rfl⟩, by decide, by decide⟩ (fun H locs hV => ?_)
                        have kn15 := gr_r (j - 1)
                        refine sk_SP E hV (As := [.int (sI v), .int (sI (lsI (j - 1))), .int (sI (grI (j - 1)))]) (rest := []) (kX11_in l_ G b_ Ml9 N v (lsI (j - 1)) (grI (j - 1)) (by omega)) (va_cwS 3 S.2.2.2.2 gX11_readsTape_X11_in rfl rfl rfl (by decide +kernel) ⟨Nat.le_of_ble_eq_true rfl, Nat.le_of_ble_eq_true rfl⟩) rfl rfl hl.1 (Nat.le_of_ble_eq_true rfl) dX11_readsTape_205 (c1 := 0) (s1 := 0) ⟨⟨rfl, rfl⟩, by decide, by decide⟩ (fun H locs hV => ?_)
                        refine sq_ne (tgt := 213) S dX11_readsTape_208 (by decide) (fun h208 => ?_) (fun h208 => ?_)
                        · refine lv_aload_n hx_ hb_ dX11_readsTape_213 rfl (lv_at hl 0 rfl) ?_
                          refine sc_get (ci := 9) (C := RX11) (T := TX11) (n := 22) S hK hV inX11_ hm9_0 rfl 17 (by decide) (S.2.2.2.2 _ (List.mem_of_getElem? (i := 5) rfl)) rfl rfl dX11_readsTape_214 ?_
                          refine si_const S dX11_readsTape_217 ?_
                          refine lv_aload_n hx_ hb_ dX11_readsTape_218 rfl (lv_at hl 0 rfl) ?_
                          refine sc_get (ci := 9) (C := RX11) (T := TX11) (n := 22) S hK hV inX11_ hm9_0 rfl 18 (by decide) (S.2.2.2.2 _ (List.mem_of_getElem? (i := 1) rfl)) rfl rfl dX11_readsTape_219 ?_
                          refine si_mul S dX11_readsTape_222 ?_
                          refine lv_iload_n hx_ hb_ dX11_readsTape_223 rfl (lv_at hl 1 rfl) ?_
                          refine si_add S dX11_readsTape_224 ?_
                          refine si_const S dX11_readsTape_225 ?_
                          refine si_sub S dX11_readsTape_226 ?_
                          refine lv_iload hx_ hb_ dX11_readsTape_227 (lv_at hl 4 rfl) ?_
                          refine sc_iast S hK hV hm9_2 (by omega) dX11_readsTape_229 (fun M16 H locs hM16 hV => ?_)
                          have hc17 : M16 (m + 13) = some (sArr G 240 (iup V2 (((4 * c2) + j) - 1) v)) := (congrFun hM16 (m + 13)).trans (va_up_self Ml9 (m + 13) _)
                          refine lv_goto (tgt := 259) hx_ hb_ dX11_readsTape_230 (by decide) ?_
                          refine lv_iload_n hx_ hb_ dX11_readsTape_259 rfl (lv_at hl 1 rfl) ?_
                          refine si_const S dX11_readsTape_260 ?_
                          refine si_add S dX11_readsTape_261 ?_
                          refine si_bipush S dX11_readsTape_262 (by decide) ?_
                          refine si_remN S dX11_readsTape_264 (by omega) ?_
                          refine lv_istore_n (lv' := [(1, .int (sI ((j + 1) % 6))), (0, .ref m), (2, .int (sI e)), (3, .int (sI k)), (4, .int (sI v))]) hx_ hb_ dX11_readsTape_265 rfl hl (by decide) rfl (fun ls hl => ?_)
                          refine lv_goto (tgt := 9) hx_ hb_ dX11_readsTape_266 (by decide) ?_
                          have hc18 : M16 m = some (mO m th ch tn ea sn c2 wn) := ((congrFun hM16 m).trans (va_up_ne Ml9 _ (by omega))).trans hm9_0
                          have hc19 : M16 (m + 12) = some (sArr G 60 C2) := ((congrFun hM16 (m + 12)).trans (va_up_ne Ml9 _ (by omega))).trans hm9_1
                          exact ih9 ((j + 1) % 6) e c2 C2 (iup V2 (((4 * c2) + j) - 1) v) M16 _ _ _ (by omega) (by omega) (by rw [show (j + 1) % 6 = j + 1 by omega]; have h9 := ri_nt hri hws (by omega) (by omega) hE (by omega) (by rw [hv2]; exact (ir_i (by omega)).mp h208); rw [hv2] at h9; exact h9) (fun o x y z => hcr o x y (by omega)) hc18 hc19 hc17 (fun x q0 q1 q2 => ((congrFun hM16 x).trans (va_up_ne Ml9 _ (by omega))).trans (hfr9 x (by omega) (by omega) (by omega))) hV (lv_sub hl [1, 0, 2] rfl)
                        · refine lv_iload_n hx_ hb_ dX11_readsTape_211 rfl (lv_at hl 3 rfl) ?_
                          have hEr : rcE t tn = k := ri_er hri (by omega) (fun F C V _ => rc_nf (ws_0 (by omega) hws) (by omega) (by omega) hE (fun q => h208 ((ir_i (by omega)).mpr (by have h9 := q.2; rw [hv2] at h9; exact h9))))
                          exact sr_i E hQ dX11_readsTape_212 ⟨Nat.le_of_ble_eq_true rfl, Nat.le_of_ble_eq_true rfl⟩ hV (⟨c2, C2, V2, hEr.symm, rfl, hm9_0, hm9_1, hm9_2, fun x q0 q1 q2 => (hfr9 x (by omega) (by omega) (by omega)).trans ((congrFun hM1 x).trans (va_up_ne M _ (by omega))), by omega, by omega, fun h => by omega⟩)
                    · have hdl := h147.1
                      refine lv_iload_n hx_ hb_ dX11_readsTape_150 rfl (lv_at hl 2 rfl) ?_
                      refine lv_iload_n hx_ hb_ dX11_readsTape_151 rfl (lv_at hl 3 rfl) ?_
                      refine si_sub S dX11_readsTape_152 ?_
                      refine si_const S dX11_readsTape_153 ?_
                      refine sb_ge (tgt := 174) S dX11_readsTape_154 (by decide) (by omega) (fun c20 => ?_) (fun c20 => ?_)
                      · refine si_inc (lv' := [(2, .int (sI (e + 1))), (0, .ref m), (1, .int (sI j)), (3, .int (sI k)), (4, .int (sI v))]) S dX11_readsTape_174 hl (k := 2) rfl (by decide) rfl (fun ls hl => ?_)
                        refine lv_goto (tgt := 142) hx_ hb_ dX11_readsTape_177 (by decide) ?_
                        exact ih142 (e + 1) v _ _ _ (by omega) (by omega) (fun i x y => by by_cases e9 : i = e; exact (by rw [e9]; exact h147); exact hdg i x (by omega)) (by rw [show min (e + 1 - k) 5 = 5 by omega, hv, show min (e - k) 5 = 5 by omega]) hV (lv_sub hl [1, 2, 0, 3, 4] rfl)
                      · refine si_bipush S dX11_readsTape_157 (by decide) ?_
                        refine lv_iload hx_ hb_ dX11_readsTape_159 (lv_at hl 4 rfl) ?_
                        refine si_mul S dX11_readsTape_161 ?_
                        refine lv_aload_n hx_ hb_ dX11_readsTape_162 rfl (lv_at hl 0 rfl) ?_
                        refine sc_get (ci := 9) (C := RX11) (T := TX11) (n := 22) S hK hV inX11_ hm9_0 rfl 4 (by decide) (S.2.2.2.2 _ (List.mem_of_getElem? (i := 3) rfl)) rfl rfl dX11_readsTape_163 ?_
                        refine lv_iload_n hx_ hb_ dX11_readsTape_166 rfl (lv_at hl 2 rfl) ?_
                        refine sc_iald S hK hV hc5 (by omega) dX11_readsTape_167 ?_
                        refine si_add S dX11_readsTape_168 ?_
                        refine si_bipush S dX11_readsTape_169 (by decide) ?_
                        refine si_sub S dX11_readsTape_171 ?_
                        refine lv_istore (lv' := [(4, .int (sI (((10 * v) + (t e)) - 48))), (0, .ref m), (1, .int (sI j)), (2, .int (sI e)), (3, .int (sI k))]) hx_ hb_ dX11_readsTape_172 hl (by decide) rfl (fun ls hl => ?_)
                        refine si_inc (lv' := [(2, .int (sI (e + 1))), (4, .int (sI (((10 * v) + (t e)) - 48))), (0, .ref m), (1, .int (sI j)), (3, .int (sI k))]) S dX11_readsTape_174 hl (k := 3) rfl (by decide) rfl (fun ls hl => ?_)
                        refine lv_goto (tgt := 142) hx_ hb_ dX11_readsTape_177 (by decide) ?_
                        exact ih142 (e + 1) (((10 * v) + (t e)) - 48) _ _ _ (by omega) (by omega) (fun i x y => by by_cases e9 : i = e; exact (by rw [e9]; exact h147); exact hdg i x (by omega)) (by rw [show min (e + 1 - k) 5 = e - k + 1 by omega, dgV_s _ _ _ (by omega), hv, show min (e - k) 5 = e - k by omega, show k + (e - k) = e by omega]) hV (lv_sub hl [2, 3, 0, 4, 1] rfl)
                exact L142 _ k 0 _ _ _ (Nat.lt_succ_self _) (by omega) (fun i x y => by omega) (by rw [show min (k - k) 5 = 0 by omega]; rfl) hV (lv_sub hl [2, 3, 4, 1, 0] rfl)
            · have hri0 : rcI t tn k 0 c2 C2 V2 := by have hj0 : j = 0 := (by omega); rw [hj0] at hri; exact hri
              have L51 : ∀ (fuel : Nat) (e : Int)  (H : Heap) (locs : List Loc) (ls : Array Slot), ((tn - e).toNat) < fuel → (k ≤ e ∧ e ≤ tn) → (∀ i, k ≤ i → i < e → ltP t tn i) → sV G b_ Ml9 N s_ H locs → lv_has ls 5 [(0, .ref m), (1, .int (sI j)), (2, .int (sI e)), (3, .int (sI k))] → W p_ l_ e_ rmX11_readsTape s_ m_ args_ below_ meth_ c_ H locs 0 0 Q (F0 m_ 51 ls []) := by
                intro fuel
                induction fuel with
                | zero => intro e H locs ls hmu; exact absurd hmu (Nat.not_lt_zero _)
                | succ fuel ih51 =>
                  intro e H locs ls hmu51 hv51_0 hlt  hV hl
                  refine lv_aload_n hx_ hb_ dX11_readsTape_51 rfl (lv_at hl 0 rfl) ?_
                  refine lv_iload_n hx_ hb_ dX11_readsTape_52 rfl (lv_at hl 2 rfl) ?_
                  refine sk_VP E hV (As := [.int (sI e)]) (rest := []) (kX11_isLetter l_ G b_ Ml9 N m th ch tn ea sn c2 wn t e hm9_0 hc5 (by omega) (by omega) (ht)) (cwV 1 S.2.2.2.2 gX11_readsTape_X11_isLetter rfl rfl rfl (by decide +kernel) ⟨Nat.le_of_ble_eq_true rfl, Nat.le_of_ble_eq_true rfl⟩) (ci := 9) hm9_0 rfl rfl rfl hl.1 (Nat.le_of_ble_eq_true rfl) dX11_readsTape_53 (c1 := 0) (s1 := 0) ⟨⟨rfl, rfl⟩, by decide, by decide⟩ (fun H locs hV => ?_)
                  refine sq_eq (tgt := 65) S dX11_readsTape_56 (by decide) (fun h56 => ?_) (fun h56 => ?_)
                  · have hE : reE (ltP t tn) tn k = e := reE_eq (by omega) hlt (fun _ => h56)
                    have hcoa := coA_b t tn k
                    refine lv_iload_n hx_ hb_ dX11_readsTape_65 rfl (lv_at hl 2 rfl) ?_
                    refine lv_iload_n hx_ hb_ dX11_readsTape_66 rfl (lv_at hl 3 rfl) ?_
                    refine si_sub S dX11_readsTape_67 ?_
                    refine si_const S dX11_readsTape_68 ?_
                    refine si_const S dX11_readsTape_69 ?_
                    refine sk_SP E hV (As := [.int (sI (e - k)), .int (sI 1), .int (sI 4)]) (rest := []) (kX11_in l_ G b_ Ml9 N (e - k) 1 4 (by omega)) (va_cwS 3 S.2.2.2.2 gX11_readsTape_X11_in rfl rfl rfl (by decide +kernel) ⟨Nat.le_of_ble_eq_true rfl, Nat.le_of_ble_eq_true rfl⟩) rfl rfl hl.1 (Nat.le_of_ble_eq_true rfl) dX11_readsTape_70 (c1 := 0) (s1 := 0) ⟨⟨rfl, rfl⟩, by decide, by decide⟩ (fun H locs hV => ?_)
                    refine sq_ne (tgt := 78) S dX11_readsTape_73 (by decide) (fun h73 => ?_) (fun h73 => ?_)
                    · refine lv_aload_n hx_ hb_ dX11_readsTape_78 rfl (lv_at hl 0 rfl) ?_
                      refine sc_get (ci := 9) (C := RX11) (T := TX11) (n := 22) S hK hV inX11_ hm9_0 rfl 16 (by decide) (S.2.2.2.2 _ (List.mem_of_getElem? (i := 4) rfl)) rfl rfl dX11_readsTape_79 ?_
                      refine lv_aload_n hx_ hb_ dX11_readsTape_82 rfl (lv_at hl 0 rfl) ?_
                      refine sc_get (ci := 9) (C := RX11) (T := TX11) (n := 22) S hK hV inX11_ hm9_0 rfl 18 (by decide) (S.2.2.2.2 _ (List.mem_of_getElem? (i := 1) rfl)) rfl rfl dX11_readsTape_83 ?_
                      refine lv_aload_n hx_ hb_ dX11_readsTape_86 rfl (lv_at hl 0 rfl) ?_
                      refine lv_iload_n hx_ hb_ dX11_readsTape_87 rfl (lv_at hl 3 rfl) ?_
                      refine sk_VP E hV (As := [.int (sI k)]) (rest := [.int (sI c2), .ref (m + 12)]) (kX11_codeAt l_ G b_ Ml9 N m th ch tn ea sn c2 wn t k hm9_0 hc5 (by omega) (by omega) (ht)) (cwV 1 S.2.2.2.2 gX11_readsTape_X11_codeAt rfl rfl rfl (by decide +kernel) ⟨Nat.le_of_ble_eq_true rfl, Nat.le_of_ble_eq_true rfl⟩) (ci := 9) hm9_0 rfl rfl rfl hl.1 (Nat.le_of_ble_eq_true rfl) dX11_readsTape_88 (c1 := 0) (s1 := 0) ⟨⟨rfl, rfl⟩, by decide, by decide⟩ (fun H locs hV => ?_)
                      refine sc_iast S hK hV hm9_1 (by omega) dX11_readsTape_91 (fun M21 H locs hM21 hV => ?_)
                      have hc22 : M21 (m + 12) = some (sArr G 60 (iup C2 c2 (coA t tn k))) := (congrFun hM21 (m + 12)).trans (va_up_self Ml9 (m + 12) _)
                      refine si_const S dX11_readsTape_92 ?_
                      refine lv_istore (lv' := [(4, .int (sI 0)), (0, .ref m), (1, .int (sI j)), (2, .int (sI e)), (3, .int (sI k))]) hx_ hb_ dX11_readsTape_93 hl (by decide) rfl (fun ls hl => ?_)
                      have L95 : ∀ (fuel : Nat) (o : Int)  (H : Heap) (locs : List Loc) (ls : Array Slot), ((c2 - o).toNat) < fuel → (0 ≤ o ∧ o ≤ c2) → (∀ x, 0 ≤ x → x < o → ¬ C2 x = coA t tn k) → sV G b_ M21 N s_ H locs → lv_has ls 5 [(0, .ref m), (1, .int (sI j)), (2, .int (sI e)), (3, .int (sI k)), (4, .int (sI o))] → W p_ l_ e_ rmX11_readsTape s_ m_ args_ below_ meth_ c_ H locs 0 0 Q (F0 m_ 95 ls []) := by
                        intro fuel
                        induction fuel with
                        | zero => intro o H locs ls hmu; exact absurd hmu (Nat.not_lt_zero _)
                        | succ fuel ih95 =>
                          intro o H locs ls hmu95 hv95_0 hno  hV hl
                          refine lv_iload hx_ hb_ dX11_readsTape_95 (lv_at hl 4 rfl) ?_
                          refine lv_aload_n hx_ hb_ dX11_readsTape_97 rfl (lv_at hl 0 rfl) ?_
                          have hc23 : M21 m = some (mO m th ch tn ea sn c2 wn) := ((congrFun hM21 m).trans (va_up_ne Ml9 _ (by omega))).trans hm9_0
                          refine sc_get (ci := 9) (C := RX11) (T := TX11) (n := 22) S hK hV inX11_ hc23 rfl 18 (by decide) (S.2.2.2.2 _ (List.mem_of_getElem? (i := 1) rfl)) rfl rfl dX11_readsTape_98 ?_
                          refine sb_ge (tgt := 131) S dX11_readsTape_101 (by decide) (by omega) (fun c24 => ?_) (fun c24 => ?_)
                          · refine lv_goto (tgt := 259) hx_ hb_ dX11_readsTape_131 (by decide) ?_
                            refine lv_iload_n hx_ hb_ dX11_readsTape_259 rfl (lv_at hl 1 rfl) ?_
                            refine si_const S dX11_readsTape_260 ?_
                            refine si_add S dX11_readsTape_261 ?_
                            refine si_bipush S dX11_readsTape_262 (by decide) ?_
                            refine si_remN S dX11_readsTape_264 (by omega) ?_
                            refine lv_istore_n (lv' := [(1, .int (sI ((j + 1) % 6))), (0, .ref m), (2, .int (sI e)), (3, .int (sI k)), (4, .int (sI o))]) hx_ hb_ dX11_readsTape_265 rfl hl (by decide) rfl (fun ls hl => ?_)
                            refine lv_goto (tgt := 9) hx_ hb_ dX11_readsTape_266 (by decide) ?_
                            have hc25 : M21 (m + 13) = some (sArr G 240 V2) := ((congrFun hM21 (m + 13)).trans (va_up_ne Ml9 _ (by omega))).trans hm9_2
                            exact ih9 ((j + 1) % 6) e c2 (iup C2 c2 (coA t tn k)) V2 M21 _ _ _ (by omega) (by omega) (by rw [show (j + 1) % 6 = 1 by omega]; exact ri_0t hri0 hws (by omega) hE (by omega) (by omega) (fun x a b => hno x a (by omega))) (fun o x y z => by unfold iup; by_cases e9 : o = c2; exact (by rw [if_pos e9]; have := coA_b t tn k; omega); exact (by rw [if_neg e9]; exact hcr o x y (by omega))) hc23 hc22 hc25 (fun x q0 q1 q2 => ((congrFun hM21 x).trans (va_up_ne Ml9 _ (by omega))).trans (hfr9 x (by omega) (by omega) (by omega))) hV (lv_sub hl [1, 0, 2] rfl)
                          · have hco := hcr o (by omega) (by omega) (by omega)
                            refine lv_aload_n hx_ hb_ dX11_readsTape_104 rfl (lv_at hl 0 rfl) ?_
                            refine sc_get (ci := 9) (C := RX11) (T := TX11) (n := 22) S hK hV inX11_ hc23 rfl 16 (by decide) (S.2.2.2.2 _ (List.mem_of_getElem? (i := 4) rfl)) rfl rfl dX11_readsTape_105 ?_
                            refine lv_iload hx_ hb_ dX11_readsTape_108 (lv_at hl 4 rfl) ?_
                            refine sc_iald S hK hV hc22 (by omega) dX11_readsTape_110 ?_
                            rw [show (iup C2 c2 (coA t tn k)) o = C2 o from by unfold iup; (repeat (first | rw [if_pos (by omega)] | rw [if_neg (by omega)]))]
                            refine lv_aload_n hx_ hb_ dX11_readsTape_111 rfl (lv_at hl 0 rfl) ?_
                            refine sc_get (ci := 9) (C := RX11) (T := TX11) (n := 22) S hK hV inX11_ hc23 rfl 16 (by decide) (S.2.2.2.2 _ (List.mem_of_getElem? (i := 4) rfl)) rfl rfl dX11_readsTape_112 ?_
                            refine lv_aload_n hx_ hb_ dX11_readsTape_115 rfl (lv_at hl 0 rfl) ?_
                            refine sc_get (ci := 9) (C := RX11) (T := TX11) (n := 22) S hK hV inX11_ hc23 rfl 18 (by decide) (S.2.2.2.2 _ (List.mem_of_getElem? (i := 1) rfl)) rfl rfl dX11_readsTape_116 ?_
                            refine sc_iald S hK hV hc22 (by omega) dX11_readsTape_119 ?_
                            rw [show (iup C2 c2 (coA t tn k)) c2 = coA t tn k from by unfold iup; (repeat (first | rw [if_pos (by omega)] | rw [if_neg (by omega)]))]
                            refine sb_ne (tgt := 125) S dX11_readsTape_120 (by decide) (by omega) (fun h120 => ?_) (fun h120 => ?_)
                            · refine si_inc (lv' := [(4, .int (sI (o + 1))), (0, .ref m), (1, .int (sI j)), (2, .int (sI e)), (3, .int (sI k))]) S dX11_readsTape_125 hl (k := 4) rfl (by decide) rfl (fun ls hl => ?_)
                              refine lv_goto (tgt := 95) hx_ hb_ dX11_readsTape_128 (by decide) ?_
                              exact ih95 (o + 1) _ _ _ (by omega) (by omega) (idx_st hno (by omega)) hV (lv_sub hl [1, 2, 3, 4, 0] rfl)
                            · refine lv_iload_n hx_ hb_ dX11_readsTape_123 rfl (lv_at hl 3 rfl) ?_
                              have hEr : rcE t tn = k := ri_er hri0 (by omega) (fun F C V h9 => rc_0f (ws_0 (by omega) hws) (by omega) rfl hE (fun q => q.2 ⟨o, by omega, by omega, by rw [← h9 o (by omega) (by rw [if_pos rfl]; omega)]; omega⟩))
                              have hc26 : M21 (m + 13) = some (sArr G 240 V2) := ((congrFun hM21 (m + 13)).trans (va_up_ne Ml9 _ (by omega))).trans hm9_2
                              exact sr_i E hQ dX11_readsTape_124 ⟨Nat.le_of_ble_eq_true rfl, Nat.le_of_ble_eq_true rfl⟩ hV (⟨c2, (iup C2 c2 (coA t tn k)), V2, hEr.symm, rfl, hc23, hc22, hc26, fun x q0 q1 q2 => (((congrFun hM21 x).trans (va_up_ne Ml9 _ (by omega))).trans (hfr9 x (by omega) (by omega) (by omega))).trans ((congrFun hM1 x).trans (va_up_ne M _ (by omega))), by omega, by omega, fun h => by omega⟩)
                      exact L95 _ 0 _ _ _ (Nat.lt_succ_self _) (by omega) (fun x a b => by omega) hV (lv_sub hl [1, 2, 3, 4, 0] rfl)
                    · refine lv_iload_n hx_ hb_ dX11_readsTape_76 rfl (lv_at hl 3 rfl) ?_
                      have hEr : rcE t tn = k := ri_er hri0 (by omega) (fun F C V _ => rc_0f (ws_0 (by omega) hws) (by omega) rfl hE (fun q => h73 q.1))
                      exact sr_i E hQ dX11_readsTape_77 ⟨Nat.le_of_ble_eq_true rfl, Nat.le_of_ble_eq_true rfl⟩ hV (⟨c2, C2, V2, hEr.symm, rfl, hm9_0, hm9_1, hm9_2, fun x q0 q1 q2 => (hfr9 x (by omega) (by omega) (by omega)).trans ((congrFun hM1 x).trans (va_up_ne M _ (by omega))), by omega, by omega, fun h => by omega⟩)
                  · have hll := h56.1
                    refine si_inc (lv' := [(2, .int (sI (e + 1))), (0, .ref m), (1, .int (sI j)), (3, .int (sI k))]) S dX11_readsTape_59 hl (k := 2) rfl (by decide) rfl (fun ls hl => ?_)
                    refine lv_goto (tgt := 51) hx_ hb_ dX11_readsTape_62 (by decide) ?_
                    exact ih51 (e + 1) _ _ _ (by omega) (by omega) (fun i x y => by by_cases e9 : i = e; exact (by rw [e9]; exact h56); exact hlt i x (by omega)) hV (lv_sub hl [1, 2, 0, 3] rfl)
              exact L51 _ k _ _ _ (Nat.lt_succ_self _) (by omega) (fun i x y => by omega) hV (lv_sub hl [1, 2, 3, 0] rfl)
          · refine si_inc (lv' := [(2, .int (sI (k + 1))), (0, .ref m), (1, .int (sI j))]) S dX11_readsTape_39 hl (k := 2) rfl (by decide) rfl (fun ls hl => ?_)
            refine lv_goto (tgt := 9) hx_ hb_ dX11_readsTape_42 (by decide) ?_
            exact ih9 j (k + 1) c2 C2 V2 Ml9 _ _ _ (by omega) (by omega) (ri_w (by omega) (Or.inr (by omega)) hri) (fun o x y z => hcr o x y (by omega)) hm9_0 hm9_1 hm9_2 (fun x q0 q1 q2 => hfr9 x (by omega) (by omega) (by omega)) hV (lv_sub hl [1, 2, 0] rfl)
  have hc27 : M1 (m + 12) = some (sArr G 60 cc) := ((congrFun hM1 (m + 12)).trans (va_up_ne M _ (by omega))).trans hm12
  have hc28 : M1 (m + 13) = some (sArr G 240 vv) := ((congrFun hM1 (m + 13)).trans (va_up_ne M _ (by omega))).trans hm13
  exact L9 _ 0 0 0 cc vv M1 _ _ _ (Nat.lt_succ_self _) (by omega) (ri_0 (by omega) _ _) (fun o x y z => by omega) hc2 hc27 hc28 (fun x q0 q1 q2 => rfl) hV (lv_sub hl [2, 1, 0] rfl)
