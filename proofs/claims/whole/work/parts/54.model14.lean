theorem ah_0 {A2 A3 f : sF} {s : Int} (h1 : ∀ q, 0 ≤ q → q < s → (0 ≤ A2 q ∧ A2 q ≤ 2147483647) ∧ ∀ o, 0 ≤ o → (tb (A2 q) o ↔ o < f 568 ∧ doP f o q)) (h2 : ∀ q, 0 ≤ q → q < s → A3 q = A2 q) (h3 : 0 ≤ A3 s ∧ A3 s ≤ 2147483647) {o : Int} (ho : f 568 ≤ o) (ho2 : o ≤ f 568) (h4 : ∀ x, 0 ≤ x → (tb (A3 s) x ↔ x < o ∧ doP f x s)) : ∀ q, 0 ≤ q → q < s + 1 → (0 ≤ A3 q ∧ A3 q ≤ 2147483647) ∧ ∀ o, 0 ≤ o → (tb (A3 q) o ↔ o < f 568 ∧ doP f o q) := fun q a b => by
  by_cases e : q = s
  · rw [e]
    have e2 : o = f 568 := by omega
    rw [e2] at h4
    exact ⟨h3, h4⟩
  · rw [h2 q a (by omega)]
    exact h1 q a (by omega)

abbrev rmX11_counts : Room := { frames := 2, cells := 0, slots := 0, locals := 63 }
set_option maxHeartbeats 4000000 in
set_option maxRecDepth 100000 in
theorem kX11_counts (l_ : Launch) (G : sG) (b_ : Nat) (M : sM) (N : Nat) (m : Nat) (th ch tn ea sn nm wn : Int) (f : sF) (A Wy R : sF) (hm0 : M m = some (mO m th ch tn ea sn nm wn)) (hm1 : M (m + 1) = some (sArr G 574 f)) (hm7 : M (m + 7) = some (sArr G 10 A)) (hm5 : M (m + 5) = some (sArr G 1024 Wy)) (hm6 : M (m + 6) = some (sArr G 1024 R)) (hok : sOk f) : cI l_ yX11_counts wsX11_counts rmX11_counts G b_ M N [.ref m] (fun z_ M1 N1 => ∃ A9 : Int → Int, ∃ W9 : Int → Int, ∃ R9 : Int → Int, z_ = totI f ∧ N1 = N ∧ M1 (m + 7) = some (sArr G 10 A9) ∧ M1 (m + 5) = some (sArr G 1024 W9) ∧ M1 (m + 6) = some (sArr G 1024 R9) ∧ (∀ x : Nat, ¬ (x = m + 7) → ¬ (x = m + 5) → ¬ (x = m + 6) → M1 x = M x) ∧ (ahP f A9) ∧ (ctP f W9 R9)) := by
  refine sE.ofI (cc := cX11_counts) (nL := 4) (ret := (some .int)) (by decide) rfl (Nat.le_of_ble_eq_true rfl) ?_
  intro p_ e_ s_ m_ args_ below_ meth_ c_ ls Q hQ E hl
  have E : sE p_ l_ e_ rmX11_counts s_ m_ args_ below_ meth_ c_ cX11_counts 4 wsX11_counts RX11 "counts" (some .int) G b_ M N := E
  have S := E.1
  have hx_ := S.1
  have hb_ := S.2.1
  have hK := E.2.2.2.2.1
  have hV := E.2.2.2.2.2.2
  have hl : lv_has ls 4 [(0, .ref m)] := hl
  have inX11_ : ∀ w ∈ wsX110, w ∈ wsX11_counts := fun _ h => List.mem_cons_of_mem _ (List.mem_append_right _ h)
  have kn0 := sOk_N hok
  have hp1 := p2_p (f 568)
  have hp2 := p2_10 (n := f 568) (by omega)
  refine si_const S dX11_counts_0 ?_
  refine lv_aload_n hx_ hb_ dX11_counts_1 rfl (lv_at hl 0 rfl) ?_
  refine sk_VP E hV (As := []) (rest := [.int (sI 1)]) (kX11_many l_ G b_ M N m th ch tn ea sn nm wn f hm0 hm1) (cwV 0 S.2.2.2.2 gX11_counts_X11_many rfl rfl rfl (by decide +kernel) ⟨Nat.le_of_ble_eq_true rfl, Nat.le_of_ble_eq_true rfl⟩) (ci := 9) hm0 rfl rfl rfl hl.1 (Nat.le_of_ble_eq_true rfl) dX11_counts_2 (c1 := 0) (s1 := 0) ⟨⟨rfl, rfl⟩, by decide, by decide⟩ (fun H locs hV => ?_)
  refine si_shl S dX11_counts_5 ?_
  rw [ishl_p2 (k := f 568) (by omega)]
  refine si_const S dX11_counts_6 ?_
  refine si_sub S dX11_counts_7 ?_
  refine lv_istore_n (lv' := [(1, .int (sI ((p2 (f 568)) - 1))), (0, .ref m)]) hx_ hb_ dX11_counts_8 rfl hl (by decide) rfl (fun ls hl => ?_)
  refine si_const S dX11_counts_9 ?_
  refine lv_istore_n (lv' := [(2, .int (sI 0)), (1, .int (sI ((p2 (f 568)) - 1))), (0, .ref m)]) hx_ hb_ dX11_counts_10 rfl hl (by decide) rfl (fun ls hl => ?_)
  have L11 : ∀ (fuel : Nat) (s : Int) (A2 : Int → Int) (Ml11 : sM) (H : Heap) (locs : List Loc) (ls : Array Slot), ((f 568 - s).toNat) < fuel → (0 ≤ s ∧ s ≤ f 568) → (∀ q, 0 ≤ q → q < s → (0 ≤ A2 q ∧ A2 q ≤ 2147483647) ∧ ∀ o, 0 ≤ o → (tb (A2 q) o ↔ o < f 568 ∧ doP f o q)) → (Ml11 (m + 7) = some (sArr G 10 A2)) → (∀ x : Nat, ¬ (x = m + 7) → Ml11 x = M x) → sV G b_ Ml11 N s_ H locs → lv_has ls 4 [(0, .ref m), (1, .int (sI ((p2 (f 568)) - 1))), (2, .int (sI s))] → W p_ l_ e_ rmX11_counts s_ m_ args_ below_ meth_ c_ H locs 0 0 Q (F0 m_ 11 ls []) := by
    intro fuel
    induction fuel with
    | zero => intro s A2 Ml11 H locs ls hmu; exact absurd hmu (Nat.not_lt_zero _)
    | succ fuel ih11 =>
      intro s A2 Ml11 H locs ls hmu11 hv11_0 hA hm11_0 hfr11 hV hl
      refine lv_iload_n hx_ hb_ dX11_counts_11 rfl (lv_at hl 2 rfl) ?_
      refine lv_aload_n hx_ hb_ dX11_counts_12 rfl (lv_at hl 0 rfl) ?_
      have hc1 : Ml11 m = some (mO m th ch tn ea sn nm wn) := (hfr11 m (by omega)).trans hm0
      have hc2 : Ml11 (m + 1) = some (sArr G 574 f) := (hfr11 (m + 1) (by omega)).trans hm1
      refine sk_VP E hV (As := []) (rest := [.int (sI s)]) (kX11_many l_ G b_ Ml11 N m th ch tn ea sn nm wn f hc1 hc2) (cwV 0 S.2.2.2.2 gX11_counts_X11_many rfl rfl rfl (by decide +kernel) ⟨Nat.le_of_ble_eq_true rfl, Nat.le_of_ble_eq_true rfl⟩) (ci := 9) hc1 rfl rfl rfl hl.1 (Nat.le_of_ble_eq_true rfl) dX11_counts_13 (c1 := 0) (s1 := 0) ⟨⟨rfl, rfl⟩, by decide, by decide⟩ (fun H locs hV => ?_)
      refine sb_ge (tgt := 73) S dX11_counts_16 (by decide) (by omega) (fun c3 => ?_) (fun c3 => ?_)
      · have hA9 : ahP f A2 := fun q a b => hA q a (by omega)
        refine si_const S dX11_counts_73 ?_
        refine lv_istore_n (lv' := [(2, .int (sI 0)), (0, .ref m), (1, .int (sI ((p2 (f 568)) - 1)))]) hx_ hb_ dX11_counts_74 rfl hl (by decide) rfl (fun ls hl => ?_)
        have L75 : ∀ (fuel : Nat) (v : Int) (W2 : Int → Int) (Ml75 : sM) (H : Heap) (locs : List Loc) (ls : Array Slot), ((p2 (f 568) - v).toNat) < fuel → (0 ≤ v ∧ v ≤ p2 (f 568)) → (∀ u, 0 ≤ u → u < v → W2 u = if u = 0 then 1 else 0) → (Ml75 (m + 5) = some (sArr G 1024 W2)) → (∀ x : Nat, ¬ (x = m + 5) → Ml75 x = Ml11 x) → sV G b_ Ml75 N s_ H locs → lv_has ls 4 [(0, .ref m), (1, .int (sI ((p2 (f 568)) - 1))), (2, .int (sI v))] → W p_ l_ e_ rmX11_counts s_ m_ args_ below_ meth_ c_ H locs 0 0 Q (F0 m_ 75 ls []) := by
          intro fuel
          induction fuel with
          | zero => intro v W2 Ml75 H locs ls hmu; exact absurd hmu (Nat.not_lt_zero _)
          | succ fuel ih75 =>
            intro v W2 Ml75 H locs ls hmu75 hv75_0 hW2 hm75_0 hfr75 hV hl
            refine lv_iload_n hx_ hb_ dX11_counts_75 rfl (lv_at hl 2 rfl) ?_
            refine lv_iload_n hx_ hb_ dX11_counts_76 rfl (lv_at hl 1 rfl) ?_
            refine sb_gt (tgt := 101) S dX11_counts_77 (by decide) (by omega) (fun c4 => ?_) (fun c4 => ?_)
            · refine si_const S dX11_counts_101 ?_
              refine lv_istore_n (lv' := [(2, .int (sI 0)), (0, .ref m), (1, .int (sI ((p2 (f 568)) - 1)))]) hx_ hb_ dX11_counts_102 rfl hl (by decide) rfl (fun ls hl => ?_)
              have L103 : ∀ (fuel : Nat) (v : Int) (W3 : Int → Int) (Ml103 : sM) (H : Heap) (locs : List Loc) (ls : Array Slot), ((p2 (f 568) - v).toNat) < fuel → (0 ≤ v ∧ v ≤ p2 (f 568)) → (wyI (f 568) (nxS f) W3 v 0) → (Ml103 (m + 5) = some (sArr G 1024 W3)) → (∀ x : Nat, ¬ (x = m + 5) → Ml103 x = Ml75 x) → sV G b_ Ml103 N s_ H locs → lv_has ls 4 [(0, .ref m), (1, .int (sI ((p2 (f 568)) - 1))), (2, .int (sI v))] → W p_ l_ e_ rmX11_counts s_ m_ args_ below_ meth_ c_ H locs 0 0 Q (F0 m_ 103 ls []) := by
                intro fuel
                induction fuel with
                | zero => intro v W3 Ml103 H locs ls hmu; exact absurd hmu (Nat.not_lt_zero _)
                | succ fuel ih103 =>
                  intro v W3 Ml103 H locs ls hmu103 hv103_0 hW3 hm103_0 hfr103 hV hl
                  refine lv_iload_n hx_ hb_ dX11_counts_103 rfl (lv_at hl 2 rfl) ?_
                  refine lv_iload_n hx_ hb_ dX11_counts_104 rfl (lv_at hl 1 rfl) ?_
                  refine sb_gt (tgt := 158) S dX11_counts_105 (by decide) (by omega) (fun c5 => ?_) (fun c5 => ?_)
                  · refine lv_iload_n hx_ hb_ dX11_counts_158 rfl (lv_at hl 1 rfl) ?_
                    refine lv_istore_n (lv' := [(2, .int (sI ((p2 (f 568)) - 1))), (0, .ref m), (1, .int (sI ((p2 (f 568)) - 1)))]) hx_ hb_ dX11_counts_159 rfl hl (by decide) rfl (fun ls hl => ?_)
                    have L160 : ∀ (fuel : Nat) (v : Int) (R2 : Int → Int) (Ml160 : sM) (H : Heap) (locs : List Loc) (ls : Array Slot), ((v + 1).toNat) < fuel → (-1 ≤ v ∧ v < p2 (f 568)) → (rsI (f 568) (nxS f) R2 v) → (Ml160 (m + 6) = some (sArr G 1024 R2)) → (∀ x : Nat, ¬ (x = m + 6) → Ml160 x = Ml103 x) → sV G b_ Ml160 N s_ H locs → lv_has ls 4 [(0, .ref m), (1, .int (sI ((p2 (f 568)) - 1))), (2, .int (sI v))] → W p_ l_ e_ rmX11_counts s_ m_ args_ below_ meth_ c_ H locs 0 0 Q (F0 m_ 160 ls []) := by
                      intro fuel
                      induction fuel with
                      | zero => intro v R2 Ml160 H locs ls hmu; exact absurd hmu (Nat.not_lt_zero _)
                      | succ fuel ih160 =>
                        intro v R2 Ml160 H locs ls hmu160 hv160_0 hR2 hm160_0 hfr160 hV hl
                        refine lv_iload_n hx_ hb_ dX11_counts_160 rfl (lv_at hl 2 rfl) ?_
                        refine sz_lt (tgt := 230) S dX11_counts_161 (by decide) (by omega) (fun c6 => ?_) (fun c6 => ?_)
                        · refine lv_aload_n hx_ hb_ dX11_counts_230 rfl (lv_at hl 0 rfl) ?_
                          have hc7 : Ml160 m = some (mO m th ch tn ea sn nm wn) := (((hfr160 m (by omega)).trans (hfr103 m (by omega))).trans (hfr75 m (by omega))).trans hc1
                          refine sc_get (ci := 9) (C := RX11) (T := TX11) (n := 22) S hK hV inX11_ hc7 rfl 8 (by decide) (S.2.2.2.2 _ (List.mem_of_getElem? (i := 2) rfl)) rfl rfl dX11_counts_231 ?_
                          refine lv_iload_n hx_ hb_ dX11_counts_234 rfl (lv_at hl 1 rfl) ?_
                          have hc8 : Ml160 (m + 5) = some (sArr G 1024 W3) := (hfr160 (m + 5) (by omega)).trans hm103_0
                          refine sc_iald S hK hV hc8 (by omega) dX11_counts_235 ?_
                          have hWe := wyI_e (by omega) hW3
                          have hRe := rsI_e (by omega) (by omega) hR2
                          have hc9 : Ml160 (m + 7) = some (sArr G 10 A2) := (((hfr160 (m + 7) (by omega)).trans (hfr103 (m + 7) (by omega))).trans (hfr75 (m + 7) (by omega))).trans hm11_0
                          exact sr_i E hQ dX11_counts_236 ⟨Nat.le_of_ble_eq_true rfl, Nat.le_of_ble_eq_true rfl⟩ hV (⟨A2, W3, R2, ((ctP_i (by omega) hWe hRe).2.2.1 _ (by omega) (by omega)), rfl, hc9, hc8, hm160_0, fun x q0 q1 q2 => (((hfr160 x (by omega)).trans (hfr103 x (by omega))).trans (hfr75 x (by omega))).trans (hfr11 x (by omega)), hA9, ctP_i (by omega) hWe hRe⟩)
                        · refine lv_aload_n hx_ hb_ dX11_counts_164 rfl (lv_at hl 0 rfl) ?_
                          have hc10 : Ml160 m = some (mO m th ch tn ea sn nm wn) := (((hfr160 m (by omega)).trans (hfr103 m (by omega))).trans (hfr75 m (by omega))).trans hc1
                          refine sc_get (ci := 9) (C := RX11) (T := TX11) (n := 22) S hK hV inX11_ hc10 rfl 9 (by decide) (S.2.2.2.2 _ (List.mem_of_getElem? (i := 3) rfl)) rfl rfl dX11_counts_165 ?_
                          refine lv_iload_n hx_ hb_ dX11_counts_168 rfl (lv_at hl 2 rfl) ?_
                          refine lv_iload_n hx_ hb_ dX11_counts_169 rfl (lv_at hl 2 rfl) ?_
                          refine lv_iload_n hx_ hb_ dX11_counts_170 rfl (lv_at hl 1 rfl) ?_
                          refine sb_ne (tgt := 178) S dX11_counts_171 (by decide) (by omega) (fun c11 => ?_) (fun c11 => ?_)
                          · refine si_const S dX11_counts_178 ?_
                            refine sc_iast S hK hV hm160_0 (by omega) dX11_counts_179 (fun M12 H locs hM12 hV => ?_)
                            have hc13 : M12 (m + 6) = some (sArr G 1024 (iup R2 v 0)) := (congrFun hM12 (m + 6)).trans (va_up_self Ml160 (m + 6) _)
                            refine si_const S dX11_counts_180 ?_
                            refine lv_istore_n (lv' := [(3, .int (sI 0)), (0, .ref m), (1, .int (sI ((p2 (f 568)) - 1))), (2, .int (sI v))]) hx_ hb_ dX11_counts_181 rfl hl (by decide) rfl (fun ls hl => ?_)
                            have L182 : ∀ (fuel : Nat) (s : Int) (R3 : Int → Int) (Ml182 : sM) (H : Heap) (locs : List Loc) (ls : Array Slot), ((f 568 - s).toNat) < fuel → (0 ≤ s ∧ s ≤ f 568) → (rsI (f 568) (nxS f) R3 v) → (R3 v = (if v = p2 (f 568) - 1 then 1 else 0) + isum s (fun t => pif (nxS f v t) (R3 (v + p2 t)) 0)) → (Ml182 (m + 6) = some (sArr G 1024 R3)) → (∀ x : Nat, ¬ (x = m + 6) → Ml182 x = M12 x) → sV G b_ Ml182 N s_ H locs → lv_has ls 4 [(0, .ref m), (1, .int (sI ((p2 (f 568)) - 1))), (2, .int (sI v)), (3, .int (sI s))] → W p_ l_ e_ rmX11_counts s_ m_ args_ below_ meth_ c_ H locs 0 0 Q (F0 m_ 182 ls []) := by
                              intro fuel
                              induction fuel with
                              | zero => intro s R3 Ml182 H locs ls hmu; exact absurd hmu (Nat.not_lt_zero _)
                              | succ fuel ih182 =>
                                intro s R3 Ml182 H locs ls hmu182 hv182_0 hR3 hV3 hm182_0 hfr182 hV hl
                                refine lv_iload_n hx_ hb_ dX11_counts_182 rfl (lv_at hl 3 rfl) ?_
                                refine lv_aload_n hx_ hb_ dX11_counts_183 rfl (lv_at hl 0 rfl) ?_
                                have hc14 : Ml182 m = some (mO m th ch tn ea sn nm wn) := ((hfr182 m (by omega)).trans ((congrFun hM12 m).trans (va_up_ne Ml160 _ (by omega)))).trans hc10
                                have hc15 : Ml182 (m + 1) = some (sArr G 574 f) := (((((hfr182 (m + 1) (by omega)).trans ((congrFun hM12 (m + 1)).trans (va_up_ne Ml160 _ (by omega)))).trans (hfr160 (m + 1) (by omega))).trans (hfr103 (m + 1) (by omega))).trans (hfr75 (m + 1) (by omega))).trans hc2
                                refine sk_VP E hV (As := []) (rest := [.int (sI s)]) (kX11_many l_ G b_ Ml182 N m th ch tn ea sn nm wn f hc14 hc15) (cwV 0 S.2.2.2.2 gX11_counts_X11_many rfl rfl rfl (by decide +kernel) ⟨Nat.le_of_ble_eq_true rfl, Nat.le_of_ble_eq_true rfl⟩) (ci := 9) hc14 rfl rfl rfl hl.1 (Nat.le_of_ble_eq_true rfl) dX11_counts_184 (c1 := 0) (s1 := 0) ⟨⟨rfl, rfl⟩, by decide, by decide⟩ (fun H locs hV => ?_)
                                refine sb_ge (tgt := 224) S dX11_counts_187 (by decide) (by omega) (fun c16 => ?_) (fun c16 => ?_)
                                · refine si_inc (lv' := [(2, .int (sI (v + (-1)))), (0, .ref m), (1, .int (sI ((p2 (f 568)) - 1))), (3, .int (sI s))]) S dX11_counts_224 hl (k := 2) rfl (by decide) rfl (fun ls hl => ?_)
                                  refine lv_goto (tgt := 160) hx_ hb_ dX11_counts_227 (by decide) ?_
                                  exact ih160 (v + (-1)) R3 Ml182 _ _ _ (by omega) (by omega) (rsI_n (by omega) nxS_n hR3 (by rw [hV3, show s = f 568 by omega])) hm182_0 (fun x q0 => ((hfr182 x (by omega)).trans ((congrFun hM12 x).trans (va_up_ne Ml160 _ (by omega)))).trans (hfr160 x (by omega))) hV (lv_sub hl [1, 2, 0] rfl)
                                · refine lv_aload_n hx_ hb_ dX11_counts_190 rfl (lv_at hl 0 rfl) ?_
                                  refine lv_iload_n hx_ hb_ dX11_counts_191 rfl (lv_at hl 2 rfl) ?_
                                  refine lv_iload_n hx_ hb_ dX11_counts_192 rfl (lv_at hl 3 rfl) ?_
                                  have hc17 : Ml182 (m + 7) = some (sArr G 10 A2) := (((((hfr182 (m + 7) (by omega)).trans ((congrFun hM12 (m + 7)).trans (va_up_ne Ml160 _ (by omega)))).trans (hfr160 (m + 7) (by omega))).trans (hfr103 (m + 7) (by omega))).trans (hfr75 (m + 7) (by omega))).trans hm11_0
                                  refine sk_VP E hV (As := [.int (sI v), .int (sI s)]) (rest := []) (kX11_canBeNext l_ G b_ Ml182 N m th ch tn ea sn nm wn f A2 v s hc14 hc15 hc17 (by omega) (hA9) (by omega) (by omega)) (cwV 2 S.2.2.2.2 gX11_counts_X11_canBeNext rfl rfl rfl (by decide +kernel) ⟨Nat.le_of_ble_eq_true rfl, Nat.le_of_ble_eq_true rfl⟩) (ci := 9) hc14 rfl rfl rfl hl.1 (Nat.le_of_ble_eq_true rfl) dX11_counts_193 (c1 := 0) (s1 := 0) ⟨⟨rfl, rfl⟩, by decide, by decide⟩ (fun H locs hV => ?_)
                                  refine sq_eq (tgt := 218) S dX11_counts_196 (by decide) (fun h196 => ?_) (fun h196 => ?_)
                                  · refine si_inc (lv' := [(3, .int (sI (s + 1))), (0, .ref m), (1, .int (sI ((p2 (f 568)) - 1))), (2, .int (sI v))]) S dX11_counts_218 hl (k := 3) rfl (by decide) rfl (fun ls hl => ?_)
                                    refine lv_goto (tgt := 182) hx_ hb_ dX11_counts_221 (by decide) ?_
                                    exact ih182 (s + 1) R3 Ml182 _ _ _ (by omega) (by omega) (hR3) (by rw [isum_s _ (show 0 ≤ s by omega)]; show _ = _ + (_ + pif (nxS f v s) (R3 (v + p2 s)) 0); rw [pif_f h196]; omega) hm182_0 (fun x q0 => hfr182 x (by omega)) hV (lv_sub hl [1, 2, 3, 0] rfl)
                                  · have hnx := nx_lt (n := f 568) (v := v) (s := s) (by omega) (by omega) (by omega) h196.1
                                    have hps := p2_p s
                                    refine lv_aload_n hx_ hb_ dX11_counts_199 rfl (lv_at hl 0 rfl) ?_
                                    refine sc_get (ci := 9) (C := RX11) (T := TX11) (n := 22) S hK hV inX11_ hc14 rfl 9 (by decide) (S.2.2.2.2 _ (List.mem_of_getElem? (i := 3) rfl)) rfl rfl dX11_counts_200 ?_
                                    refine lv_iload_n hx_ hb_ dX11_counts_203 rfl (lv_at hl 2 rfl) ?_
                                    refine lv_dup2_11 hx_ hb_ dX11_counts_204 rfl rfl ?_
                                    refine sc_iald S hK hV hm182_0 (by omega) dX11_counts_205 ?_
                                    refine lv_aload_n hx_ hb_ dX11_counts_206 rfl (lv_at hl 0 rfl) ?_
                                    refine sc_get (ci := 9) (C := RX11) (T := TX11) (n := 22) S hK hV inX11_ hc14 rfl 9 (by decide) (S.2.2.2.2 _ (List.mem_of_getElem? (i := 3) rfl)) rfl rfl dX11_counts_207 ?_
                                    refine lv_iload_n hx_ hb_ dX11_counts_210 rfl (lv_at hl 2 rfl) ?_
                                    refine si_const S dX11_counts_211 ?_
                                    refine lv_iload_n hx_ hb_ dX11_counts_212 rfl (lv_at hl 3 rfl) ?_
                                    refine si_shl S dX11_counts_213 ?_
                                    refine si_or S dX11_counts_214 ?_
                                    rw [ior_p2 (by omega) (by omega) h196.1]
                                    refine sc_iald S hK hV hm182_0 (by omega) dX11_counts_215 ?_
                                    refine si_add S dX11_counts_216 ?_
                                    refine sc_iast S hK hV hm182_0 (by omega) dX11_counts_217 (fun M18 H locs hM18 hV => ?_)
                                    have hc19 : M18 (m + 6) = some (sArr G 1024 (iup R3 v ((R3 v) + (R3 (v + p2 s))))) := (congrFun hM18 (m + 6)).trans (va_up_self Ml182 (m + 6) _)
                                    refine si_inc (lv' := [(3, .int (sI (s + 1))), (0, .ref m), (1, .int (sI ((p2 (f 568)) - 1))), (2, .int (sI v))]) S dX11_counts_218 hl (k := 3) rfl (by decide) rfl (fun ls hl => ?_)
                                    refine lv_goto (tgt := 182) hx_ hb_ dX11_counts_221 (by decide) ?_
                                    exact ih182 (s + 1) (iup R3 v ((R3 v) + (R3 (v + p2 s)))) M18 _ _ _ (by omega) (by omega) (rsI_up hR3) (by rw [isum_s _ (show 0 ≤ s by omega), rsV_c, show iup R3 v (R3 v + R3 (v + p2 s)) v = R3 v + R3 (v + p2 s) from if_pos rfl]; show _ = _ + (_ + pif (nxS f v s) (iup R3 v (R3 v + R3 (v + p2 s)) (v + p2 s)) 0); rw [pif_t h196, show iup R3 v (R3 v + R3 (v + p2 s)) (v + p2 s) = R3 (v + p2 s) from if_neg (by omega)]; omega) hc19 (fun x q0 => ((congrFun hM18 x).trans (va_up_ne Ml182 _ (by omega))).trans (hfr182 x (by omega))) hV (lv_sub hl [1, 2, 3, 0] rfl)
                            exact L182 _ 0 (iup R2 v 0) M12 _ _ _ (Nat.lt_succ_self _) (by omega) (rsI_up hR2) (by rw [isum_0, Int.add_zero, show iup R2 v 0 v = 0 from if_pos rfl, if_neg (by omega)]) hc13 (fun x q0 => rfl) hV (lv_sub hl [1, 2, 3, 0] rfl)
                          · refine si_const S dX11_counts_174 ?_
                            refine lv_goto (tgt := 179) hx_ hb_ dX11_counts_175 (by decide) ?_
                            refine sc_iast S hK hV hm160_0 (by omega) dX11_counts_179 (fun M20 H locs hM20 hV => ?_)
                            have hc21 : M20 (m + 6) = some (sArr G 1024 (iup R2 v 1)) := (congrFun hM20 (m + 6)).trans (va_up_self Ml160 (m + 6) _)
                            refine si_const S dX11_counts_180 ?_
                            refine lv_istore_n (lv' := [(3, .int (sI 0)), (0, .ref m), (1, .int (sI ((p2 (f 568)) - 1))), (2, .int (sI v))]) hx_ hb_ dX11_counts_181 rfl hl (by decide) rfl (fun ls hl => ?_)
                            have L182 : ∀ (fuel : Nat) (s : Int) (R3 : Int → Int) (Ml182 : sM) (H : Heap) (locs : List Loc) (ls : Array Slot), ((f 568 - s).toNat) < fuel → (0 ≤ s ∧ s ≤ f 568) → (rsI (f 568) (nxS f) R3 v) → (R3 v = (if v = p2 (f 568) - 1 then 1 else 0) + isum s (fun t => pif (nxS f v t) (R3 (v + p2 t)) 0)) → (Ml182 (m + 6) = some (sArr G 1024 R3)) → (∀ x : Nat, ¬ (x = m + 6) → Ml182 x = M20 x) → sV G b_ Ml182 N s_ H locs → lv_has ls 4 [(0, .ref m), (1, .int (sI ((p2 (f 568)) - 1))), (2, .int (sI v)), (3, .int (sI s))] → W p_ l_ e_ rmX11_counts s_ m_ args_ below_ meth_ c_ H locs 0 0 Q (F0 m_ 182 ls []) := by
                              intro fuel
                              induction fuel with
                              | zero => intro s R3 Ml182 H locs ls hmu; exact absurd hmu (Nat.not_lt_zero _)
                              | succ fuel ih182 =>
                                intro s R3 Ml182 H locs ls hmu182 hv182_0 hR3 hV3 hm182_0 hfr182 hV hl
                                refine lv_iload_n hx_ hb_ dX11_counts_182 rfl (lv_at hl 3 rfl) ?_
                                refine lv_aload_n hx_ hb_ dX11_counts_183 rfl (lv_at hl 0 rfl) ?_
                                have hc22 : Ml182 m = some (mO m th ch tn ea sn nm wn) := ((hfr182 m (by omega)).trans ((congrFun hM20 m).trans (va_up_ne Ml160 _ (by omega)))).trans hc10
                                have hc23 : Ml182 (m + 1) = some (sArr G 574 f) := (((((hfr182 (m + 1) (by omega)).trans ((congrFun hM20 (m + 1)).trans (va_up_ne Ml160 _ (by omega)))).trans (hfr160 (m + 1) (by omega))).trans (hfr103 (m + 1) (by omega))).trans (hfr75 (m + 1) (by omega))).trans hc2
                                refine sk_VP E hV (As := []) (rest := [.int (sI s)]) (kX11_many l_ G b_ Ml182 N m th ch tn ea sn nm wn f hc22 hc23) (cwV 0 S.2.2.2.2 gX11_counts_X11_many rfl rfl rfl (by decide +kernel) ⟨Nat.le_of_ble_eq_true rfl, Nat.le_of_ble_eq_true rfl⟩) (ci := 9) hc22 rfl rfl rfl hl.1 (Nat.le_of_ble_eq_true rfl) dX11_counts_184 (c1 := 0) (s1 := 0) ⟨⟨rfl, rfl⟩, by decide, by decide⟩ (fun H locs hV => ?_)
                                refine sb_ge (tgt := 224) S dX11_counts_187 (by decide) (by omega) (fun c24 => ?_) (fun c24 => ?_)
                                · refine si_inc (lv' := [(2, .int (sI (v + (-1)))), (0, .ref m), (1, .int (sI ((p2 (f 568)) - 1))), (3, .int (sI s))]) S dX11_counts_224 hl (k := 2) rfl (by decide) rfl (fun ls hl => ?_)
                                  refine lv_goto (tgt := 160) hx_ hb_ dX11_counts_227 (by decide) ?_
                                  exact ih160 (v + (-1)) R3 Ml182 _ _ _ (by omega) (by omega) (rsI_n (by omega) nxS_n hR3 (by rw [hV3, show s = f 568 by omega])) hm182_0 (fun x q0 => ((hfr182 x (by omega)).trans ((congrFun hM20 x).trans (va_up_ne Ml160 _ (by omega)))).trans (hfr160 x (by omega))) hV (lv_sub hl [1, 2, 0] rfl)
                                · refine lv_aload_n hx_ hb_ dX11_counts_190 rfl (lv_at hl 0 rfl) ?_
                                  refine lv_iload_n hx_ hb_ dX11_counts_191 rfl (lv_at hl 2 rfl) ?_
                                  refine lv_iload_n hx_ hb_ dX11_counts_192 rfl (lv_at hl 3 rfl) ?_
                                  have hc25 : Ml182 (m + 7) = some (sArr G 10 A2) := (((((hfr182 (m + 7) (by omega)).trans ((congrFun hM20 (m + 7)).trans (va_up_ne Ml160 _ (by omega)))).trans (hfr160 (m + 7) (by omega))).trans (hfr103 (m + 7) (by omega))).trans (hfr75 (m + 7) (by omega))).trans hm11_0
                                  refine sk_VP E hV (As := [.int (sI v), .int (sI s)]) (rest := []) (kX11_canBeNext l_ G b_ Ml182 N m th ch tn ea sn nm wn f A2 v s hc22 hc23 hc25 (by omega) (hA9) (by omega) (by omega)) (cwV 2 S.2.2.2.2 gX11_counts_X11_canBeNext rfl rfl rfl (by decide +kernel) ⟨Nat.le_of_ble_eq_true rfl, Nat.le_of_ble_eq_true rfl⟩) (ci := 9) hc22 rfl rfl rfl hl.1 (Nat.le_of_ble_eq_true rfl) dX11_counts_193 (c1 := 0) (s1 := 0) ⟨⟨rfl, rfl⟩, by decide, by decide⟩ (fun H locs hV => ?_)
                                  refine sq_eq (tgt := 218) S dX11_counts_196 (by decide) (fun h196 => ?_) (fun h196 => ?_)
                                  · refine si_inc (lv' := [(3, .int (sI (s + 1))), (0, .ref m), (1, .int (sI ((p2 (f 568)) - 1))), (2, .int (sI v))]) S dX11_counts_218 hl (k := 3) rfl (by decide) rfl (fun ls hl => ?_)
                                    refine lv_goto (tgt := 182) hx_ hb_ dX11_counts_221 (by decide) ?_
                                    exact ih182 (s + 1) R3 Ml182 _ _ _ (by omega) (by omega) (hR3) (by rw [isum_s _ (show 0 ≤ s by omega)]; show _ = _ + (_ + pif (nxS f v s) (R3 (v + p2 s)) 0); rw [pif_f h196]; omega) hm182_0 (fun x q0 => hfr182 x (by omega)) hV (lv_sub hl [1, 2, 3, 0] rfl)
                                  · have hnx := nx_lt (n := f 568) (v := v) (s := s) (by omega) (by omega) (by omega) h196.1
                                    have hps := p2_p s
                                    refine lv_aload_n hx_ hb_ dX11_counts_199 rfl (lv_at hl 0 rfl) ?_
                                    refine sc_get (ci := 9) (C := RX11) (T := TX11) (n := 22) S hK hV inX11_ hc22 rfl 9 (by decide) (S.2.2.2.2 _ (List.mem_of_getElem? (i := 3) rfl)) rfl rfl dX11_counts_200 ?_
                                    refine lv_iload_n hx_ hb_ dX11_counts_203 rfl (lv_at hl 2 rfl) ?_
                                    refine lv_dup2_11 hx_ hb_ dX11_counts_204 rfl rfl ?_
                                    refine sc_iald S hK hV hm182_0 (by omega) dX11_counts_205 ?_
                                    refine lv_aload_n hx_ hb_ dX11_counts_206 rfl (lv_at hl 0 rfl) ?_
                                    refine sc_get (ci := 9) (C := RX11) (T := TX11) (n := 22) S hK hV inX11_ hc22 rfl 9 (by decide) (S.2.2.2.2 _ (List.mem_of_getElem? (i := 3) rfl)) rfl rfl dX11_counts_207 ?_
                                    refine lv_iload_n hx_ hb_ dX11_counts_210 rfl (lv_at hl 2 rfl) ?_
                                    refine si_const S dX11_counts_211 ?_
                                    refine lv_iload_n hx_ hb_ dX11_counts_212 rfl (lv_at hl 3 rfl) ?_
                                    refine si_shl S dX11_counts_213 ?_
                                    refine si_or S dX11_counts_214 ?_
                                    rw [ior_p2 (by omega) (by omega) h196.1]
                                    refine sc_iald S hK hV hm182_0 (by omega) dX11_counts_215 ?_
                                    refine si_add S dX11_counts_216 ?_
                                    refine sc_iast S hK hV hm182_0 (by omega) dX11_counts_217 (fun M26 H locs hM26 hV => ?_)
                                    have hc27 : M26 (m + 6) = some (sArr G 1024 (iup R3 v ((R3 v) + (R3 (v + p2 s))))) := (congrFun hM26 (m + 6)).trans (va_up_self Ml182 (m + 6) _)
                                    refine si_inc (lv' := [(3, .int (sI (s + 1))), (0, .ref m), (1, .int (sI ((p2 (f 568)) - 1))), (2, .int (sI v))]) S dX11_counts_218 hl (k := 3) rfl (by decide) rfl (fun ls hl => ?_)
                                    refine lv_goto (tgt := 182) hx_ hb_ dX11_counts_221 (by decide) ?_
                                    exact ih182 (s + 1) (iup R3 v ((R3 v) + (R3 (v + p2 s)))) M26 _ _ _ (by omega) (by omega) (rsI_up hR3) (by rw [isum_s _ (show 0 ≤ s by omega), rsV_c, show iup R3 v (R3 v + R3 (v + p2 s)) v = R3 v + R3 (v + p2 s) from if_pos rfl]; show _ = _ + (_ + pif (nxS f v s) (iup R3 v (R3 v + R3 (v + p2 s)) (v + p2 s)) 0); rw [pif_t h196, show iup R3 v (R3 v + R3 (v + p2 s)) (v + p2 s) = R3 (v + p2 s) from if_neg (by omega)]; omega) hc27 (fun x q0 => ((congrFun hM26 x).trans (va_up_ne Ml182 _ (by omega))).trans (hfr182 x (by omega))) hV (lv_sub hl [1, 2, 3, 0] rfl)
                            exact L182 _ 0 (iup R2 v 1) M20 _ _ _ (Nat.lt_succ_self _) (by omega) (rsI_up hR2) (by rw [isum_0, Int.add_zero, show iup R2 v 1 v = 1 from if_pos rfl, if_pos (by omega)]) hc21 (fun x q0 => rfl) hV (lv_sub hl [1, 2, 3, 0] rfl)
                    have hc28 : Ml103 (m + 6) = some (sArr G 1024 R) := (((hfr103 (m + 6) (by omega)).trans (hfr75 (m + 6) (by omega))).trans (hfr11 (m + 6) (by omega))).trans hm6
                    exact L160 _ ((p2 (f 568)) - 1) R Ml103 _ _ _ (Nat.lt_succ_self _) (by omega) (fun u a b c => by omega) hc28 (fun x q0 => rfl) hV (lv_sub hl [1, 2, 0] rfl)
                  · refine si_const S dX11_counts_108 ?_
                    refine lv_istore_n (lv' := [(3, .int (sI 0)), (0, .ref m), (1, .int (sI ((p2 (f 568)) - 1))), (2, .int (sI v))]) hx_ hb_ dX11_counts_109 rfl hl (by decide) rfl (fun ls hl => ?_)
                    have L110 : ∀ (fuel : Nat) (s : Int) (W4 : Int → Int) (Ml110 : sM) (H : Heap) (locs : List Loc) (ls : Array Slot), ((f 568 - s).toNat) < fuel → (0 ≤ s ∧ s ≤ f 568) → (wyI (f 568) (nxS f) W4 v s) → (Ml110 (m + 5) = some (sArr G 1024 W4)) → (∀ x : Nat, ¬ (x = m + 5) → Ml110 x = Ml103 x) → sV G b_ Ml110 N s_ H locs → lv_has ls 4 [(0, .ref m), (1, .int (sI ((p2 (f 568)) - 1))), (2, .int (sI v)), (3, .int (sI s))] → W p_ l_ e_ rmX11_counts s_ m_ args_ below_ meth_ c_ H locs 0 0 Q (F0 m_ 110 ls []) := by
                      intro fuel
                      induction fuel with
                      | zero => intro s W4 Ml110 H locs ls hmu; exact absurd hmu (Nat.not_lt_zero _)
                      | succ fuel ih110 =>
                        intro s W4 Ml110 H locs ls hmu110 hv110_0 hW4 hm110_0 hfr110 hV hl
                        refine lv_iload_n hx_ hb_ dX11_counts_110 rfl (lv_at hl 3 rfl) ?_
                        refine lv_aload_n hx_ hb_ dX11_counts_111 rfl (lv_at hl 0 rfl) ?_
                        have hc29 : Ml110 m = some (mO m th ch tn ea sn nm wn) := (((hfr110 m (by omega)).trans (hfr103 m (by omega))).trans (hfr75 m (by omega))).trans hc1
                        have hc30 : Ml110 (m + 1) = some (sArr G 574 f) := (((hfr110 (m + 1) (by omega)).trans (hfr103 (m + 1) (by omega))).trans (hfr75 (m + 1) (by omega))).trans hc2
                        refine sk_VP E hV (As := []) (rest := [.int (sI s)]) (kX11_many l_ G b_ Ml110 N m th ch tn ea sn nm wn f hc29 hc30) (cwV 0 S.2.2.2.2 gX11_counts_X11_many rfl rfl rfl (by decide +kernel) ⟨Nat.le_of_ble_eq_true rfl, Nat.le_of_ble_eq_true rfl⟩) (ci := 9) hc29 rfl rfl rfl hl.1 (Nat.le_of_ble_eq_true rfl) dX11_counts_112 (c1 := 0) (s1 := 0) ⟨⟨rfl, rfl⟩, by decide, by decide⟩ (fun H locs hV => ?_)
                        refine sb_ge (tgt := 152) S dX11_counts_115 (by decide) (by omega) (fun c31 => ?_) (fun c31 => ?_)
                        · refine si_inc (lv' := [(2, .int (sI (v + 1))), (0, .ref m), (1, .int (sI ((p2 (f 568)) - 1))), (3, .int (sI s))]) S dX11_counts_152 hl (k := 2) rfl (by decide) rfl (fun ls hl => ?_)
                          refine lv_goto (tgt := 103) hx_ hb_ dX11_counts_155 (by decide) ?_
                          exact ih103 (v + 1) W4 Ml110 _ _ _ (by omega) (by omega) (wyI_n (by rw [show f 568 = s by omega]; rw [show f 568 = s by omega] at hW4; exact hW4)) hm110_0 (fun x q0 => (hfr110 x (by omega)).trans (hfr103 x (by omega))) hV (lv_sub hl [1, 2, 0] rfl)
                        · refine lv_aload_n hx_ hb_ dX11_counts_118 rfl (lv_at hl 0 rfl) ?_
                          refine lv_iload_n hx_ hb_ dX11_counts_119 rfl (lv_at hl 2 rfl) ?_
                          refine lv_iload_n hx_ hb_ dX11_counts_120 rfl (lv_at hl 3 rfl) ?_
                          have hc32 : Ml110 (m + 7) = some (sArr G 10 A2) := (((hfr110 (m + 7) (by omega)).trans (hfr103 (m + 7) (by omega))).trans (hfr75 (m + 7) (by omega))).trans hm11_0
                          refine sk_VP E hV (As := [.int (sI v), .int (sI s)]) (rest := []) (kX11_canBeNext l_ G b_ Ml110 N m th ch tn ea sn nm wn f A2 v s hc29 hc30 hc32 (by omega) (hA9) (by omega) (by omega)) (cwV 2 S.2.2.2.2 gX11_counts_X11_canBeNext rfl rfl rfl (by decide +kernel) ⟨Nat.le_of_ble_eq_true rfl, Nat.le_of_ble_eq_true rfl⟩) (ci := 9) hc29 rfl rfl rfl hl.1 (Nat.le_of_ble_eq_true rfl) dX11_counts_121 (c1 := 0) (s1 := 0) ⟨⟨rfl, rfl⟩, by decide, by decide⟩ (fun H locs hV => ?_)
                          refine sq_eq (tgt := 146) S dX11_counts_124 (by decide) (fun h124 => ?_) (fun h124 => ?_)
                          · refine si_inc (lv' := [(3, .int (sI (s + 1))), (0, .ref m), (1, .int (sI ((p2 (f 568)) - 1))), (2, .int (sI v))]) S dX11_counts_146 hl (k := 3) rfl (by decide) rfl (fun ls hl => ?_)
                            refine lv_goto (tgt := 110) hx_ hb_ dX11_counts_149 (by decide) ?_
                            exact ih110 (s + 1) W4 Ml110 _ _ _ (by omega) (by omega) (wyI_f hW4 h124) hm110_0 (fun x q0 => hfr110 x (by omega)) hV (lv_sub hl [1, 2, 3, 0] rfl)
                          · have hnx := nx_lt (n := f 568) (v := v) (s := s) (by omega) (by omega) (by omega) h124.1
                            have hps := p2_p s
                            refine lv_aload_n hx_ hb_ dX11_counts_127 rfl (lv_at hl 0 rfl) ?_
                            refine sc_get (ci := 9) (C := RX11) (T := TX11) (n := 22) S hK hV inX11_ hc29 rfl 8 (by decide) (S.2.2.2.2 _ (List.mem_of_getElem? (i := 2) rfl)) rfl rfl dX11_counts_128 ?_
                            refine lv_iload_n hx_ hb_ dX11_counts_131 rfl (lv_at hl 2 rfl) ?_
                            refine si_const S dX11_counts_132 ?_
                            refine lv_iload_n hx_ hb_ dX11_counts_133 rfl (lv_at hl 3 rfl) ?_
                            refine si_shl S dX11_counts_134 ?_
                            refine si_or S dX11_counts_135 ?_
                            rw [ior_p2 (by omega) (by omega) h124.1]
                            refine lv_dup2_11 hx_ hb_ dX11_counts_136 rfl rfl ?_
                            refine sc_iald S hK hV hm110_0 (by omega) dX11_counts_137 ?_
                            refine lv_aload_n hx_ hb_ dX11_counts_138 rfl (lv_at hl 0 rfl) ?_
                            refine sc_get (ci := 9) (C := RX11) (T := TX11) (n := 22) S hK hV inX11_ hc29 rfl 8 (by decide) (S.2.2.2.2 _ (List.mem_of_getElem? (i := 2) rfl)) rfl rfl dX11_counts_139 ?_
                            refine lv_iload_n hx_ hb_ dX11_counts_142 rfl (lv_at hl 2 rfl) ?_
                            refine sc_iald S hK hV hm110_0 (by omega) dX11_counts_143 ?_
                            refine si_add S dX11_counts_144 ?_
                            refine sc_iast S hK hV hm110_0 (by omega) dX11_counts_145 (fun M33 H locs hM33 hV => ?_)
                            have hc34 : M33 (m + 5) = some (sArr G 1024 (iup W4 (v + p2 s) ((W4 (v + p2 s)) + (W4 v)))) := (congrFun hM33 (m + 5)).trans (va_up_self Ml110 (m + 5) _)
                            refine si_inc (lv' := [(3, .int (sI (s + 1))), (0, .ref m), (1, .int (sI ((p2 (f 568)) - 1))), (2, .int (sI v))]) S dX11_counts_146 hl (k := 3) rfl (by decide) rfl (fun ls hl => ?_)
                            refine lv_goto (tgt := 110) hx_ hb_ dX11_counts_149 (by decide) ?_
                            exact ih110 (s + 1) (iup W4 (v + p2 s) ((W4 (v + p2 s)) + (W4 v))) M33 _ _ _ (by omega) (by omega) (wyI_t (by omega) nxS_n hW4 (by omega) (by omega) h124) hc34 (fun x q0 => ((congrFun hM33 x).trans (va_up_ne Ml110 _ (by omega))).trans (hfr110 x (by omega))) hV (lv_sub hl [1, 2, 3, 0] rfl)
                    exact L110 _ 0 W3 Ml103 _ _ _ (Nat.lt_succ_self _) (by omega) (hW3) hm103_0 (fun x q0 => rfl) hV (lv_sub hl [1, 2, 3, 0] rfl)
              exact L103 _ 0 W2 Ml75 _ _ _ (Nat.lt_succ_self _) (by omega) (wyI_0 (fun u a b => hW2 u a (by omega))) hm75_0 (fun x q0 => rfl) hV (lv_sub hl [1, 2, 0] rfl)
            · refine lv_aload_n hx_ hb_ dX11_counts_80 rfl (lv_at hl 0 rfl) ?_
              have hc35 : Ml75 m = some (mO m th ch tn ea sn nm wn) := (hfr75 m (by omega)).trans hc1
              refine sc_get (ci := 9) (C := RX11) (T := TX11) (n := 22) S hK hV inX11_ hc35 rfl 8 (by decide) (S.2.2.2.2 _ (List.mem_of_getElem? (i := 2) rfl)) rfl rfl dX11_counts_81 ?_
              refine lv_iload_n hx_ hb_ dX11_counts_84 rfl (lv_at hl 2 rfl) ?_
              refine lv_iload_n hx_ hb_ dX11_counts_85 rfl (lv_at hl 2 rfl) ?_
              refine sz_ne (tgt := 93) S dX11_counts_86 (by decide) (by omega) (fun c36 => ?_) (fun c36 => ?_)
              · refine si_const S dX11_counts_93 ?_
                refine sc_iast S hK hV hm75_0 (by omega) dX11_counts_94 (fun M37 H locs hM37 hV => ?_)
                have hc38 : M37 (m + 5) = some (sArr G 1024 (iup W2 v 0)) := (congrFun hM37 (m + 5)).trans (va_up_self Ml75 (m + 5) _)
                refine si_inc (lv' := [(2, .int (sI (v + 1))), (0, .ref m), (1, .int (sI ((p2 (f 568)) - 1)))]) S dX11_counts_95 hl (k := 2) rfl (by decide) rfl (fun ls hl => ?_)
                refine lv_goto (tgt := 75) hx_ hb_ dX11_counts_98 (by decide) ?_
                exact ih75 (v + 1) (iup W2 v 0) M37 _ _ _ (by omega) (by omega) (fun u a b => by unfold iup; by_cases e : u = v; (rw [if_pos e, e]; first | rw [if_pos (by omega)] | rw [if_neg (by omega)]); (rw [if_neg e]; exact hW2 u a (by omega))) hc38 (fun x q0 => ((congrFun hM37 x).trans (va_up_ne Ml75 _ (by omega))).trans (hfr75 x (by omega))) hV (lv_sub hl [1, 2, 0] rfl)
              · refine si_const S dX11_counts_89 ?_
                refine lv_goto (tgt := 94) hx_ hb_ dX11_counts_90 (by decide) ?_
                refine sc_iast S hK hV hm75_0 (by omega) dX11_counts_94 (fun M39 H locs hM39 hV => ?_)
                have hc40 : M39 (m + 5) = some (sArr G 1024 (iup W2 v 1)) := (congrFun hM39 (m + 5)).trans (va_up_self Ml75 (m + 5) _)
                refine si_inc (lv' := [(2, .int (sI (v + 1))), (0, .ref m), (1, .int (sI ((p2 (f 568)) - 1)))]) S dX11_counts_95 hl (k := 2) rfl (by decide) rfl (fun ls hl => ?_)
                refine lv_goto (tgt := 75) hx_ hb_ dX11_counts_98 (by decide) ?_
                exact ih75 (v + 1) (iup W2 v 1) M39 _ _ _ (by omega) (by omega) (fun u a b => by unfold iup; by_cases e : u = v; (rw [if_pos e, e]; first | rw [if_pos (by omega)] | rw [if_neg (by omega)]); (rw [if_neg e]; exact hW2 u a (by omega))) hc40 (fun x q0 => ((congrFun hM39 x).trans (va_up_ne Ml75 _ (by omega))).trans (hfr75 x (by omega))) hV (lv_sub hl [1, 2, 0] rfl)
        have hc41 : Ml11 (m + 5) = some (sArr G 1024 Wy) := (hfr11 (m + 5) (by omega)).trans hm5
        exact L75 _ 0 Wy Ml11 _ _ _ (Nat.lt_succ_self _) (by omega) (fun u a b => by omega) hc41 (fun x q0 => rfl) hV (lv_sub hl [1, 2, 0] rfl)
      · refine lv_aload_n hx_ hb_ dX11_counts_19 rfl (lv_at hl 0 rfl) ?_
        refine sc_get (ci := 9) (C := RX11) (T := TX11) (n := 22) S hK hV inX11_ hc1 rfl 10 (by decide) (S.2.2.2.2 _ (List.mem_of_getElem? (i := 1) rfl)) rfl rfl dX11_counts_20 ?_
        refine lv_iload_n hx_ hb_ dX11_counts_23 rfl (lv_at hl 2 rfl) ?_
        refine si_const S dX11_counts_24 ?_
        refine sc_iast S hK hV hm11_0 (by omega) dX11_counts_25 (fun M42 H locs hM42 hV => ?_)
        have hc43 : M42 (m + 7) = some (sArr G 10 (iup A2 s 0)) := (congrFun hM42 (m + 7)).trans (va_up_self Ml11 (m + 7) _)
        refine si_const S dX11_counts_26 ?_
        refine lv_istore_n (lv' := [(3, .int (sI 0)), (0, .ref m), (1, .int (sI ((p2 (f 568)) - 1))), (2, .int (sI s))]) hx_ hb_ dX11_counts_27 rfl hl (by decide) rfl (fun ls hl => ?_)
        have L28 : ∀ (fuel : Nat) (o : Int) (A3 : Int → Int) (Ml28 : sM) (H : Heap) (locs : List Loc) (ls : Array Slot), ((f 568 - o).toNat) < fuel → (0 ≤ o ∧ o ≤ f 568) → (∀ q, 0 ≤ q → q < s → A3 q = A2 q) → (0 ≤ A3 s ∧ A3 s ≤ 2147483647) → (∀ x, 0 ≤ x → (tb (A3 s) x ↔ x < o ∧ doP f x s)) → (Ml28 (m + 7) = some (sArr G 10 A3)) → (∀ x : Nat, ¬ (x = m + 7) → Ml28 x = M42 x) → sV G b_ Ml28 N s_ H locs → lv_has ls 4 [(0, .ref m), (1, .int (sI ((p2 (f 568)) - 1))), (2, .int (sI s)), (3, .int (sI o))] → W p_ l_ e_ rmX11_counts s_ m_ args_ below_ meth_ c_ H locs 0 0 Q (F0 m_ 28 ls []) := by
          intro fuel
          induction fuel with
          | zero => intro o A3 Ml28 H locs ls hmu; exact absurd hmu (Nat.not_lt_zero _)
          | succ fuel ih28 =>
            intro o A3 Ml28 H locs ls hmu28 hv28_0 hA3 hr3 hb3 hm28_0 hfr28 hV hl
            refine lv_iload_n hx_ hb_ dX11_counts_28 rfl (lv_at hl 3 rfl) ?_
            refine lv_aload_n hx_ hb_ dX11_counts_29 rfl (lv_at hl 0 rfl) ?_
            have hc44 : Ml28 m = some (mO m th ch tn ea sn nm wn) := ((hfr28 m (by omega)).trans ((congrFun hM42 m).trans (va_up_ne Ml11 _ (by omega)))).trans hc1
            have hc45 : Ml28 (m + 1) = some (sArr G 574 f) := ((hfr28 (m + 1) (by omega)).trans ((congrFun hM42 (m + 1)).trans (va_up_ne Ml11 _ (by omega)))).trans hc2
            refine sk_VP E hV (As := []) (rest := [.int (sI o)]) (kX11_many l_ G b_ Ml28 N m th ch tn ea sn nm wn f hc44 hc45) (cwV 0 S.2.2.2.2 gX11_counts_X11_many rfl rfl rfl (by decide +kernel) ⟨Nat.le_of_ble_eq_true rfl, Nat.le_of_ble_eq_true rfl⟩) (ci := 9) hc44 rfl rfl rfl hl.1 (Nat.le_of_ble_eq_true rfl) dX11_counts_30 (c1 := 0) (s1 := 0) ⟨⟨rfl, rfl⟩, by decide, by decide⟩ (fun H locs hV => ?_)
            refine sb_ge (tgt := 67) S dX11_counts_33 (by decide) (by omega) (fun c46 => ?_) (fun c46 => ?_)
            · refine si_inc (lv' := [(2, .int (sI (s + 1))), (0, .ref m), (1, .int (sI ((p2 (f 568)) - 1))), (3, .int (sI o))]) S dX11_counts_67 hl (k := 2) rfl (by decide) rfl (fun ls hl => ?_)
              refine lv_goto (tgt := 11) hx_ hb_ dX11_counts_70 (by decide) ?_
              exact ih11 (s + 1) A3 Ml28 _ _ _ (by omega) (by omega) (ah_0 hA hA3 (by omega) (o := o) (by omega) (by omega) hb3) hm28_0 (fun x q0 => ((hfr28 x (by omega)).trans ((congrFun hM42 x).trans (va_up_ne Ml11 _ (by omega)))).trans (hfr11 x (by omega))) hV (lv_sub hl [1, 2, 0] rfl)
            · refine lv_aload_n hx_ hb_ dX11_counts_36 rfl (lv_at hl 0 rfl) ?_
              refine sc_get (ci := 9) (C := RX11) (T := TX11) (n := 22) S hK hV inX11_ hc44 rfl 10 (by decide) (S.2.2.2.2 _ (List.mem_of_getElem? (i := 1) rfl)) rfl rfl dX11_counts_37 ?_
              refine lv_iload_n hx_ hb_ dX11_counts_40 rfl (lv_at hl 2 rfl) ?_
              refine lv_dup2_11 hx_ hb_ dX11_counts_41 rfl rfl ?_
              refine sc_iald S hK hV hm28_0 (by omega) dX11_counts_42 ?_
              refine lv_aload_n hx_ hb_ dX11_counts_43 rfl (lv_at hl 0 rfl) ?_
              refine lv_iload_n hx_ hb_ dX11_counts_44 rfl (lv_at hl 3 rfl) ?_
              refine lv_iload_n hx_ hb_ dX11_counts_45 rfl (lv_at hl 2 rfl) ?_
              refine sk_VP E hV (As := [.int (sI o), .int (sI s)]) (rest := [.int (sI (A3 s)), .int (sI s), .ref (m + 7)]) (kX11_does l_ G b_ Ml28 N m th ch tn ea sn nm wn f o s hc44 hc45 (by omega) (by omega)) (cwV 2 S.2.2.2.2 gX11_counts_X11_does rfl rfl rfl (by decide +kernel) ⟨Nat.le_of_ble_eq_true rfl, Nat.le_of_ble_eq_true rfl⟩) (ci := 9) hc44 rfl rfl rfl hl.1 (Nat.le_of_ble_eq_true rfl) dX11_counts_46 (c1 := 0) (s1 := 0) ⟨⟨rfl, rfl⟩, by decide, by decide⟩ (fun H locs hV => ?_)
              refine sq_eq (tgt := 58) S dX11_counts_49 (by decide) (fun h49 => ?_) (fun h49 => ?_)
              · refine si_const S dX11_counts_58 ?_
                refine si_or S dX11_counts_59 ?_
                refine sc_iast S hK hV hm28_0 (by omega) dX11_counts_60 (fun M47 H locs hM47 hV => ?_)
                have hc48 : M47 (m + 7) = some (sArr G 10 (iup A3 s (ior (A3 s) 0))) := (congrFun hM47 (m + 7)).trans (va_up_self Ml28 (m + 7) _)
                refine si_inc (lv' := [(3, .int (sI (o + 1))), (0, .ref m), (1, .int (sI ((p2 (f 568)) - 1))), (2, .int (sI s))]) S dX11_counts_61 hl (k := 3) rfl (by decide) rfl (fun ls hl => ?_)
                refine lv_goto (tgt := 28) hx_ hb_ dX11_counts_64 (by decide) ?_
                exact ih28 (o + 1) (iup A3 s (ior (A3 s) 0)) M47 _ _ _ (by omega) (by omega) (fun q a b => by rw [show iup A3 s (ior (A3 s) 0) q = A3 q from if_neg (by omega)]; exact hA3 q a b) (by rw [show iup A3 s (ior (A3 s) 0) s = ior (A3 s) 0 from if_pos rfl]; exact ior_r31 (by omega) (by omega)) (fun x a => by rw [show iup A3 s (ior (A3 s) 0) s = ior (A3 s) 0 from if_pos rfl, tb_or (by omega) (by omega), hb3 x a]; constructor; (rintro (q | q); exact ⟨by omega, q.2⟩; exact absurd q (tb_0 x)); (rintro ⟨q, r⟩; by_cases e : x = o; exact absurd (by rw [← e]; exact r) h49; exact Or.inl ⟨by omega, r⟩)) hc48 (fun x q0 => ((congrFun hM47 x).trans (va_up_ne Ml28 _ (by omega))).trans (hfr28 x (by omega))) hV (lv_sub hl [1, 2, 3, 0] rfl)
              · refine si_const S dX11_counts_52 ?_
                refine lv_iload_n hx_ hb_ dX11_counts_53 rfl (lv_at hl 3 rfl) ?_
                refine si_shl S dX11_counts_54 ?_
                refine lv_goto (tgt := 59) hx_ hb_ dX11_counts_55 (by decide) ?_
                refine si_or S dX11_counts_59 ?_
                refine sc_iast S hK hV hm28_0 (by omega) dX11_counts_60 (fun M49 H locs hM49 hV => ?_)
                have hc50 : M49 (m + 7) = some (sArr G 10 (iup A3 s (ior (A3 s) (ishl 1 o)))) := (congrFun hM49 (m + 7)).trans (va_up_self Ml28 (m + 7) _)
                refine si_inc (lv' := [(3, .int (sI (o + 1))), (0, .ref m), (1, .int (sI ((p2 (f 568)) - 1))), (2, .int (sI s))]) S dX11_counts_61 hl (k := 3) rfl (by decide) rfl (fun ls hl => ?_)
                refine lv_goto (tgt := 28) hx_ hb_ dX11_counts_64 (by decide) ?_
                exact ih28 (o + 1) (iup A3 s (ior (A3 s) (ishl 1 o))) M49 _ _ _ (by omega) (by omega) (fun q a b => by rw [show iup A3 s (ior (A3 s) (ishl 1 o)) q = A3 q from if_neg (by omega)]; exact hA3 q a b) (by rw [show iup A3 s (ior (A3 s) (ishl 1 o)) s = ior (A3 s) (ishl 1 o) from if_pos rfl]; exact ior_r31 (by omega) (ishl_r31 (by omega))) (fun x a => by rw [show iup A3 s (ior (A3 s) (ishl 1 o)) s = ior (A3 s) (ishl 1 o) from if_pos rfl, tb_or (by omega) (ishl_r31 (by omega)), tb_one (by omega) a, hb3 x a]; constructor; (rintro (q | q); exact ⟨by omega, q.2⟩; exact ⟨by omega, by rw [q]; exact h49⟩); (rintro ⟨q, r⟩; by_cases e : x = o; exact Or.inr e; exact Or.inl ⟨by omega, r⟩)) hc50 (fun x q0 => ((congrFun hM49 x).trans (va_up_ne Ml28 _ (by omega))).trans (hfr28 x (by omega))) hV (lv_sub hl [1, 2, 3, 0] rfl)
        exact L28 _ 0 (iup A2 s 0) M42 _ _ _ (Nat.lt_succ_self _) (by omega) (fun q a b => if_neg (by omega)) (by rw [show iup A2 s 0 s = 0 from if_pos rfl]; omega) (fun x a => by rw [show iup A2 s 0 s = 0 from if_pos rfl]; exact ⟨fun q => absurd q (tb_0 x), fun q => by omega⟩) hc43 (fun x q0 => rfl) hV (lv_sub hl [1, 2, 3, 0] rfl)
  exact L11 _ 0 A M _ _ _ (Nat.lt_succ_self _) (by omega) (fun q a b => by omega) hm7 (fun x q0 => rfl) hV (lv_sub hl [2, 1, 0] rfl)
