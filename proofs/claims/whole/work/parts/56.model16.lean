abbrev rmX11_orders : Room := { frames := 3, cells := 0, slots := 0, locals := 86 }
set_option maxHeartbeats 4000000 in
set_option maxRecDepth 100000 in
theorem kX11_orders (l_ : Launch) (G : sG) (b_ : Nat) (M : sM) (N : Nat) (m : Nat) (th ch tn ea sn nm wn : Int) (f : sF) (A Wy R : sF) (hm0 : M m = some (mO m th ch tn ea sn nm wn)) (hm1 : M (m + 1) = some (sArr G 574 f)) (hm7 : M (m + 7) = some (sArr G 10 A)) (hm5 : M (m + 5) = some (sArr G 1024 Wy)) (hm6 : M (m + 6) = some (sArr G 1024 R)) (hok : sOk f) : cI l_ yX11_orders wsX11_orders rmX11_orders G b_ M N [.ref m] (fun z_ M1 N1 => ∃ A9 : Int → Int, ∃ W9 : Int → Int, ∃ R9 : Int → Int, N1 = N ∧ M1 (m + 7) = some (sArr G 10 A9) ∧ M1 (m + 5) = some (sArr G 1024 W9) ∧ M1 (m + 6) = some (sArr G 1024 R9) ∧ (∀ x : Nat, ¬ (x = m) → ¬ (x = m + 5) → ¬ (x = m + 6) → ¬ (x = m + 7) → M1 x = M x) ∧ (((True) ∧ z_ = totI f ∧ M1 m = some (mO m 0 ch tn ea sn nm wn)))) := by
  refine sE.ofI (cc := cX11_orders) (nL := 1) (ret := (some .int)) (by decide) rfl (Nat.le_of_ble_eq_true rfl) ?_
  intro p_ e_ s_ m_ args_ below_ meth_ c_ ls Q hQ E hl
  have E : sE p_ l_ e_ rmX11_orders s_ m_ args_ below_ meth_ c_ cX11_orders 1 wsX11_orders RX11 "orders" (some .int) G b_ M N := E
  have S := E.1
  have hx_ := S.1
  have hb_ := S.2.1
  have hK := E.2.2.2.2.1
  have hV := E.2.2.2.2.2.2
  have hl : lv_has ls 1 [(0, .ref m)] := hl
  have inX11_ : ∀ w ∈ wsX110, w ∈ wsX11_orders := fun _ h => List.mem_cons_of_mem _ (List.mem_append_right _ h)
  have kn0 := sOk_N hok
  have hp1 := p2_p (f 568)
  have hp2 := p2_10 (n := f 568) (by omega)
  refine lv_aload_n hx_ hb_ dX11_orders_0 rfl (lv_at hl 0 rfl) ?_
  refine si_const S dX11_orders_1 ?_
  refine sc_put (ci := 9) (C := RX11) (T := TX11) (n := 22) S hK hV inX11_ tyX11_ok nmX11 hm0 rfl 0 (by decide) (S.2.2.2.2 _ (List.mem_of_getElem? (i := 1) rfl)) rfl rfl rfl rfl (Nat.le_of_ble_eq_true rfl) dX11_orders_2 (fs1 := [.int (sI 0), .ref (m + 1), .ref (m + 2), .int (sI ch), .ref (m + 3), .int (sI tn), .int (sI ea), .ref (m + 4), .ref (m + 5), .ref (m + 6), .ref (m + 7), .ref (m + 8), .ref (m + 9), .int (sI sn), .ref (m + 10), .ref (m + 11), .ref (m + 12), .ref (m + 13), .int (sI nm), .ref (m + 14), .ref (m + 15), .int (sI wn)]) rfl (fun M1 H locs hM1 hV => ?_)
  have hc2 : M1 m = some (mO m 0 ch tn ea sn nm wn) := (congrFun hM1 m).trans (va_up_self M m _)
  refine lv_aload_n hx_ hb_ dX11_orders_5 rfl (lv_at hl 0 rfl) ?_
  have hc3 : M1 (m + 1) = some (sArr G 574 f) := ((congrFun hM1 (m + 1)).trans (va_up_ne M _ (by omega))).trans hm1
  have hc4 : M1 (m + 7) = some (sArr G 10 A) := ((congrFun hM1 (m + 7)).trans (va_up_ne M _ (by omega))).trans hm7
  have hc5 : M1 (m + 5) = some (sArr G 1024 Wy) := ((congrFun hM1 (m + 5)).trans (va_up_ne M _ (by omega))).trans hm5
  have hc6 : M1 (m + 6) = some (sArr G 1024 R) := ((congrFun hM1 (m + 6)).trans (va_up_ne M _ (by omega))).trans hm6
  refine sk_Vi E hV (As := []) (rest := []) (kX11_counts l_ G b_ M1 N m 0 ch tn ea sn nm wn f A Wy R hc2 hc3 hc4 hc5 hc6 (by omega)) (cwV 0 S.2.2.2.2 gX11_orders_X11_counts rfl rfl rfl (by decide +kernel) ⟨Nat.le_of_ble_eq_true rfl, Nat.le_of_ble_eq_true rfl⟩) (ci := 9) hc2 rfl rfl rfl hl.1 (Nat.le_of_ble_eq_true rfl) dX11_orders_6 (c1 := 0) (s1 := 0) ⟨⟨rfl, rfl⟩, by decide, by decide⟩ (fun z10 M7 N8 H locs hp9 hV => ?_)
  obtain ⟨A911, W912, R913, ez14, hN15, hc16, hc17, hc18, hf19, hA920, hC921⟩ := hp9
  rw [hN15] at hV
  rw [ez14]
  have hA := hA920
  have hC := hC921
  have htr := tot_r (by omega) hC
  have hc22 : M7 m = some (mO m 0 ch tn ea sn nm wn) := (hf19 m (by omega) (by omega) (by omega)).trans hc2
  exact sr_i E hQ dX11_orders_9 ⟨Nat.le_of_ble_eq_true rfl, Nat.le_of_ble_eq_true rfl⟩ hV (⟨A911, W912, R913, rfl, hc16, hc17, hc18, fun x q0 q1 q2 q3 => (hf19 x (by omega) (by omega) (by omega)).trans ((congrFun hM1 x).trans (va_up_ne M _ (by omega))), ⟨(trivial), rfl, hc22⟩⟩)

abbrev rmX11_rank : Room := { frames := 3, cells := 0, slots := 0, locals := 86 }
set_option maxHeartbeats 4000000 in
set_option maxRecDepth 100000 in
theorem kX11_rank (l_ : Launch) (G : sG) (b_ : Nat) (M : sM) (N : Nat) (m : Nat) (th ch tn ea sn nm wn : Int) (f : sF) (A Wy R : sF) (s : Int) (B : Prop) (hm0 : M m = some (mO m th ch tn ea sn nm wn)) (hm1 : M (m + 1) = some (sArr G 574 f)) (hm7 : M (m + 7) = some (sArr G 10 A)) (hm5 : M (m + 5) = some (sArr G 1024 Wy)) (hm6 : M (m + 6) = some (sArr G 1024 R)) (hok : sOk f) (hr : sR s) : cI l_ yX11_rank wsX11_rank rmX11_rank G b_ M N [.ref m, .int (sI s), .int (sI (bI B))] (fun z_ M1 N1 => ∃ A9 : Int → Int, ∃ W9 : Int → Int, ∃ R9 : Int → Int, N1 = N ∧ M1 (m + 7) = some (sArr G 10 A9) ∧ M1 (m + 5) = some (sArr G 1024 W9) ∧ M1 (m + 6) = some (sArr G 1024 R9) ∧ (∀ x : Nat, ¬ (x = m) → ¬ (x = m + 5) → ¬ (x = m + 6) → ¬ (x = m + 7) → M1 x = M x) ∧ (((¬ (0 ≤ s ∧ s < f 568)) ∧ z_ = 0 ∧ M1 m = some (mO m 1 ch tn ea sn nm wn)) ∨ (((0 ≤ s ∧ s < f 568)) ∧ z_ = rnI B (rkI f s) (f 568) ∧ M1 m = some (mO m 0 ch tn ea sn nm wn)))) := by
  refine sE.ofI (cc := cX11_rank) (nL := 6) (ret := (some .int)) (by decide) rfl (Nat.le_of_ble_eq_true rfl) ?_
  intro p_ e_ s_ m_ args_ below_ meth_ c_ ls Q hQ E hl
  have E : sE p_ l_ e_ rmX11_rank s_ m_ args_ below_ meth_ c_ cX11_rank 6 wsX11_rank RX11 "rank" (some .int) G b_ M N := E
  have S := E.1
  have hx_ := S.1
  have hb_ := S.2.1
  have hK := E.2.2.2.2.1
  have hV := E.2.2.2.2.2.2
  have hl : lv_has ls 6 [(0, .ref m), (1, .int (sI s)), (2, .int (sI (bI B)))] := hl
  have inX11_ : ∀ w ∈ wsX110, w ∈ wsX11_rank := fun _ h => List.mem_cons_of_mem _ (List.mem_append_right _ h)
  have kn0 := sOk_N hok
  have hp1 := p2_p (f 568)
  have hp2 := p2_10 (n := f 568) (by omega)
  refine lv_aload_n hx_ hb_ dX11_rank_0 rfl (lv_at hl 0 rfl) ?_
  refine si_const S dX11_rank_1 ?_
  refine sc_put (ci := 9) (C := RX11) (T := TX11) (n := 22) S hK hV inX11_ tyX11_ok nmX11 hm0 rfl 0 (by decide) (S.2.2.2.2 _ (List.mem_of_getElem? (i := 1) rfl)) rfl rfl rfl rfl (Nat.le_of_ble_eq_true rfl) dX11_rank_2 (fs1 := [.int (sI 0), .ref (m + 1), .ref (m + 2), .int (sI ch), .ref (m + 3), .int (sI tn), .int (sI ea), .ref (m + 4), .ref (m + 5), .ref (m + 6), .ref (m + 7), .ref (m + 8), .ref (m + 9), .int (sI sn), .ref (m + 10), .ref (m + 11), .ref (m + 12), .ref (m + 13), .int (sI nm), .ref (m + 14), .ref (m + 15), .int (sI wn)]) rfl (fun M1 H locs hM1 hV => ?_)
  have hc2 : M1 m = some (mO m 0 ch tn ea sn nm wn) := (congrFun hM1 m).trans (va_up_self M m _)
  refine lv_aload_n hx_ hb_ dX11_rank_5 rfl (lv_at hl 0 rfl) ?_
  refine lv_iload_n hx_ hb_ dX11_rank_6 rfl (lv_at hl 1 rfl) ?_
  have hc3 : M1 (m + 1) = some (sArr G 574 f) := ((congrFun hM1 (m + 1)).trans (va_up_ne M _ (by omega))).trans hm1
  refine sk_Vi E hV (As := [.int (sI s)]) (rest := []) (kX11_noStone l_ G b_ M1 N m ch tn ea sn nm wn f s hc2 hc3 (by omega) (by omega)) (cwV 1 S.2.2.2.2 gX11_rank_X11_noStone rfl rfl rfl (by decide +kernel) ⟨Nat.le_of_ble_eq_true rfl, Nat.le_of_ble_eq_true rfl⟩) (ci := 9) hc2 rfl rfl rfl hl.1 (Nat.le_of_ble_eq_true rfl) dX11_rank_7 (c1 := 0) (s1 := 0) ⟨⟨rfl, rfl⟩, by decide, by decide⟩ (fun z7 M4 N5 H locs hp6 hV => ?_)
  obtain ⟨hN8, hf9, hq10⟩ := hp6
  rw [hN8] at hV
  rcases hq10 with ⟨c11, ez12, hc13⟩ | ⟨c14, ez15, hc16⟩
  · rw [ez12]
    refine sz_eq (tgt := 15) S dX11_rank_10 (by decide) (by omega) (fun _ => ?_) (fun c17 => absurd c17 (by omega))
    refine lv_aload_n hx_ hb_ dX11_rank_15 rfl (lv_at hl 0 rfl) ?_
    have hc18 : M4 (m + 1) = some (sArr G 574 f) := (hf9 (m + 1) (by omega)).trans hc3
    have hc19 : M4 (m + 7) = some (sArr G 10 A) := ((hf9 (m + 7) (by omega)).trans ((congrFun hM1 (m + 7)).trans (va_up_ne M _ (by omega)))).trans hm7
    have hc20 : M4 (m + 5) = some (sArr G 1024 Wy) := ((hf9 (m + 5) (by omega)).trans ((congrFun hM1 (m + 5)).trans (va_up_ne M _ (by omega)))).trans hm5
    have hc21 : M4 (m + 6) = some (sArr G 1024 R) := ((hf9 (m + 6) (by omega)).trans ((congrFun hM1 (m + 6)).trans (va_up_ne M _ (by omega)))).trans hm6
    refine sk_Vi E hV (As := []) (rest := []) (kX11_counts l_ G b_ M4 N m 0 ch tn ea sn nm wn f A Wy R hc13 hc18 hc19 hc20 hc21 (by omega)) (cwV 0 S.2.2.2.2 gX11_rank_X11_counts rfl rfl rfl (by decide +kernel) ⟨Nat.le_of_ble_eq_true rfl, Nat.le_of_ble_eq_true rfl⟩) (ci := 9) hc13 rfl rfl rfl hl.1 (Nat.le_of_ble_eq_true rfl) dX11_rank_16 (c1 := 0) (s1 := 0) ⟨⟨rfl, rfl⟩, by decide, by decide⟩ (fun z25 M22 N23 H locs hp24 hV => ?_)
    obtain ⟨A926, W927, R928, ez29, hN30, hc31, hc32, hc33, hf34, hA935, hC936⟩ := hp24
    rw [hN30] at hV
    rw [ez29]
    have hA := hA935
    have hC := hC936
    have htr := tot_r (by omega) hC
    refine lv_istore_n (lv' := [(3, .int (sI (totI f))), (0, .ref m), (1, .int (sI s)), (2, .int (sI (bI B)))]) hx_ hb_ dX11_rank_19 rfl hl (by decide) rfl (fun ls hl => ?_)
    refine si_const S dX11_rank_20 ?_
    refine lv_istore (lv' := [(4, .int (sI (-1))), (3, .int (sI (totI f))), (0, .ref m), (1, .int (sI s)), (2, .int (sI (bI B)))]) hx_ hb_ dX11_rank_21 hl (by decide) rfl (fun ls hl => ?_)
    refine si_const S dX11_rank_23 ?_
    refine lv_istore (lv' := [(5, .int (sI 0)), (4, .int (sI (-1))), (3, .int (sI (totI f))), (0, .ref m), (1, .int (sI s)), (2, .int (sI (bI B)))]) hx_ hb_ dX11_rank_24 hl (by decide) rfl (fun ls hl => ?_)
    have L26 : ∀ (fuel : Nat) (z : Int) (r : Int)  (H : Heap) (locs : List Loc) (ls : Array Slot), ((f 568 - r).toNat) < fuel → (0 ≤ r ∧ r ≤ f 568) → (z = rnI B (rkI f s) r) → sV G b_ M22 N s_ H locs → lv_has ls 6 [(0, .ref m), (1, .int (sI s)), (2, .int (sI (bI B))), (4, .int (sI z)), (5, .int (sI r))] → W p_ l_ e_ rmX11_rank s_ m_ args_ below_ meth_ c_ H locs 0 0 Q (F0 m_ 26 ls []) := by
      intro fuel
      induction fuel with
      | zero => intro z r H locs ls hmu; exact absurd hmu (Nat.not_lt_zero _)
      | succ fuel ih26 =>
        intro z r H locs ls hmu26 hv26_0 hz  hV hl
        have hrn := rnI_r B (rkI f s) r (by omega)
        rw [← hz] at hrn
        have hrk := rk_r (by omega) hC s r (by omega)
        refine lv_iload hx_ hb_ dX11_rank_26 (lv_at hl 4 rfl) ?_
        refine lv_aload_n hx_ hb_ dX11_rank_28 rfl (lv_at hl 0 rfl) ?_
        have hc37 : M22 m = some (mO m 0 ch tn ea sn nm wn) := (hf34 m (by omega) (by omega) (by omega)).trans hc13
        have hc38 : M22 (m + 1) = some (sArr G 574 f) := (hf34 (m + 1) (by omega) (by omega) (by omega)).trans hc18
        refine sk_VP E hV (As := []) (rest := [.int (sI r)]) (kX11_many l_ G b_ M22 N m 0 ch tn ea sn nm wn f hc37 hc38) (cwV 0 S.2.2.2.2 gX11_rank_X11_many rfl rfl rfl (by decide +kernel) ⟨Nat.le_of_ble_eq_true rfl, Nat.le_of_ble_eq_true rfl⟩) (ci := 9) hc37 rfl rfl rfl hl.1 (Nat.le_of_ble_eq_true rfl) dX11_rank_29 (c1 := 0) (s1 := 0) ⟨⟨rfl, rfl⟩, by decide, by decide⟩ (fun H locs hV => ?_)
        refine sb_ge (tgt := 65) S dX11_rank_32 (by decide) (by omega) (fun c39 => ?_) (fun c39 => ?_)
        · refine lv_iload hx_ hb_ dX11_rank_65 (lv_at hl 3 rfl) ?_
          exact sr_i E hQ dX11_rank_67 ⟨Nat.le_of_ble_eq_true rfl, Nat.le_of_ble_eq_true rfl⟩ hV (⟨A926, W927, R928, rfl, hc31, hc32, hc33, fun x q0 q1 q2 q3 => ((hf34 x (by omega) (by omega) (by omega)).trans (hf9 x (by omega))).trans ((congrFun hM1 x).trans (va_up_ne M _ (by omega))), Or.inr (⟨(by omega), by rw [hz, show r = f 568 by omega], hc37⟩)⟩)
        · refine lv_iload hx_ hb_ dX11_rank_35 (lv_at hl 3 rfl) ?_
          refine si_const S dX11_rank_37 ?_
          refine sb_eq (tgt := 45) S dX11_rank_38 (by decide) (by omega) (fun h38 => ?_) (fun h38 => ?_)
          · refine lv_aload_n hx_ hb_ dX11_rank_45 rfl (lv_at hl 0 rfl) ?_
            refine lv_iload_n hx_ hb_ dX11_rank_46 rfl (lv_at hl 1 rfl) ?_
            refine lv_iload hx_ hb_ dX11_rank_47 (lv_at hl 4 rfl) ?_
            refine sk_VP E hV (As := [.int (sI s), .int (sI r)]) (rest := []) (kX11_ranked l_ G b_ M22 N m 0 ch tn ea sn nm wn f A926 W927 R928 s r hc37 hc38 hc31 hc32 hc33 (by omega) (hA) (hC) (by omega)) (cwV 2 S.2.2.2.2 gX11_rank_X11_ranked rfl rfl rfl (by decide +kernel) ⟨Nat.le_of_ble_eq_true rfl, Nat.le_of_ble_eq_true rfl⟩) (ci := 9) hc37 rfl rfl rfl hl.1 (Nat.le_of_ble_eq_true rfl) dX11_rank_49 (c1 := 0) (s1 := 0) ⟨⟨rfl, rfl⟩, by decide, by decide⟩ (fun H locs hV => ?_)
            refine sz_le (tgt := 59) S dX11_rank_52 (by decide) (by omega) (fun h52 => ?_) (fun h52 => ?_)
            · refine si_inc (lv' := [(5, .int (sI (r + 1))), (0, .ref m), (1, .int (sI s)), (2, .int (sI (bI B))), (4, .int (sI z))]) S dX11_rank_59 hl (k := 4) rfl (by decide) rfl (fun ls hl => ?_)
              refine lv_goto (tgt := 26) hx_ hb_ dX11_rank_62 (by decide) ?_
              exact ih26 z (r + 1) _ _ _ (by omega) (by omega) (by rw [rnI_s _ _ _ (by omega), ← hz, pif_f (fun q => by have := q.2; omega)]) hV (lv_sub hl [1, 2, 3, 4, 0] rfl)
            · refine lv_iload hx_ hb_ dX11_rank_55 (lv_at hl 4 rfl) ?_
              refine lv_istore (lv' := [(4, .int (sI r)), (0, .ref m), (1, .int (sI s)), (2, .int (sI (bI B))), (5, .int (sI r))]) hx_ hb_ dX11_rank_57 hl (by decide) rfl (fun ls hl => ?_)
              refine si_inc (lv' := [(5, .int (sI (r + 1))), (4, .int (sI r)), (0, .ref m), (1, .int (sI s)), (2, .int (sI (bI B)))]) S dX11_rank_59 hl (k := 4) rfl (by decide) rfl (fun ls hl => ?_)
              refine lv_goto (tgt := 26) hx_ hb_ dX11_rank_62 (by decide) ?_
              exact ih26 r (r + 1) _ _ _ (by omega) (by omega) (by rw [rnI_s _ _ _ (by omega), ← hz, pif_t ⟨Or.inl h38, h52⟩]) hV (lv_sub hl [2, 3, 4, 1, 0] rfl)
          · refine lv_iload_n hx_ hb_ dX11_rank_41 rfl (lv_at hl 2 rfl) ?_
            refine sq_eq (tgt := 59) S dX11_rank_42 (by decide) (fun h42 => ?_) (fun h42 => ?_)
            · refine si_inc (lv' := [(5, .int (sI (r + 1))), (0, .ref m), (1, .int (sI s)), (2, .int (sI (bI B))), (4, .int (sI z))]) S dX11_rank_59 hl (k := 4) rfl (by decide) rfl (fun ls hl => ?_)
              refine lv_goto (tgt := 26) hx_ hb_ dX11_rank_62 (by decide) ?_
              exact ih26 z (r + 1) _ _ _ (by omega) (by omega) (by rw [rnI_s _ _ _ (by omega), ← hz, pif_f (fun q => by rcases q.1 with a | a; exact h38 a; exact h42 a)]) hV (lv_sub hl [1, 2, 3, 4, 0] rfl)
            · refine lv_aload_n hx_ hb_ dX11_rank_45 rfl (lv_at hl 0 rfl) ?_
              refine lv_iload_n hx_ hb_ dX11_rank_46 rfl (lv_at hl 1 rfl) ?_
              refine lv_iload hx_ hb_ dX11_rank_47 (lv_at hl 4 rfl) ?_
              refine sk_VP E hV (As := [.int (sI s), .int (sI r)]) (rest := []) (kX11_ranked l_ G b_ M22 N m 0 ch tn ea sn nm wn f A926 W927 R928 s r hc37 hc38 hc31 hc32 hc33 (by omega) (hA) (hC) (by omega)) (cwV 2 S.2.2.2.2 gX11_rank_X11_ranked rfl rfl rfl (by decide +kernel) ⟨Nat.le_of_ble_eq_true rfl, Nat.le_of_ble_eq_true rfl⟩) (ci := 9) hc37 rfl rfl rfl hl.1 (Nat.le_of_ble_eq_true rfl) dX11_rank_49 (c1 := 0) (s1 := 0) ⟨⟨rfl, rfl⟩, by decide, by decide⟩ (fun H locs hV => ?_)
              refine sz_le (tgt := 59) S dX11_rank_52 (by decide) (by omega) (fun h52 => ?_) (fun h52 => ?_)
              · refine si_inc (lv' := [(5, .int (sI (r + 1))), (0, .ref m), (1, .int (sI s)), (2, .int (sI (bI B))), (4, .int (sI z))]) S dX11_rank_59 hl (k := 4) rfl (by decide) rfl (fun ls hl => ?_)
                refine lv_goto (tgt := 26) hx_ hb_ dX11_rank_62 (by decide) ?_
                exact ih26 z (r + 1) _ _ _ (by omega) (by omega) (by rw [rnI_s _ _ _ (by omega), ← hz, pif_f (fun q => by have := q.2; omega)]) hV (lv_sub hl [1, 2, 3, 4, 0] rfl)
              · refine lv_iload hx_ hb_ dX11_rank_55 (lv_at hl 4 rfl) ?_
                refine lv_istore (lv' := [(4, .int (sI r)), (0, .ref m), (1, .int (sI s)), (2, .int (sI (bI B))), (5, .int (sI r))]) hx_ hb_ dX11_rank_57 hl (by decide) rfl (fun ls hl => ?_)
                refine si_inc (lv' := [(5, .int (sI (r + 1))), (4, .int (sI r)), (0, .ref m), (1, .int (sI s)), (2, .int (sI (bI B)))]) S dX11_rank_59 hl (k := 4) rfl (by decide) rfl (fun ls hl => ?_)
                refine lv_goto (tgt := 26) hx_ hb_ dX11_rank_62 (by decide) ?_
                exact ih26 r (r + 1) _ _ _ (by omega) (by omega) (by rw [rnI_s _ _ _ (by omega), ← hz, pif_t ⟨Or.inr h42, h52⟩]) hV (lv_sub hl [2, 3, 4, 1, 0] rfl)
    exact L26 _ (-1) 0 _ _ _ (Nat.lt_succ_self _) (by omega) (rfl) hV (lv_sub hl [3, 4, 5, 1, 0] rfl)
  · rw [ez15]
    refine sz_eq (tgt := 15) S dX11_rank_10 (by decide) (by omega) (fun c40 => absurd c40 (by omega)) (fun _ => ?_)
    refine si_const S dX11_rank_13 ?_
    have hc41 : M4 (m + 7) = some (sArr G 10 A) := ((hf9 (m + 7) (by omega)).trans ((congrFun hM1 (m + 7)).trans (va_up_ne M _ (by omega)))).trans hm7
    have hc42 : M4 (m + 5) = some (sArr G 1024 Wy) := ((hf9 (m + 5) (by omega)).trans ((congrFun hM1 (m + 5)).trans (va_up_ne M _ (by omega)))).trans hm5
    have hc43 : M4 (m + 6) = some (sArr G 1024 R) := ((hf9 (m + 6) (by omega)).trans ((congrFun hM1 (m + 6)).trans (va_up_ne M _ (by omega)))).trans hm6
    exact sr_i E hQ dX11_rank_14 ⟨Nat.le_of_ble_eq_true rfl, Nat.le_of_ble_eq_true rfl⟩ hV (⟨A, Wy, R, rfl, hc41, hc42, hc43, fun x q0 q1 q2 q3 => (hf9 x (by omega)).trans ((congrFun hM1 x).trans (va_up_ne M _ (by omega))), Or.inl ⟨(by omega), rfl, hc16⟩⟩)

abbrev rmX11_withRank : Room := { frames := 3, cells := 0, slots := 0, locals := 86 }
set_option maxHeartbeats 4000000 in
set_option maxRecDepth 100000 in
theorem kX11_withRank (l_ : Launch) (G : sG) (b_ : Nat) (M : sM) (N : Nat) (m : Nat) (th ch tn ea sn nm wn : Int) (f : sF) (A Wy R : sF) (s r : Int) (hm0 : M m = some (mO m th ch tn ea sn nm wn)) (hm1 : M (m + 1) = some (sArr G 574 f)) (hm7 : M (m + 7) = some (sArr G 10 A)) (hm5 : M (m + 5) = some (sArr G 1024 Wy)) (hm6 : M (m + 6) = some (sArr G 1024 R)) (hok : sOk f) (hr : sR s ∧ sR r) : cI l_ yX11_withRank wsX11_withRank rmX11_withRank G b_ M N [.ref m, .int (sI s), .int (sI r)] (fun z_ M1 N1 => ∃ A9 : Int → Int, ∃ W9 : Int → Int, ∃ R9 : Int → Int, N1 = N ∧ M1 (m + 7) = some (sArr G 10 A9) ∧ M1 (m + 5) = some (sArr G 1024 W9) ∧ M1 (m + 6) = some (sArr G 1024 R9) ∧ (∀ x : Nat, ¬ (x = m) → ¬ (x = m + 5) → ¬ (x = m + 6) → ¬ (x = m + 7) → M1 x = M x) ∧ (((¬ (0 ≤ s ∧ s < f 568)) ∧ z_ = 0 ∧ M1 m = some (mO m 1 ch tn ea sn nm wn)) ∨ (((0 ≤ s ∧ s < f 568) ∧ ¬ (0 ≤ r ∧ r ≤ 9)) ∧ z_ = 0 ∧ M1 m = some (mO m 2 ch tn ea sn nm wn)) ∨ (((0 ≤ s ∧ s < f 568) ∧ 0 ≤ r ∧ r ≤ 9) ∧ z_ = rkI f s r ∧ M1 m = some (mO m 0 ch tn ea sn nm wn)))) := by
  refine sE.ofI (cc := cX11_withRank) (nL := 4) (ret := (some .int)) (by decide) rfl (Nat.le_of_ble_eq_true rfl) ?_
  intro p_ e_ s_ m_ args_ below_ meth_ c_ ls Q hQ E hl
  have E : sE p_ l_ e_ rmX11_withRank s_ m_ args_ below_ meth_ c_ cX11_withRank 4 wsX11_withRank RX11 "withRank" (some .int) G b_ M N := E
  have S := E.1
  have hx_ := S.1
  have hb_ := S.2.1
  have hK := E.2.2.2.2.1
  have hV := E.2.2.2.2.2.2
  have hl : lv_has ls 4 [(0, .ref m), (1, .int (sI s)), (2, .int (sI r))] := hl
  have inX11_ : ∀ w ∈ wsX110, w ∈ wsX11_withRank := fun _ h => List.mem_cons_of_mem _ (List.mem_append_right _ h)
  have kn0 := sOk_N hok
  have hp1 := p2_p (f 568)
  have hp2 := p2_10 (n := f 568) (by omega)
  refine lv_aload_n hx_ hb_ dX11_withRank_0 rfl (lv_at hl 0 rfl) ?_
  refine si_const S dX11_withRank_1 ?_
  refine sc_put (ci := 9) (C := RX11) (T := TX11) (n := 22) S hK hV inX11_ tyX11_ok nmX11 hm0 rfl 0 (by decide) (S.2.2.2.2 _ (List.mem_of_getElem? (i := 1) rfl)) rfl rfl rfl rfl (Nat.le_of_ble_eq_true rfl) dX11_withRank_2 (fs1 := [.int (sI 0), .ref (m + 1), .ref (m + 2), .int (sI ch), .ref (m + 3), .int (sI tn), .int (sI ea), .ref (m + 4), .ref (m + 5), .ref (m + 6), .ref (m + 7), .ref (m + 8), .ref (m + 9), .int (sI sn), .ref (m + 10), .ref (m + 11), .ref (m + 12), .ref (m + 13), .int (sI nm), .ref (m + 14), .ref (m + 15), .int (sI wn)]) rfl (fun M1 H locs hM1 hV => ?_)
  have hc2 : M1 m = some (mO m 0 ch tn ea sn nm wn) := (congrFun hM1 m).trans (va_up_self M m _)
  refine lv_aload_n hx_ hb_ dX11_withRank_5 rfl (lv_at hl 0 rfl) ?_
  refine lv_iload_n hx_ hb_ dX11_withRank_6 rfl (lv_at hl 1 rfl) ?_
  have hc3 : M1 (m + 1) = some (sArr G 574 f) := ((congrFun hM1 (m + 1)).trans (va_up_ne M _ (by omega))).trans hm1
  refine sk_Vi E hV (As := [.int (sI s)]) (rest := []) (kX11_noStone l_ G b_ M1 N m ch tn ea sn nm wn f s hc2 hc3 (by omega) (by omega)) (cwV 1 S.2.2.2.2 gX11_withRank_X11_noStone rfl rfl rfl (by decide +kernel) ⟨Nat.le_of_ble_eq_true rfl, Nat.le_of_ble_eq_true rfl⟩) (ci := 9) hc2 rfl rfl rfl hl.1 (Nat.le_of_ble_eq_true rfl) dX11_withRank_7 (c1 := 0) (s1 := 0) ⟨⟨rfl, rfl⟩, by decide, by decide⟩ (fun z7 M4 N5 H locs hp6 hV => ?_)
  obtain ⟨hN8, hf9, hq10⟩ := hp6
  rw [hN8] at hV
  rcases hq10 with ⟨c11, ez12, hc13⟩ | ⟨c14, ez15, hc16⟩
  · rw [ez12]
    refine sz_ne (tgt := 28) S dX11_withRank_10 (by decide) (by omega) (fun c17 => absurd c17 (by omega)) (fun _ => ?_)
    refine lv_aload_n hx_ hb_ dX11_withRank_13 rfl (lv_at hl 0 rfl) ?_
    refine lv_iload_n hx_ hb_ dX11_withRank_14 rfl (lv_at hl 2 rfl) ?_
    refine si_const S dX11_withRank_15 ?_
    refine si_bipush S dX11_withRank_16 (by decide) ?_
    refine sk_SP E hV (As := [.int (sI r), .int (sI 0), .int (sI 9)]) (rest := [.ref m]) (kX11_in l_ G b_ M4 N r 0 9 (by omega)) (va_cwS 3 S.2.2.2.2 gX11_withRank_X11_in rfl rfl rfl (by decide +kernel) ⟨Nat.le_of_ble_eq_true rfl, Nat.le_of_ble_eq_true rfl⟩) rfl rfl hl.1 (Nat.le_of_ble_eq_true rfl) dX11_withRank_18 (c1 := 0) (s1 := 0) ⟨⟨rfl, rfl⟩, by decide, by decide⟩ (fun H locs hV => ?_)
    refine si_const S dX11_withRank_21 ?_
    refine sk_Vi E hV (As := [.int (sI (bI (0 ≤ r ∧ r ≤ 9))), .int (sI 2)]) (rest := []) (kX11_fails l_ G b_ M4 N m ch tn ea sn nm wn 2 (0 ≤ r ∧ r ≤ 9) hc13 (by omega)) (cwV 2 S.2.2.2.2 gX11_withRank_X11_fails rfl rfl rfl (by decide +kernel) ⟨Nat.le_of_ble_eq_true rfl, Nat.le_of_ble_eq_true rfl⟩) (ci := 9) hc13 rfl rfl rfl hl.1 (Nat.le_of_ble_eq_true rfl) dX11_withRank_22 (c1 := 0) (s1 := 0) ⟨⟨rfl, rfl⟩, by decide, by decide⟩ (fun z21 M18 N19 H locs hp20 hV => ?_)
    obtain ⟨hN22, hf23, hq24⟩ := hp20
    rw [hN22] at hV
    rcases hq24 with ⟨c25, ez26, hc27⟩ | ⟨c28, ez29, hc30⟩
    · rw [ez26]
      refine sz_eq (tgt := 30) S dX11_withRank_25 (by decide) (by omega) (fun _ => ?_) (fun c31 => absurd c31 (by omega))
      refine lv_aload_n hx_ hb_ dX11_withRank_30 rfl (lv_at hl 0 rfl) ?_
      have hc32 : M18 (m + 1) = some (sArr G 574 f) := ((hf23 (m + 1) (by omega)).trans (hf9 (m + 1) (by omega))).trans hc3
      have hc33 : M18 (m + 7) = some (sArr G 10 A) := (((hf23 (m + 7) (by omega)).trans (hf9 (m + 7) (by omega))).trans ((congrFun hM1 (m + 7)).trans (va_up_ne M _ (by omega)))).trans hm7
      have hc34 : M18 (m + 5) = some (sArr G 1024 Wy) := (((hf23 (m + 5) (by omega)).trans (hf9 (m + 5) (by omega))).trans ((congrFun hM1 (m + 5)).trans (va_up_ne M _ (by omega)))).trans hm5
      have hc35 : M18 (m + 6) = some (sArr G 1024 R) := (((hf23 (m + 6) (by omega)).trans (hf9 (m + 6) (by omega))).trans ((congrFun hM1 (m + 6)).trans (va_up_ne M _ (by omega)))).trans hm6
      refine sk_Vi E hV (As := []) (rest := []) (kX11_counts l_ G b_ M18 N m 0 ch tn ea sn nm wn f A Wy R hc27 hc32 hc33 hc34 hc35 (by omega)) (cwV 0 S.2.2.2.2 gX11_withRank_X11_counts rfl rfl rfl (by decide +kernel) ⟨Nat.le_of_ble_eq_true rfl, Nat.le_of_ble_eq_true rfl⟩) (ci := 9) hc27 rfl rfl rfl hl.1 (Nat.le_of_ble_eq_true rfl) dX11_withRank_31 (c1 := 0) (s1 := 0) ⟨⟨rfl, rfl⟩, by decide, by decide⟩ (fun z39 M36 N37 H locs hp38 hV => ?_)
      obtain ⟨A940, W941, R942, ez43, hN44, hc45, hc46, hc47, hf48, hA949, hC950⟩ := hp38
      rw [hN44] at hV
      rw [ez43]
      have hA := hA949
      have hC := hC950
      have htr := tot_r (by omega) hC
      refine lv_istore_n (lv' := [(3, .int (sI (totI f))), (0, .ref m), (1, .int (sI s)), (2, .int (sI r))]) hx_ hb_ dX11_withRank_34 rfl hl (by decide) rfl (fun ls hl => ?_)
      refine lv_aload_n hx_ hb_ dX11_withRank_35 rfl (lv_at hl 1 rfl) ?_
      refine lv_iload_n hx_ hb_ dX11_withRank_36 rfl (lv_at hl 2 rfl) ?_
      refine lv_iload_n hx_ hb_ dX11_withRank_37 rfl (lv_at hl 3 rfl) ?_
      have hc51 : M36 m = some (mO m 0 ch tn ea sn nm wn) := (hf48 m (by omega) (by omega) (by omega)).trans hc27
      have hc52 : M36 (m + 1) = some (sArr G 574 f) := (hf48 (m + 1) (by omega) (by omega) (by omega)).trans hc32
      refine sk_VP E hV (As := [.int (sI s), .int (sI r)]) (rest := []) (kX11_ranked l_ G b_ M36 N m 0 ch tn ea sn nm wn f A940 W941 R942 s r hc51 hc52 hc45 hc46 hc47 (by omega) (hA) (hC) (by omega)) (cwV 2 S.2.2.2.2 gX11_withRank_X11_ranked rfl rfl rfl (by decide +kernel) ⟨Nat.le_of_ble_eq_true rfl, Nat.le_of_ble_eq_true rfl⟩) (ci := 9) hc51 rfl rfl rfl hl.1 (Nat.le_of_ble_eq_true rfl) dX11_withRank_38 (c1 := 0) (s1 := 0) ⟨⟨rfl, rfl⟩, by decide, by decide⟩ (fun H locs hV => ?_)
      exact sr_i E hQ dX11_withRank_41 ⟨Nat.le_of_ble_eq_true rfl, Nat.le_of_ble_eq_true rfl⟩ hV (⟨A940, W941, R942, rfl, hc45, hc46, hc47, fun x q0 q1 q2 q3 => (((hf48 x (by omega) (by omega) (by omega)).trans (hf23 x (by omega))).trans (hf9 x (by omega))).trans ((congrFun hM1 x).trans (va_up_ne M _ (by omega))), Or.inr (Or.inr (⟨(by omega), rfl, hc51⟩))⟩)
    · rw [ez29]
      refine sz_eq (tgt := 30) S dX11_withRank_25 (by decide) (by omega) (fun c53 => absurd c53 (by omega)) (fun _ => ?_)
      refine si_const S dX11_withRank_28 ?_
      have hc54 : M18 (m + 7) = some (sArr G 10 A) := (((hf23 (m + 7) (by omega)).trans (hf9 (m + 7) (by omega))).trans ((congrFun hM1 (m + 7)).trans (va_up_ne M _ (by omega)))).trans hm7
      have hc55 : M18 (m + 5) = some (sArr G 1024 Wy) := (((hf23 (m + 5) (by omega)).trans (hf9 (m + 5) (by omega))).trans ((congrFun hM1 (m + 5)).trans (va_up_ne M _ (by omega)))).trans hm5
      have hc56 : M18 (m + 6) = some (sArr G 1024 R) := (((hf23 (m + 6) (by omega)).trans (hf9 (m + 6) (by omega))).trans ((congrFun hM1 (m + 6)).trans (va_up_ne M _ (by omega)))).trans hm6
      exact sr_i E hQ dX11_withRank_29 ⟨Nat.le_of_ble_eq_true rfl, Nat.le_of_ble_eq_true rfl⟩ hV (⟨A, Wy, R, rfl, hc54, hc55, hc56, fun x q0 q1 q2 q3 => ((hf23 x (by omega)).trans (hf9 x (by omega))).trans ((congrFun hM1 x).trans (va_up_ne M _ (by omega))), Or.inr (Or.inl ⟨(by omega), rfl, hc30⟩)⟩)
  · rw [ez15]
    refine sz_ne (tgt := 28) S dX11_withRank_10 (by decide) (by omega) (fun _ => ?_) (fun c57 => absurd c57 (by omega))
    refine si_const S dX11_withRank_28 ?_
    have hc58 : M4 (m + 7) = some (sArr G 10 A) := ((hf9 (m + 7) (by omega)).trans ((congrFun hM1 (m + 7)).trans (va_up_ne M _ (by omega)))).trans hm7
    have hc59 : M4 (m + 5) = some (sArr G 1024 Wy) := ((hf9 (m + 5) (by omega)).trans ((congrFun hM1 (m + 5)).trans (va_up_ne M _ (by omega)))).trans hm5
    have hc60 : M4 (m + 6) = some (sArr G 1024 R) := ((hf9 (m + 6) (by omega)).trans ((congrFun hM1 (m + 6)).trans (va_up_ne M _ (by omega)))).trans hm6
    exact sr_i E hQ dX11_withRank_29 ⟨Nat.le_of_ble_eq_true rfl, Nat.le_of_ble_eq_true rfl⟩ hV (⟨A, Wy, R, rfl, hc58, hc59, hc60, fun x q0 q1 q2 q3 => (hf9 x (by omega)).trans ((congrFun hM1 x).trans (va_up_ne M _ (by omega))), Or.inl ⟨(by omega), rfl, hc16⟩⟩)

abbrev rmX11_noTwo : Room := { frames := 3, cells := 0, slots := 0, locals := 83 }
set_option maxHeartbeats 4000000 in
set_option maxRecDepth 100000 in
theorem kX11_noTwo (l_ : Launch) (G : sG) (b_ : Nat) (M : sM) (N : Nat) (m : Nat) (ch tn ea sn nm wn : Int) (f : sF) (a b : Int) (hm0 : M m = some (mO m 0 ch tn ea sn nm wn)) (hm1 : M (m + 1) = some (sArr G 574 f)) (hok : sOk f) (hr : sR a ∧ sR b) : cI l_ yX11_noTwo wsX11_noTwo rmX11_noTwo G b_ M N [.ref m, .int (sI a), .int (sI b)] (fun z_ M1 N1 => N1 = N ∧ (∀ x : Nat, ¬ (x = m) → M1 x = M x) ∧ (((¬ ((0 ≤ a ∧ a < f 568) ∧ (0 ≤ b ∧ b < f 568))) ∧ z_ = 1 ∧ M1 m = some (mO m 1 ch tn ea sn nm wn)) ∨ ((((0 ≤ a ∧ a < f 568) ∧ (0 ≤ b ∧ b < f 568)) ∧ a = b) ∧ z_ = 1 ∧ M1 m = some (mO m 2 ch tn ea sn nm wn)) ∨ ((((0 ≤ a ∧ a < f 568) ∧ (0 ≤ b ∧ b < f 568)) ∧ a ≠ b) ∧ z_ = 0 ∧ M1 m = some (mO m 0 ch tn ea sn nm wn)))) := by
  refine sE.ofI (cc := cX11_noTwo) (nL := 3) (ret := (some .boolean)) (by decide) rfl (Nat.le_of_ble_eq_true rfl) ?_
  intro p_ e_ s_ m_ args_ below_ meth_ c_ ls Q hQ E hl
  have E : sE p_ l_ e_ rmX11_noTwo s_ m_ args_ below_ meth_ c_ cX11_noTwo 3 wsX11_noTwo RX11 "noTwo" (some .boolean) G b_ M N := E
  have S := E.1
  have hx_ := S.1
  have hb_ := S.2.1
  have hK := E.2.2.2.2.1
  have hV := E.2.2.2.2.2.2
  have hl : lv_has ls 3 [(0, .ref m), (1, .int (sI a)), (2, .int (sI b))] := hl
  have inX11_ : ∀ w ∈ wsX110, w ∈ wsX11_noTwo := fun _ h => List.mem_cons_of_mem _ (List.mem_append_right _ h)
  have kn0 := sOk_N hok
  refine lv_aload_n hx_ hb_ dX11_noTwo_0 rfl (lv_at hl 0 rfl) ?_
  refine lv_iload_n hx_ hb_ dX11_noTwo_1 rfl (lv_at hl 1 rfl) ?_
  refine sk_Vi E hV (As := [.int (sI a)]) (rest := []) (kX11_noStone l_ G b_ M N m ch tn ea sn nm wn f a hm0 hm1 (by omega) (by omega)) (cwV 1 S.2.2.2.2 gX11_noTwo_X11_noStone rfl rfl rfl (by decide +kernel) ⟨Nat.le_of_ble_eq_true rfl, Nat.le_of_ble_eq_true rfl⟩) (ci := 9) hm0 rfl rfl rfl hl.1 (Nat.le_of_ble_eq_true rfl) dX11_noTwo_2 (c1 := 0) (s1 := 0) ⟨⟨rfl, rfl⟩, by decide, by decide⟩ (fun z4 M1 N2 H locs hp3 hV => ?_)
  obtain ⟨hN5, hf6, hq7⟩ := hp3
  rw [hN5] at hV
  rcases hq7 with ⟨c8, ez9, hc10⟩ | ⟨c11, ez12, hc13⟩
  · rw [ez9]
    refine sz_ne (tgt := 34) S dX11_noTwo_5 (by decide) (by omega) (fun c14 => absurd c14 (by omega)) (fun _ => ?_)
    refine lv_aload_n hx_ hb_ dX11_noTwo_8 rfl (lv_at hl 0 rfl) ?_
    refine lv_iload_n hx_ hb_ dX11_noTwo_9 rfl (lv_at hl 2 rfl) ?_
    have hc15 : M1 (m + 1) = some (sArr G 574 f) := (hf6 (m + 1) (by omega)).trans hm1
    refine sk_Vi E hV (As := [.int (sI b)]) (rest := []) (kX11_noStone l_ G b_ M1 N m ch tn ea sn nm wn f b hc10 hc15 (by omega) (by omega)) (cwV 1 S.2.2.2.2 gX11_noTwo_X11_noStone rfl rfl rfl (by decide +kernel) ⟨Nat.le_of_ble_eq_true rfl, Nat.le_of_ble_eq_true rfl⟩) (ci := 9) hc10 rfl rfl rfl hl.1 (Nat.le_of_ble_eq_true rfl) dX11_noTwo_10 (c1 := 0) (s1 := 0) ⟨⟨rfl, rfl⟩, by decide, by decide⟩ (fun z19 M16 N17 H locs hp18 hV => ?_)
    obtain ⟨hN20, hf21, hq22⟩ := hp18
    rw [hN20] at hV
    rcases hq22 with ⟨c23, ez24, hc25⟩ | ⟨c26, ez27, hc28⟩
    · rw [ez24]
      refine sz_ne (tgt := 34) S dX11_noTwo_13 (by decide) (by omega) (fun c29 => absurd c29 (by omega)) (fun _ => ?_)
      refine lv_aload_n hx_ hb_ dX11_noTwo_16 rfl (lv_at hl 0 rfl) ?_
      refine lv_iload_n hx_ hb_ dX11_noTwo_17 rfl (lv_at hl 1 rfl) ?_
      refine lv_iload_n hx_ hb_ dX11_noTwo_18 rfl (lv_at hl 2 rfl) ?_
      refine sb_eq (tgt := 26) S dX11_noTwo_19 (by decide) (by omega) (fun c30 => ?_) (fun c30 => ?_)
      · refine si_const S dX11_noTwo_26 ?_
        refine si_const S dX11_noTwo_27 ?_
        refine sk_Vi E hV (As := [.int (sI 0), .int (sI 2)]) (rest := []) (kX11_fails0 l_ G b_ M16 N m ch tn ea sn nm wn 2 hc25 (by omega)) (cwV 2 S.2.2.2.2 gX11_noTwo_X11_fails rfl rfl rfl (by decide +kernel) ⟨Nat.le_of_ble_eq_true rfl, Nat.le_of_ble_eq_true rfl⟩) (ci := 9) hc25 rfl rfl rfl hl.1 (Nat.le_of_ble_eq_true rfl) dX11_noTwo_28 (c1 := 0) (s1 := 0) ⟨⟨rfl, rfl⟩, by decide, by decide⟩ (fun z34 M31 N32 H locs hp33 hV => ?_)
        obtain ⟨ez35, hN36, hc37, hf38⟩ := hp33
        rw [hN36] at hV
        rw [ez35]
        refine sz_eq (tgt := 38) S dX11_noTwo_31 (by decide) (by omega) (fun c39 => absurd c39 (by omega)) (fun _ => ?_)
        refine si_const S dX11_noTwo_34 ?_
        refine lv_goto (tgt := 39) hx_ hb_ dX11_noTwo_35 (by decide) ?_
        exact sr_z E hQ (Or.inr rfl) dX11_noTwo_39 ⟨Nat.le_of_ble_eq_true rfl, Nat.le_of_ble_eq_true rfl⟩ hV (⟨rfl, fun x q0 => ((hf38 x (by omega)).trans (hf21 x (by omega))).trans (hf6 x (by omega)), Or.inr (Or.inl ⟨(by omega), rfl, hc37⟩)⟩)
      · refine si_const S dX11_noTwo_22 ?_
        refine lv_goto (tgt := 27) hx_ hb_ dX11_noTwo_23 (by decide) ?_
        refine si_const S dX11_noTwo_27 ?_
        refine sk_Vi E hV (As := [.int (sI 1), .int (sI 2)]) (rest := []) (kX11_fails1 l_ G b_ M16 N m ch tn ea sn nm wn 2 hc25 (by omega)) (cwV 2 S.2.2.2.2 gX11_noTwo_X11_fails rfl rfl rfl (by decide +kernel) ⟨Nat.le_of_ble_eq_true rfl, Nat.le_of_ble_eq_true rfl⟩) (ci := 9) hc25 rfl rfl rfl hl.1 (Nat.le_of_ble_eq_true rfl) dX11_noTwo_28 (c1 := 0) (s1 := 0) ⟨⟨rfl, rfl⟩, by decide, by decide⟩ (fun z43 M40 N41 H locs hp42 hV => ?_)
        obtain ⟨ez44, hN45, hc46, hf47⟩ := hp42
        rw [hN45] at hV
        rw [ez44]
        refine sz_eq (tgt := 38) S dX11_noTwo_31 (by decide) (by omega) (fun _ => ?_) (fun c48 => absurd c48 (by omega))
        refine si_const S dX11_noTwo_38 ?_
        exact sr_z E hQ (Or.inl rfl) dX11_noTwo_39 ⟨Nat.le_of_ble_eq_true rfl, Nat.le_of_ble_eq_true rfl⟩ hV (⟨rfl, fun x q0 => ((hf47 x (by omega)).trans (hf21 x (by omega))).trans (hf6 x (by omega)), Or.inr (Or.inr (⟨(by omega), rfl, hc46⟩))⟩)
    · rw [ez27]
      refine sz_ne (tgt := 34) S dX11_noTwo_13 (by decide) (by omega) (fun _ => ?_) (fun c49 => absurd c49 (by omega))
      refine si_const S dX11_noTwo_34 ?_
      refine lv_goto (tgt := 39) hx_ hb_ dX11_noTwo_35 (by decide) ?_
      exact sr_z E hQ (Or.inr rfl) dX11_noTwo_39 ⟨Nat.le_of_ble_eq_true rfl, Nat.le_of_ble_eq_true rfl⟩ hV (⟨rfl, fun x q0 => (hf21 x (by omega)).trans (hf6 x (by omega)), Or.inl ⟨(by omega), rfl, hc28⟩⟩)
  · rw [ez12]
    refine sz_ne (tgt := 34) S dX11_noTwo_5 (by decide) (by omega) (fun _ => ?_) (fun c50 => absurd c50 (by omega))
    refine si_const S dX11_noTwo_34 ?_
    refine lv_goto (tgt := 39) hx_ hb_ dX11_noTwo_35 (by decide) ?_
    exact sr_z E hQ (Or.inr rfl) dX11_noTwo_39 ⟨Nat.le_of_ble_eq_true rfl, Nat.le_of_ble_eq_true rfl⟩ hV (⟨rfl, fun x q0 => hf6 x (by omega), Or.inl ⟨(by omega), rfl, hc13⟩⟩)

abbrev rmX11_harder : Room := { frames := 4, cells := 0, slots := 0, locals := 105 }
set_option maxHeartbeats 4000000 in
set_option maxRecDepth 100000 in
theorem kX11_harder (l_ : Launch) (G : sG) (b_ : Nat) (M : sM) (N : Nat) (m : Nat) (th ch tn ea sn nm wn : Int) (f : sF) (A Wy R : sF) (a b : Int) (hm0 : M m = some (mO m th ch tn ea sn nm wn)) (hm1 : M (m + 1) = some (sArr G 574 f)) (hm7 : M (m + 7) = some (sArr G 10 A)) (hm5 : M (m + 5) = some (sArr G 1024 Wy)) (hm6 : M (m + 6) = some (sArr G 1024 R)) (hok : sOk f) (hr : sR a ∧ sR b) : cI l_ yX11_harder wsX11_harder rmX11_harder G b_ M N [.ref m, .int (sI a), .int (sI b)] (fun z_ M1 N1 => ∃ A9 : Int → Int, ∃ W9 : Int → Int, ∃ R9 : Int → Int, N1 = N ∧ M1 (m + 7) = some (sArr G 10 A9) ∧ M1 (m + 5) = some (sArr G 1024 W9) ∧ M1 (m + 6) = some (sArr G 1024 R9) ∧ (∀ x : Nat, ¬ (x = m) → ¬ (x = m + 5) → ¬ (x = m + 6) → ¬ (x = m + 7) → M1 x = M x) ∧ (((¬ ((0 ≤ a ∧ a < f 568) ∧ (0 ≤ b ∧ b < f 568))) ∧ z_ = 0 ∧ M1 m = some (mO m 1 ch tn ea sn nm wn)) ∨ ((((0 ≤ a ∧ a < f 568) ∧ (0 ≤ b ∧ b < f 568)) ∧ a = b) ∧ z_ = 0 ∧ M1 m = some (mO m 2 ch tn ea sn nm wn)) ∨ ((((0 ≤ a ∧ a < f 568) ∧ (0 ≤ b ∧ b < f 568)) ∧ a ≠ b) ∧ z_ = abI f a b ∧ M1 m = some (mO m 0 ch tn ea sn nm wn)))) := by
  refine sE.ofI (cc := cX11_harder) (nL := 4) (ret := (some .int)) (by decide) rfl (Nat.le_of_ble_eq_true rfl) ?_
  intro p_ e_ s_ m_ args_ below_ meth_ c_ ls Q hQ E hl
  have E : sE p_ l_ e_ rmX11_harder s_ m_ args_ below_ meth_ c_ cX11_harder 4 wsX11_harder RX11 "harder" (some .int) G b_ M N := E
  have S := E.1
  have hx_ := S.1
  have hb_ := S.2.1
  have hK := E.2.2.2.2.1
  have hV := E.2.2.2.2.2.2
  have hl : lv_has ls 4 [(0, .ref m), (1, .int (sI a)), (2, .int (sI b))] := hl
  have inX11_ : ∀ w ∈ wsX110, w ∈ wsX11_harder := fun _ h => List.mem_cons_of_mem _ (List.mem_append_right _ h)
  have kn0 := sOk_N hok
  have hp1 := p2_p (f 568)
  have hp2 := p2_10 (n := f 568) (by omega)
  refine lv_aload_n hx_ hb_ dX11_harder_0 rfl (lv_at hl 0 rfl) ?_
  refine si_const S dX11_harder_1 ?_
  refine sc_put (ci := 9) (C := RX11) (T := TX11) (n := 22) S hK hV inX11_ tyX11_ok nmX11 hm0 rfl 0 (by decide) (S.2.2.2.2 _ (List.mem_of_getElem? (i := 1) rfl)) rfl rfl rfl rfl (Nat.le_of_ble_eq_true rfl) dX11_harder_2 (fs1 := [.int (sI 0), .ref (m + 1), .ref (m + 2), .int (sI ch), .ref (m + 3), .int (sI tn), .int (sI ea), .ref (m + 4), .ref (m + 5), .ref (m + 6), .ref (m + 7), .ref (m + 8), .ref (m + 9), .int (sI sn), .ref (m + 10), .ref (m + 11), .ref (m + 12), .ref (m + 13), .int (sI nm), .ref (m + 14), .ref (m + 15), .int (sI wn)]) rfl (fun M1 H locs hM1 hV => ?_)
  have hc2 : M1 m = some (mO m 0 ch tn ea sn nm wn) := (congrFun hM1 m).trans (va_up_self M m _)
  refine lv_aload_n hx_ hb_ dX11_harder_5 rfl (lv_at hl 0 rfl) ?_
  refine lv_iload_n hx_ hb_ dX11_harder_6 rfl (lv_at hl 1 rfl) ?_
  refine lv_iload_n hx_ hb_ dX11_harder_7 rfl (lv_at hl 2 rfl) ?_
  have hc3 : M1 (m + 1) = some (sArr G 574 f) := ((congrFun hM1 (m + 1)).trans (va_up_ne M _ (by omega))).trans hm1
  refine sk_Vi E hV (As := [.int (sI a), .int (sI b)]) (rest := []) (kX11_noTwo l_ G b_ M1 N m ch tn ea sn nm wn f a b hc2 hc3 (by omega) (by omega)) (cwV 2 S.2.2.2.2 gX11_harder_X11_noTwo rfl rfl rfl (by decide +kernel) ⟨Nat.le_of_ble_eq_true rfl, Nat.le_of_ble_eq_true rfl⟩) (ci := 9) hc2 rfl rfl rfl hl.1 (Nat.le_of_ble_eq_true rfl) dX11_harder_8 (c1 := 0) (s1 := 0) ⟨⟨rfl, rfl⟩, by decide, by decide⟩ (fun z7 M4 N5 H locs hp6 hV => ?_)
  obtain ⟨hN8, hf9, hq10⟩ := hp6
  rw [hN8] at hV
  rcases hq10 with ⟨c11, ez12, hc13⟩ | ⟨c14, ez15, hc16⟩ | ⟨c17, ez18, hc19⟩
  · rw [ez12]
    refine sz_eq (tgt := 16) S dX11_harder_11 (by decide) (by omega) (fun c20 => absurd c20 (by omega)) (fun _ => ?_)
    refine si_const S dX11_harder_14 ?_
    have hc21 : M4 (m + 7) = some (sArr G 10 A) := ((hf9 (m + 7) (by omega)).trans ((congrFun hM1 (m + 7)).trans (va_up_ne M _ (by omega)))).trans hm7
    have hc22 : M4 (m + 5) = some (sArr G 1024 Wy) := ((hf9 (m + 5) (by omega)).trans ((congrFun hM1 (m + 5)).trans (va_up_ne M _ (by omega)))).trans hm5
    have hc23 : M4 (m + 6) = some (sArr G 1024 R) := ((hf9 (m + 6) (by omega)).trans ((congrFun hM1 (m + 6)).trans (va_up_ne M _ (by omega)))).trans hm6
    exact sr_i E hQ dX11_harder_15 ⟨Nat.le_of_ble_eq_true rfl, Nat.le_of_ble_eq_true rfl⟩ hV (⟨A, Wy, R, rfl, hc21, hc22, hc23, fun x q0 q1 q2 q3 => (hf9 x (by omega)).trans ((congrFun hM1 x).trans (va_up_ne M _ (by omega))), Or.inl ⟨(by omega), rfl, hc13⟩⟩)
  · rw [ez15]
    refine sz_eq (tgt := 16) S dX11_harder_11 (by decide) (by omega) (fun c24 => absurd c24 (by omega)) (fun _ => ?_)
    refine si_const S dX11_harder_14 ?_
    have hc25 : M4 (m + 7) = some (sArr G 10 A) := ((hf9 (m + 7) (by omega)).trans ((congrFun hM1 (m + 7)).trans (va_up_ne M _ (by omega)))).trans hm7
    have hc26 : M4 (m + 5) = some (sArr G 1024 Wy) := ((hf9 (m + 5) (by omega)).trans ((congrFun hM1 (m + 5)).trans (va_up_ne M _ (by omega)))).trans hm5
    have hc27 : M4 (m + 6) = some (sArr G 1024 R) := ((hf9 (m + 6) (by omega)).trans ((congrFun hM1 (m + 6)).trans (va_up_ne M _ (by omega)))).trans hm6
    exact sr_i E hQ dX11_harder_15 ⟨Nat.le_of_ble_eq_true rfl, Nat.le_of_ble_eq_true rfl⟩ hV (⟨A, Wy, R, rfl, hc25, hc26, hc27, fun x q0 q1 q2 q3 => (hf9 x (by omega)).trans ((congrFun hM1 x).trans (va_up_ne M _ (by omega))), Or.inr (Or.inl ⟨(by omega), rfl, hc16⟩)⟩)
  · rw [ez18]
    refine sz_eq (tgt := 16) S dX11_harder_11 (by decide) (by omega) (fun _ => ?_) (fun c28 => absurd c28 (by omega))
    refine lv_aload_n hx_ hb_ dX11_harder_16 rfl (lv_at hl 0 rfl) ?_
    have hc29 : M4 (m + 1) = some (sArr G 574 f) := (hf9 (m + 1) (by omega)).trans hc3
    have hc30 : M4 (m + 7) = some (sArr G 10 A) := ((hf9 (m + 7) (by omega)).trans ((congrFun hM1 (m + 7)).trans (va_up_ne M _ (by omega)))).trans hm7
    have hc31 : M4 (m + 5) = some (sArr G 1024 Wy) := ((hf9 (m + 5) (by omega)).trans ((congrFun hM1 (m + 5)).trans (va_up_ne M _ (by omega)))).trans hm5
    have hc32 : M4 (m + 6) = some (sArr G 1024 R) := ((hf9 (m + 6) (by omega)).trans ((congrFun hM1 (m + 6)).trans (va_up_ne M _ (by omega)))).trans hm6
    refine sk_Vi E hV (As := []) (rest := []) (kX11_counts l_ G b_ M4 N m 0 ch tn ea sn nm wn f A Wy R hc19 hc29 hc30 hc31 hc32 (by omega)) (cwV 0 S.2.2.2.2 gX11_harder_X11_counts rfl rfl rfl (by decide +kernel) ⟨Nat.le_of_ble_eq_true rfl, Nat.le_of_ble_eq_true rfl⟩) (ci := 9) hc19 rfl rfl rfl hl.1 (Nat.le_of_ble_eq_true rfl) dX11_harder_17 (c1 := 0) (s1 := 0) ⟨⟨rfl, rfl⟩, by decide, by decide⟩ (fun z36 M33 N34 H locs hp35 hV => ?_)
    obtain ⟨A937, W938, R939, ez40, hN41, hc42, hc43, hc44, hf45, hA946, hC947⟩ := hp35
    rw [hN41] at hV
    rw [ez40]
    have hA := hA946
    have hC := hC947
    have htr := tot_r (by omega) hC
    refine lv_istore_n (lv' := [(3, .int (sI (totI f))), (0, .ref m), (1, .int (sI a)), (2, .int (sI b))]) hx_ hb_ dX11_harder_20 rfl hl (by decide) rfl (fun ls hl => ?_)
    refine lv_aload_n hx_ hb_ dX11_harder_21 rfl (lv_at hl 1 rfl) ?_
    refine lv_iload_n hx_ hb_ dX11_harder_22 rfl (lv_at hl 2 rfl) ?_
    refine lv_iload_n hx_ hb_ dX11_harder_23 rfl (lv_at hl 3 rfl) ?_
    have hc48 : M33 m = some (mO m 0 ch tn ea sn nm wn) := (hf45 m (by omega) (by omega) (by omega)).trans hc19
    have hc49 : M33 (m + 1) = some (sArr G 574 f) := (hf45 (m + 1) (by omega) (by omega) (by omega)).trans hc29
    refine sk_VP E hV (As := [.int (sI a), .int (sI b)]) (rest := []) (kX11_above l_ G b_ M33 N m 0 ch tn ea sn nm wn f A937 W938 R939 a b hc48 hc49 hc42 hc43 hc44 (by omega) (hA) (hC) (by omega)) (cwV 2 S.2.2.2.2 gX11_harder_X11_above rfl rfl rfl (by decide +kernel) ⟨Nat.le_of_ble_eq_true rfl, Nat.le_of_ble_eq_true rfl⟩) (ci := 9) hc48 rfl rfl rfl hl.1 (Nat.le_of_ble_eq_true rfl) dX11_harder_24 (c1 := 0) (s1 := 0) ⟨⟨rfl, rfl⟩, by decide, by decide⟩ (fun H locs hV => ?_)
    exact sr_i E hQ dX11_harder_27 ⟨Nat.le_of_ble_eq_true rfl, Nat.le_of_ble_eq_true rfl⟩ hV (⟨A937, W938, R939, rfl, hc42, hc43, hc44, fun x q0 q1 q2 q3 => ((hf45 x (by omega) (by omega) (by omega)).trans (hf9 x (by omega))).trans ((congrFun hM1 x).trans (va_up_ne M _ (by omega))), Or.inr (Or.inr (⟨(by omega), rfl, hc48⟩))⟩)

abbrev rmX11_common : Room := { frames := 1, cells := 0, slots := 0, locals := 40 }
set_option maxHeartbeats 4000000 in
set_option maxRecDepth 100000 in
theorem kX11_common (l_ : Launch) (G : sG) (b_ : Nat) (M : sM) (N : Nat) (p q : Int) (hr : 0 < p ∧ 0 ≤ q ∧ p ≤ 2147483647 ∧ q ≤ 2147483647) : cP l_ yX11_common wsX11_common rmX11_common G b_ M N [.int (sI p), .int (sI q)] (cmI p q) := by
  refine sE.ofI (cc := cX11_common) (nL := 5) (ret := (some .int)) (by decide) rfl (Nat.le_of_ble_eq_true rfl) ?_
  intro p_ e_ s_ m_ args_ below_ meth_ c_ ls Q hQ E hl
  have E : sE p_ l_ e_ rmX11_common s_ m_ args_ below_ meth_ c_ cX11_common 5 wsX11_common RX11 "common" (some .int) G b_ M N := E
  have S := E.1
  have hx_ := S.1
  have hb_ := S.2.1
  have hK := E.2.2.2.2.1
  have hV := E.2.2.2.2.2.2
  have hl : lv_has ls 5 [(0, .int (sI p)), (1, .int (sI q))] := hl
  refine lv_iload_n hx_ hb_ dX11_common_0 rfl (lv_at hl 0 rfl) ?_
  refine lv_istore_n (lv' := [(2, .int (sI p)), (0, .int (sI p)), (1, .int (sI q))]) hx_ hb_ dX11_common_1 rfl hl (by decide) rfl (fun ls hl => ?_)
  refine lv_iload_n hx_ hb_ dX11_common_2 rfl (lv_at hl 2 rfl) ?_
  refine lv_istore_n (lv' := [(3, .int (sI q)), (2, .int (sI p)), (0, .int (sI p)), (1, .int (sI q))]) hx_ hb_ dX11_common_3 rfl hl (by decide) rfl (fun ls hl => ?_)
  have L4 : ∀ (fuel : Nat) (x : Int) (y : Int)  (H : Heap) (locs : List Loc) (ls : Array Slot), (y.toNat) < fuel → (0 ≤ x ∧ 0 ≤ y ∧ x ≤ 2147483647 ∧ y ≤ 2147483647) → (cmI x y = cmI p q) → sV G b_ M N s_ H locs → lv_has ls 5 [(2, .int (sI x)), (3, .int (sI y))] → W p_ l_ e_ rmX11_common s_ m_ args_ below_ meth_ c_ H locs 0 0 Q (F0 m_ 4 ls []) := by
    intro fuel
    induction fuel with
    | zero => intro x y H locs ls hmu; exact absurd hmu (Nat.not_lt_zero _)
    | succ fuel ih4 =>
      intro x y H locs ls hmu4 hv4_0 hg  hV hl
      refine lv_iload_n hx_ hb_ dX11_common_4 rfl (lv_at hl 1 rfl) ?_
      refine sz_le (tgt := 21) S dX11_common_5 (by decide) (by omega) (fun c1 => ?_) (fun c1 => ?_)
      · refine lv_iload_n hx_ hb_ dX11_common_21 rfl (lv_at hl 0 rfl) ?_
        exact sr_i E hQ dX11_common_22 ⟨Nat.le_of_ble_eq_true rfl, Nat.le_of_ble_eq_true rfl⟩ hV (⟨by rw [show y = 0 by omega, cmI_0 (by omega)] at hg; exact hg, rfl, rfl⟩)
      · refine lv_iload_n hx_ hb_ dX11_common_8 rfl (lv_at hl 0 rfl) ?_
        refine lv_iload_n hx_ hb_ dX11_common_9 rfl (lv_at hl 1 rfl) ?_
        refine si_remN S dX11_common_10 (by omega) ?_
        have hm1 := Int.emod_nonneg x (show y ≠ 0 by omega)
        have hm2 := Int.emod_lt_of_pos x (show 0 < y by omega)
        refine lv_istore (lv' := [(4, .int (sI (x % y))), (2, .int (sI x)), (3, .int (sI y))]) hx_ hb_ dX11_common_11 hl (by decide) rfl (fun ls hl => ?_)
        refine lv_iload_n hx_ hb_ dX11_common_13 rfl (lv_at hl 2 rfl) ?_
        refine lv_istore_n (lv' := [(2, .int (sI y)), (4, .int (sI (x % y))), (3, .int (sI y))]) hx_ hb_ dX11_common_14 rfl hl (by decide) rfl (fun ls hl => ?_)
        refine lv_iload hx_ hb_ dX11_common_15 (lv_at hl 1 rfl) ?_
        refine lv_istore_n (lv' := [(3, .int (sI (x % y))), (2, .int (sI y)), (4, .int (sI (x % y)))]) hx_ hb_ dX11_common_17 rfl hl (by decide) rfl (fun ls hl => ?_)
        refine lv_goto (tgt := 4) hx_ hb_ dX11_common_18 (by decide) ?_
        exact ih4 y (x % y) _ _ _ (by omega) (by omega) (by rw [cmI_s (by omega) (by omega)]; exact hg) hV (lv_sub hl [1, 0] rfl)
  exact L4 _ p q _ _ _ (Nat.lt_succ_self _) (by omega) (rfl) hV (lv_sub hl [1, 0] rfl)

abbrev rmX11_shareOf : Room := { frames := 4, cells := 0, slots := 0, locals := 105 }
set_option maxHeartbeats 4000000 in
set_option maxRecDepth 100000 in
theorem kX11_shareOf (l_ : Launch) (G : sG) (b_ : Nat) (M : sM) (N : Nat) (m : Nat) (th ch tn ea sn nm wn : Int) (f : sF) (A Wy R : sF) (a b : Int) (B : Prop) (hm0 : M m = some (mO m th ch tn ea sn nm wn)) (hm1 : M (m + 1) = some (sArr G 574 f)) (hm7 : M (m + 7) = some (sArr G 10 A)) (hm5 : M (m + 5) = some (sArr G 1024 Wy)) (hm6 : M (m + 6) = some (sArr G 1024 R)) (hok : sOk f) (hr : sR a ∧ sR b) : cI l_ yX11_shareOf wsX11_shareOf rmX11_shareOf G b_ M N [.ref m, .int (sI a), .int (sI b), .int (sI (bI B))] (fun z_ M1 N1 => ∃ A9 : Int → Int, ∃ W9 : Int → Int, ∃ R9 : Int → Int, N1 = N ∧ M1 (m + 7) = some (sArr G 10 A9) ∧ M1 (m + 5) = some (sArr G 1024 W9) ∧ M1 (m + 6) = some (sArr G 1024 R9) ∧ (∀ x : Nat, ¬ (x = m) → ¬ (x = m + 5) → ¬ (x = m + 6) → ¬ (x = m + 7) → M1 x = M x) ∧ (((¬ ((0 ≤ a ∧ a < f 568) ∧ (0 ≤ b ∧ b < f 568))) ∧ z_ = 0 ∧ M1 m = some (mO m 1 ch tn ea sn nm wn)) ∨ ((((0 ≤ a ∧ a < f 568) ∧ (0 ≤ b ∧ b < f 568)) ∧ a = b) ∧ z_ = 0 ∧ M1 m = some (mO m 2 ch tn ea sn nm wn)) ∨ ((((0 ≤ a ∧ a < f 568) ∧ (0 ≤ b ∧ b < f 568)) ∧ a ≠ b ∧ totI f = 0) ∧ z_ = bI B ∧ M1 m = some (mO m 0 ch tn ea sn nm wn)) ∨ ((((0 ≤ a ∧ a < f 568) ∧ (0 ≤ b ∧ b < f 568)) ∧ a ≠ b ∧ totI f ≠ 0) ∧ z_ = pif B (totI f) (abI f a b) / cmI (totI f) (abI f a b) ∧ M1 m = some (mO m 0 ch tn ea sn nm wn)))) := by
  refine sE.ofI (cc := cX11_shareOf) (nL := 6) (ret := (some .int)) (by decide) rfl (Nat.le_of_ble_eq_true rfl) ?_
  intro p_ e_ s_ m_ args_ below_ meth_ c_ ls Q hQ E hl
  have E : sE p_ l_ e_ rmX11_shareOf s_ m_ args_ below_ meth_ c_ cX11_shareOf 6 wsX11_shareOf RX11 "shareOf" (some .int) G b_ M N := E
  have S := E.1
  have hx_ := S.1
  have hb_ := S.2.1
  have hK := E.2.2.2.2.1
  have hV := E.2.2.2.2.2.2
  have hl : lv_has ls 6 [(0, .ref m), (1, .int (sI a)), (2, .int (sI b)), (3, .int (sI (bI B)))] := hl
  have inX11_ : ∀ w ∈ wsX110, w ∈ wsX11_shareOf := fun _ h => List.mem_cons_of_mem _ (List.mem_append_right _ h)
  have kn0 := sOk_N hok
  have hp1 := p2_p (f 568)
  have hp2 := p2_10 (n := f 568) (by omega)
  refine lv_aload_n hx_ hb_ dX11_shareOf_0 rfl (lv_at hl 0 rfl) ?_
  refine si_const S dX11_shareOf_1 ?_
  refine sc_put (ci := 9) (C := RX11) (T := TX11) (n := 22) S hK hV inX11_ tyX11_ok nmX11 hm0 rfl 0 (by decide) (S.2.2.2.2 _ (List.mem_of_getElem? (i := 1) rfl)) rfl rfl rfl rfl (Nat.le_of_ble_eq_true rfl) dX11_shareOf_2 (fs1 := [.int (sI 0), .ref (m + 1), .ref (m + 2), .int (sI ch), .ref (m + 3), .int (sI tn), .int (sI ea), .ref (m + 4), .ref (m + 5), .ref (m + 6), .ref (m + 7), .ref (m + 8), .ref (m + 9), .int (sI sn), .ref (m + 10), .ref (m + 11), .ref (m + 12), .ref (m + 13), .int (sI nm), .ref (m + 14), .ref (m + 15), .int (sI wn)]) rfl (fun M1 H locs hM1 hV => ?_)
  have hc2 : M1 m = some (mO m 0 ch tn ea sn nm wn) := (congrFun hM1 m).trans (va_up_self M m _)
  refine lv_aload_n hx_ hb_ dX11_shareOf_5 rfl (lv_at hl 0 rfl) ?_
  refine lv_iload_n hx_ hb_ dX11_shareOf_6 rfl (lv_at hl 1 rfl) ?_
  refine lv_iload_n hx_ hb_ dX11_shareOf_7 rfl (lv_at hl 2 rfl) ?_
  have hc3 : M1 (m + 1) = some (sArr G 574 f) := ((congrFun hM1 (m + 1)).trans (va_up_ne M _ (by omega))).trans hm1
  refine sk_Vi E hV (As := [.int (sI a), .int (sI b)]) (rest := []) (kX11_noTwo l_ G b_ M1 N m ch tn ea sn nm wn f a b hc2 hc3 (by omega) (by omega)) (cwV 2 S.2.2.2.2 gX11_shareOf_X11_noTwo rfl rfl rfl (by decide +kernel) ⟨Nat.le_of_ble_eq_true rfl, Nat.le_of_ble_eq_true rfl⟩) (ci := 9) hc2 rfl rfl rfl hl.1 (Nat.le_of_ble_eq_true rfl) dX11_shareOf_8 (c1 := 0) (s1 := 0) ⟨⟨rfl, rfl⟩, by decide, by decide⟩ (fun z7 M4 N5 H locs hp6 hV => ?_)
  obtain ⟨hN8, hf9, hq10⟩ := hp6
  rw [hN8] at hV
  rcases hq10 with ⟨c11, ez12, hc13⟩ | ⟨c14, ez15, hc16⟩ | ⟨c17, ez18, hc19⟩
  · rw [ez12]
    refine sz_eq (tgt := 16) S dX11_shareOf_11 (by decide) (by omega) (fun c20 => absurd c20 (by omega)) (fun _ => ?_)
    refine si_const S dX11_shareOf_14 ?_
    have hc21 : M4 (m + 7) = some (sArr G 10 A) := ((hf9 (m + 7) (by omega)).trans ((congrFun hM1 (m + 7)).trans (va_up_ne M _ (by omega)))).trans hm7
    have hc22 : M4 (m + 5) = some (sArr G 1024 Wy) := ((hf9 (m + 5) (by omega)).trans ((congrFun hM1 (m + 5)).trans (va_up_ne M _ (by omega)))).trans hm5
    have hc23 : M4 (m + 6) = some (sArr G 1024 R) := ((hf9 (m + 6) (by omega)).trans ((congrFun hM1 (m + 6)).trans (va_up_ne M _ (by omega)))).trans hm6
    exact sr_i E hQ dX11_shareOf_15 ⟨Nat.le_of_ble_eq_true rfl, Nat.le_of_ble_eq_true rfl⟩ hV (⟨A, Wy, R, rfl, hc21, hc22, hc23, fun x q0 q1 q2 q3 => (hf9 x (by omega)).trans ((congrFun hM1 x).trans (va_up_ne M _ (by omega))), Or.inl ⟨(by omega), rfl, hc13⟩⟩)
  · rw [ez15]
    refine sz_eq (tgt := 16) S dX11_shareOf_11 (by decide) (by omega) (fun c24 => absurd c24 (by omega)) (fun _ => ?_)
    refine si_const S dX11_shareOf_14 ?_
    have hc25 : M4 (m + 7) = some (sArr G 10 A) := ((hf9 (m + 7) (by omega)).trans ((congrFun hM1 (m + 7)).trans (va_up_ne M _ (by omega)))).trans hm7
    have hc26 : M4 (m + 5) = some (sArr G 1024 Wy) := ((hf9 (m + 5) (by omega)).trans ((congrFun hM1 (m + 5)).trans (va_up_ne M _ (by omega)))).trans hm5
    have hc27 : M4 (m + 6) = some (sArr G 1024 R) := ((hf9 (m + 6) (by omega)).trans ((congrFun hM1 (m + 6)).trans (va_up_ne M _ (by omega)))).trans hm6
    exact sr_i E hQ dX11_shareOf_15 ⟨Nat.le_of_ble_eq_true rfl, Nat.le_of_ble_eq_true rfl⟩ hV (⟨A, Wy, R, rfl, hc25, hc26, hc27, fun x q0 q1 q2 q3 => (hf9 x (by omega)).trans ((congrFun hM1 x).trans (va_up_ne M _ (by omega))), Or.inr (Or.inl ⟨(by omega), rfl, hc16⟩)⟩)
  · rw [ez18]
    refine sz_eq (tgt := 16) S dX11_shareOf_11 (by decide) (by omega) (fun _ => ?_) (fun c28 => absurd c28 (by omega))
    refine lv_aload_n hx_ hb_ dX11_shareOf_16 rfl (lv_at hl 0 rfl) ?_
    have hc29 : M4 (m + 1) = some (sArr G 574 f) := (hf9 (m + 1) (by omega)).trans hc3
    have hc30 : M4 (m + 7) = some (sArr G 10 A) := ((hf9 (m + 7) (by omega)).trans ((congrFun hM1 (m + 7)).trans (va_up_ne M _ (by omega)))).trans hm7
    have hc31 : M4 (m + 5) = some (sArr G 1024 Wy) := ((hf9 (m + 5) (by omega)).trans ((congrFun hM1 (m + 5)).trans (va_up_ne M _ (by omega)))).trans hm5
    have hc32 : M4 (m + 6) = some (sArr G 1024 R) := ((hf9 (m + 6) (by omega)).trans ((congrFun hM1 (m + 6)).trans (va_up_ne M _ (by omega)))).trans hm6
    refine sk_Vi E hV (As := []) (rest := []) (kX11_counts l_ G b_ M4 N m 0 ch tn ea sn nm wn f A Wy R hc19 hc29 hc30 hc31 hc32 (by omega)) (cwV 0 S.2.2.2.2 gX11_shareOf_X11_counts rfl rfl rfl (by decide +kernel) ⟨Nat.le_of_ble_eq_true rfl, Nat.le_of_ble_eq_true rfl⟩) (ci := 9) hc19 rfl rfl rfl hl.1 (Nat.le_of_ble_eq_true rfl) dX11_shareOf_17 (c1 := 0) (s1 := 0) ⟨⟨rfl, rfl⟩, by decide, by decide⟩ (fun z36 M33 N34 H locs hp35 hV => ?_)
    obtain ⟨A937, W938, R939, ez40, hN41, hc42, hc43, hc44, hf45, hA946, hC947⟩ := hp35
    rw [hN41] at hV
    rw [ez40]
    have hA := hA946
    have hC := hC947
    have htr := tot_r (by omega) hC
    refine lv_istore (lv' := [(4, .int (sI (totI f))), (0, .ref m), (1, .int (sI a)), (2, .int (sI b)), (3, .int (sI (bI B)))]) hx_ hb_ dX11_shareOf_20 hl (by decide) rfl (fun ls hl => ?_)
    refine lv_iload hx_ hb_ dX11_shareOf_22 (lv_at hl 0 rfl) ?_
    refine sz_ne (tgt := 37) S dX11_shareOf_24 (by decide) (by omega) (fun c48 => ?_) (fun c48 => ?_)
    · refine lv_aload_n hx_ hb_ dX11_shareOf_37 rfl (lv_at hl 1 rfl) ?_
      refine lv_iload_n hx_ hb_ dX11_shareOf_38 rfl (lv_at hl 2 rfl) ?_
      refine lv_iload_n hx_ hb_ dX11_shareOf_39 rfl (lv_at hl 3 rfl) ?_
      have hc49 : M33 m = some (mO m 0 ch tn ea sn nm wn) := (hf45 m (by omega) (by omega) (by omega)).trans hc19
      have hc50 : M33 (m + 1) = some (sArr G 574 f) := (hf45 (m + 1) (by omega) (by omega) (by omega)).trans hc29
      refine sk_VP E hV (As := [.int (sI a), .int (sI b)]) (rest := []) (kX11_above l_ G b_ M33 N m 0 ch tn ea sn nm wn f A937 W938 R939 a b hc49 hc50 hc42 hc43 hc44 (by omega) (hA) (hC) (by omega)) (cwV 2 S.2.2.2.2 gX11_shareOf_X11_above rfl rfl rfl (by decide +kernel) ⟨Nat.le_of_ble_eq_true rfl, Nat.le_of_ble_eq_true rfl⟩) (ci := 9) hc49 rfl rfl rfl hl.1 (Nat.le_of_ble_eq_true rfl) dX11_shareOf_40 (c1 := 0) (s1 := 0) ⟨⟨rfl, rfl⟩, by decide, by decide⟩ (fun H locs hV => ?_)
      refine lv_istore (lv' := [(5, .int (sI (abI f a b))), (4, .int (sI (totI f))), (0, .ref m), (1, .int (sI a)), (2, .int (sI b)), (3, .int (sI (bI B)))]) hx_ hb_ dX11_shareOf_43 hl (by decide) rfl (fun ls hl => ?_)
      have har := ab_r (by omega) hC a b (by omega)
      refine lv_iload_n hx_ hb_ dX11_shareOf_45 rfl (lv_at hl 5 rfl) ?_
      refine sq_eq (tgt := 54) S dX11_shareOf_46 (by decide) (fun h45 => ?_) (fun h45 => ?_)
      · refine lv_iload hx_ hb_ dX11_shareOf_54 (lv_at hl 0 rfl) ?_
        refine lv_iload hx_ hb_ dX11_shareOf_56 (lv_at hl 1 rfl) ?_
        refine lv_iload hx_ hb_ dX11_shareOf_58 (lv_at hl 0 rfl) ?_
        refine sk_SP E hV (As := [.int (sI (totI f)), .int (sI (abI f a b))]) (rest := [.int (sI (abI f a b))]) (kX11_common l_ G b_ M33 N (totI f) (abI f a b) (by omega)) (va_cwS 2 S.2.2.2.2 gX11_shareOf_X11_common rfl rfl rfl (by decide +kernel) ⟨Nat.le_of_ble_eq_true rfl, Nat.le_of_ble_eq_true rfl⟩) rfl rfl hl.1 (Nat.le_of_ble_eq_true rfl) dX11_shareOf_60 (c1 := 0) (s1 := 0) ⟨⟨rfl, rfl⟩, by decide, by decide⟩ (fun H locs hV => ?_)
        have hcm := cmI_p (a := totI f) (b := abI f a b) (by omega)
        refine si_divN S dX11_shareOf_63 (by omega) ?_
        exact sr_i E hQ dX11_shareOf_64 ⟨Nat.le_of_ble_eq_true rfl, Nat.le_of_ble_eq_true rfl⟩ hV (⟨A937, W938, R939, rfl, hc42, hc43, hc44, fun x q0 q1 q2 q3 => ((hf45 x (by omega) (by omega) (by omega)).trans (hf9 x (by omega))).trans ((congrFun hM1 x).trans (va_up_ne M _ (by omega))), Or.inr (Or.inr (Or.inr (⟨(by omega), by rw [pif_f h45], hc49⟩)))⟩)
      · refine lv_iload hx_ hb_ dX11_shareOf_49 (lv_at hl 1 rfl) ?_
        refine lv_goto (tgt := 56) hx_ hb_ dX11_shareOf_51 (by decide) ?_
        refine lv_iload hx_ hb_ dX11_shareOf_56 (lv_at hl 1 rfl) ?_
        refine lv_iload hx_ hb_ dX11_shareOf_58 (lv_at hl 0 rfl) ?_
        refine sk_SP E hV (As := [.int (sI (totI f)), .int (sI (abI f a b))]) (rest := [.int (sI (totI f))]) (kX11_common l_ G b_ M33 N (totI f) (abI f a b) (by omega)) (va_cwS 2 S.2.2.2.2 gX11_shareOf_X11_common rfl rfl rfl (by decide +kernel) ⟨Nat.le_of_ble_eq_true rfl, Nat.le_of_ble_eq_true rfl⟩) rfl rfl hl.1 (Nat.le_of_ble_eq_true rfl) dX11_shareOf_60 (c1 := 0) (s1 := 0) ⟨⟨rfl, rfl⟩, by decide, by decide⟩ (fun H locs hV => ?_)
        have hcm := cmI_p (a := totI f) (b := abI f a b) (by omega)
        refine si_divN S dX11_shareOf_63 (by omega) ?_
        exact sr_i E hQ dX11_shareOf_64 ⟨Nat.le_of_ble_eq_true rfl, Nat.le_of_ble_eq_true rfl⟩ hV (⟨A937, W938, R939, rfl, hc42, hc43, hc44, fun x q0 q1 q2 q3 => ((hf45 x (by omega) (by omega) (by omega)).trans (hf9 x (by omega))).trans ((congrFun hM1 x).trans (va_up_ne M _ (by omega))), Or.inr (Or.inr (Or.inr (⟨(by omega), by rw [pif_t h45], hc49⟩)))⟩)
    · refine lv_iload_n hx_ hb_ dX11_shareOf_27 rfl (lv_at hl 4 rfl) ?_
      refine sq_eq (tgt := 35) S dX11_shareOf_28 (by decide) (fun h27 => ?_) (fun h27 => ?_)
      · refine si_const S dX11_shareOf_35 ?_
        have hc51 : M33 m = some (mO m 0 ch tn ea sn nm wn) := (hf45 m (by omega) (by omega) (by omega)).trans hc19
        exact sr_i E hQ dX11_shareOf_36 ⟨Nat.le_of_ble_eq_true rfl, Nat.le_of_ble_eq_true rfl⟩ hV (⟨A937, W938, R939, rfl, hc42, hc43, hc44, fun x q0 q1 q2 q3 => ((hf45 x (by omega) (by omega) (by omega)).trans (hf9 x (by omega))).trans ((congrFun hM1 x).trans (va_up_ne M _ (by omega))), Or.inr (Or.inr (Or.inl ⟨(by omega), (bI_f h27).symm, hc51⟩))⟩)
      · refine si_const S dX11_shareOf_31 ?_
        refine lv_goto (tgt := 36) hx_ hb_ dX11_shareOf_32 (by decide) ?_
        have hc52 : M33 m = some (mO m 0 ch tn ea sn nm wn) := (hf45 m (by omega) (by omega) (by omega)).trans hc19
        exact sr_i E hQ dX11_shareOf_36 ⟨Nat.le_of_ble_eq_true rfl, Nat.le_of_ble_eq_true rfl⟩ hV (⟨A937, W938, R939, rfl, hc42, hc43, hc44, fun x q0 q1 q2 q3 => ((hf45 x (by omega) (by omega) (by omega)).trans (hf9 x (by omega))).trans ((congrFun hM1 x).trans (va_up_ne M _ (by omega))), Or.inr (Or.inr (Or.inl ⟨(by omega), (bI_t h27).symm, hc52⟩))⟩)

abbrev rmX11_nextTest : Room := { frames := 3, cells := 0, slots := 0, locals := 86 }
set_option maxHeartbeats 4000000 in
set_option maxRecDepth 100000 in
theorem kX11_nextTest (l_ : Launch) (G : sG) (b_ : Nat) (M : sM) (N : Nat) (m : Nat) (th ch tn ea sn nm wn : Int) (f : sF) (A Wy R : sF) (B : Prop) (hm0 : M m = some (mO m th ch tn ea sn nm wn)) (hm1 : M (m + 1) = some (sArr G 574 f)) (hm7 : M (m + 7) = some (sArr G 10 A)) (hm5 : M (m + 5) = some (sArr G 1024 Wy)) (hm6 : M (m + 6) = some (sArr G 1024 R)) (hok : sOk f) : cI l_ yX11_nextTest wsX11_nextTest rmX11_nextTest G b_ M N [.ref m, .int (sI (bI B))] (fun z_ M1 N1 => ∃ A9 : Int → Int, ∃ W9 : Int → Int, ∃ R9 : Int → Int, N1 = N ∧ M1 (m + 7) = some (sArr G 10 A9) ∧ M1 (m + 5) = some (sArr G 1024 W9) ∧ M1 (m + 6) = some (sArr G 1024 R9) ∧ (∀ x : Nat, ¬ (x = m) → ¬ (x = m + 5) → ¬ (x = m + 6) → ¬ (x = m + 7) → M1 x = M x) ∧ (((totI f = 0 ∨ f 568 < 2) ∧ z_ = -1 ∧ M1 m = some (mO m 0 ch tn ea sn nm wn)) ∨ ((totI f ≠ 0 ∧ 2 ≤ f 568 ∧ B) ∧ z_ = ntM f ∧ M1 m = some (mO m 0 ch tn ea sn nm wn)) ∨ ((totI f ≠ 0 ∧ 2 ≤ f 568 ∧ ¬ B) ∧ z_ = ntT f ∧ M1 m = some (mO m 0 ch tn ea sn nm wn)))) := by
  refine sE.ofI (cc := cX11_nextTest) (nL := 9) (ret := (some .int)) (by decide) rfl (Nat.le_of_ble_eq_true rfl) ?_
  intro p_ e_ s_ m_ args_ below_ meth_ c_ ls Q hQ E hl
  have E : sE p_ l_ e_ rmX11_nextTest s_ m_ args_ below_ meth_ c_ cX11_nextTest 9 wsX11_nextTest RX11 "nextTest" (some .int) G b_ M N := E
  have S := E.1
  have hx_ := S.1
  have hb_ := S.2.1
  have hK := E.2.2.2.2.1
  have hV := E.2.2.2.2.2.2
  have hl : lv_has ls 9 [(0, .ref m), (1, .int (sI (bI B)))] := hl
  have inX11_ : ∀ w ∈ wsX110, w ∈ wsX11_nextTest := fun _ h => List.mem_cons_of_mem _ (List.mem_append_right _ h)
  have kn0 := sOk_N hok
  have hp1 := p2_p (f 568)
  have hp2 := p2_10 (n := f 568) (by omega)
  refine lv_aload_n hx_ hb_ dX11_nextTest_0 rfl (lv_at hl 0 rfl) ?_
  refine si_const S dX11_nextTest_1 ?_
  refine sc_put (ci := 9) (C := RX11) (T := TX11) (n := 22) S hK hV inX11_ tyX11_ok nmX11 hm0 rfl 0 (by decide) (S.2.2.2.2 _ (List.mem_of_getElem? (i := 1) rfl)) rfl rfl rfl rfl (Nat.le_of_ble_eq_true rfl) dX11_nextTest_2 (fs1 := [.int (sI 0), .ref (m + 1), .ref (m + 2), .int (sI ch), .ref (m + 3), .int (sI tn), .int (sI ea), .ref (m + 4), .ref (m + 5), .ref (m + 6), .ref (m + 7), .ref (m + 8), .ref (m + 9), .int (sI sn), .ref (m + 10), .ref (m + 11), .ref (m + 12), .ref (m + 13), .int (sI nm), .ref (m + 14), .ref (m + 15), .int (sI wn)]) rfl (fun M1 H locs hM1 hV => ?_)
  have hc2 : M1 m = some (mO m 0 ch tn ea sn nm wn) := (congrFun hM1 m).trans (va_up_self M m _)
  refine lv_aload_n hx_ hb_ dX11_nextTest_5 rfl (lv_at hl 0 rfl) ?_
  have hc3 : M1 (m + 1) = some (sArr G 574 f) := ((congrFun hM1 (m + 1)).trans (va_up_ne M _ (by omega))).trans hm1
  have hc4 : M1 (m + 7) = some (sArr G 10 A) := ((congrFun hM1 (m + 7)).trans (va_up_ne M _ (by omega))).trans hm7
  have hc5 : M1 (m + 5) = some (sArr G 1024 Wy) := ((congrFun hM1 (m + 5)).trans (va_up_ne M _ (by omega))).trans hm5
  have hc6 : M1 (m + 6) = some (sArr G 1024 R) := ((congrFun hM1 (m + 6)).trans (va_up_ne M _ (by omega))).trans hm6
  refine sk_Vi E hV (As := []) (rest := []) (kX11_counts l_ G b_ M1 N m 0 ch tn ea sn nm wn f A Wy R hc2 hc3 hc4 hc5 hc6 (by omega)) (cwV 0 S.2.2.2.2 gX11_nextTest_X11_counts rfl rfl rfl (by decide +kernel) ⟨Nat.le_of_ble_eq_true rfl, Nat.le_of_ble_eq_true rfl⟩) (ci := 9) hc2 rfl rfl rfl hl.1 (Nat.le_of_ble_eq_true rfl) dX11_nextTest_6 (c1 := 0) (s1 := 0) ⟨⟨rfl, rfl⟩, by decide, by decide⟩ (fun z10 M7 N8 H locs hp9 hV => ?_)
  obtain ⟨A911, W912, R913, ez14, hN15, hc16, hc17, hc18, hf19, hA920, hC921⟩ := hp9
  rw [hN15] at hV
  rw [ez14]
  have hA := hA920
  have hC := hC921
  have htr := tot_r (by omega) hC
  refine sz_eq (tgt := 20) S dX11_nextTest_9 (by decide) (by omega) (fun c22 => ?_) (fun c22 => ?_)
  · refine si_const S dX11_nextTest_20 ?_
    have hc23 : M7 m = some (mO m 0 ch tn ea sn nm wn) := (hf19 m (by omega) (by omega) (by omega)).trans hc2
    exact sr_i E hQ dX11_nextTest_21 ⟨Nat.le_of_ble_eq_true rfl, Nat.le_of_ble_eq_true rfl⟩ hV (⟨A911, W912, R913, rfl, hc16, hc17, hc18, fun x q0 q1 q2 q3 => (hf19 x (by omega) (by omega) (by omega)).trans ((congrFun hM1 x).trans (va_up_ne M _ (by omega))), Or.inl ⟨(by omega), rfl, hc23⟩⟩)
  · refine lv_aload_n hx_ hb_ dX11_nextTest_12 rfl (lv_at hl 0 rfl) ?_
    have hc24 : M7 m = some (mO m 0 ch tn ea sn nm wn) := (hf19 m (by omega) (by omega) (by omega)).trans hc2
    have hc25 : M7 (m + 1) = some (sArr G 574 f) := (hf19 (m + 1) (by omega) (by omega) (by omega)).trans hc3
    refine sk_VP E hV (As := []) (rest := []) (kX11_many l_ G b_ M7 N m 0 ch tn ea sn nm wn f hc24 hc25) (cwV 0 S.2.2.2.2 gX11_nextTest_X11_many rfl rfl rfl (by decide +kernel) ⟨Nat.le_of_ble_eq_true rfl, Nat.le_of_ble_eq_true rfl⟩) (ci := 9) hc24 rfl rfl rfl hl.1 (Nat.le_of_ble_eq_true rfl) dX11_nextTest_13 (c1 := 0) (s1 := 0) ⟨⟨rfl, rfl⟩, by decide, by decide⟩ (fun H locs hV => ?_)
    refine si_const S dX11_nextTest_16 ?_
    refine sb_ge (tgt := 22) S dX11_nextTest_17 (by decide) (by omega) (fun c26 => ?_) (fun c26 => ?_)
    · refine si_const S dX11_nextTest_22 ?_
      refine lv_istore_n (lv' := [(2, .int (sI (-1))), (0, .ref m), (1, .int (sI (bI B)))]) hx_ hb_ dX11_nextTest_23 rfl hl (by decide) rfl (fun ls hl => ?_)
      refine si_const S dX11_nextTest_24 ?_
      refine lv_istore_n (lv' := [(3, .int (sI (-1))), (2, .int (sI (-1))), (0, .ref m), (1, .int (sI (bI B)))]) hx_ hb_ dX11_nextTest_25 rfl hl (by decide) rfl (fun ls hl => ?_)
      refine si_const S dX11_nextTest_26 ?_
      refine lv_istore (lv' := [(4, .int (sI 0)), (3, .int (sI (-1))), (2, .int (sI (-1))), (0, .ref m), (1, .int (sI (bI B)))]) hx_ hb_ dX11_nextTest_27 hl (by decide) rfl (fun ls hl => ?_)
      have L29 : ∀ (fuel : Nat) (z : Int) (t : Int) (a : Int)  (H : Heap) (locs : List Loc) (ls : Array Slot), ((f 568 - a).toNat) < fuel → (0 ≤ a ∧ a ≤ f 568 ∧ -1 ≤ z ∧ z ≤ 3628800) → (ntR f a (a + 1) z t) → sV G b_ M7 N s_ H locs → lv_has ls 9 [(0, .ref m), (1, .int (sI (bI B))), (2, .int (sI z)), (3, .int (sI t)), (4, .int (sI a))] → W p_ l_ e_ rmX11_nextTest s_ m_ args_ below_ meth_ c_ H locs 0 0 Q (F0 m_ 29 ls []) := by
        intro fuel
        induction fuel with
        | zero => intro z t a H locs ls hmu; exact absurd hmu (Nat.not_lt_zero _)
        | succ fuel ih29 =>
          intro z t a H locs ls hmu29 hv29_0 hnt  hV hl
          refine lv_iload hx_ hb_ dX11_nextTest_29 (lv_at hl 4 rfl) ?_
          refine lv_aload_n hx_ hb_ dX11_nextTest_31 rfl (lv_at hl 0 rfl) ?_
          refine sk_VP E hV (As := []) (rest := [.int (sI a)]) (kX11_many l_ G b_ M7 N m 0 ch tn ea sn nm wn f hc24 hc25) (cwV 0 S.2.2.2.2 gX11_nextTest_X11_many rfl rfl rfl (by decide +kernel) ⟨Nat.le_of_ble_eq_true rfl, Nat.le_of_ble_eq_true rfl⟩) (ci := 9) hc24 rfl rfl rfl hl.1 (Nat.le_of_ble_eq_true rfl) dX11_nextTest_32 (c1 := 0) (s1 := 0) ⟨⟨rfl, rfl⟩, by decide, by decide⟩ (fun H locs hV => ?_)
          refine sb_ge (tgt := 127) S dX11_nextTest_35 (by decide) (by omega) (fun c27 => ?_) (fun c27 => ?_)
          · refine lv_iload_n hx_ hb_ dX11_nextTest_127 rfl (lv_at hl 1 rfl) ?_
            refine sq_eq (tgt := 135) S dX11_nextTest_128 (by decide) (fun h128 => ?_) (fun h128 => ?_)
            · refine lv_iload_n hx_ hb_ dX11_nextTest_135 rfl (lv_at hl 3 rfl) ?_
              exact sr_i E hQ dX11_nextTest_136 ⟨Nat.le_of_ble_eq_true rfl, Nat.le_of_ble_eq_true rfl⟩ hV (⟨A911, W912, R913, rfl, hc16, hc17, hc18, fun x q0 q1 q2 q3 => (hf19 x (by omega) (by omega) (by omega)).trans ((congrFun hM1 x).trans (va_up_ne M _ (by omega))), Or.inr (Or.inr (⟨(⟨by omega, by omega, h128⟩), (nt_eq (by omega) hnt).2.symm, hc24⟩))⟩)
            · refine lv_iload_n hx_ hb_ dX11_nextTest_131 rfl (lv_at hl 2 rfl) ?_
              refine lv_goto (tgt := 136) hx_ hb_ dX11_nextTest_132 (by decide) ?_
              exact sr_i E hQ dX11_nextTest_136 ⟨Nat.le_of_ble_eq_true rfl, Nat.le_of_ble_eq_true rfl⟩ hV (⟨A911, W912, R913, rfl, hc16, hc17, hc18, fun x q0 q1 q2 q3 => (hf19 x (by omega) (by omega) (by omega)).trans ((congrFun hM1 x).trans (va_up_ne M _ (by omega))), Or.inr (Or.inl ⟨(⟨by omega, by omega, h128⟩), (nt_eq (by omega) hnt).1.symm, hc24⟩)⟩)
          · refine lv_iload hx_ hb_ dX11_nextTest_38 (lv_at hl 4 rfl) ?_
            refine si_const S dX11_nextTest_40 ?_
            refine si_add S dX11_nextTest_41 ?_
            refine lv_istore (lv' := [(5, .int (sI (a + 1))), (0, .ref m), (1, .int (sI (bI B))), (2, .int (sI z)), (3, .int (sI t)), (4, .int (sI a))]) hx_ hb_ dX11_nextTest_42 hl (by decide) rfl (fun ls hl => ?_)
            have L44 : ∀ (fuel : Nat) (z2 : Int) (t2 : Int) (b : Int)  (H : Heap) (locs : List Loc) (ls : Array Slot), ((f 568 - b).toNat) < fuel → (a + 1 ≤ b ∧ b ≤ f 568 ∧ -1 ≤ z2 ∧ z2 ≤ 3628800) → (ntR f a b z2 t2) → sV G b_ M7 N s_ H locs → lv_has ls 9 [(0, .ref m), (1, .int (sI (bI B))), (2, .int (sI z2)), (3, .int (sI t2)), (4, .int (sI a)), (5, .int (sI b))] → W p_ l_ e_ rmX11_nextTest s_ m_ args_ below_ meth_ c_ H locs 0 0 Q (F0 m_ 44 ls []) := by
              intro fuel
              induction fuel with
              | zero => intro z2 t2 b H locs ls hmu; exact absurd hmu (Nat.not_lt_zero _)
              | succ fuel ih44 =>
                intro z2 t2 b H locs ls hmu44 hv44_0 hnt2  hV hl
                refine lv_iload hx_ hb_ dX11_nextTest_44 (lv_at hl 5 rfl) ?_
                refine lv_aload_n hx_ hb_ dX11_nextTest_46 rfl (lv_at hl 0 rfl) ?_
                refine sk_VP E hV (As := []) (rest := [.int (sI b)]) (kX11_many l_ G b_ M7 N m 0 ch tn ea sn nm wn f hc24 hc25) (cwV 0 S.2.2.2.2 gX11_nextTest_X11_many rfl rfl rfl (by decide +kernel) ⟨Nat.le_of_ble_eq_true rfl, Nat.le_of_ble_eq_true rfl⟩) (ci := 9) hc24 rfl rfl rfl hl.1 (Nat.le_of_ble_eq_true rfl) dX11_nextTest_47 (c1 := 0) (s1 := 0) ⟨⟨rfl, rfl⟩, by decide, by decide⟩ (fun H locs hV => ?_)
                refine sb_ge (tgt := 121) S dX11_nextTest_50 (by decide) (by omega) (fun c28 => ?_) (fun c28 => ?_)
                · refine si_inc (lv' := [(4, .int (sI (a + 1))), (0, .ref m), (1, .int (sI (bI B))), (2, .int (sI z2)), (3, .int (sI t2)), (5, .int (sI b))]) S dX11_nextTest_121 hl (k := 4) rfl (by decide) rfl (fun ls hl => ?_)
                  refine lv_goto (tgt := 29) hx_ hb_ dX11_nextTest_124 (by decide) ?_
                  exact ih29 z2 t2 (a + 1) _ _ _ (by omega) (by omega) (ntR_n (by omega) hnt2) hV (lv_sub hl [1, 2, 3, 4, 0] rfl)
                · refine lv_aload_n hx_ hb_ dX11_nextTest_53 rfl (lv_at hl 0 rfl) ?_
                  refine lv_iload hx_ hb_ dX11_nextTest_54 (lv_at hl 4 rfl) ?_
                  refine lv_iload hx_ hb_ dX11_nextTest_56 (lv_at hl 5 rfl) ?_
                  refine sk_VP E hV (As := [.int (sI a), .int (sI b)]) (rest := []) (kX11_above l_ G b_ M7 N m 0 ch tn ea sn nm wn f A911 W912 R913 a b hc24 hc25 hc16 hc17 hc18 (by omega) (hA) (hC) (by omega)) (cwV 2 S.2.2.2.2 gX11_nextTest_X11_above rfl rfl rfl (by decide +kernel) ⟨Nat.le_of_ble_eq_true rfl, Nat.le_of_ble_eq_true rfl⟩) (ci := 9) hc24 rfl rfl rfl hl.1 (Nat.le_of_ble_eq_true rfl) dX11_nextTest_58 (c1 := 0) (s1 := 0) ⟨⟨rfl, rfl⟩, by decide, by decide⟩ (fun H locs hV => ?_)
                  refine lv_istore (lv' := [(6, .int (sI (abI f a b))), (0, .ref m), (1, .int (sI (bI B))), (2, .int (sI z2)), (3, .int (sI t2)), (4, .int (sI a)), (5, .int (sI b))]) hx_ hb_ dX11_nextTest_61 hl (by decide) rfl (fun ls hl => ?_)
                  refine lv_aload_n hx_ hb_ dX11_nextTest_63 rfl (lv_at hl 1 rfl) ?_
                  refine lv_iload hx_ hb_ dX11_nextTest_64 (lv_at hl 6 rfl) ?_
                  refine lv_iload hx_ hb_ dX11_nextTest_66 (lv_at hl 5 rfl) ?_
                  refine sk_VP E hV (As := [.int (sI b), .int (sI a)]) (rest := []) (kX11_above l_ G b_ M7 N m 0 ch tn ea sn nm wn f A911 W912 R913 b a hc24 hc25 hc16 hc17 hc18 (by omega) (hA) (hC) (by omega)) (cwV 2 S.2.2.2.2 gX11_nextTest_X11_above rfl rfl rfl (by decide +kernel) ⟨Nat.le_of_ble_eq_true rfl, Nat.le_of_ble_eq_true rfl⟩) (ci := 9) hc24 rfl rfl rfl hl.1 (Nat.le_of_ble_eq_true rfl) dX11_nextTest_68 (c1 := 0) (s1 := 0) ⟨⟨rfl, rfl⟩, by decide, by decide⟩ (fun H locs hV => ?_)
                  refine lv_istore (lv' := [(7, .int (sI (abI f b a))), (6, .int (sI (abI f a b))), (0, .ref m), (1, .int (sI (bI B))), (2, .int (sI z2)), (3, .int (sI t2)), (4, .int (sI a)), (5, .int (sI b))]) hx_ hb_ dX11_nextTest_71 hl (by decide) rfl (fun ls hl => ?_)
                  have ha1 := ab_r (by omega) hC a b (by omega)
                  have ha2 := ab_r (by omega) hC b a (by omega)
                  refine lv_iload hx_ hb_ dX11_nextTest_73 (lv_at hl 1 rfl) ?_
                  refine lv_iload hx_ hb_ dX11_nextTest_75 (lv_at hl 0 rfl) ?_
                  refine sb_le (tgt := 85) S dX11_nextTest_77 (by decide) (by omega) (fun c29 => ?_) (fun c29 => ?_)
                  · refine lv_iload hx_ hb_ dX11_nextTest_85 (lv_at hl 0 rfl) ?_
                    refine lv_istore (lv' := [(8, .int (sI (abI f b a))), (7, .int (sI (abI f b a))), (6, .int (sI (abI f a b))), (0, .ref m), (1, .int (sI (bI B))), (2, .int (sI z2)), (3, .int (sI t2)), (4, .int (sI a)), (5, .int (sI b))]) hx_ hb_ dX11_nextTest_87 hl (by decide) rfl (fun ls hl => ?_)
                    refine lv_iload_n hx_ hb_ dX11_nextTest_89 rfl (lv_at hl 5 rfl) ?_
                    refine si_const S dX11_nextTest_90 ?_
                    refine sb_eq (tgt := 103) S dX11_nextTest_91 (by decide) (by omega) (fun h91 => ?_) (fun h91 => ?_)
                    · refine lv_iload hx_ hb_ dX11_nextTest_103 (lv_at hl 0 rfl) ?_
                      refine lv_istore_n (lv' := [(2, .int (sI (abI f b a))), (8, .int (sI (abI f b a))), (7, .int (sI (abI f b a))), (6, .int (sI (abI f a b))), (0, .ref m), (1, .int (sI (bI B))), (3, .int (sI t2)), (4, .int (sI a)), (5, .int (sI b))]) hx_ hb_ dX11_nextTest_105 rfl hl (by decide) rfl (fun ls hl => ?_)
                      refine si_bipush S dX11_nextTest_106 (by decide) ?_
                      refine lv_iload hx_ hb_ dX11_nextTest_108 (lv_at hl 7 rfl) ?_
                      refine si_mul S dX11_nextTest_110 ?_
                      refine lv_iload hx_ hb_ dX11_nextTest_111 (lv_at hl 8 rfl) ?_
                      refine si_add S dX11_nextTest_113 ?_
                      refine lv_istore_n (lv' := [(3, .int (sI ((10 * a) + b))), (2, .int (sI (abI f b a))), (8, .int (sI (abI f b a))), (7, .int (sI (abI f b a))), (6, .int (sI (abI f a b))), (0, .ref m), (1, .int (sI (bI B))), (4, .int (sI a)), (5, .int (sI b))]) hx_ hb_ dX11_nextTest_114 rfl hl (by decide) rfl (fun ls hl => ?_)
                      refine si_inc (lv' := [(5, .int (sI (b + 1))), (3, .int (sI ((10 * a) + b))), (2, .int (sI (abI f b a))), (8, .int (sI (abI f b a))), (7, .int (sI (abI f b a))), (6, .int (sI (abI f a b))), (0, .ref m), (1, .int (sI (bI B))), (4, .int (sI a))]) S dX11_nextTest_115 hl (k := 8) rfl (by decide) rfl (fun ls hl => ?_)
                      refine lv_goto (tgt := 44) hx_ hb_ dX11_nextTest_118 (by decide) ?_
                      exact ih44 (abI f b a) ((10 * a) + b) (b + 1) _ _ _ (by omega) (by omega) (by have e9 : woI f a b = abI f b a := (by unfold woI; omega); rw [← e9]; exact ntR_t (by omega) (by omega) (by omega) hnt2) hV (lv_sub hl [6, 7, 2, 1, 8, 0] rfl)
                    · refine lv_iload hx_ hb_ dX11_nextTest_94 (lv_at hl 0 rfl) ?_
                      refine lv_iload_n hx_ hb_ dX11_nextTest_96 rfl (lv_at hl 5 rfl) ?_
                      refine sb_lt (tgt := 103) S dX11_nextTest_97 (by decide) (by omega) (fun c30 => ?_) (fun c30 => ?_)
                      · refine lv_iload hx_ hb_ dX11_nextTest_103 (lv_at hl 0 rfl) ?_
                        refine lv_istore_n (lv' := [(2, .int (sI (abI f b a))), (8, .int (sI (abI f b a))), (7, .int (sI (abI f b a))), (6, .int (sI (abI f a b))), (0, .ref m), (1, .int (sI (bI B))), (3, .int (sI t2)), (4, .int (sI a)), (5, .int (sI b))]) hx_ hb_ dX11_nextTest_105 rfl hl (by decide) rfl (fun ls hl => ?_)
                        refine si_bipush S dX11_nextTest_106 (by decide) ?_
                        refine lv_iload hx_ hb_ dX11_nextTest_108 (lv_at hl 7 rfl) ?_
                        refine si_mul S dX11_nextTest_110 ?_
                        refine lv_iload hx_ hb_ dX11_nextTest_111 (lv_at hl 8 rfl) ?_
                        refine si_add S dX11_nextTest_113 ?_
                        refine lv_istore_n (lv' := [(3, .int (sI ((10 * a) + b))), (2, .int (sI (abI f b a))), (8, .int (sI (abI f b a))), (7, .int (sI (abI f b a))), (6, .int (sI (abI f a b))), (0, .ref m), (1, .int (sI (bI B))), (4, .int (sI a)), (5, .int (sI b))]) hx_ hb_ dX11_nextTest_114 rfl hl (by decide) rfl (fun ls hl => ?_)
                        refine si_inc (lv' := [(5, .int (sI (b + 1))), (3, .int (sI ((10 * a) + b))), (2, .int (sI (abI f b a))), (8, .int (sI (abI f b a))), (7, .int (sI (abI f b a))), (6, .int (sI (abI f a b))), (0, .ref m), (1, .int (sI (bI B))), (4, .int (sI a))]) S dX11_nextTest_115 hl (k := 8) rfl (by decide) rfl (fun ls hl => ?_)
                        refine lv_goto (tgt := 44) hx_ hb_ dX11_nextTest_118 (by decide) ?_
                        exact ih44 (abI f b a) ((10 * a) + b) (b + 1) _ _ _ (by omega) (by omega) (by have e9 : woI f a b = abI f b a := (by unfold woI; omega); rw [← e9]; exact ntR_t (by omega) (by omega) (by omega) hnt2) hV (lv_sub hl [6, 7, 2, 1, 8, 0] rfl)
                      · refine lv_goto (tgt := 115) hx_ hb_ dX11_nextTest_100 (by decide) ?_
                        refine si_inc (lv' := [(5, .int (sI (b + 1))), (8, .int (sI (abI f b a))), (7, .int (sI (abI f b a))), (6, .int (sI (abI f a b))), (0, .ref m), (1, .int (sI (bI B))), (2, .int (sI z2)), (3, .int (sI t2)), (4, .int (sI a))]) S dX11_nextTest_115 hl (k := 8) rfl (by decide) rfl (fun ls hl => ?_)
                        refine lv_goto (tgt := 44) hx_ hb_ dX11_nextTest_118 (by decide) ?_
                        exact ih44 z2 t2 (b + 1) _ _ _ (by omega) (by omega) (by have e9 : woI f a b = abI f b a := (by unfold woI; omega); exact ntR_k (by omega) h91 (by omega) hnt2 (by omega)) hV (lv_sub hl [4, 5, 6, 7, 8, 0] rfl)
                  · refine lv_iload hx_ hb_ dX11_nextTest_80 (lv_at hl 1 rfl) ?_
                    refine lv_goto (tgt := 87) hx_ hb_ dX11_nextTest_82 (by decide) ?_
                    refine lv_istore (lv' := [(8, .int (sI (abI f a b))), (7, .int (sI (abI f b a))), (6, .int (sI (abI f a b))), (0, .ref m), (1, .int (sI (bI B))), (2, .int (sI z2)), (3, .int (sI t2)), (4, .int (sI a)), (5, .int (sI b))]) hx_ hb_ dX11_nextTest_87 hl (by decide) rfl (fun ls hl => ?_)
                    refine lv_iload_n hx_ hb_ dX11_nextTest_89 rfl (lv_at hl 5 rfl) ?_
                    refine si_const S dX11_nextTest_90 ?_
                    refine sb_eq (tgt := 103) S dX11_nextTest_91 (by decide) (by omega) (fun h91 => ?_) (fun h91 => ?_)
                    · refine lv_iload hx_ hb_ dX11_nextTest_103 (lv_at hl 0 rfl) ?_
                      refine lv_istore_n (lv' := [(2, .int (sI (abI f a b))), (8, .int (sI (abI f a b))), (7, .int (sI (abI f b a))), (6, .int (sI (abI f a b))), (0, .ref m), (1, .int (sI (bI B))), (3, .int (sI t2)), (4, .int (sI a)), (5, .int (sI b))]) hx_ hb_ dX11_nextTest_105 rfl hl (by decide) rfl (fun ls hl => ?_)
                      refine si_bipush S dX11_nextTest_106 (by decide) ?_
                      refine lv_iload hx_ hb_ dX11_nextTest_108 (lv_at hl 7 rfl) ?_
                      refine si_mul S dX11_nextTest_110 ?_
                      refine lv_iload hx_ hb_ dX11_nextTest_111 (lv_at hl 8 rfl) ?_
                      refine si_add S dX11_nextTest_113 ?_
                      refine lv_istore_n (lv' := [(3, .int (sI ((10 * a) + b))), (2, .int (sI (abI f a b))), (8, .int (sI (abI f a b))), (7, .int (sI (abI f b a))), (6, .int (sI (abI f a b))), (0, .ref m), (1, .int (sI (bI B))), (4, .int (sI a)), (5, .int (sI b))]) hx_ hb_ dX11_nextTest_114 rfl hl (by decide) rfl (fun ls hl => ?_)
                      refine si_inc (lv' := [(5, .int (sI (b + 1))), (3, .int (sI ((10 * a) + b))), (2, .int (sI (abI f a b))), (8, .int (sI (abI f a b))), (7, .int (sI (abI f b a))), (6, .int (sI (abI f a b))), (0, .ref m), (1, .int (sI (bI B))), (4, .int (sI a))]) S dX11_nextTest_115 hl (k := 8) rfl (by decide) rfl (fun ls hl => ?_)
                      refine lv_goto (tgt := 44) hx_ hb_ dX11_nextTest_118 (by decide) ?_
                      exact ih44 (abI f a b) ((10 * a) + b) (b + 1) _ _ _ (by omega) (by omega) (by have e9 : woI f a b = abI f a b := (by unfold woI; omega); rw [← e9]; exact ntR_t (by omega) (by omega) (by omega) hnt2) hV (lv_sub hl [6, 7, 2, 1, 8, 0] rfl)
                    · refine lv_iload hx_ hb_ dX11_nextTest_94 (lv_at hl 0 rfl) ?_
                      refine lv_iload_n hx_ hb_ dX11_nextTest_96 rfl (lv_at hl 5 rfl) ?_
                      refine sb_lt (tgt := 103) S dX11_nextTest_97 (by decide) (by omega) (fun c31 => ?_) (fun c31 => ?_)
                      · refine lv_iload hx_ hb_ dX11_nextTest_103 (lv_at hl 0 rfl) ?_
                        refine lv_istore_n (lv' := [(2, .int (sI (abI f a b))), (8, .int (sI (abI f a b))), (7, .int (sI (abI f b a))), (6, .int (sI (abI f a b))), (0, .ref m), (1, .int (sI (bI B))), (3, .int (sI t2)), (4, .int (sI a)), (5, .int (sI b))]) hx_ hb_ dX11_nextTest_105 rfl hl (by decide) rfl (fun ls hl => ?_)
                        refine si_bipush S dX11_nextTest_106 (by decide) ?_
                        refine lv_iload hx_ hb_ dX11_nextTest_108 (lv_at hl 7 rfl) ?_
                        refine si_mul S dX11_nextTest_110 ?_
                        refine lv_iload hx_ hb_ dX11_nextTest_111 (lv_at hl 8 rfl) ?_
                        refine si_add S dX11_nextTest_113 ?_
                        refine lv_istore_n (lv' := [(3, .int (sI ((10 * a) + b))), (2, .int (sI (abI f a b))), (8, .int (sI (abI f a b))), (7, .int (sI (abI f b a))), (6, .int (sI (abI f a b))), (0, .ref m), (1, .int (sI (bI B))), (4, .int (sI a)), (5, .int (sI b))]) hx_ hb_ dX11_nextTest_114 rfl hl (by decide) rfl (fun ls hl => ?_)
                        refine si_inc (lv' := [(5, .int (sI (b + 1))), (3, .int (sI ((10 * a) + b))), (2, .int (sI (abI f a b))), (8, .int (sI (abI f a b))), (7, .int (sI (abI f b a))), (6, .int (sI (abI f a b))), (0, .ref m), (1, .int (sI (bI B))), (4, .int (sI a))]) S dX11_nextTest_115 hl (k := 8) rfl (by decide) rfl (fun ls hl => ?_)
                        refine lv_goto (tgt := 44) hx_ hb_ dX11_nextTest_118 (by decide) ?_
                        exact ih44 (abI f a b) ((10 * a) + b) (b + 1) _ _ _ (by omega) (by omega) (by have e9 : woI f a b = abI f a b := (by unfold woI; omega); rw [← e9]; exact ntR_t (by omega) (by omega) (by omega) hnt2) hV (lv_sub hl [6, 7, 2, 1, 8, 0] rfl)
                      · refine lv_goto (tgt := 115) hx_ hb_ dX11_nextTest_100 (by decide) ?_
                        refine si_inc (lv' := [(5, .int (sI (b + 1))), (8, .int (sI (abI f a b))), (7, .int (sI (abI f b a))), (6, .int (sI (abI f a b))), (0, .ref m), (1, .int (sI (bI B))), (2, .int (sI z2)), (3, .int (sI t2)), (4, .int (sI a))]) S dX11_nextTest_115 hl (k := 8) rfl (by decide) rfl (fun ls hl => ?_)
                        refine lv_goto (tgt := 44) hx_ hb_ dX11_nextTest_118 (by decide) ?_
                        exact ih44 z2 t2 (b + 1) _ _ _ (by omega) (by omega) (by have e9 : woI f a b = abI f a b := (by unfold woI; omega); exact ntR_k (by omega) h91 (by omega) hnt2 (by omega)) hV (lv_sub hl [4, 5, 6, 7, 8, 0] rfl)
            exact L44 _ z t (a + 1) _ _ _ (Nat.lt_succ_self _) (by omega) (hnt) hV (lv_sub hl [1, 2, 3, 4, 5, 0] rfl)
      exact L29 _ (-1) (-1) 0 _ _ _ (Nat.lt_succ_self _) (by omega) (Or.inl ⟨rfl, rfl, fun x y q => by unfold ntQ at q; omega⟩) hV (lv_sub hl [3, 4, 2, 1, 0] rfl)
    · refine si_const S dX11_nextTest_20 ?_
      exact sr_i E hQ dX11_nextTest_21 ⟨Nat.le_of_ble_eq_true rfl, Nat.le_of_ble_eq_true rfl⟩ hV (⟨A911, W912, R913, rfl, hc16, hc17, hc18, fun x q0 q1 q2 q3 => (hf19 x (by omega) (by omega) (by omega)).trans ((congrFun hM1 x).trans (va_up_ne M _ (by omega))), Or.inl ⟨(by omega), rfl, hc24⟩⟩)

abbrev rmX11_orderAt : Room := { frames := 3, cells := 0, slots := 0, locals := 86 }
set_option maxHeartbeats 4000000 in
set_option maxRecDepth 100000 in
theorem kX11_orderAt (l_ : Launch) (G : sG) (b_ : Nat) (M : sM) (N : Nat) (m : Nat) (th ch tn ea sn nm wn : Int) (f : sF) (A Wy R : sF) (r : Int) (hm0 : M m = some (mO m th ch tn ea sn nm wn)) (hm1 : M (m + 1) = some (sArr G 574 f)) (hm7 : M (m + 7) = some (sArr G 10 A)) (hm5 : M (m + 5) = some (sArr G 1024 Wy)) (hm6 : M (m + 6) = some (sArr G 1024 R)) (hok : sOk f) (hr : sR r) : cI l_ yX11_orderAt wsX11_orderAt rmX11_orderAt G b_ M N [.ref m, .int (sI r)] (fun z_ M1 N1 => ∃ A9 : Int → Int, ∃ W9 : Int → Int, ∃ R9 : Int → Int, N1 = N ∧ M1 (m + 7) = some (sArr G 10 A9) ∧ M1 (m + 5) = some (sArr G 1024 W9) ∧ M1 (m + 6) = some (sArr G 1024 R9) ∧ (∀ x : Nat, ¬ (x = m) → ¬ (x = m + 5) → ¬ (x = m + 6) → ¬ (x = m + 7) → M1 x = M x) ∧ (((¬ ((0 ≤ r ∧ r < f 568) ∧ 0 < totI f)) ∧ z_ = 0 ∧ M1 m = some (mO m 1 ch tn ea sn nm wn)) ∨ (((0 ≤ r ∧ r < f 568) ∧ 0 < totI f) ∧ z_ = orI f r ∧ M1 m = some (mO m 0 ch tn ea sn nm wn)))) := by
  refine sE.ofI (cc := cX11_orderAt) (nL := 5) (ret := (some .int)) (by decide) rfl (Nat.le_of_ble_eq_true rfl) ?_
  intro p_ e_ s_ m_ args_ below_ meth_ c_ ls Q hQ E hl
  have E : sE p_ l_ e_ rmX11_orderAt s_ m_ args_ below_ meth_ c_ cX11_orderAt 5 wsX11_orderAt RX11 "orderAt" (some .int) G b_ M N := E
  have S := E.1
  have hx_ := S.1
  have hb_ := S.2.1
  have hK := E.2.2.2.2.1
  have hV := E.2.2.2.2.2.2
  have hl : lv_has ls 5 [(0, .ref m), (1, .int (sI r))] := hl
  have inX11_ : ∀ w ∈ wsX110, w ∈ wsX11_orderAt := fun _ h => List.mem_cons_of_mem _ (List.mem_append_right _ h)
  have kn0 := sOk_N hok
  have hp1 := p2_p (f 568)
  have hp2 := p2_10 (n := f 568) (by omega)
  refine lv_aload_n hx_ hb_ dX11_orderAt_0 rfl (lv_at hl 0 rfl) ?_
  refine si_const S dX11_orderAt_1 ?_
  refine sc_put (ci := 9) (C := RX11) (T := TX11) (n := 22) S hK hV inX11_ tyX11_ok nmX11 hm0 rfl 0 (by decide) (S.2.2.2.2 _ (List.mem_of_getElem? (i := 1) rfl)) rfl rfl rfl rfl (Nat.le_of_ble_eq_true rfl) dX11_orderAt_2 (fs1 := [.int (sI 0), .ref (m + 1), .ref (m + 2), .int (sI ch), .ref (m + 3), .int (sI tn), .int (sI ea), .ref (m + 4), .ref (m + 5), .ref (m + 6), .ref (m + 7), .ref (m + 8), .ref (m + 9), .int (sI sn), .ref (m + 10), .ref (m + 11), .ref (m + 12), .ref (m + 13), .int (sI nm), .ref (m + 14), .ref (m + 15), .int (sI wn)]) rfl (fun M1 H locs hM1 hV => ?_)
  have hc2 : M1 m = some (mO m 0 ch tn ea sn nm wn) := (congrFun hM1 m).trans (va_up_self M m _)
  refine lv_aload_n hx_ hb_ dX11_orderAt_5 rfl (lv_at hl 0 rfl) ?_
  refine lv_iload_n hx_ hb_ dX11_orderAt_6 rfl (lv_at hl 1 rfl) ?_
  refine si_const S dX11_orderAt_7 ?_
  refine lv_aload_n hx_ hb_ dX11_orderAt_8 rfl (lv_at hl 0 rfl) ?_
  have hc3 : M1 (m + 1) = some (sArr G 574 f) := ((congrFun hM1 (m + 1)).trans (va_up_ne M _ (by omega))).trans hm1
  refine sk_VP E hV (As := []) (rest := [.int (sI 0), .int (sI r), .ref m]) (kX11_many l_ G b_ M1 N m 0 ch tn ea sn nm wn f hc2 hc3) (cwV 0 S.2.2.2.2 gX11_orderAt_X11_many rfl rfl rfl (by decide +kernel) ⟨Nat.le_of_ble_eq_true rfl, Nat.le_of_ble_eq_true rfl⟩) (ci := 9) hc2 rfl rfl rfl hl.1 (Nat.le_of_ble_eq_true rfl) dX11_orderAt_9 (c1 := 0) (s1 := 0) ⟨⟨rfl, rfl⟩, by decide, by decide⟩ (fun H locs hV => ?_)
  refine si_const S dX11_orderAt_12 ?_
  refine si_sub S dX11_orderAt_13 ?_
  refine sk_SP E hV (As := [.int (sI r), .int (sI 0), .int (sI ((f 568) - 1))]) (rest := [.ref m]) (kX11_in l_ G b_ M1 N r 0 ((f 568) - 1) (by omega)) (va_cwS 3 S.2.2.2.2 gX11_orderAt_X11_in rfl rfl rfl (by decide +kernel) ⟨Nat.le_of_ble_eq_true rfl, Nat.le_of_ble_eq_true rfl⟩) rfl rfl hl.1 (Nat.le_of_ble_eq_true rfl) dX11_orderAt_14 (c1 := 0) (s1 := 0) ⟨⟨rfl, rfl⟩, by decide, by decide⟩ (fun H locs hV => ?_)
  refine sq_eq (tgt := 31) S dX11_orderAt_17 (by decide) (fun c4 => ?_) (fun c4 => ?_)
  · refine si_const S dX11_orderAt_31 ?_
    refine si_const S dX11_orderAt_32 ?_
    refine sk_Vi E hV (As := [.int (sI 0), .int (sI 1)]) (rest := []) (kX11_fails0 l_ G b_ M1 N m ch tn ea sn nm wn 1 hc2 (by omega)) (cwV 2 S.2.2.2.2 gX11_orderAt_X11_fails rfl rfl rfl (by decide +kernel) ⟨Nat.le_of_ble_eq_true rfl, Nat.le_of_ble_eq_true rfl⟩) (ci := 9) hc2 rfl rfl rfl hl.1 (Nat.le_of_ble_eq_true rfl) dX11_orderAt_33 (c1 := 0) (s1 := 0) ⟨⟨rfl, rfl⟩, by decide, by decide⟩ (fun z8 M5 N6 H locs hp7 hV => ?_)
    obtain ⟨ez9, hN10, hc11, hf12⟩ := hp7
    rw [hN10] at hV
    rw [ez9]
    refine sz_eq (tgt := 41) S dX11_orderAt_36 (by decide) (by omega) (fun c13 => absurd c13 (by omega)) (fun _ => ?_)
    refine si_const S dX11_orderAt_39 ?_
    have hc14 : M5 (m + 7) = some (sArr G 10 A) := ((hf12 (m + 7) (by omega)).trans ((congrFun hM1 (m + 7)).trans (va_up_ne M _ (by omega)))).trans hm7
    have hc15 : M5 (m + 5) = some (sArr G 1024 Wy) := ((hf12 (m + 5) (by omega)).trans ((congrFun hM1 (m + 5)).trans (va_up_ne M _ (by omega)))).trans hm5
    have hc16 : M5 (m + 6) = some (sArr G 1024 R) := ((hf12 (m + 6) (by omega)).trans ((congrFun hM1 (m + 6)).trans (va_up_ne M _ (by omega)))).trans hm6
    exact sr_i E hQ dX11_orderAt_40 ⟨Nat.le_of_ble_eq_true rfl, Nat.le_of_ble_eq_true rfl⟩ hV (⟨A, Wy, R, rfl, hc14, hc15, hc16, fun x q0 q1 q2 q3 => (hf12 x (by omega)).trans ((congrFun hM1 x).trans (va_up_ne M _ (by omega))), Or.inl ⟨(by omega), rfl, hc11⟩⟩)
  · refine lv_aload_n hx_ hb_ dX11_orderAt_20 rfl (lv_at hl 0 rfl) ?_
    have hc17 : M1 (m + 7) = some (sArr G 10 A) := ((congrFun hM1 (m + 7)).trans (va_up_ne M _ (by omega))).trans hm7
    have hc18 : M1 (m + 5) = some (sArr G 1024 Wy) := ((congrFun hM1 (m + 5)).trans (va_up_ne M _ (by omega))).trans hm5
    have hc19 : M1 (m + 6) = some (sArr G 1024 R) := ((congrFun hM1 (m + 6)).trans (va_up_ne M _ (by omega))).trans hm6
    refine sk_Vi E hV (As := []) (rest := [.ref m]) (kX11_counts l_ G b_ M1 N m 0 ch tn ea sn nm wn f A Wy R hc2 hc3 hc17 hc18 hc19 (by omega)) (cwV 0 S.2.2.2.2 gX11_orderAt_X11_counts rfl rfl rfl (by decide +kernel) ⟨Nat.le_of_ble_eq_true rfl, Nat.le_of_ble_eq_true rfl⟩) (ci := 9) hc2 rfl rfl rfl hl.1 (Nat.le_of_ble_eq_true rfl) dX11_orderAt_21 (c1 := 0) (s1 := 0) ⟨⟨rfl, rfl⟩, by decide, by decide⟩ (fun z23 M20 N21 H locs hp22 hV => ?_)
    obtain ⟨A924, W925, R926, ez27, hN28, hc29, hc30, hc31, hf32, hA933, hC934⟩ := hp22
    rw [hN28] at hV
    rw [ez27]
    have hA := hA933
    have hC := hC934
    have htr := tot_r (by omega) hC
    refine sz_le (tgt := 31) S dX11_orderAt_24 (by decide) (by omega) (fun c35 => ?_) (fun c35 => ?_)
    · refine si_const S dX11_orderAt_31 ?_
      refine si_const S dX11_orderAt_32 ?_
      have hc36 : M20 m = some (mO m 0 ch tn ea sn nm wn) := (hf32 m (by omega) (by omega) (by omega)).trans hc2
      refine sk_Vi E hV (As := [.int (sI 0), .int (sI 1)]) (rest := []) (kX11_fails0 l_ G b_ M20 N m ch tn ea sn nm wn 1 hc36 (by omega)) (cwV 2 S.2.2.2.2 gX11_orderAt_X11_fails rfl rfl rfl (by decide +kernel) ⟨Nat.le_of_ble_eq_true rfl, Nat.le_of_ble_eq_true rfl⟩) (ci := 9) hc36 rfl rfl rfl hl.1 (Nat.le_of_ble_eq_true rfl) dX11_orderAt_33 (c1 := 0) (s1 := 0) ⟨⟨rfl, rfl⟩, by decide, by decide⟩ (fun z40 M37 N38 H locs hp39 hV => ?_)
      obtain ⟨ez41, hN42, hc43, hf44⟩ := hp39
      rw [hN42] at hV
      rw [ez41]
      refine sz_eq (tgt := 41) S dX11_orderAt_36 (by decide) (by omega) (fun c45 => absurd c45 (by omega)) (fun _ => ?_)
      refine si_const S dX11_orderAt_39 ?_
      have hc46 : M37 (m + 7) = some (sArr G 10 A924) := (hf44 (m + 7) (by omega)).trans hc29
      have hc47 : M37 (m + 5) = some (sArr G 1024 W925) := (hf44 (m + 5) (by omega)).trans hc30
      have hc48 : M37 (m + 6) = some (sArr G 1024 R926) := (hf44 (m + 6) (by omega)).trans hc31
      exact sr_i E hQ dX11_orderAt_40 ⟨Nat.le_of_ble_eq_true rfl, Nat.le_of_ble_eq_true rfl⟩ hV (⟨A924, W925, R926, rfl, hc46, hc47, hc48, fun x q0 q1 q2 q3 => ((hf44 x (by omega)).trans (hf32 x (by omega) (by omega) (by omega))).trans ((congrFun hM1 x).trans (va_up_ne M _ (by omega))), Or.inl ⟨(by omega), rfl, hc43⟩⟩)
    · refine si_const S dX11_orderAt_27 ?_
      refine lv_goto (tgt := 32) hx_ hb_ dX11_orderAt_28 (by decide) ?_
      refine si_const S dX11_orderAt_32 ?_
      have hc49 : M20 m = some (mO m 0 ch tn ea sn nm wn) := (hf32 m (by omega) (by omega) (by omega)).trans hc2
      refine sk_Vi E hV (As := [.int (sI 1), .int (sI 1)]) (rest := []) (kX11_fails1 l_ G b_ M20 N m ch tn ea sn nm wn 1 hc49 (by omega)) (cwV 2 S.2.2.2.2 gX11_orderAt_X11_fails rfl rfl rfl (by decide +kernel) ⟨Nat.le_of_ble_eq_true rfl, Nat.le_of_ble_eq_true rfl⟩) (ci := 9) hc49 rfl rfl rfl hl.1 (Nat.le_of_ble_eq_true rfl) dX11_orderAt_33 (c1 := 0) (s1 := 0) ⟨⟨rfl, rfl⟩, by decide, by decide⟩ (fun z53 M50 N51 H locs hp52 hV => ?_)
      obtain ⟨ez54, hN55, hc56, hf57⟩ := hp52
      rw [hN55] at hV
      rw [ez54]
      refine sz_eq (tgt := 41) S dX11_orderAt_36 (by decide) (by omega) (fun _ => ?_) (fun c58 => absurd c58 (by omega))
      refine si_const S dX11_orderAt_41 ?_
      refine lv_istore_n (lv' := [(2, .int (sI 0)), (0, .ref m), (1, .int (sI r))]) hx_ hb_ dX11_orderAt_42 rfl hl (by decide) rfl (fun ls hl => ?_)
      refine si_const S dX11_orderAt_43 ?_
      refine lv_istore_n (lv' := [(3, .int (sI 0)), (2, .int (sI 0)), (0, .ref m), (1, .int (sI r))]) hx_ hb_ dX11_orderAt_44 rfl hl (by decide) rfl (fun ls hl => ?_)
      refine si_const S dX11_orderAt_45 ?_
      refine lv_istore (lv' := [(4, .int (sI 0)), (3, .int (sI 0)), (2, .int (sI 0)), (0, .ref m), (1, .int (sI r))]) hx_ hb_ dX11_orderAt_46 hl (by decide) rfl (fun ls hl => ?_)
      have L48 : ∀ (fuel : Nat) (v : Int) (s : Int) (k : Int)  (H : Heap) (locs : List Loc) (ls : Array Slot), ((r + 1 - k).toNat) < fuel → (0 ≤ k ∧ k ≤ r + 1) → (v = orS f k.toNat) → (s = if k = 0 then 0 else orI f (k - 1)) → sV G b_ M50 N s_ H locs → lv_has ls 5 [(0, .ref m), (1, .int (sI r)), (2, .int (sI v)), (3, .int (sI s)), (4, .int (sI k))] → W p_ l_ e_ rmX11_orderAt s_ m_ args_ below_ meth_ c_ H locs 0 0 Q (F0 m_ 48 ls []) := by
        intro fuel
        induction fuel with
        | zero => intro v s k H locs ls hmu; exact absurd hmu (Nat.not_lt_zero _)
        | succ fuel ih48 =>
          intro v s k H locs ls hmu48 hv48_0 hv hsk  hV hl
          have hor := orS_r (f := f) (by omega) hC.1 (by omega)
          refine lv_iload hx_ hb_ dX11_orderAt_48 (lv_at hl 4 rfl) ?_
          refine lv_iload_n hx_ hb_ dX11_orderAt_50 rfl (lv_at hl 1 rfl) ?_
          refine sb_gt (tgt := 83) S dX11_orderAt_51 (by decide) (by omega) (fun c59 => ?_) (fun c59 => ?_)
          · refine lv_iload_n hx_ hb_ dX11_orderAt_83 rfl (lv_at hl 3 rfl) ?_
            have hc60 : M50 (m + 7) = some (sArr G 10 A924) := (hf57 (m + 7) (by omega)).trans hc29
            have hc61 : M50 (m + 5) = some (sArr G 1024 W925) := (hf57 (m + 5) (by omega)).trans hc30
            have hc62 : M50 (m + 6) = some (sArr G 1024 R926) := (hf57 (m + 6) (by omega)).trans hc31
            exact sr_i E hQ dX11_orderAt_84 ⟨Nat.le_of_ble_eq_true rfl, Nat.le_of_ble_eq_true rfl⟩ hV (⟨A924, W925, R926, rfl, hc60, hc61, hc62, fun x q0 q1 q2 q3 => ((hf57 x (by omega)).trans (hf32 x (by omega) (by omega) (by omega))).trans ((congrFun hM1 x).trans (va_up_ne M _ (by omega))), Or.inr (⟨(by omega), by rw [hsk, if_neg (by omega), show k - 1 = r by omega], hc56⟩)⟩)
          · have hok2 := hor k (by omega) (by omega)
            have hok3 := hok2.2.2 (by omega)
            rw [← hv] at hok2 hok3
            refine si_const S dX11_orderAt_54 ?_
            refine lv_istore_n (lv' := [(3, .int (sI 0)), (0, .ref m), (1, .int (sI r)), (2, .int (sI v)), (4, .int (sI k))]) hx_ hb_ dX11_orderAt_55 rfl hl (by decide) rfl (fun ls hl => ?_)
            have L56 : ∀ (fuel : Nat) (q : Int)  (H : Heap) (locs : List Loc) (ls : Array Slot), ((orI f k - q).toNat) < fuel → (0 ≤ q ∧ q ≤ orI f k) → (∀ x, 0 ≤ x → x < q → ¬ nxS f v x) → sV G b_ M50 N s_ H locs → lv_has ls 5 [(0, .ref m), (1, .int (sI r)), (2, .int (sI v)), (3, .int (sI q)), (4, .int (sI k))] → W p_ l_ e_ rmX11_orderAt s_ m_ args_ below_ meth_ c_ H locs 0 0 Q (F0 m_ 56 ls []) := by
              intro fuel
              induction fuel with
              | zero => intro q H locs ls hmu; exact absurd hmu (Nat.not_lt_zero _)
              | succ fuel ih56 =>
                intro q H locs ls hmu56 hv56_0 hq  hV hl
                refine lv_aload_n hx_ hb_ dX11_orderAt_56 rfl (lv_at hl 0 rfl) ?_
                refine lv_iload_n hx_ hb_ dX11_orderAt_57 rfl (lv_at hl 2 rfl) ?_
                refine lv_iload_n hx_ hb_ dX11_orderAt_58 rfl (lv_at hl 3 rfl) ?_
                have hc63 : M50 (m + 1) = some (sArr G 574 f) := ((hf57 (m + 1) (by omega)).trans (hf32 (m + 1) (by omega) (by omega) (by omega))).trans hc3
                have hc64 : M50 (m + 7) = some (sArr G 10 A924) := (hf57 (m + 7) (by omega)).trans hc29
                refine sk_VP E hV (As := [.int (sI v), .int (sI q)]) (rest := []) (kX11_canBeNext l_ G b_ M50 N m 0 ch tn ea sn nm wn f A924 v q hc56 hc63 hc64 (by omega) (hA) (by omega) (by omega)) (cwV 2 S.2.2.2.2 gX11_orderAt_X11_canBeNext rfl rfl rfl (by decide +kernel) ⟨Nat.le_of_ble_eq_true rfl, Nat.le_of_ble_eq_true rfl⟩) (ci := 9) hc56 rfl rfl rfl hl.1 (Nat.le_of_ble_eq_true rfl) dX11_orderAt_59 (c1 := 0) (s1 := 0) ⟨⟨rfl, rfl⟩, by decide, by decide⟩ (fun H locs hV => ?_)
                refine sq_ne (tgt := 71) S dX11_orderAt_62 (by decide) (fun h62 => ?_) (fun h62 => ?_)
                · have hsI : q = orI f k := (idx_some (P := nxS f v) (n := f 568) ⟨by omega, by omega⟩ h62 hq).symm.trans (by unfold orI; rw [← hv])
                  refine lv_iload_n hx_ hb_ dX11_orderAt_71 rfl (lv_at hl 2 rfl) ?_
                  refine si_const S dX11_orderAt_72 ?_
                  refine lv_iload_n hx_ hb_ dX11_orderAt_73 rfl (lv_at hl 3 rfl) ?_
                  refine si_shl S dX11_orderAt_74 ?_
                  refine si_or S dX11_orderAt_75 ?_
                  rw [ior_p2 (by omega) (by omega) h62.1]
                  refine lv_istore_n (lv' := [(2, .int (sI (v + p2 q))), (0, .ref m), (1, .int (sI r)), (3, .int (sI q)), (4, .int (sI k))]) hx_ hb_ dX11_orderAt_76 rfl hl (by decide) rfl (fun ls hl => ?_)
                  refine si_inc (lv' := [(4, .int (sI (k + 1))), (2, .int (sI (v + p2 q))), (0, .ref m), (1, .int (sI r)), (3, .int (sI q))]) S dX11_orderAt_77 hl (k := 4) rfl (by decide) rfl (fun ls hl => ?_)
                  refine lv_goto (tgt := 48) hx_ hb_ dX11_orderAt_80 (by decide) ?_
                  exact ih48 (v + p2 q) q (k + 1) _ _ _ (by omega) (by omega) (by rw [orS_s f k (by omega), ← hv, hsI]) (by rw [if_neg (by omega), show k + 1 - 1 = k by omega]; exact hsI) hV (lv_sub hl [2, 3, 1, 4, 0] rfl)
                · have hlt : q ≠ orI f k := fun e => h62 (by rw [e]; exact hok3.2.2)
                  refine si_inc (lv' := [(3, .int (sI (q + 1))), (0, .ref m), (1, .int (sI r)), (2, .int (sI v)), (4, .int (sI k))]) S dX11_orderAt_65 hl (k := 3) rfl (by decide) rfl (fun ls hl => ?_)
                  refine lv_goto (tgt := 56) hx_ hb_ dX11_orderAt_68 (by decide) ?_
                  exact ih56 (q + 1) _ _ _ (by omega) (by omega) (idx_st hq h62) hV (lv_sub hl [1, 2, 3, 0, 4] rfl)
            exact L56 _ 0 _ _ _ (Nat.lt_succ_self _) (by omega) (fun x a b => by omega) hV (lv_sub hl [1, 2, 3, 0, 4] rfl)
      exact L48 _ 0 0 0 _ _ _ (Nat.lt_succ_self _) (by omega) (rfl) (by rw [if_pos rfl]) hV (lv_sub hl [3, 4, 2, 1, 0] rfl)
