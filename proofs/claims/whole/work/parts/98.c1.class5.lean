/-! The class, further on. -/
abbrev rmX10_rank : Room := { frames := 7, cells := 8, slots := 50, locals := 135 }
set_option maxHeartbeats 4000000 in
set_option maxRecDepth 100000 in
theorem kX10_rank (l_ : Launch) (G : sG) (b_ : Nat) (M : sM) (N : Nat) (c : Nat) (kn ch : Int) (f : sF) (s : Int) (B : Prop) (hc0 : M c = some (xO c kn ch)) (hst : stC G M (c + 1) f) (hft : orfC G M (c + 38)) (hlt : l_.stackTraces = false) (hok : sOk f) (hr : sR s) : xcI l_ yX10_rank wsX10_rank rmX10_rank G b_ M N [.ref c, .int (sI s), .int (sI (bI B))] (fun z_ M1 N1 => N1 = N ∧ orfC G M1 (c + 38) ∧ (∀ x : Nat, ¬ (c + 38 ≤ x ∧ x < c + 38 + 10) → M1 x = M x) ∧ ((((0 ≤ s ∧ s < f 568)) ∧ z_ = rnI B (rkI f s) (f 568)))) (fun E_ M1 N1 => N ≤ N1 ∧ orfC G M1 (c + 38) ∧ (∀ x : Nat, ¬ (c + 38 ≤ x ∧ x < c + 38 + 10) → M1 x = M x) ∧ (((¬ (0 ≤ s ∧ s < f 568)) ∧ E_ = "java/lang/IndexOutOfBoundsException"))) := by
  refine xcE.ofI (cc := cX10_rank) (nL := 5) (ret := (some .int)) (by decide) rfl (Nat.le_of_ble_eq_true rfl) ?_
  intro p_ e_ s_ m_ args_ below_ meth_ c_ ls Q hQ E hF_ hxt_ hl
  have E : sE p_ l_ e_ rmX10_rank s_ m_ args_ below_ meth_ c_ cX10_rank 5 wsX10_rank RX10 "rank" (some .int) G b_ M N := E
  have S := E.1
  have hx_ := S.1
  have hb_ := S.2.1
  have hK := E.2.2.2.2.1
  have hV := E.2.2.2.2.2.2
  have hl : lv_has ls 5 [(0, .ref c), (1, .int (sI s)), (2, .int (sI (bI B)))] := hl
  have inX10_ : ∀ w ∈ wsX100, w ∈ wsX10_rank := fun _ h => List.mem_cons_of_mem _ (List.mem_append_left _ (List.mem_append_left _ (List.mem_append_left _ (List.mem_append_left _ (List.mem_append_right _ h)))))
  have inX6_ : ∀ w ∈ wsX60, w ∈ wsX10_rank := fun _ h => List.mem_cons_of_mem _ (List.mem_append_left _ (List.mem_append_left _ (List.mem_append_left _ (List.mem_append_right _ h))))
  have inX8_ : ∀ w ∈ wsX80, w ∈ wsX10_rank := fun _ h => List.mem_cons_of_mem _ (List.mem_append_left _ (List.mem_append_left _ (List.mem_append_right _ h)))
  have inX5_ : ∀ w ∈ wsX50, w ∈ wsX10_rank := fun _ h => List.mem_cons_of_mem _ (List.mem_append_left _ (List.mem_append_right _ h))
  have hbN : b_ ≤ N := by have h1 := hV.1.1; have h2 := hV.2.2; omega
  have kn0 := sOk_N hok
  have hft2 := hft
  obtain ⟨L0, c0, Fr, So, Ha, Ah, Be, At, Pa, Rc, Rs, h38, h39, h40, h41, h42, h43, h44, h45, h46, h47, hq0, hcr⟩ := hft2
  refine lv_aload_n hx_ hb_ dX10_rank_0 rfl (lv_at hl 0 rfl) ?_
  refine lv_iload_n hx_ hb_ dX10_rank_1 rfl (lv_at hl 1 rfl) ?_
  refine xk_Vv E hF_ hxt_ hQ hV (As := [.int (sI s)]) (rest := []) (kX10_needStone l_ G b_ M N c kn ch f s hc0 hst (by omega) (by omega) (by omega)) (cwV 1 S.2.2.2.2 gX10_rank_X10_needStone rfl rfl rfl (by decide +kernel) ⟨Nat.le_of_ble_eq_true rfl, Nat.le_of_ble_eq_true rfl⟩) (ci := 8) hc0 rfl rfl rfl hl.1 (Nat.le_of_ble_eq_true rfl) dX10_rank_2 (c1 := 1) (s1 := 6) ⟨⟨rfl, rfl⟩, by decide, by decide⟩ ⟨Nat.le_of_ble_eq_true rfl, Nat.le_of_ble_eq_true rfl⟩ ?_ (fun M1 N2 H locs hp3 hV => ?_)
  · rintro E9 M9 N9 ⟨hN5, hf6, hq7⟩
    rcases hq7 with ⟨c8, ee9⟩
    · have hc10 : orfC G M9 (c + 38) := hft.fr (fun x q8 q9 => hf6 x )
      exact ⟨by omega, hc10, fun x q0 => hf6 x , ⟨(by first | exact c8 | omega), ee9⟩⟩
  obtain ⟨hN11, hf12, hq13⟩ := hp3
  rw [hN11] at hV
  rcases hq13 with c14
  · refine lv_aload_n hx_ hb_ dX10_rank_5 rfl (lv_at hl 0 rfl) ?_
    have hc15 : M1 c = some (xO c kn ch) := (hf12 c ).trans hc0
    refine sc_get (ci := 8) (C := RX10) (T := TX10) (n := 11) S hK hV inX10_ hc15 rfl 7 (by decide) (S.2.2.2.2 _ (List.mem_of_getElem? (i := 1) rfl)) rfl rfl dX10_rank_6 ?_
    refine lv_aload_n hx_ hb_ dX10_rank_9 rfl (lv_at hl 0 rfl) ?_
    refine sc_get (ci := 8) (C := RX10) (T := TX10) (n := 11) S hK hV inX10_ hc15 rfl 0 (by decide) (S.2.2.2.2 _ (List.mem_of_getElem? (i := 2) rfl)) rfl rfl dX10_rank_10 ?_
    have hc16 : M1 (c + 38) = some (sObj 3 [.ref (c + 39), .ref (c + 40), .ref (c + 41), .ref (c + 42), .ref (c + 43), .ref (c + 44), .ref (c + 45), .ref (c + 46), .ref (c + 47), .int (sI L0), .int (sI c0)]) := (hf12 (c + 38) ).trans h38
    have hc17 : M1 (c + 39) = some (sArr G 10 Fr) := (hf12 (c + 39) ).trans h39
    have hc18 : M1 (c + 40) = some (sArr G 10 So) := (hf12 (c + 40) ).trans h40
    have hc19 : M1 (c + 41) = some (sArr G 10 Ha) := (hf12 (c + 41) ).trans h41
    have hc20 : M1 (c + 42) = some (sArr G 1024 Ah) := (hf12 (c + 42) ).trans h42
    have hc21 : M1 (c + 43) = some (sArr G 1024 Be) := (hf12 (c + 43) ).trans h43
    have hc22 : M1 (c + 44) = some (sArr G 100 At) := (hf12 (c + 44) ).trans h44
    have hc23 : M1 (c + 45) = some (sArr G 100 Pa) := (hf12 (c + 45) ).trans h45
    have hc24 : M1 (c + 46) = some (sArr G 11 Rc) := (hf12 (c + 46) ).trans h46
    have hc25 : M1 (c + 47) = some (sArr G 10 Rs) := (hf12 (c + 47) ).trans h47
    have hc26 : stC G M1 (c + 1) f := hst.fr (fun x q8 q9 => hf12 x )
    refine sk_Vv E hV (As := [.ref (c + 1)]) (rest := []) (kX5_lookAt l_ G b_ M1 N (c + 38) (c + 1) L0 c0 Fr So Ha Ah Be At Pa Rc Rs f hc16 hc17 hc18 hc19 hc20 hc21 hc22 hc23 hc24 hc25 hc26 (by omega) (by omega) (hq0) (hcr)) (cwV 1 S.2.2.2.2 gX10_rank_X5_lookAt rfl rfl rfl (by decide +kernel) ⟨Nat.le_of_ble_eq_true rfl, Nat.le_of_ble_eq_true rfl⟩) (ci := 3) hc16 rfl rfl rfl hl.1 (Nat.le_of_ble_eq_true rfl) dX10_rank_13 (c1 := 1) (s1 := 6) ⟨⟨rfl, rfl⟩, by decide, by decide⟩ (fun M27 N28 H locs hp29 hV => ?_)
    obtain ⟨L931, F932, S933, H934, W935, B936, A937, P938, R939, G940, hN41, hc42, hc43, hc44, hc45, hc46, hc47, hc48, hc49, hc50, hc51, hf52, hd953⟩ := hp29
    rw [hN41] at hV
    have hod := hd953
    have hod2 := hod
    obtain ⟨od1, od2, od3, od4, od5, od6, od7⟩ := hod2
    have hrg := rg_eq (fi_rg hok od7)
    have hrl := hrg.1
    have hfr := fi_r (by omega) od7
    refine si_const S dX10_rank_16 ?_
    refine lv_istore_n (lv' := [(3, .int (sI (-1))), (0, .ref c), (1, .int (sI s)), (2, .int (sI (bI B)))]) hx_ hb_ dX10_rank_17 rfl hl (by decide) rfl (fun ls hl => ?_)
    refine si_const S dX10_rank_18 ?_
    refine lv_istore (lv' := [(4, .int (sI 0)), (3, .int (sI (-1))), (0, .ref c), (1, .int (sI s)), (2, .int (sI (bI B)))]) hx_ hb_ dX10_rank_19 hl (by decide) rfl (fun ls hl => ?_)
    have L21 : ∀ (fuel : Nat) (z : Int) (r : Int)  (H : Heap) (locs : List Loc) (ls : Array Slot), ((10 - r).toNat) < fuel → (0 ≤ r ∧ r ≤ 10) → (z = rnI B (rkI f s) r) → sV G b_ M27 N s_ H locs → lv_has ls 5 [(0, .ref c), (1, .int (sI s)), (2, .int (sI (bI B))), (3, .int (sI z)), (4, .int (sI r))] → W p_ l_ e_ rmX10_rank s_ m_ args_ below_ meth_ c_ H locs 1 6 Q (F0 m_ 21 ls []) := by
      intro fuel
      induction fuel with
      | zero => intro z r H locs ls hmu; exact absurd hmu (Nat.not_lt_zero _)
      | succ fuel ih21 =>
        intro z r H locs ls hmu21 hv21_0 hz  hV hl
        have hrn := rnI_r B (rkI f s) r (by omega)
        rw [← hz] at hrn
        refine lv_iload hx_ hb_ dX10_rank_21 (lv_at hl 4 rfl) ?_
        refine si_bipush S dX10_rank_23 (by decide) ?_
        refine sb_ge (tgt := 59) S dX10_rank_25 (by decide) (by omega) (fun c54 => ?_) (fun c54 => ?_)
        · refine lv_iload_n hx_ hb_ dX10_rank_59 rfl (lv_at hl 3 rfl) ?_
          exact xr_i E hQ dX10_rank_60 ⟨Nat.le_of_ble_eq_true rfl, Nat.le_of_ble_eq_true rfl⟩ hV (⟨rfl, ⟨_, _, _, _, _, _, _, _, _, _, _, hc42, hc43, hc44, hc45, hc46, hc47, hc48, hc49, hc50, hc51, od_q hod, by omega, by omega⟩, fun x q0 => (hf52 x (by omega) (by omega) (by omega) (by omega) (by omega) (by omega) (by omega) (by omega) (by omega) (by omega)).trans (hf12 x ), ⟨(by omega), by have hx := rn_x (g := B) (K := rkI f s) (n := f 568) (by omega) (fun r hr => rk_z (by omega) (by omega) hr) (10 - f 568).toNat; rw [hz, ← hx]; congr 1; omega⟩⟩)
        · refine lv_aload_n hx_ hb_ dX10_rank_28 rfl (lv_at hl 0 rfl) ?_
          have hc55 : M27 c = some (xO c kn ch) := (hf52 c (by omega) (by omega) (by omega) (by omega) (by omega) (by omega) (by omega) (by omega) (by omega) (by omega)).trans hc15
          refine sc_get (ci := 8) (C := RX10) (T := TX10) (n := 11) S hK hV inX10_ hc55 rfl 7 (by decide) (S.2.2.2.2 _ (List.mem_of_getElem? (i := 1) rfl)) rfl rfl dX10_rank_29 ?_
          refine lv_iload_n hx_ hb_ dX10_rank_32 rfl (lv_at hl 1 rfl) ?_
          refine lv_iload hx_ hb_ dX10_rank_33 (lv_at hl 4 rfl) ?_
          refine sk_VP E hV (As := [.int (sI s), .int (sI r)]) (rest := []) (kX5_countAt l_ G b_ M27 N (c + 38) L931 (f 568) A937 s r hc42 hc48 (by omega)) (cwV 2 S.2.2.2.2 gX10_rank_X5_countAt rfl rfl rfl (by decide +kernel) ⟨Nat.le_of_ble_eq_true rfl, Nat.le_of_ble_eq_true rfl⟩) (ci := 3) hc42 rfl rfl rfl hl.1 (Nat.le_of_ble_eq_true rfl) dX10_rank_35 (c1 := 1) (s1 := 6) ⟨⟨rfl, rfl⟩, by decide, by decide⟩ (fun H locs hV => ?_)
          rw [od5 s r (by omega) (by omega) (by omega) (by omega)]
          have hrk := rk_r (by omega) (ctC f (by omega)) s r (by omega)
          have htr := tot_r (f := f) (by omega) (ctC f (by omega))
          refine sz_le (tgt := 53) S dX10_rank_38 (by decide) (by omega) (fun c56 => ?_) (fun c56 => ?_)
          · refine si_inc (lv' := [(4, .int (sI (r + 1))), (0, .ref c), (1, .int (sI s)), (2, .int (sI (bI B))), (3, .int (sI z))]) S dX10_rank_53 hl (k := 4) rfl (by decide) rfl (fun ls hl => ?_)
            refine lv_goto (tgt := 21) hx_ hb_ dX10_rank_56 (by decide) ?_
            exact ih21 z (r + 1) _ _ _ (by omega) (by omega) (by rw [rnI_s _ _ _ (by omega), ← hz, pif_f (fun q => by have := q.2; omega)]) hV (lv_sub hl [1, 2, 3, 4, 0] rfl)
          · refine lv_iload_n hx_ hb_ dX10_rank_41 rfl (lv_at hl 2 rfl) ?_
            refine sq_ne (tgt := 50) S dX10_rank_42 (by decide) (fun h42 => ?_) (fun h42 => ?_)
            · refine lv_iload hx_ hb_ dX10_rank_50 (lv_at hl 4 rfl) ?_
              refine lv_istore_n (lv' := [(3, .int (sI r)), (0, .ref c), (1, .int (sI s)), (2, .int (sI (bI B))), (4, .int (sI r))]) hx_ hb_ dX10_rank_52 rfl hl (by decide) rfl (fun ls hl => ?_)
              refine si_inc (lv' := [(4, .int (sI (r + 1))), (3, .int (sI r)), (0, .ref c), (1, .int (sI s)), (2, .int (sI (bI B)))]) S dX10_rank_53 hl (k := 4) rfl (by decide) rfl (fun ls hl => ?_)
              refine lv_goto (tgt := 21) hx_ hb_ dX10_rank_56 (by decide) ?_
              exact ih21 r (r + 1) _ _ _ (by omega) (by omega) (by rw [rnI_s _ _ _ (by omega), ← hz, pif_t ⟨Or.inr h42, by omega⟩]) hV (lv_sub hl [2, 3, 4, 1, 0] rfl)
            · refine lv_iload_n hx_ hb_ dX10_rank_45 rfl (lv_at hl 3 rfl) ?_
              refine si_const S dX10_rank_46 ?_
              refine sb_ne (tgt := 53) S dX10_rank_47 (by decide) (by omega) (fun c57 => ?_) (fun c57 => ?_)
              · refine si_inc (lv' := [(4, .int (sI (r + 1))), (0, .ref c), (1, .int (sI s)), (2, .int (sI (bI B))), (3, .int (sI z))]) S dX10_rank_53 hl (k := 4) rfl (by decide) rfl (fun ls hl => ?_)
                refine lv_goto (tgt := 21) hx_ hb_ dX10_rank_56 (by decide) ?_
                exact ih21 z (r + 1) _ _ _ (by omega) (by omega) (by rw [rnI_s _ _ _ (by omega), ← hz, pif_f (fun q => by rcases q.1 with a | a; exact absurd a (by omega); exact h42 a)]) hV (lv_sub hl [1, 2, 3, 4, 0] rfl)
              · refine lv_iload hx_ hb_ dX10_rank_50 (lv_at hl 4 rfl) ?_
                refine lv_istore_n (lv' := [(3, .int (sI r)), (0, .ref c), (1, .int (sI s)), (2, .int (sI (bI B))), (4, .int (sI r))]) hx_ hb_ dX10_rank_52 rfl hl (by decide) rfl (fun ls hl => ?_)
                refine si_inc (lv' := [(4, .int (sI (r + 1))), (3, .int (sI r)), (0, .ref c), (1, .int (sI s)), (2, .int (sI (bI B)))]) S dX10_rank_53 hl (k := 4) rfl (by decide) rfl (fun ls hl => ?_)
                refine lv_goto (tgt := 21) hx_ hb_ dX10_rank_56 (by decide) ?_
                exact ih21 r (r + 1) _ _ _ (by omega) (by omega) (by rw [rnI_s _ _ _ (by omega), ← hz, pif_t ⟨Or.inl (by omega), by omega⟩]) hV (lv_sub hl [2, 3, 4, 1, 0] rfl)
    exact L21 _ (-1) 0 _ _ _ (Nat.lt_succ_self _) (by omega) (rfl) hV (lv_sub hl [2, 3, 4, 1, 0] rfl)

abbrev rmX10_withRank : Room := { frames := 7, cells := 8, slots := 50, locals := 135 }
set_option maxHeartbeats 4000000 in
set_option maxRecDepth 100000 in
theorem kX10_withRank (l_ : Launch) (G : sG) (b_ : Nat) (M : sM) (N : Nat) (c : Nat) (kn ch : Int) (f : sF) (s r : Int) (hc0 : M c = some (xO c kn ch)) (hst : stC G M (c + 1) f) (hft : orfC G M (c + 38)) (hlt : l_.stackTraces = false) (hok : sOk f) (hr : sR s ∧ sR r) : xcI l_ yX10_withRank wsX10_withRank rmX10_withRank G b_ M N [.ref c, .int (sI s), .int (sI r)] (fun z_ M1 N1 => N1 = N ∧ orfC G M1 (c + 38) ∧ (∀ x : Nat, ¬ (c + 38 ≤ x ∧ x < c + 38 + 10) → M1 x = M x) ∧ ((((0 ≤ s ∧ s < f 568) ∧ 0 ≤ r ∧ r ≤ 9) ∧ z_ = rkI f s r))) (fun E_ M1 N1 => N ≤ N1 ∧ orfC G M1 (c + 38) ∧ (∀ x : Nat, ¬ (c + 38 ≤ x ∧ x < c + 38 + 10) → M1 x = M x) ∧ (((¬ (0 ≤ s ∧ s < f 568)) ∧ E_ = "java/lang/IndexOutOfBoundsException") ∨ (((0 ≤ s ∧ s < f 568) ∧ ¬ (0 ≤ r ∧ r ≤ 9)) ∧ E_ = "java/lang/IllegalArgumentException"))) := by
  refine xcE.ofI (cc := cX10_withRank) (nL := 3) (ret := (some .int)) (by decide) rfl (Nat.le_of_ble_eq_true rfl) ?_
  intro p_ e_ s_ m_ args_ below_ meth_ c_ ls Q hQ E hF_ hxt_ hl
  have E : sE p_ l_ e_ rmX10_withRank s_ m_ args_ below_ meth_ c_ cX10_withRank 3 wsX10_withRank RX10 "withRank" (some .int) G b_ M N := E
  have S := E.1
  have hx_ := S.1
  have hb_ := S.2.1
  have hK := E.2.2.2.2.1
  have hV := E.2.2.2.2.2.2
  have hl : lv_has ls 3 [(0, .ref c), (1, .int (sI s)), (2, .int (sI r))] := hl
  have inX10_ : ∀ w ∈ wsX100, w ∈ wsX10_withRank := fun _ h => List.mem_cons_of_mem _ (List.mem_append_left _ (List.mem_append_left _ (List.mem_append_left _ (List.mem_append_left _ (List.mem_append_left _ (List.mem_append_right _ h))))))
  have inX6_ : ∀ w ∈ wsX60, w ∈ wsX10_withRank := fun _ h => List.mem_cons_of_mem _ (List.mem_append_left _ (List.mem_append_left _ (List.mem_append_left _ (List.mem_append_left _ (List.mem_append_right _ h)))))
  have inX8_ : ∀ w ∈ wsX80, w ∈ wsX10_withRank := fun _ h => List.mem_cons_of_mem _ (List.mem_append_left _ (List.mem_append_left _ (List.mem_append_left _ (List.mem_append_right _ h))))
  have inX5_ : ∀ w ∈ wsX50, w ∈ wsX10_withRank := fun _ h => List.mem_cons_of_mem _ (List.mem_append_left _ (List.mem_append_left _ (List.mem_append_right _ h)))
  have hbN : b_ ≤ N := by have h1 := hV.1.1; have h2 := hV.2.2; omega
  have kn0 := sOk_N hok
  have hft2 := hft
  obtain ⟨L0, c0, Fr, So, Ha, Ah, Be, At, Pa, Rc, Rs, h38, h39, h40, h41, h42, h43, h44, h45, h46, h47, hq0, hcr⟩ := hft2
  refine lv_aload_n hx_ hb_ dX10_withRank_0 rfl (lv_at hl 0 rfl) ?_
  refine lv_iload_n hx_ hb_ dX10_withRank_1 rfl (lv_at hl 1 rfl) ?_
  refine xk_Vv E hF_ hxt_ hQ hV (As := [.int (sI s)]) (rest := []) (kX10_needStone l_ G b_ M N c kn ch f s hc0 hst (by omega) (by omega) (by omega)) (cwV 1 S.2.2.2.2 gX10_withRank_X10_needStone rfl rfl rfl (by decide +kernel) ⟨Nat.le_of_ble_eq_true rfl, Nat.le_of_ble_eq_true rfl⟩) (ci := 8) hc0 rfl rfl rfl hl.1 (Nat.le_of_ble_eq_true rfl) dX10_withRank_2 (c1 := 1) (s1 := 6) ⟨⟨rfl, rfl⟩, by decide, by decide⟩ ⟨Nat.le_of_ble_eq_true rfl, Nat.le_of_ble_eq_true rfl⟩ ?_ (fun M1 N2 H locs hp3 hV => ?_)
  · rintro E9 M9 N9 ⟨hN5, hf6, hq7⟩
    rcases hq7 with ⟨c8, ee9⟩
    · have hc10 : orfC G M9 (c + 38) := hft.fr (fun x q8 q9 => hf6 x )
      exact ⟨by omega, hc10, fun x q0 => hf6 x , Or.inl ⟨(by first | exact c8 | omega), ee9⟩⟩
  obtain ⟨hN11, hf12, hq13⟩ := hp3
  rw [hN11] at hV
  rcases hq13 with c14
  · refine lv_iload_n hx_ hb_ dX10_withRank_5 rfl (lv_at hl 2 rfl) ?_
    refine si_const S dX10_withRank_6 ?_
    refine si_bipush S dX10_withRank_7 (by decide) ?_
    refine xk_Sv E hF_ hxt_ hQ hV (As := [.int (sI r), .int (sI 0), .int (sI 9)]) (rest := []) (kX10_needRange l_ G b_ M1 N r 0 9 (by omega) (by omega)) (va_cwS 3 S.2.2.2.2 gX10_withRank_X10_needRange rfl rfl rfl (by decide +kernel) ⟨Nat.le_of_ble_eq_true rfl, Nat.le_of_ble_eq_true rfl⟩) rfl rfl hl.1 (Nat.le_of_ble_eq_true rfl) dX10_withRank_9 (c1 := 2) (s1 := 12) ⟨⟨rfl, rfl⟩, by decide, by decide⟩ ⟨Nat.le_of_ble_eq_true rfl, Nat.le_of_ble_eq_true rfl⟩ ?_ (fun M15 N16 H locs hp17 hV => ?_)
    · rintro E9 M9 N9 ⟨hN19, hf20, hq21⟩
      rcases hq21 with ⟨c22, ee23⟩
      · have hc24 : orfC G M9 (c + 38) := hft.fr (fun x q8 q9 => (hf20 x ).trans (hf12 x ))
        exact ⟨by omega, hc24, fun x q0 => (hf20 x ).trans (hf12 x ), Or.inr (⟨(by first | exact c22 | omega), ee23⟩)⟩
    obtain ⟨hN25, hf26, hq27⟩ := hp17
    rw [hN25] at hV
    rcases hq27 with c28
    · refine lv_aload_n hx_ hb_ dX10_withRank_12 rfl (lv_at hl 0 rfl) ?_
      have hc29 : M15 c = some (xO c kn ch) := ((hf26 c ).trans (hf12 c )).trans hc0
      refine sc_get (ci := 8) (C := RX10) (T := TX10) (n := 11) S hK hV inX10_ hc29 rfl 7 (by decide) (S.2.2.2.2 _ (List.mem_of_getElem? (i := 1) rfl)) rfl rfl dX10_withRank_13 ?_
      refine lv_aload_n hx_ hb_ dX10_withRank_16 rfl (lv_at hl 0 rfl) ?_
      refine sc_get (ci := 8) (C := RX10) (T := TX10) (n := 11) S hK hV inX10_ hc29 rfl 0 (by decide) (S.2.2.2.2 _ (List.mem_of_getElem? (i := 2) rfl)) rfl rfl dX10_withRank_17 ?_
      have hc30 : M15 (c + 38) = some (sObj 3 [.ref (c + 39), .ref (c + 40), .ref (c + 41), .ref (c + 42), .ref (c + 43), .ref (c + 44), .ref (c + 45), .ref (c + 46), .ref (c + 47), .int (sI L0), .int (sI c0)]) := ((hf26 (c + 38) ).trans (hf12 (c + 38) )).trans h38
      have hc31 : M15 (c + 39) = some (sArr G 10 Fr) := ((hf26 (c + 39) ).trans (hf12 (c + 39) )).trans h39
      have hc32 : M15 (c + 40) = some (sArr G 10 So) := ((hf26 (c + 40) ).trans (hf12 (c + 40) )).trans h40
      have hc33 : M15 (c + 41) = some (sArr G 10 Ha) := ((hf26 (c + 41) ).trans (hf12 (c + 41) )).trans h41
      have hc34 : M15 (c + 42) = some (sArr G 1024 Ah) := ((hf26 (c + 42) ).trans (hf12 (c + 42) )).trans h42
      have hc35 : M15 (c + 43) = some (sArr G 1024 Be) := ((hf26 (c + 43) ).trans (hf12 (c + 43) )).trans h43
      have hc36 : M15 (c + 44) = some (sArr G 100 At) := ((hf26 (c + 44) ).trans (hf12 (c + 44) )).trans h44
      have hc37 : M15 (c + 45) = some (sArr G 100 Pa) := ((hf26 (c + 45) ).trans (hf12 (c + 45) )).trans h45
      have hc38 : M15 (c + 46) = some (sArr G 11 Rc) := ((hf26 (c + 46) ).trans (hf12 (c + 46) )).trans h46
      have hc39 : M15 (c + 47) = some (sArr G 10 Rs) := ((hf26 (c + 47) ).trans (hf12 (c + 47) )).trans h47
      have hc40 : stC G M15 (c + 1) f := hst.fr (fun x q8 q9 => (hf26 x ).trans (hf12 x ))
      refine sk_Vv E hV (As := [.ref (c + 1)]) (rest := []) (kX5_lookAt l_ G b_ M15 N (c + 38) (c + 1) L0 c0 Fr So Ha Ah Be At Pa Rc Rs f hc30 hc31 hc32 hc33 hc34 hc35 hc36 hc37 hc38 hc39 hc40 (by omega) (by omega) (hq0) (hcr)) (cwV 1 S.2.2.2.2 gX10_withRank_X5_lookAt rfl rfl rfl (by decide +kernel) ⟨Nat.le_of_ble_eq_true rfl, Nat.le_of_ble_eq_true rfl⟩) (ci := 3) hc30 rfl rfl rfl hl.1 (Nat.le_of_ble_eq_true rfl) dX10_withRank_20 (c1 := 2) (s1 := 12) ⟨⟨rfl, rfl⟩, by decide, by decide⟩ (fun M41 N42 H locs hp43 hV => ?_)
      obtain ⟨L945, F946, S947, H948, W949, B950, A951, P952, R953, G954, hN55, hc56, hc57, hc58, hc59, hc60, hc61, hc62, hc63, hc64, hc65, hf66, hd967⟩ := hp43
      rw [hN55] at hV
      have hod := hd967
      have hod2 := hod
      obtain ⟨od1, od2, od3, od4, od5, od6, od7⟩ := hod2
      have hrg := rg_eq (fi_rg hok od7)
      have hrl := hrg.1
      have hfr := fi_r (by omega) od7
      refine lv_aload_n hx_ hb_ dX10_withRank_23 rfl (lv_at hl 0 rfl) ?_
      have hc68 : M41 c = some (xO c kn ch) := (hf66 c (by omega) (by omega) (by omega) (by omega) (by omega) (by omega) (by omega) (by omega) (by omega) (by omega)).trans hc29
      refine sc_get (ci := 8) (C := RX10) (T := TX10) (n := 11) S hK hV inX10_ hc68 rfl 7 (by decide) (S.2.2.2.2 _ (List.mem_of_getElem? (i := 1) rfl)) rfl rfl dX10_withRank_24 ?_
      refine lv_iload_n hx_ hb_ dX10_withRank_27 rfl (lv_at hl 1 rfl) ?_
      refine lv_iload_n hx_ hb_ dX10_withRank_28 rfl (lv_at hl 2 rfl) ?_
      refine sk_VP E hV (As := [.int (sI s), .int (sI r)]) (rest := []) (kX5_countAt l_ G b_ M41 N (c + 38) L945 (f 568) A951 s r hc56 hc62 (by omega)) (cwV 2 S.2.2.2.2 gX10_withRank_X5_countAt rfl rfl rfl (by decide +kernel) ⟨Nat.le_of_ble_eq_true rfl, Nat.le_of_ble_eq_true rfl⟩) (ci := 3) hc56 rfl rfl rfl hl.1 (Nat.le_of_ble_eq_true rfl) dX10_withRank_29 (c1 := 2) (s1 := 12) ⟨⟨rfl, rfl⟩, by decide, by decide⟩ (fun H locs hV => ?_)
      exact xr_i E hQ dX10_withRank_32 ⟨Nat.le_of_ble_eq_true rfl, Nat.le_of_ble_eq_true rfl⟩ hV (⟨rfl, ⟨_, _, _, _, _, _, _, _, _, _, _, hc56, hc57, hc58, hc59, hc60, hc61, hc62, hc63, hc64, hc65, od_q hod, by omega, by omega⟩, fun x q0 => ((hf66 x (by omega) (by omega) (by omega) (by omega) (by omega) (by omega) (by omega) (by omega) (by omega) (by omega)).trans (hf26 x )).trans (hf12 x ), ⟨(by omega), od5 s r (by omega) (by omega) (by omega) (by omega)⟩⟩)

abbrev rmX10_harder : Room := { frames := 8, cells := 8, slots := 50, locals := 143 }
set_option maxHeartbeats 4000000 in
set_option maxRecDepth 100000 in
theorem kX10_harder (l_ : Launch) (G : sG) (b_ : Nat) (M : sM) (N : Nat) (c : Nat) (kn ch : Int) (f : sF) (a b : Int) (hc0 : M c = some (xO c kn ch)) (hst : stC G M (c + 1) f) (hft : orfC G M (c + 38)) (hlt : l_.stackTraces = false) (hok : sOk f) (hr : sR a ∧ sR b) : xcI l_ yX10_harder wsX10_harder rmX10_harder G b_ M N [.ref c, .int (sI a), .int (sI b)] (fun z_ M1 N1 => N1 = N ∧ orfC G M1 (c + 38) ∧ (∀ x : Nat, ¬ (c + 38 ≤ x ∧ x < c + 38 + 10) → M1 x = M x) ∧ (((((0 ≤ a ∧ a < f 568) ∧ (0 ≤ b ∧ b < f 568)) ∧ a ≠ b) ∧ z_ = abI f a b))) (fun E_ M1 N1 => N ≤ N1 ∧ orfC G M1 (c + 38) ∧ (∀ x : Nat, ¬ (c + 38 ≤ x ∧ x < c + 38 + 10) → M1 x = M x) ∧ (((¬ ((0 ≤ a ∧ a < f 568) ∧ (0 ≤ b ∧ b < f 568))) ∧ E_ = "java/lang/IndexOutOfBoundsException") ∨ ((((0 ≤ a ∧ a < f 568) ∧ (0 ≤ b ∧ b < f 568)) ∧ a = b) ∧ E_ = "java/lang/IllegalArgumentException"))) := by
  refine xcE.ofI (cc := cX10_harder) (nL := 3) (ret := (some .int)) (by decide) rfl (Nat.le_of_ble_eq_true rfl) ?_
  intro p_ e_ s_ m_ args_ below_ meth_ c_ ls Q hQ E hF_ hxt_ hl
  have E : sE p_ l_ e_ rmX10_harder s_ m_ args_ below_ meth_ c_ cX10_harder 3 wsX10_harder RX10 "harder" (some .int) G b_ M N := E
  have S := E.1
  have hx_ := S.1
  have hb_ := S.2.1
  have hK := E.2.2.2.2.1
  have hV := E.2.2.2.2.2.2
  have hl : lv_has ls 3 [(0, .ref c), (1, .int (sI a)), (2, .int (sI b))] := hl
  have inX10_ : ∀ w ∈ wsX100, w ∈ wsX10_harder := fun _ h => List.mem_cons_of_mem _ (List.mem_append_left _ (List.mem_append_left _ (List.mem_append_left _ (List.mem_append_left _ (List.mem_append_left _ (List.mem_append_right _ h))))))
  have inX6_ : ∀ w ∈ wsX60, w ∈ wsX10_harder := fun _ h => List.mem_cons_of_mem _ (List.mem_append_left _ (List.mem_append_left _ (List.mem_append_left _ (List.mem_append_left _ (List.mem_append_right _ h)))))
  have inX8_ : ∀ w ∈ wsX80, w ∈ wsX10_harder := fun _ h => List.mem_cons_of_mem _ (List.mem_append_left _ (List.mem_append_left _ (List.mem_append_left _ (List.mem_append_right _ h))))
  have inX5_ : ∀ w ∈ wsX50, w ∈ wsX10_harder := fun _ h => List.mem_cons_of_mem _ (List.mem_append_left _ (List.mem_append_left _ (List.mem_append_right _ h)))
  have hbN : b_ ≤ N := by have h1 := hV.1.1; have h2 := hV.2.2; omega
  have kn0 := sOk_N hok
  have hft2 := hft
  obtain ⟨L0, c0, Fr, So, Ha, Ah, Be, At, Pa, Rc, Rs, h38, h39, h40, h41, h42, h43, h44, h45, h46, h47, hq0, hcr⟩ := hft2
  refine lv_aload_n hx_ hb_ dX10_harder_0 rfl (lv_at hl 0 rfl) ?_
  refine lv_iload_n hx_ hb_ dX10_harder_1 rfl (lv_at hl 1 rfl) ?_
  refine lv_iload_n hx_ hb_ dX10_harder_2 rfl (lv_at hl 2 rfl) ?_
  refine xk_Vv E hF_ hxt_ hQ hV (As := [.int (sI a), .int (sI b)]) (rest := []) (kX10_needTwoStones l_ G b_ M N c kn ch f a b hc0 hst (by omega) (by omega) (by omega) (by omega)) (cwV 2 S.2.2.2.2 gX10_harder_X10_needTwoStones rfl rfl rfl (by decide +kernel) ⟨Nat.le_of_ble_eq_true rfl, Nat.le_of_ble_eq_true rfl⟩) (ci := 8) hc0 rfl rfl rfl hl.1 (Nat.le_of_ble_eq_true rfl) dX10_harder_3 (c1 := 3) (s1 := 18) ⟨⟨rfl, rfl⟩, by decide, by decide⟩ ⟨Nat.le_of_ble_eq_true rfl, Nat.le_of_ble_eq_true rfl⟩ ?_ (fun M1 N2 H locs hp3 hV => ?_)
  · rintro E9 M9 N9 ⟨hN5, hf6, hq7⟩
    rcases hq7 with ⟨c8, ee9⟩ | ⟨c10, ee11⟩
    · have hc12 : orfC G M9 (c + 38) := hft.fr (fun x q8 q9 => hf6 x )
      exact ⟨by omega, hc12, fun x q0 => hf6 x , Or.inl ⟨(by first | exact c8 | omega), ee9⟩⟩
    · have hc13 : orfC G M9 (c + 38) := hft.fr (fun x q8 q9 => hf6 x )
      exact ⟨by omega, hc13, fun x q0 => hf6 x , Or.inr (⟨(by first | exact c10 | omega), ee11⟩)⟩
  obtain ⟨hN14, hf15, hq16⟩ := hp3
  rw [hN14] at hV
  rcases hq16 with c17
  · refine lv_aload_n hx_ hb_ dX10_harder_6 rfl (lv_at hl 0 rfl) ?_
    have hc18 : M1 c = some (xO c kn ch) := (hf15 c ).trans hc0
    refine sc_get (ci := 8) (C := RX10) (T := TX10) (n := 11) S hK hV inX10_ hc18 rfl 7 (by decide) (S.2.2.2.2 _ (List.mem_of_getElem? (i := 1) rfl)) rfl rfl dX10_harder_7 ?_
    refine lv_aload_n hx_ hb_ dX10_harder_10 rfl (lv_at hl 0 rfl) ?_
    refine sc_get (ci := 8) (C := RX10) (T := TX10) (n := 11) S hK hV inX10_ hc18 rfl 0 (by decide) (S.2.2.2.2 _ (List.mem_of_getElem? (i := 2) rfl)) rfl rfl dX10_harder_11 ?_
    have hc19 : M1 (c + 38) = some (sObj 3 [.ref (c + 39), .ref (c + 40), .ref (c + 41), .ref (c + 42), .ref (c + 43), .ref (c + 44), .ref (c + 45), .ref (c + 46), .ref (c + 47), .int (sI L0), .int (sI c0)]) := (hf15 (c + 38) ).trans h38
    have hc20 : M1 (c + 39) = some (sArr G 10 Fr) := (hf15 (c + 39) ).trans h39
    have hc21 : M1 (c + 40) = some (sArr G 10 So) := (hf15 (c + 40) ).trans h40
    have hc22 : M1 (c + 41) = some (sArr G 10 Ha) := (hf15 (c + 41) ).trans h41
    have hc23 : M1 (c + 42) = some (sArr G 1024 Ah) := (hf15 (c + 42) ).trans h42
    have hc24 : M1 (c + 43) = some (sArr G 1024 Be) := (hf15 (c + 43) ).trans h43
    have hc25 : M1 (c + 44) = some (sArr G 100 At) := (hf15 (c + 44) ).trans h44
    have hc26 : M1 (c + 45) = some (sArr G 100 Pa) := (hf15 (c + 45) ).trans h45
    have hc27 : M1 (c + 46) = some (sArr G 11 Rc) := (hf15 (c + 46) ).trans h46
    have hc28 : M1 (c + 47) = some (sArr G 10 Rs) := (hf15 (c + 47) ).trans h47
    have hc29 : stC G M1 (c + 1) f := hst.fr (fun x q8 q9 => hf15 x )
    refine sk_Vv E hV (As := [.ref (c + 1)]) (rest := []) (kX5_lookAt l_ G b_ M1 N (c + 38) (c + 1) L0 c0 Fr So Ha Ah Be At Pa Rc Rs f hc19 hc20 hc21 hc22 hc23 hc24 hc25 hc26 hc27 hc28 hc29 (by omega) (by omega) (hq0) (hcr)) (cwV 1 S.2.2.2.2 gX10_harder_X5_lookAt rfl rfl rfl (by decide +kernel) ⟨Nat.le_of_ble_eq_true rfl, Nat.le_of_ble_eq_true rfl⟩) (ci := 3) hc19 rfl rfl rfl hl.1 (Nat.le_of_ble_eq_true rfl) dX10_harder_14 (c1 := 3) (s1 := 18) ⟨⟨rfl, rfl⟩, by decide, by decide⟩ (fun M30 N31 H locs hp32 hV => ?_)
    obtain ⟨L934, F935, S936, H937, W938, B939, A940, P941, R942, G943, hN44, hc45, hc46, hc47, hc48, hc49, hc50, hc51, hc52, hc53, hc54, hf55, hd956⟩ := hp32
    rw [hN44] at hV
    have hod := hd956
    have hod2 := hod
    obtain ⟨od1, od2, od3, od4, od5, od6, od7⟩ := hod2
    have hrg := rg_eq (fi_rg hok od7)
    have hrl := hrg.1
    have hfr := fi_r (by omega) od7
    refine lv_aload_n hx_ hb_ dX10_harder_17 rfl (lv_at hl 0 rfl) ?_
    have hc57 : M30 c = some (xO c kn ch) := (hf55 c (by omega) (by omega) (by omega) (by omega) (by omega) (by omega) (by omega) (by omega) (by omega) (by omega)).trans hc18
    refine sc_get (ci := 8) (C := RX10) (T := TX10) (n := 11) S hK hV inX10_ hc57 rfl 7 (by decide) (S.2.2.2.2 _ (List.mem_of_getElem? (i := 1) rfl)) rfl rfl dX10_harder_18 ?_
    refine lv_iload_n hx_ hb_ dX10_harder_21 rfl (lv_at hl 1 rfl) ?_
    refine lv_iload_n hx_ hb_ dX10_harder_22 rfl (lv_at hl 2 rfl) ?_
    refine sk_VP E hV (As := [.int (sI a), .int (sI b)]) (rest := []) (kX5_countAhead l_ G b_ M30 N (c + 38) L934 (f 568) P941 a b hc45 hc52 (by omega)) (cwV 2 S.2.2.2.2 gX10_harder_X5_countAhead rfl rfl rfl (by decide +kernel) ⟨Nat.le_of_ble_eq_true rfl, Nat.le_of_ble_eq_true rfl⟩) (ci := 3) hc45 rfl rfl rfl hl.1 (Nat.le_of_ble_eq_true rfl) dX10_harder_23 (c1 := 3) (s1 := 18) ⟨⟨rfl, rfl⟩, by decide, by decide⟩ (fun H locs hV => ?_)
    exact xr_i E hQ dX10_harder_26 ⟨Nat.le_of_ble_eq_true rfl, Nat.le_of_ble_eq_true rfl⟩ hV (⟨rfl, ⟨_, _, _, _, _, _, _, _, _, _, _, hc45, hc46, hc47, hc48, hc49, hc50, hc51, hc52, hc53, hc54, od_q hod, by omega, by omega⟩, fun x q0 => (hf55 x (by omega) (by omega) (by omega) (by omega) (by omega) (by omega) (by omega) (by omega) (by omega) (by omega)).trans (hf15 x ), ⟨(by omega), od6 a b (by omega) (by omega) (by omega) (by omega) (by omega)⟩⟩)

