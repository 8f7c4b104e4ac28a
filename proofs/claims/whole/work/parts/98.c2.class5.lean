/-! The class, further on. -/
abbrev rmX10_shareOf : Room := { frames := 8, cells := 8, slots := 50, locals := 143 }
set_option maxHeartbeats 4000000 in
set_option maxRecDepth 100000 in
theorem kX10_shareOf (l_ : Launch) (G : sG) (b_ : Nat) (M : sM) (N : Nat) (c : Nat) (kn ch : Int) (f : sF) (a b : Int) (B : Prop) (hc0 : M c = some (xO c kn ch)) (hst : stC G M (c + 1) f) (hft : orfC G M (c + 38)) (hlt : l_.stackTraces = false) (hok : sOk f) (hr : sR a ∧ sR b) : xcI l_ yX10_shareOf wsX10_shareOf rmX10_shareOf G b_ M N [.ref c, .int (sI a), .int (sI b), .int (sI (bI B))] (fun z_ M1 N1 => N1 = N ∧ orfC G M1 (c + 38) ∧ (∀ x : Nat, ¬ (c + 38 ≤ x ∧ x < c + 38 + 10) → M1 x = M x) ∧ (((((0 ≤ a ∧ a < f 568) ∧ (0 ≤ b ∧ b < f 568)) ∧ a ≠ b ∧ totI f = 0) ∧ z_ = bI B) ∨ ((((0 ≤ a ∧ a < f 568) ∧ (0 ≤ b ∧ b < f 568)) ∧ a ≠ b ∧ totI f ≠ 0) ∧ z_ = pif B (totI f) (abI f a b) / cmI (totI f) (abI f a b)))) (fun E_ M1 N1 => N ≤ N1 ∧ orfC G M1 (c + 38) ∧ (∀ x : Nat, ¬ (c + 38 ≤ x ∧ x < c + 38 + 10) → M1 x = M x) ∧ (((¬ ((0 ≤ a ∧ a < f 568) ∧ (0 ≤ b ∧ b < f 568))) ∧ E_ = "java/lang/IndexOutOfBoundsException") ∨ ((((0 ≤ a ∧ a < f 568) ∧ (0 ≤ b ∧ b < f 568)) ∧ a = b) ∧ E_ = "java/lang/IllegalArgumentException"))) := by
  refine xcE.ofI (cc := cX10_shareOf) (nL := 7) (ret := (some .int)) (by decide) rfl (Nat.le_of_ble_eq_true rfl) ?_
  intro p_ e_ s_ m_ args_ below_ meth_ c_ ls Q hQ E hF_ hxt_ hl
  have E : sE p_ l_ e_ rmX10_shareOf s_ m_ args_ below_ meth_ c_ cX10_shareOf 7 wsX10_shareOf RX10 "shareOf" (some .int) G b_ M N := E
  have S := E.1
  have hx_ := S.1
  have hb_ := S.2.1
  have hK := E.2.2.2.2.1
  have hV := E.2.2.2.2.2.2
  have hl : lv_has ls 7 [(0, .ref c), (1, .int (sI a)), (2, .int (sI b)), (3, .int (sI (bI B)))] := hl
  have inX10_ : ∀ w ∈ wsX100, w ∈ wsX10_shareOf := fun _ h => List.mem_cons_of_mem _ (List.mem_append_left _ (List.mem_append_left _ (List.mem_append_left _ (List.mem_append_left _ (List.mem_append_left _ (List.mem_append_right _ h))))))
  have inX6_ : ∀ w ∈ wsX60, w ∈ wsX10_shareOf := fun _ h => List.mem_cons_of_mem _ (List.mem_append_left _ (List.mem_append_left _ (List.mem_append_left _ (List.mem_append_left _ (List.mem_append_right _ h)))))
  have inX8_ : ∀ w ∈ wsX80, w ∈ wsX10_shareOf := fun _ h => List.mem_cons_of_mem _ (List.mem_append_left _ (List.mem_append_left _ (List.mem_append_left _ (List.mem_append_right _ h))))
  have inX5_ : ∀ w ∈ wsX50, w ∈ wsX10_shareOf := fun _ h => List.mem_cons_of_mem _ (List.mem_append_left _ (List.mem_append_left _ (List.mem_append_right _ h)))
  have hbN : b_ ≤ N := by have h1 := hV.1.1; have h2 := hV.2.2; omega
  have kn0 := sOk_N hok
  have hft2 := hft
  obtain ⟨L0, c0, Fr, So, Ha, Ah, Be, At, Pa, Rc, Rs, h38, h39, h40, h41, h42, h43, h44, h45, h46, h47, hq0, hcr⟩ := hft2
  refine lv_aload_n hx_ hb_ dX10_shareOf_0 rfl (lv_at hl 0 rfl) ?_
  refine lv_iload_n hx_ hb_ dX10_shareOf_1 rfl (lv_at hl 1 rfl) ?_
  refine lv_iload_n hx_ hb_ dX10_shareOf_2 rfl (lv_at hl 2 rfl) ?_
  refine xk_Vv E hF_ hxt_ hQ hV (As := [.int (sI a), .int (sI b)]) (rest := []) (kX10_needTwoStones l_ G b_ M N c kn ch f a b hc0 hst (by omega) (by omega) (by omega) (by omega)) (cwV 2 S.2.2.2.2 gX10_shareOf_X10_needTwoStones rfl rfl rfl (by decide +kernel) ⟨Nat.le_of_ble_eq_true rfl, Nat.le_of_ble_eq_true rfl⟩) (ci := 8) hc0 rfl rfl rfl hl.1 (Nat.le_of_ble_eq_true rfl) dX10_shareOf_3 (c1 := 3) (s1 := 18) ⟨⟨rfl, rfl⟩, by decide, by decide⟩ ⟨Nat.le_of_ble_eq_true rfl, Nat.le_of_ble_eq_true rfl⟩ ?_ (fun M1 N2 H locs hp3 hV => ?_)
  · rintro E9 M9 N9 ⟨hN5, hf6, hq7⟩
    rcases hq7 with ⟨c8, ee9⟩ | ⟨c10, ee11⟩
    · have hc12 : orfC G M9 (c + 38) := hft.fr (fun x q8 q9 => hf6 x )
      exact ⟨by omega, hc12, fun x q0 => hf6 x , Or.inl ⟨(by first | exact c8 | omega), ee9⟩⟩
    · have hc13 : orfC G M9 (c + 38) := hft.fr (fun x q8 q9 => hf6 x )
      exact ⟨by omega, hc13, fun x q0 => hf6 x , Or.inr (⟨(by first | exact c10 | omega), ee11⟩)⟩
  obtain ⟨hN14, hf15, hq16⟩ := hp3
  rw [hN14] at hV
  rcases hq16 with c17
  · refine lv_aload_n hx_ hb_ dX10_shareOf_6 rfl (lv_at hl 0 rfl) ?_
    have hc18 : M1 c = some (xO c kn ch) := (hf15 c ).trans hc0
    refine sc_get (ci := 8) (C := RX10) (T := TX10) (n := 11) S hK hV inX10_ hc18 rfl 7 (by decide) (S.2.2.2.2 _ (List.mem_of_getElem? (i := 1) rfl)) rfl rfl dX10_shareOf_7 ?_
    refine lv_aload_n hx_ hb_ dX10_shareOf_10 rfl (lv_at hl 0 rfl) ?_
    refine sc_get (ci := 8) (C := RX10) (T := TX10) (n := 11) S hK hV inX10_ hc18 rfl 0 (by decide) (S.2.2.2.2 _ (List.mem_of_getElem? (i := 2) rfl)) rfl rfl dX10_shareOf_11 ?_
    have hc19 : M1 (c + 38) = some (sObj 3 [.ref (c + 39), .ref (c + 40), .ref (c + 41), .ref (c + 42), .ref (c + 43), .ref (c + 44), .ref (c + 45), .ref (c + 46), .ref (c + 47), .int (sI L0), .int (sI c0)]) := (hf15 (c + 38) ).trans h38
    have hc20 : M1 (c + 39) = some (sArr G 10 Fr) := (hf15 (c + 39) ).trans h39
    have hc21 : M1 (c + 40) = some (sArr G 10 So) := (hf15 (c + 40) ).trans h40
    have hc22 : M1 (c + 41) = some (sArr G 10 Ha) := (hf15 (c + 41) ).trans h41
    have hc23 : M1 (c + 42) = some (sArr G 1024 Ah) := (hf15 (c + 42) ).trans h42
    have hc24 : M1 (c + 43) = some (sArr G 1024 Be) := (hf15 (c + 43) ).trans h43
    have hc25 : M1 (c + 44) = some (sArr G 100 At) := (hf15 (c + 44) ).trans h44
    have hc26 : M1 (c + 45) = some (sArr G 100 Pa) := (hf15 (c + 45) ).trans h45
    have hc27 : M1 (c + 46) = some (sArr G 11 Rc) := (hf15 (c + 46) ).trans h46
    have hc28 : M1 (c + 47) = some (sArr G 10 Rs) := (hf15 (c + 47) ).trans h47
    have hc29 : stC G M1 (c + 1) f := hst.fr (fun x q8 q9 => hf15 x )
    refine sk_Vv E hV (As := [.ref (c + 1)]) (rest := []) (kX5_lookAt l_ G b_ M1 N (c + 38) (c + 1) L0 c0 Fr So Ha Ah Be At Pa Rc Rs f hc19 hc20 hc21 hc22 hc23 hc24 hc25 hc26 hc27 hc28 hc29 (by omega) (by omega) (hq0) (hcr)) (cwV 1 S.2.2.2.2 gX10_shareOf_X5_lookAt rfl rfl rfl (by decide +kernel) ⟨Nat.le_of_ble_eq_true rfl, Nat.le_of_ble_eq_true rfl⟩) (ci := 3) hc19 rfl rfl rfl hl.1 (Nat.le_of_ble_eq_true rfl) dX10_shareOf_14 (c1 := 3) (s1 := 18) ⟨⟨rfl, rfl⟩, by decide, by decide⟩ (fun M30 N31 H locs hp32 hV => ?_)
    obtain ⟨L934, F935, S936, H937, W938, B939, A940, P941, R942, G943, hN44, hc45, hc46, hc47, hc48, hc49, hc50, hc51, hc52, hc53, hc54, hf55, hd956⟩ := hp32
    rw [hN44] at hV
    have hod := hd956
    have hod2 := hod
    obtain ⟨od1, od2, od3, od4, od5, od6, od7⟩ := hod2
    have hrg := rg_eq (fi_rg hok od7)
    have hrl := hrg.1
    have hfr := fi_r (by omega) od7
    refine lv_aload_n hx_ hb_ dX10_shareOf_17 rfl (lv_at hl 0 rfl) ?_
    have hc57 : M30 c = some (xO c kn ch) := (hf55 c (by omega) (by omega) (by omega) (by omega) (by omega) (by omega) (by omega) (by omega) (by omega) (by omega)).trans hc18
    refine sc_get (ci := 8) (C := RX10) (T := TX10) (n := 11) S hK hV inX10_ hc57 rfl 7 (by decide) (S.2.2.2.2 _ (List.mem_of_getElem? (i := 1) rfl)) rfl rfl dX10_shareOf_18 ?_
    refine lv_iload_n hx_ hb_ dX10_shareOf_21 rfl (lv_at hl 1 rfl) ?_
    refine lv_iload_n hx_ hb_ dX10_shareOf_22 rfl (lv_at hl 2 rfl) ?_
    refine sk_VP E hV (As := [.int (sI a), .int (sI b)]) (rest := []) (kX5_countAhead l_ G b_ M30 N (c + 38) L934 (f 568) P941 a b hc45 hc52 (by omega)) (cwV 2 S.2.2.2.2 gX10_shareOf_X5_countAhead rfl rfl rfl (by decide +kernel) ⟨Nat.le_of_ble_eq_true rfl, Nat.le_of_ble_eq_true rfl⟩) (ci := 3) hc45 rfl rfl rfl hl.1 (Nat.le_of_ble_eq_true rfl) dX10_shareOf_23 (c1 := 3) (s1 := 18) ⟨⟨rfl, rfl⟩, by decide, by decide⟩ (fun H locs hV => ?_)
    rw [od6 a b (by omega) (by omega) (by omega) (by omega) (by omega)]
    have har := ab_r (f := f) (by omega) (ctC f (by omega)) a b (by omega)
    have htr := tot_r (f := f) (by omega) (ctC f (by omega))
    refine lv_istore (lv' := [(4, .int (sI (abI f a b))), (0, .ref c), (1, .int (sI a)), (2, .int (sI b)), (3, .int (sI (bI B)))]) hx_ hb_ dX10_shareOf_26 hl (by decide) rfl (fun ls hl => ?_)
    refine lv_aload_n hx_ hb_ dX10_shareOf_28 rfl (lv_at hl 1 rfl) ?_
    refine sc_get (ci := 8) (C := RX10) (T := TX10) (n := 11) S hK hV inX10_ hc57 rfl 7 (by decide) (S.2.2.2.2 _ (List.mem_of_getElem? (i := 1) rfl)) rfl rfl dX10_shareOf_29 ?_
    refine sk_VP E hV (As := []) (rest := []) (kX5_total l_ G b_ M30 N (c + 38) L934 W938 f hc45 hc49 (by omega) (od4)) (cwV 0 S.2.2.2.2 gX10_shareOf_X5_total rfl rfl rfl (by decide +kernel) ⟨Nat.le_of_ble_eq_true rfl, Nat.le_of_ble_eq_true rfl⟩) (ci := 3) hc45 rfl rfl rfl hl.1 (Nat.le_of_ble_eq_true rfl) dX10_shareOf_32 (c1 := 3) (s1 := 18) ⟨⟨rfl, rfl⟩, by decide, by decide⟩ (fun H locs hV => ?_)
    refine lv_istore (lv' := [(5, .int (sI (totI f))), (4, .int (sI (abI f a b))), (0, .ref c), (1, .int (sI a)), (2, .int (sI b)), (3, .int (sI (bI B)))]) hx_ hb_ dX10_shareOf_35 hl (by decide) rfl (fun ls hl => ?_)
    refine lv_iload hx_ hb_ dX10_shareOf_37 (lv_at hl 0 rfl) ?_
    refine lv_iload hx_ hb_ dX10_shareOf_39 (lv_at hl 1 rfl) ?_
    refine sk_SP E hV (As := [.int (sI (totI f)), .int (sI (abI f a b))]) (rest := []) (kX10_greatestDivisor l_ G b_ M30 N (totI f) (abI f a b) (by omega)) (va_cwS 2 S.2.2.2.2 gX10_shareOf_X10_greatestDivisor rfl rfl rfl (by decide +kernel) ⟨Nat.le_of_ble_eq_true rfl, Nat.le_of_ble_eq_true rfl⟩) rfl rfl hl.1 (Nat.le_of_ble_eq_true rfl) dX10_shareOf_41 (c1 := 3) (s1 := 18) ⟨⟨rfl, rfl⟩, by decide, by decide⟩ (fun H locs hV => ?_)
    refine lv_istore (lv' := [(6, .int (sI (cmI (totI f) (abI f a b)))), (5, .int (sI (totI f))), (4, .int (sI (abI f a b))), (0, .ref c), (1, .int (sI a)), (2, .int (sI b)), (3, .int (sI (bI B)))]) hx_ hb_ dX10_shareOf_44 hl (by decide) rfl (fun ls hl => ?_)
    have hcmr : 0 ≤ cmI (totI f) (abI f a b) ∧ cmI (totI f) (abI f a b) ≤ 3628800 := by
      rcases (show totI f = 0 ∨ 0 < totI f by omega) with e | e
      · rw [e, show abI f a b = 0 by omega, cmI_0 (by omega)]
        omega
      · have := cmI_p (a := totI f) (b := abI f a b) e
        omega
    refine lv_iload hx_ hb_ dX10_shareOf_46 (lv_at hl 0 rfl) ?_
    refine sz_gt (tgt := 61) S dX10_shareOf_48 (by decide) (by omega) (fun h46 => ?_) (fun h46 => ?_)
    · have h46c : totI f ≠ 0 := fun e => by
        rw [e, show abI f a b = 0 by omega, cmI_0 (by omega)] at h46
        omega
      refine lv_iload_n hx_ hb_ dX10_shareOf_61 rfl (lv_at hl 6 rfl) ?_
      refine sq_eq (tgt := 70) S dX10_shareOf_62 (by decide) (fun hB9 => ?_) (fun hB9 => ?_)
      · refine lv_iload hx_ hb_ dX10_shareOf_70 (lv_at hl 2 rfl) ?_
        refine lv_iload hx_ hb_ dX10_shareOf_72 (lv_at hl 0 rfl) ?_
        refine si_divN S dX10_shareOf_74 (by omega) ?_
        exact xr_i E hQ dX10_shareOf_75 ⟨Nat.le_of_ble_eq_true rfl, Nat.le_of_ble_eq_true rfl⟩ hV (⟨rfl, ⟨_, _, _, _, _, _, _, _, _, _, _, hc45, hc46, hc47, hc48, hc49, hc50, hc51, hc52, hc53, hc54, od_q hod, by omega, by omega⟩, fun x q0 => (hf55 x (by omega) (by omega) (by omega) (by omega) (by omega) (by omega) (by omega) (by omega) (by omega) (by omega)).trans (hf15 x ), Or.inr (⟨(⟨by omega, by omega, h46c⟩), by rw [pif_f hB9]⟩)⟩)
      · refine lv_iload hx_ hb_ dX10_shareOf_65 (lv_at hl 1 rfl) ?_
        refine lv_goto (tgt := 72) hx_ hb_ dX10_shareOf_67 (by decide) ?_
        refine lv_iload hx_ hb_ dX10_shareOf_72 (lv_at hl 0 rfl) ?_
        refine si_divN S dX10_shareOf_74 (by omega) ?_
        exact xr_i E hQ dX10_shareOf_75 ⟨Nat.le_of_ble_eq_true rfl, Nat.le_of_ble_eq_true rfl⟩ hV (⟨rfl, ⟨_, _, _, _, _, _, _, _, _, _, _, hc45, hc46, hc47, hc48, hc49, hc50, hc51, hc52, hc53, hc54, od_q hod, by omega, by omega⟩, fun x q0 => (hf55 x (by omega) (by omega) (by omega) (by omega) (by omega) (by omega) (by omega) (by omega) (by omega) (by omega)).trans (hf15 x ), Or.inr (⟨(⟨by omega, by omega, h46c⟩), by rw [pif_t hB9]⟩)⟩)
    · have h46c : totI f = 0 := by
        rcases (show totI f = 0 ∨ 0 < totI f by omega) with e | e
        · exact e
        · have := cmI_p (a := totI f) (b := abI f a b) e
          omega
      refine lv_iload_n hx_ hb_ dX10_shareOf_51 rfl (lv_at hl 6 rfl) ?_
      refine sq_eq (tgt := 59) S dX10_shareOf_52 (by decide) (fun hB9 => ?_) (fun hB9 => ?_)
      · refine si_const S dX10_shareOf_59 ?_
        exact xr_i E hQ dX10_shareOf_60 ⟨Nat.le_of_ble_eq_true rfl, Nat.le_of_ble_eq_true rfl⟩ hV (⟨rfl, ⟨_, _, _, _, _, _, _, _, _, _, _, hc45, hc46, hc47, hc48, hc49, hc50, hc51, hc52, hc53, hc54, od_q hod, by omega, by omega⟩, fun x q0 => (hf55 x (by omega) (by omega) (by omega) (by omega) (by omega) (by omega) (by omega) (by omega) (by omega) (by omega)).trans (hf15 x ), Or.inl ⟨(⟨by omega, by omega, h46c⟩), (bI_f hB9).symm⟩⟩)
      · refine si_const S dX10_shareOf_55 ?_
        refine lv_goto (tgt := 60) hx_ hb_ dX10_shareOf_56 (by decide) ?_
        exact xr_i E hQ dX10_shareOf_60 ⟨Nat.le_of_ble_eq_true rfl, Nat.le_of_ble_eq_true rfl⟩ hV (⟨rfl, ⟨_, _, _, _, _, _, _, _, _, _, _, hc45, hc46, hc47, hc48, hc49, hc50, hc51, hc52, hc53, hc54, od_q hod, by omega, by omega⟩, fun x q0 => (hf55 x (by omega) (by omega) (by omega) (by omega) (by omega) (by omega) (by omega) (by omega) (by omega) (by omega)).trans (hf15 x ), Or.inl ⟨(⟨by omega, by omega, h46c⟩), (bI_t hB9).symm⟩⟩)

abbrev rmX10_nextTest : Room := { frames := 5, cells := 8, slots := 50, locals := 135 }
set_option maxHeartbeats 4000000 in
set_option maxRecDepth 100000 in
theorem kX10_nextTest (l_ : Launch) (G : sG) (b_ : Nat) (M : sM) (N : Nat) (c : Nat) (kn ch : Int) (f : sF) (B : Prop) (hc0 : M c = some (xO c kn ch)) (hst : stC G M (c + 1) f) (hft : orfC G M (c + 38)) (hok : sOk f) : cI l_ yX10_nextTest wsX10_nextTest rmX10_nextTest G b_ M N [.ref c, .int (sI (bI B))] (fun z_ M1 N1 => z_ = pif (totI f = 0 ∨ f 568 < 2) (-1) (pif B (ntM f) (ntT f)) ∧ N1 = N ∧ orfC G M1 (c + 38) ∧ (∀ x : Nat, ¬ (c + 38 ≤ x ∧ x < c + 38 + 10) → M1 x = M x)) := by
  refine sE.ofI (cc := cX10_nextTest) (nL := 2) (ret := (some .int)) (by decide) rfl (Nat.le_of_ble_eq_true rfl) ?_
  intro p_ e_ s_ m_ args_ below_ meth_ c_ ls Q hQ E hl
  have E : sE p_ l_ e_ rmX10_nextTest s_ m_ args_ below_ meth_ c_ cX10_nextTest 2 wsX10_nextTest RX10 "nextTest" (some .int) G b_ M N := E
  have S := E.1
  have hx_ := S.1
  have hb_ := S.2.1
  have hK := E.2.2.2.2.1
  have hV := E.2.2.2.2.2.2
  have hl : lv_has ls 2 [(0, .ref c), (1, .int (sI (bI B)))] := hl
  have inX10_ : ∀ w ∈ wsX100, w ∈ wsX10_nextTest := fun _ h => List.mem_cons_of_mem _ (List.mem_append_left _ (List.mem_append_left _ (List.mem_append_left _ (List.mem_append_right _ h))))
  have inX6_ : ∀ w ∈ wsX60, w ∈ wsX10_nextTest := fun _ h => List.mem_cons_of_mem _ (List.mem_append_left _ (List.mem_append_left _ (List.mem_append_right _ h)))
  have inX5_ : ∀ w ∈ wsX50, w ∈ wsX10_nextTest := fun _ h => List.mem_cons_of_mem _ (List.mem_append_left _ (List.mem_append_right _ h))
  have inX8_ : ∀ w ∈ wsX80, w ∈ wsX10_nextTest := fun _ h => List.mem_cons_of_mem _ (List.mem_append_right _ h)
  have hbN : b_ ≤ N := by have h1 := hV.1.1; have h2 := hV.2.2; omega
  have kn0 := sOk_N hok
  have hft2 := hft
  obtain ⟨L0, c0, Fr, So, Ha, Ah, Be, At, Pa, Rc, Rs, h38, h39, h40, h41, h42, h43, h44, h45, h46, h47, hq0, hcr⟩ := hft2
  refine lv_aload_n hx_ hb_ dX10_nextTest_0 rfl (lv_at hl 0 rfl) ?_
  refine sc_get (ci := 8) (C := RX10) (T := TX10) (n := 11) S hK hV inX10_ hc0 rfl 7 (by decide) (S.2.2.2.2 _ (List.mem_of_getElem? (i := 1) rfl)) rfl rfl dX10_nextTest_1 ?_
  refine lv_aload_n hx_ hb_ dX10_nextTest_4 rfl (lv_at hl 0 rfl) ?_
  refine sc_get (ci := 8) (C := RX10) (T := TX10) (n := 11) S hK hV inX10_ hc0 rfl 0 (by decide) (S.2.2.2.2 _ (List.mem_of_getElem? (i := 2) rfl)) rfl rfl dX10_nextTest_5 ?_
  refine sk_Vv E hV (As := [.ref (c + 1)]) (rest := []) (kX5_lookAt l_ G b_ M N (c + 38) (c + 1) L0 c0 Fr So Ha Ah Be At Pa Rc Rs f h38 h39 h40 h41 h42 h43 h44 h45 h46 h47 hst (by omega) (by omega) (hq0) (hcr)) (cwV 1 S.2.2.2.2 gX10_nextTest_X5_lookAt rfl rfl rfl (by decide +kernel) ⟨Nat.le_of_ble_eq_true rfl, Nat.le_of_ble_eq_true rfl⟩) (ci := 3) h38 rfl rfl rfl hl.1 (Nat.le_of_ble_eq_true rfl) dX10_nextTest_8 (c1 := 0) (s1 := 0) ⟨⟨rfl, rfl⟩, by decide, by decide⟩ (fun M1 N2 H locs hp3 hV => ?_)
  obtain ⟨L95, F96, S97, H98, W99, B910, A911, P912, R913, G914, hN15, hc16, hc17, hc18, hc19, hc20, hc21, hc22, hc23, hc24, hc25, hf26, hd927⟩ := hp3
  rw [hN15] at hV
  have hod := hd927
  have hod2 := hod
  obtain ⟨od1, od2, od3, od4, od5, od6, od7⟩ := hod2
  have hrg := rg_eq (fi_rg hok od7)
  have hrl := hrg.1
  have hfr := fi_r (by omega) od7
  refine lv_aload_n hx_ hb_ dX10_nextTest_11 rfl (lv_at hl 0 rfl) ?_
  have hc28 : M1 c = some (xO c kn ch) := (hf26 c (by omega) (by omega) (by omega) (by omega) (by omega) (by omega) (by omega) (by omega) (by omega) (by omega)).trans hc0
  refine sc_get (ci := 8) (C := RX10) (T := TX10) (n := 11) S hK hV inX10_ hc28 rfl 7 (by decide) (S.2.2.2.2 _ (List.mem_of_getElem? (i := 1) rfl)) rfl rfl dX10_nextTest_12 ?_
  refine sk_VP E hV (As := []) (rest := []) (kX5_total l_ G b_ M1 N (c + 38) L95 W99 f hc16 hc20 (by omega) (od4)) (cwV 0 S.2.2.2.2 gX10_nextTest_X5_total rfl rfl rfl (by decide +kernel) ⟨Nat.le_of_ble_eq_true rfl, Nat.le_of_ble_eq_true rfl⟩) (ci := 3) hc16 rfl rfl rfl hl.1 (Nat.le_of_ble_eq_true rfl) dX10_nextTest_15 (c1 := 0) (s1 := 0) ⟨⟨rfl, rfl⟩, by decide, by decide⟩ (fun H locs hV => ?_)
  have htr := tot_r (f := f) (by omega) (ctC f (by omega))
  refine sz_ne (tgt := 25) S dX10_nextTest_18 (by decide) (by omega) (fun c29 => ?_) (fun c29 => ?_)
  · refine lv_aload_n hx_ hb_ dX10_nextTest_25 rfl (lv_at hl 0 rfl) ?_
    refine sc_get (ci := 8) (C := RX10) (T := TX10) (n := 11) S hK hV inX10_ hc28 rfl 7 (by decide) (S.2.2.2.2 _ (List.mem_of_getElem? (i := 1) rfl)) rfl rfl dX10_nextTest_26 ?_
    refine lv_iload_n hx_ hb_ dX10_nextTest_29 rfl (lv_at hl 1 rfl) ?_
    refine sk_VP E hV (As := [.int (sI (bI B))]) (rest := []) (kX5_bestTest l_ G b_ M1 N (c + 38) L95 P912 f B hc16 hc23 (by omega) (od6)) (cwV 1 S.2.2.2.2 gX10_nextTest_X5_bestTest rfl rfl rfl (by decide +kernel) ⟨Nat.le_of_ble_eq_true rfl, Nat.le_of_ble_eq_true rfl⟩) (ci := 3) hc16 rfl rfl rfl hl.1 (Nat.le_of_ble_eq_true rfl) dX10_nextTest_30 (c1 := 0) (s1 := 0) ⟨⟨rfl, rfl⟩, by decide, by decide⟩ (fun H locs hV => ?_)
    exact sr_i E hQ dX10_nextTest_33 ⟨Nat.le_of_ble_eq_true rfl, Nat.le_of_ble_eq_true rfl⟩ hV (⟨nt_x (by omega), rfl, ⟨_, _, _, _, _, _, _, _, _, _, _, hc16, hc17, hc18, hc19, hc20, hc21, hc22, hc23, hc24, hc25, od_q hod, by omega, by omega⟩, fun x q0 => hf26 x (by omega) (by omega) (by omega) (by omega) (by omega) (by omega) (by omega) (by omega) (by omega) (by omega)⟩)
  · refine si_const S dX10_nextTest_21 ?_
    refine lv_goto (tgt := 33) hx_ hb_ dX10_nextTest_22 (by decide) ?_
    exact sr_i E hQ dX10_nextTest_33 ⟨Nat.le_of_ble_eq_true rfl, Nat.le_of_ble_eq_true rfl⟩ hV (⟨by rw [pif_t (Or.inl (by omega))], rfl, ⟨_, _, _, _, _, _, _, _, _, _, _, hc16, hc17, hc18, hc19, hc20, hc21, hc22, hc23, hc24, hc25, od_q hod, by omega, by omega⟩, fun x q0 => hf26 x (by omega) (by omega) (by omega) (by omega) (by omega) (by omega) (by omega) (by omega) (by omega) (by omega)⟩)

abbrev rmX10_orderAt : Room := { frames := 6, cells := 8, slots := 50, locals := 135 }
set_option maxHeartbeats 4000000 in
set_option maxRecDepth 100000 in
theorem kX10_orderAt (l_ : Launch) (G : sG) (b_ : Nat) (M : sM) (N : Nat) (c : Nat) (kn ch : Int) (f : sF) (r : Int) (hc0 : M c = some (xO c kn ch)) (hst : stC G M (c + 1) f) (hft : orfC G M (c + 38)) (hlt : l_.stackTraces = false) (hok : sOk f) (hr : sR r) : xcI l_ yX10_orderAt wsX10_orderAt rmX10_orderAt G b_ M N [.ref c, .int (sI r)] (fun z_ M1 N1 => N1 = N ∧ orfC G M1 (c + 38) ∧ (∀ x : Nat, ¬ (c + 38 ≤ x ∧ x < c + 38 + 10) → M1 x = M x) ∧ ((((0 ≤ r ∧ r < f 568) ∧ 0 < totI f) ∧ z_ = orI f r))) (fun E_ M1 N1 => N ≤ N1 ∧ orfC G M1 (c + 38) ∧ (∀ x : Nat, ¬ (c + 38 ≤ x ∧ x < c + 38 + 10) → M1 x = M x) ∧ (((¬ ((0 ≤ r ∧ r < f 568) ∧ 0 < totI f)) ∧ E_ = "java/lang/IndexOutOfBoundsException"))) := by
  refine xcE.ofI (cc := cX10_orderAt) (nL := 2) (ret := (some .int)) (by decide) rfl (Nat.le_of_ble_eq_true rfl) ?_
  intro p_ e_ s_ m_ args_ below_ meth_ c_ ls Q hQ E hF_ hxt_ hl
  have E : sE p_ l_ e_ rmX10_orderAt s_ m_ args_ below_ meth_ c_ cX10_orderAt 2 wsX10_orderAt RX10 "orderAt" (some .int) G b_ M N := E
  have S := E.1
  have hx_ := S.1
  have hb_ := S.2.1
  have hK := E.2.2.2.2.1
  have hV := E.2.2.2.2.2.2
  have hl : lv_has ls 2 [(0, .ref c), (1, .int (sI r))] := hl
  have inX10_ : ∀ w ∈ wsX100, w ∈ wsX10_orderAt := fun _ h => List.mem_cons_of_mem _ (List.mem_append_left _ (List.mem_append_left _ (List.mem_append_left _ (List.mem_append_left _ (List.mem_append_right _ h)))))
  have inX6_ : ∀ w ∈ wsX60, w ∈ wsX10_orderAt := fun _ h => List.mem_cons_of_mem _ (List.mem_append_left _ (List.mem_append_left _ (List.mem_append_left _ (List.mem_append_right _ h))))
  have inX5_ : ∀ w ∈ wsX50, w ∈ wsX10_orderAt := fun _ h => List.mem_cons_of_mem _ (List.mem_append_left _ (List.mem_append_left _ (List.mem_append_right _ h)))
  have inX8_ : ∀ w ∈ wsX80, w ∈ wsX10_orderAt := fun _ h => List.mem_cons_of_mem _ (List.mem_append_left _ (List.mem_append_right _ h))
  have hbN : b_ ≤ N := by have h1 := hV.1.1; have h2 := hV.2.2; omega
  have kn0 := sOk_N hok
  have hft2 := hft
  obtain ⟨L0, c0, Fr, So, Ha, Ah, Be, At, Pa, Rc, Rs, h38, h39, h40, h41, h42, h43, h44, h45, h46, h47, hq0, hcr⟩ := hft2
  refine lv_aload_n hx_ hb_ dX10_orderAt_0 rfl (lv_at hl 0 rfl) ?_
  refine sc_get (ci := 8) (C := RX10) (T := TX10) (n := 11) S hK hV inX10_ hc0 rfl 7 (by decide) (S.2.2.2.2 _ (List.mem_of_getElem? (i := 3) rfl)) rfl rfl dX10_orderAt_1 ?_
  refine lv_aload_n hx_ hb_ dX10_orderAt_4 rfl (lv_at hl 0 rfl) ?_
  refine sc_get (ci := 8) (C := RX10) (T := TX10) (n := 11) S hK hV inX10_ hc0 rfl 0 (by decide) (S.2.2.2.2 _ (List.mem_of_getElem? (i := 4) rfl)) rfl rfl dX10_orderAt_5 ?_
  refine sk_Vv E hV (As := [.ref (c + 1)]) (rest := []) (kX5_lookAt l_ G b_ M N (c + 38) (c + 1) L0 c0 Fr So Ha Ah Be At Pa Rc Rs f h38 h39 h40 h41 h42 h43 h44 h45 h46 h47 hst (by omega) (by omega) (hq0) (hcr)) (cwV 1 S.2.2.2.2 gX10_orderAt_X5_lookAt rfl rfl rfl (by decide +kernel) ⟨Nat.le_of_ble_eq_true rfl, Nat.le_of_ble_eq_true rfl⟩) (ci := 3) h38 rfl rfl rfl hl.1 (Nat.le_of_ble_eq_true rfl) dX10_orderAt_8 (c1 := 0) (s1 := 0) ⟨⟨rfl, rfl⟩, by decide, by decide⟩ (fun M1 N2 H locs hp3 hV => ?_)
  obtain ⟨L95, F96, S97, H98, W99, B910, A911, P912, R913, G914, hN15, hc16, hc17, hc18, hc19, hc20, hc21, hc22, hc23, hc24, hc25, hf26, hd927⟩ := hp3
  rw [hN15] at hV
  have hod := hd927
  have hod2 := hod
  obtain ⟨od1, od2, od3, od4, od5, od6, od7⟩ := hod2
  have hrg := rg_eq (fi_rg hok od7)
  have hrl := hrg.1
  have hfr := fi_r (by omega) od7
  refine lv_iload_n hx_ hb_ dX10_orderAt_11 rfl (lv_at hl 1 rfl) ?_
  refine sz_lt (tgt := 39) S dX10_orderAt_12 (by decide) (by omega) (fun c28 => ?_) (fun c28 => ?_)
  · exact xt_S (own := RX10) (rest := []) E hF_ hxt_ hQ hlt (ik := 173) (is := 209) (ic := 177) (cls := "java/lang/IndexOutOfBoundsException") (text := "no such rank in an order") (by decide +kernel) xg_IO (List.mem_of_getElem? (i := 1) rfl) (List.mem_of_getElem? (i := 2) rfl) (fun _ h => List.mem_cons_of_mem _ (List.mem_append_right _ h)) (List.mem_of_getElem? (i := 9) rfl) hl.1 dX10_orderAt_39 dX10_orderAt_42 dX10_orderAt_43 dX10_orderAt_45 dX10_orderAt_48 ⟨Nat.le_of_ble_eq_true rfl, Nat.le_of_ble_eq_true rfl, Nat.le_of_ble_eq_true rfl, Nat.le_of_ble_eq_true rfl⟩ ⟨Nat.le_of_ble_eq_true rfl, Nat.le_of_ble_eq_true rfl⟩ hV (fun N9 h9 => ⟨by omega, ⟨_, _, _, _, _, _, _, _, _, _, _, hc16, hc17, hc18, hc19, hc20, hc21, hc22, hc23, hc24, hc25, od_q hod, by omega, by omega⟩, fun x q0 => hf26 x (by omega) (by omega) (by omega) (by omega) (by omega) (by omega) (by omega) (by omega) (by omega) (by omega), ⟨(by first | omega | assumption), rfl⟩⟩)
  · refine lv_iload_n hx_ hb_ dX10_orderAt_15 rfl (lv_at hl 1 rfl) ?_
    refine lv_aload_n hx_ hb_ dX10_orderAt_16 rfl (lv_at hl 0 rfl) ?_
    have hc29 : M1 c = some (xO c kn ch) := (hf26 c (by omega) (by omega) (by omega) (by omega) (by omega) (by omega) (by omega) (by omega) (by omega) (by omega)).trans hc0
    refine sc_get (ci := 8) (C := RX10) (T := TX10) (n := 11) S hK hV inX10_ hc29 rfl 0 (by decide) (S.2.2.2.2 _ (List.mem_of_getElem? (i := 4) rfl)) rfl rfl dX10_orderAt_17 ?_
    have hc30 : stC G M1 (c + 1) f := hst.fr (fun x q8 q9 => hf26 x (by omega) (by omega) (by omega) (by omega) (by omega) (by omega) (by omega) (by omega) (by omega) (by omega))
    refine sc_getN (ci := 4) (C := RX6) (T := TX6) (n := 8) S hK hV inX6_ (hc30).1 rfl 0 (by decide) (E.2.2.2.2.2.1.1.2.1 _ (List.mem_of_getElem? (i := 3) rfl)) rfl rfl dX10_orderAt_20 ?_
    refine sk_VP E hV (As := []) (rest := [.int (sI r)]) (kTs l_ G b_ M1 N (c + 2) 7 (f 568) 70 (tvS f) ((hc30).2.1)) (cwV 0 S.2.2.2.2 gX10_orderAt_X8_size rfl rfl rfl (by decide +kernel) ⟨Nat.le_of_ble_eq_true rfl, Nat.le_of_ble_eq_true rfl⟩) (ci := 6) ((hc30).2.1).1 rfl rfl rfl hl.1 (Nat.le_of_ble_eq_true rfl) dX10_orderAt_23 (c1 := 0) (s1 := 0) ⟨⟨rfl, rfl⟩, by decide, by decide⟩ (fun H locs hV => ?_)
    refine sb_ge (tgt := 39) S dX10_orderAt_26 (by decide) (by omega) (fun c31 => ?_) (fun c31 => ?_)
    · exact xt_S (own := RX10) (rest := []) E hF_ hxt_ hQ hlt (ik := 173) (is := 209) (ic := 177) (cls := "java/lang/IndexOutOfBoundsException") (text := "no such rank in an order") (by decide +kernel) xg_IO (List.mem_of_getElem? (i := 1) rfl) (List.mem_of_getElem? (i := 2) rfl) (fun _ h => List.mem_cons_of_mem _ (List.mem_append_right _ h)) (List.mem_of_getElem? (i := 9) rfl) hl.1 dX10_orderAt_39 dX10_orderAt_42 dX10_orderAt_43 dX10_orderAt_45 dX10_orderAt_48 ⟨Nat.le_of_ble_eq_true rfl, Nat.le_of_ble_eq_true rfl, Nat.le_of_ble_eq_true rfl, Nat.le_of_ble_eq_true rfl⟩ ⟨Nat.le_of_ble_eq_true rfl, Nat.le_of_ble_eq_true rfl⟩ hV (fun N9 h9 => ⟨by omega, ⟨_, _, _, _, _, _, _, _, _, _, _, hc16, hc17, hc18, hc19, hc20, hc21, hc22, hc23, hc24, hc25, od_q hod, by omega, by omega⟩, fun x q0 => hf26 x (by omega) (by omega) (by omega) (by omega) (by omega) (by omega) (by omega) (by omega) (by omega) (by omega), ⟨(by first | omega | assumption), rfl⟩⟩)
    · refine lv_aload_n hx_ hb_ dX10_orderAt_29 rfl (lv_at hl 0 rfl) ?_
      refine sc_get (ci := 8) (C := RX10) (T := TX10) (n := 11) S hK hV inX10_ hc29 rfl 7 (by decide) (S.2.2.2.2 _ (List.mem_of_getElem? (i := 3) rfl)) rfl rfl dX10_orderAt_30 ?_
      refine sk_VP E hV (As := []) (rest := []) (kX5_total l_ G b_ M1 N (c + 38) L95 W99 f hc16 hc20 (by omega) (od4)) (cwV 0 S.2.2.2.2 gX10_orderAt_X5_total rfl rfl rfl (by decide +kernel) ⟨Nat.le_of_ble_eq_true rfl, Nat.le_of_ble_eq_true rfl⟩) (ci := 3) hc16 rfl rfl rfl hl.1 (Nat.le_of_ble_eq_true rfl) dX10_orderAt_33 (c1 := 0) (s1 := 0) ⟨⟨rfl, rfl⟩, by decide, by decide⟩ (fun H locs hV => ?_)
      have htr := tot_r (f := f) (by omega) (ctC f (by omega))
      refine sz_ne (tgt := 49) S dX10_orderAt_36 (by decide) (by omega) (fun c32 => ?_) (fun c32 => ?_)
      · refine lv_aload_n hx_ hb_ dX10_orderAt_49 rfl (lv_at hl 0 rfl) ?_
        refine sc_get (ci := 8) (C := RX10) (T := TX10) (n := 11) S hK hV inX10_ hc29 rfl 7 (by decide) (S.2.2.2.2 _ (List.mem_of_getElem? (i := 3) rfl)) rfl rfl dX10_orderAt_50 ?_
        refine lv_iload_n hx_ hb_ dX10_orderAt_53 rfl (lv_at hl 1 rfl) ?_
        refine sk_VP E hV (As := [.int (sI r)]) (rest := []) (kX5_stoneInFirst l_ G b_ M1 N (c + 38) L95 H98 f r hc16 hc19 (by omega) (od3) (by omega) (by omega)) (cwV 1 S.2.2.2.2 gX10_orderAt_X5_stoneInFirst rfl rfl rfl (by decide +kernel) ⟨Nat.le_of_ble_eq_true rfl, Nat.le_of_ble_eq_true rfl⟩) (ci := 3) hc16 rfl rfl rfl hl.1 (Nat.le_of_ble_eq_true rfl) dX10_orderAt_54 (c1 := 0) (s1 := 0) ⟨⟨rfl, rfl⟩, by decide, by decide⟩ (fun H locs hV => ?_)
        exact xr_i E hQ dX10_orderAt_57 ⟨Nat.le_of_ble_eq_true rfl, Nat.le_of_ble_eq_true rfl⟩ hV (⟨rfl, ⟨_, _, _, _, _, _, _, _, _, _, _, hc16, hc17, hc18, hc19, hc20, hc21, hc22, hc23, hc24, hc25, od_q hod, by omega, by omega⟩, fun x q0 => hf26 x (by omega) (by omega) (by omega) (by omega) (by omega) (by omega) (by omega) (by omega) (by omega) (by omega), ⟨(by omega), rfl⟩⟩)
      · exact xt_S (own := RX10) (rest := []) E hF_ hxt_ hQ hlt (ik := 173) (is := 209) (ic := 177) (cls := "java/lang/IndexOutOfBoundsException") (text := "no such rank in an order") (by decide +kernel) xg_IO (List.mem_of_getElem? (i := 1) rfl) (List.mem_of_getElem? (i := 2) rfl) (fun _ h => List.mem_cons_of_mem _ (List.mem_append_right _ h)) (List.mem_of_getElem? (i := 9) rfl) hl.1 dX10_orderAt_39 dX10_orderAt_42 dX10_orderAt_43 dX10_orderAt_45 dX10_orderAt_48 ⟨Nat.le_of_ble_eq_true rfl, Nat.le_of_ble_eq_true rfl, Nat.le_of_ble_eq_true rfl, Nat.le_of_ble_eq_true rfl⟩ ⟨Nat.le_of_ble_eq_true rfl, Nat.le_of_ble_eq_true rfl⟩ hV (fun N9 h9 => ⟨by omega, ⟨_, _, _, _, _, _, _, _, _, _, _, hc16, hc17, hc18, hc19, hc20, hc21, hc22, hc23, hc24, hc25, od_q hod, by omega, by omega⟩, fun x q0 => hf26 x (by omega) (by omega) (by omega) (by omega) (by omega) (by omega) (by omega) (by omega) (by omega) (by omega), ⟨(by first | omega | assumption), rfl⟩⟩)
