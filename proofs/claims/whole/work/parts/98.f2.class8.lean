/-! The class, further on. -/
abbrev rmX10_join : Room := { frames := 6, cells := 25, slots := 3000, locals := 153 }
set_option maxHeartbeats 4000000 in
set_option maxRecDepth 100000 in
theorem kX10_join (l_ : Launch) (G : sG) (b_ : Nat) (M : sM) (N : Nat) (c : Nat) (kn ch : Int) (f : sF) (kb : Nat) (fs : Int → sF) (tn te : Int) (t : sF) (wc : Int) (T : sF) (hc0 : M c = some (xO c kn ch)) (hst : stC G M (c + 1) f) (hkp : kpC G M (c + 31) kb kn ch fs) (ht0 : M (c + 32) = some (sObj 7 [.ref (c + 33), .int (sI tn), .int (sI te)])) (ht1 : M (c + 33) = some (sArr G 300 t)) (hct : catC G M (c + 34) wc T) (htr : triC G M (c + 16)) (hlt : l_.stackTraces = false) (hok : sOk f) (hkb : c + 60 ≤ kb) (hkN : kb ≤ N) (ht : tpOk t tn) : xcI l_ yX10_join wsX10_join rmX10_join G b_ M N [.ref c] (fun z_ M1 N1 => ∃ kn1 : Int, N ≤ N1 ∧ triC G M1 (c + 16) ∧ catC G M1 (c + 34) wc T ∧ (∀ x : Nat, ¬ (x = c) → ¬ (x = c + 31) → ¬ (x = c + 32) → ¬ (kb ≤ x) → ¬ (c + 1 ≤ x ∧ x < c + 1 + 15) → ¬ (c + 16 ≤ x ∧ x < c + 16 + 15) → ¬ (c + 34 ≤ x ∧ x < c + 34 + 4) → M1 x = M x) ∧ (((rcE t tn = -1 ∧ jnQ f t tn) ∧ z_ = jnF f t tn 568 - f 568 ∧ M1 c = some (xO c kn1 (chn ch)) ∧ stC G M1 (c + 1) (jnF f t tn) ∧ kpC G M1 (c + 31) kb kn1 (chn ch) (fsn ch fs f) ∧ M1 (c + 32) = some (sObj 7 [.ref (c + 33), .int (sI 0), .int (sI (-1))])))) (fun E_ M1 N1 => ∃ kn1 : Int, N ≤ N1 ∧ triC G M1 (c + 16) ∧ catC G M1 (c + 34) wc T ∧ (∀ x : Nat, ¬ (x = c) → ¬ (x = c + 31) → ¬ (x = c + 32) → ¬ (kb ≤ x) → ¬ (c + 1 ≤ x ∧ x < c + 1 + 15) → ¬ (c + 16 ≤ x ∧ x < c + 16 + 15) → ¬ (c + 34 ≤ x ∧ x < c + 34 + 4) → M1 x = M x) ∧ (((rcE t tn ≠ -1) ∧ E_ = "java/lang/IllegalArgumentException" ∧ M1 c = some (xO c kn1 ch) ∧ stC G M1 (c + 1) f ∧ kpC G M1 (c + 31) kb kn1 ch fs ∧ M1 (c + 32) = some (sObj 7 [.ref (c + 33), .int (sI 0), .int (sI (rcE t tn))])) ∨ ((rcE t tn = -1 ∧ ¬ jnQ f t tn) ∧ E_ = "java/lang/IllegalStateException" ∧ M1 c = some (xO c kn1 ch) ∧ stC G M1 (c + 1) f ∧ kpC G M1 (c + 31) kb kn1 ch fs ∧ M1 (c + 32) = some (sObj 7 [.ref (c + 33), .int (sI 0), .int (sI (-1))])))) := by
  refine xcE.ofI (cc := cX10_join) (nL := 3) (ret := (some .int)) (by decide) rfl (Nat.le_of_ble_eq_true rfl) ?_
  intro p_ e_ s_ m_ args_ below_ meth_ c_ ls Q hQ E hF_ hxt_ hl
  have E : sE p_ l_ e_ rmX10_join s_ m_ args_ below_ meth_ c_ cX10_join 3 wsX10_join RX10 "join" (some .int) G b_ M N := E
  have S := E.1
  have hx_ := S.1
  have hb_ := S.2.1
  have hK := E.2.2.2.2.1
  have hV := E.2.2.2.2.2.2
  have hl : lv_has ls 3 [(0, .ref c)] := hl
  have inX10_ : ∀ w ∈ wsX100, w ∈ wsX10_join := fun _ h => List.mem_cons_of_mem _ (List.mem_append_left _ (List.mem_append_left _ (List.mem_append_left _ (List.mem_append_left _ (List.mem_append_left _ (List.mem_append_left _ (List.mem_append_right _ h)))))))
  have inX6_ : ∀ w ∈ wsX60, w ∈ wsX10_join := fun _ h => List.mem_cons_of_mem _ (List.mem_append_left _ (List.mem_append_left _ (List.mem_append_left _ (List.mem_append_left _ (List.mem_append_left _ (List.mem_append_right _ h))))))
  have inX1_ : ∀ w ∈ wsX10, w ∈ wsX10_join := fun _ h => List.mem_cons_of_mem _ (List.mem_append_left _ (List.mem_append_left _ (List.mem_append_left _ (List.mem_append_left _ (List.mem_append_right _ h)))))
  have inX8_ : ∀ w ∈ wsX80, w ∈ wsX10_join := fun _ h => List.mem_cons_of_mem _ (List.mem_append_left _ (List.mem_append_left _ (List.mem_append_left _ (List.mem_append_right _ h))))
  have inX9_ : ∀ w ∈ wsX90, w ∈ wsX10_join := fun _ h => List.mem_cons_of_mem _ (List.mem_append_left _ (List.mem_append_left _ (List.mem_append_right _ h)))
  have hbN : b_ ≤ N := by have h1 := hV.1.1; have h2 := hV.2.2; omega
  have kn0 := sOk_N hok
  have htn := ht.1
  have htn2 := ht.2.1
  have hct2 := hct
  obtain ⟨tk0, ts0, te0, tv0, ne0, et0, h34, h35, h37⟩ := hct2
  have htr2 := htr
  obtain ⟨g0, h16⟩ := htr2
  refine lv_aload_n hx_ hb_ dX10_join_0 rfl (lv_at hl 0 rfl) ?_
  refine sc_get (ci := 8) (C := RX10) (T := TX10) (n := 11) S hK hV inX10_ hc0 rfl 6 (by decide) (S.2.2.2.2 _ (List.mem_of_getElem? (i := 5) rfl)) rfl rfl dX10_join_1 ?_
  refine lv_aload_n hx_ hb_ dX10_join_4 rfl (lv_at hl 0 rfl) ?_
  refine sc_get (ci := 8) (C := RX10) (T := TX10) (n := 11) S hK hV inX10_ hc0 rfl 5 (by decide) (S.2.2.2.2 _ (List.mem_of_getElem? (i := 6) rfl)) rfl rfl dX10_join_5 ?_
  refine sk_Vi E hV (As := [.ref (c + 32)]) (rest := []) (kX1_errorOn l_ G b_ M N (c + 34) (c + 32) wc tk0 ts0 te0 tv0 tn te ne0 et0 t h34 h35 ht0 ht1 (by omega) (by omega)) (cwV 1 S.2.2.2.2 gX10_join_X1_errorOn rfl rfl rfl (by decide +kernel) ⟨Nat.le_of_ble_eq_true rfl, Nat.le_of_ble_eq_true rfl⟩) (ci := 0) h34 rfl rfl rfl hl.1 (Nat.le_of_ble_eq_true rfl) dX10_join_8 (c1 := 0) (s1 := 0) ⟨⟨rfl, rfl⟩, by decide, by decide⟩ (fun z4 M1 N2 H locs hp3 hV => ?_)
  obtain ⟨k95, s96, e97, v98, n99, r910, ez11, hN12, hc13, hc14, hf15, hn916, hen17⟩ := hp3
  rw [hN12] at hV
  rw [ez11]
  have hn9 := hn916
  have hr9 := hen17
  have hreb := rcE_b (t := t) (n := tn) htn
  refine lv_istore_n (lv' := [(1, .int (sI (rcE t tn))), (0, .ref c)]) hx_ hb_ dX10_join_11 rfl hl (by decide) rfl (fun ls hl => ?_)
  refine lv_aload_n hx_ hb_ dX10_join_12 rfl (lv_at hl 1 rfl) ?_
  have hc18 : M1 c = some (xO c kn ch) := (hf15 c (by omega) (by omega) (by omega)).trans hc0
  refine sc_get (ci := 8) (C := RX10) (T := TX10) (n := 11) S hK hV inX10_ hc18 rfl 5 (by decide) (S.2.2.2.2 _ (List.mem_of_getElem? (i := 6) rfl)) rfl rfl dX10_join_13 ?_
  refine lv_iload_n hx_ hb_ dX10_join_16 rfl (lv_at hl 0 rfl) ?_
  have hc19 : M1 (c + 32) = some (sObj 7 [.ref (c + 33), .int (sI tn), .int (sI te)]) := (hf15 (c + 32) (by omega) (by omega) (by omega)).trans ht0
  refine sk_Vv E hV (As := [.int (sI (rcE t tn))]) (rest := []) (kX9_wasRead l_ G b_ M1 N (c + 32) tn te (rcE t tn) hc19) (cwV 1 S.2.2.2.2 gX10_join_X9_wasRead rfl rfl rfl (by decide +kernel) ⟨Nat.le_of_ble_eq_true rfl, Nat.le_of_ble_eq_true rfl⟩) (ci := 7) hc19 rfl rfl rfl hl.1 (Nat.le_of_ble_eq_true rfl) dX10_join_17 (c1 := 0) (s1 := 0) ⟨⟨rfl, rfl⟩, by decide, by decide⟩ (fun M20 N21 H locs hp22 hV => ?_)
  obtain ⟨hN24, hc25, hf26⟩ := hp22
  rw [hN24] at hV
  refine lv_iload_n hx_ hb_ dX10_join_20 rfl (lv_at hl 0 rfl) ?_
  refine si_const S dX10_join_21 ?_
  refine sb_eq (tgt := 36) S dX10_join_22 (by decide) (by omega) (fun c27 => ?_) (fun c27 => ?_)
  · have hre1 : rcE t tn = -1 := by omega
    have htp9 : M20 (c + 32) = some (sObj 7 [.ref (c + 33), .int (sI 0), .int (sI (-1))]) := by rw [← hre1]; exact hc25
    obtain ⟨hK9, hen9⟩ := hr9 (by omega)
    have hO9 : rcO 0 n99 (rcC t tn) (rcV t tn) := by rw [← hK9]; exact rc_o (by omega) (by omega)
    refine lv_aload_n hx_ hb_ dX10_join_36 rfl (lv_at hl 1 rfl) ?_
    have hc28 : M20 c = some (xO c kn ch) := (hf26 c (by omega)).trans hc18
    refine sc_get (ci := 8) (C := RX10) (T := TX10) (n := 11) S hK hV inX10_ hc28 rfl 1 (by decide) (S.2.2.2.2 _ (List.mem_of_getElem? (i := 7) rfl)) rfl rfl dX10_join_37 ?_
    refine lv_aload_n hx_ hb_ dX10_join_40 rfl (lv_at hl 1 rfl) ?_
    refine sc_get (ci := 8) (C := RX10) (T := TX10) (n := 11) S hK hV inX10_ hc28 rfl 0 (by decide) (S.2.2.2.2 _ (List.mem_of_getElem? (i := 8) rfl)) rfl rfl dX10_join_41 ?_
    have hc29 : stC G M20 (c + 16) g0 := h16.fr (fun x q8 q9 => (hf26 x (by omega)).trans (hf15 x (by omega) (by omega) (by omega)))
    have hc30 : stC G M20 (c + 1) f := hst.fr (fun x q8 q9 => (hf26 x (by omega)).trans (hf15 x (by omega) (by omega) (by omega)))
    refine sk_Vv E hV (As := [.ref (c + 1)]) (rest := []) (kX6_copyFrom l_ G b_ M20 N (c + 16) g0 (c + 1) f hc29 hc30 (kn0) (by omega)) (cwV 1 S.2.2.2.2 gX10_join_X6_copyFrom rfl rfl rfl (by decide +kernel) ⟨Nat.le_of_ble_eq_true rfl, Nat.le_of_ble_eq_true rfl⟩) (ci := 4) (hc29).1 rfl rfl rfl hl.1 (Nat.le_of_ble_eq_true rfl) dX10_join_44 (c1 := 0) (s1 := 0) ⟨⟨rfl, rfl⟩, by decide, by decide⟩ (fun M31 N32 H locs hp33 hV => ?_)
    obtain ⟨hN35, hc36, hf37⟩ := hp33
    rw [hN35] at hV
    refine lv_aload_n hx_ hb_ dX10_join_47 rfl (lv_at hl 1 rfl) ?_
    have hc38 : M31 c = some (xO c kn ch) := (hf37 c (by omega)).trans hc28
    refine sc_get (ci := 8) (C := RX10) (T := TX10) (n := 11) S hK hV inX10_ hc38 rfl 6 (by decide) (S.2.2.2.2 _ (List.mem_of_getElem? (i := 5) rfl)) rfl rfl dX10_join_48 ?_
    refine lv_aload_n hx_ hb_ dX10_join_51 rfl (lv_at hl 1 rfl) ?_
    refine sc_get (ci := 8) (C := RX10) (T := TX10) (n := 11) S hK hV inX10_ hc38 rfl 1 (by decide) (S.2.2.2.2 _ (List.mem_of_getElem? (i := 7) rfl)) rfl rfl dX10_join_52 ?_
    have hc39 : M31 (c + 34) = some (sObj 0 [.ref (c + 35), .ref (c + 37), .int (sI wc), .int (sI k95), .int (sI s96), .int (sI e97), .int (sI v98)]) := ((hf37 (c + 34) (by omega)).trans (hf26 (c + 34) (by omega))).trans hc13
    have hc40 : stK G M31 (c + 35) 5 n99 165 r910 := hc14.fr (fun x q8 q9 => (hf37 x (by omega)).trans (hf26 x (by omega)))
    refine sk_Vi E hV (As := [.ref (c + 16)]) (rest := []) (kX1_isJoinedTo l_ G b_ M31 N (c + 34) (c + 16) wc k95 s96 e97 v98 n99 r910 f (rcC t tn) (rcV t tn) hc39 hc40 hc36 (hok) (hO9) (hen9) (hn9) (by omega)) (cwV 1 S.2.2.2.2 gX10_join_X1_isJoinedTo rfl rfl rfl (by decide +kernel) ⟨Nat.le_of_ble_eq_true rfl, Nat.le_of_ble_eq_true rfl⟩) (ci := 0) hc39 rfl rfl rfl hl.1 (Nat.le_of_ble_eq_true rfl) dX10_join_55 (c1 := 0) (s1 := 0) ⟨⟨rfl, rfl⟩, by decide, by decide⟩ (fun z44 M41 N42 H locs hp43 hV => ?_)
    obtain ⟨g945, ez46, hN47, hc48, hf49, hok950, hj951⟩ := hp43
    rw [hN47] at hV
    rw [ez46]
    have hokg := hok950
    have hj9 := hj951
    refine sq_eq (tgt := 71) S dX10_join_58 (by decide) (fun hJ9 => ?_) (fun hJ9 => ?_)
    · have hc52 : M41 (c + 34) = some (sObj 0 [.ref (c + 35), .ref (c + 37), .int (sI wc), .int (sI k95), .int (sI s96), .int (sI e97), .int (sI v98)]) := (hf49 (c + 34) (by omega)).trans hc39
      have hc53 : stK G M41 (c + 35) 5 n99 165 r910 := hc40.fr (fun x q8 q9 => hf49 x (by omega))
      have hc54 : M41 (c + 37) = some (sArC G 180 T) := ((((hf49 (c + 37) (by omega)).trans (hf37 (c + 37) (by omega))).trans (hf26 (c + 37) (by omega))).trans (hf15 (c + 37) (by omega) (by omega) (by omega))).trans h37
      have hc55 : M41 c = some (xO c kn ch) := (hf49 c (by omega)).trans hc38
      have hc56 : stC G M41 (c + 1) f := hc30.fr (fun x q8 q9 => (hf49 x (by omega)).trans (hf37 x (by omega)))
      have hc57 : kpC G M41 (c + 31) kb kn ch fs := hkp.fr (fun x q8 => (((hf49 x (by omega)).trans (hf37 x (by omega))).trans (hf26 x (by omega))).trans (hf15 x (by omega) (by omega) (by omega)))
      have hc58 : M41 (c + 32) = some (sObj 7 [.ref (c + 33), .int (sI 0), .int (sI (-1))]) := ((hf49 (c + 32) (by omega)).trans (hf37 (c + 32) (by omega))).trans htp9
      exact xt_W (own := RX10) (rest := []) E hF_ hxt_ hQ hlt (ik := 80) (is := 359) (ic := 84) (cls := "java/lang/IllegalStateException") (text := "the catalogue is refused") (by decide +kernel) xg_IS (List.mem_of_getElem? (i := 3) rfl) (List.mem_of_getElem? (i := 4) rfl) (fun _ h => List.mem_cons_of_mem _ (List.mem_append_right _ h)) (List.mem_of_getElem? (i := 24) rfl) hl.1 dX10_join_71 dX10_join_74 dX10_join_75 dX10_join_78 dX10_join_81 ⟨Nat.le_of_ble_eq_true rfl, Nat.le_of_ble_eq_true rfl, Nat.le_of_ble_eq_true rfl, Nat.le_of_ble_eq_true rfl⟩ ⟨Nat.le_of_ble_eq_true rfl, Nat.le_of_ble_eq_true rfl⟩ hV (fun N9 h9 => ⟨_, by omega, ⟨_, hc48⟩, ⟨_, _, _, _, _, _, hc52, hc53, hc54⟩, fun x q0 q1 q2 q3 q4 q5 q6 => (((hf49 x (by omega)).trans (hf37 x (by omega))).trans (hf26 x (by omega))).trans (hf15 x (by omega) (by omega) (by omega)), Or.inr (⟨(by first | exact ⟨by omega, fun h => hJ9 (by unfold jnQ jnK at h; rw [hK9] at h; exact h.1)⟩ | exact ⟨by omega, fun h => hL9 (by unfold jnQ jnK at h; rw [hK9, ← hgq] at h; exact hjd.mpr h.2)⟩), rfl, hc55, hc56, hc57, hc58⟩)⟩)
    · refine lv_aload_n hx_ hb_ dX10_join_61 rfl (lv_at hl 1 rfl) ?_
      have hgq := hj9 hJ9
      have hjd := dI_jn hokg
      have hc59 : M41 c = some (xO c kn ch) := (hf49 c (by omega)).trans hc38
      refine sc_get (ci := 8) (C := RX10) (T := TX10) (n := 11) S hK hV inX10_ hc59 rfl 1 (by decide) (S.2.2.2.2 _ (List.mem_of_getElem? (i := 7) rfl)) rfl rfl dX10_join_62 ?_
      refine sk_VP E hV (As := []) (rest := []) (kX6_allLieAsTheyMay l_ G b_ M41 N (c + 16) g945 hc48 (hokg)) (cwV 0 S.2.2.2.2 gX10_join_X6_allLieAsTheyMay rfl rfl rfl (by decide +kernel) ⟨Nat.le_of_ble_eq_true rfl, Nat.le_of_ble_eq_true rfl⟩) (ci := 4) (hc48).1 rfl rfl rfl hl.1 (Nat.le_of_ble_eq_true rfl) dX10_join_65 (c1 := 0) (s1 := 0) ⟨⟨rfl, rfl⟩, by decide, by decide⟩ (fun H locs hV => ?_)
      refine sq_ne (tgt := 82) S dX10_join_68 (by decide) (fun hL9 => ?_) (fun hL9 => ?_)
      · refine lv_aload_n hx_ hb_ dX10_join_82 rfl (lv_at hl 1 rfl) ?_
        have hc60 : stC G M41 (c + 1) f := hc30.fr (fun x q8 q9 => (hf49 x (by omega)).trans (hf37 x (by omega)))
        have hc61 : kpC G M41 (c + 31) kb kn ch fs := hkp.fr (fun x q8 => (((hf49 x (by omega)).trans (hf37 x (by omega))).trans (hf26 x (by omega))).trans (hf15 x (by omega) (by omega) (by omega)))
        refine sk_Vv E hV (As := []) (rest := []) (kX10_keepState l_ G b_ M41 N c kn ch f kb fs hc59 hc60 hc61 (by omega) (by omega) (by omega)) (cwV 0 S.2.2.2.2 gX10_join_X10_keepState rfl rfl rfl (by decide +kernel) ⟨Nat.le_of_ble_eq_true rfl, Nat.le_of_ble_eq_true rfl⟩) (ci := 8) hc59 rfl rfl rfl hl.1 (Nat.le_of_ble_eq_true rfl) dX10_join_83 (c1 := 15) (s1 := 2900) ⟨⟨rfl, rfl⟩, by decide, by decide⟩ (fun M62 N63 H locs hp64 hV => ?_)
        obtain ⟨kn166, hN67, hc68, hc69, hf70⟩ := hp64
        refine lv_aload_n hx_ hb_ dX10_join_86 rfl (lv_at hl 1 rfl) ?_
        refine sc_get (ci := 8) (C := RX10) (T := TX10) (n := 11) S hK hV inX10_ hc68 rfl 1 (by decide) (S.2.2.2.2 _ (List.mem_of_getElem? (i := 7) rfl)) rfl rfl dX10_join_87 ?_
        have hc71 : stC G M62 (c + 16) g945 := hc48.fr (fun x q8 q9 => hf70 x (by omega) (by omega) (by omega))
        refine sc_getN (ci := 4) (C := RX6) (T := TX6) (n := 8) S hK hV inX6_ (hc71).1 rfl 0 (by decide) (E.2.2.2.2.2.1.1.2.1 _ (List.mem_of_getElem? (i := 3) rfl)) rfl rfl dX10_join_90 ?_
        refine sk_VP E hV (As := []) (rest := []) (kTs l_ G b_ M62 N63 (c + 17) 7 (g945 568) 70 (tvS g945) ((hc71).2.1)) (cwV 0 S.2.2.2.2 gX10_join_X8_size rfl rfl rfl (by decide +kernel) ⟨Nat.le_of_ble_eq_true rfl, Nat.le_of_ble_eq_true rfl⟩) (ci := 6) ((hc71).2.1).1 rfl rfl rfl hl.1 (Nat.le_of_ble_eq_true rfl) dX10_join_93 (c1 := 15) (s1 := 2900) ⟨⟨rfl, rfl⟩, by decide, by decide⟩ (fun H locs hV => ?_)
        refine lv_aload_n hx_ hb_ dX10_join_96 rfl (lv_at hl 1 rfl) ?_
        refine sc_get (ci := 8) (C := RX10) (T := TX10) (n := 11) S hK hV inX10_ hc68 rfl 0 (by decide) (S.2.2.2.2 _ (List.mem_of_getElem? (i := 8) rfl)) rfl rfl dX10_join_97 ?_
        have hc72 : stC G M62 (c + 1) f := hc60.fr (fun x q8 q9 => hf70 x (by omega) (by omega) (by omega))
        refine sc_getN (ci := 4) (C := RX6) (T := TX6) (n := 8) S hK hV inX6_ (hc72).1 rfl 0 (by decide) (E.2.2.2.2.2.1.1.2.1 _ (List.mem_of_getElem? (i := 3) rfl)) rfl rfl dX10_join_100 ?_
        refine sk_VP E hV (As := []) (rest := [.int (sI (g945 568))]) (kTs l_ G b_ M62 N63 (c + 2) 7 (f 568) 70 (tvS f) ((hc72).2.1)) (cwV 0 S.2.2.2.2 gX10_join_X8_size rfl rfl rfl (by decide +kernel) ⟨Nat.le_of_ble_eq_true rfl, Nat.le_of_ble_eq_true rfl⟩) (ci := 6) ((hc72).2.1).1 rfl rfl rfl hl.1 (Nat.le_of_ble_eq_true rfl) dX10_join_103 (c1 := 15) (s1 := 2900) ⟨⟨rfl, rfl⟩, by decide, by decide⟩ (fun H locs hV => ?_)
        refine si_sub S dX10_join_106 ?_
        refine lv_istore_n (lv' := [(2, .int (sI ((g945 568) - (f 568)))), (1, .int (sI (rcE t tn))), (0, .ref c)]) hx_ hb_ dX10_join_107 rfl hl (by decide) rfl (fun ls hl => ?_)
        refine lv_aload_n hx_ hb_ dX10_join_108 rfl (lv_at hl 2 rfl) ?_
        refine sc_get (ci := 8) (C := RX10) (T := TX10) (n := 11) S hK hV inX10_ hc68 rfl 0 (by decide) (S.2.2.2.2 _ (List.mem_of_getElem? (i := 8) rfl)) rfl rfl dX10_join_109 ?_
        refine lv_aload_n hx_ hb_ dX10_join_112 rfl (lv_at hl 2 rfl) ?_
        refine sc_get (ci := 8) (C := RX10) (T := TX10) (n := 11) S hK hV inX10_ hc68 rfl 1 (by decide) (S.2.2.2.2 _ (List.mem_of_getElem? (i := 7) rfl)) rfl rfl dX10_join_113 ?_
        refine sk_Vv E hV (As := [.ref (c + 16)]) (rest := []) (kX6_copyFrom l_ G b_ M62 N63 (c + 1) f (c + 16) g945 hc72 hc71 (sOk_N hokg) (by omega)) (cwV 1 S.2.2.2.2 gX10_join_X6_copyFrom rfl rfl rfl (by decide +kernel) ⟨Nat.le_of_ble_eq_true rfl, Nat.le_of_ble_eq_true rfl⟩) (ci := 4) (hc72).1 rfl rfl rfl hl.1 (Nat.le_of_ble_eq_true rfl) dX10_join_116 (c1 := 15) (s1 := 2900) ⟨⟨rfl, rfl⟩, by decide, by decide⟩ (fun M73 N74 H locs hp75 hV => ?_)
        obtain ⟨hN77, hc78, hf79⟩ := hp75
        rw [hN77] at hV
        refine lv_iload_n hx_ hb_ dX10_join_119 rfl (lv_at hl 0 rfl) ?_
        have hc80 : M73 (c + 34) = some (sObj 0 [.ref (c + 35), .ref (c + 37), .int (sI wc), .int (sI k95), .int (sI s96), .int (sI e97), .int (sI v98)]) := (((hf79 (c + 34) (by omega)).trans (hf70 (c + 34) (by omega) (by omega) (by omega))).trans (hf49 (c + 34) (by omega))).trans hc39
        have hc81 : stK G M73 (c + 35) 5 n99 165 r910 := hc40.fr (fun x q8 q9 => ((hf79 x (by omega)).trans (hf70 x (by omega) (by omega) (by omega))).trans (hf49 x (by omega)))
        have hc82 : M73 (c + 37) = some (sArC G 180 T) := ((((((hf79 (c + 37) (by omega)).trans (hf70 (c + 37) (by omega) (by omega) (by omega))).trans (hf49 (c + 37) (by omega))).trans (hf37 (c + 37) (by omega))).trans (hf26 (c + 37) (by omega))).trans (hf15 (c + 37) (by omega) (by omega) (by omega))).trans h37
        have hc83 : stC G M73 (c + 16) g945 := hc71.fr (fun x q8 q9 => hf79 x (by omega))
        have hc84 : M73 c = some (xO c kn166 (chn ch)) := (hf79 c (by omega)).trans hc68
        have hc85 : kpC G M73 (c + 31) kb kn166 (chn ch) (fsn ch fs f) := hc69.fr (fun x q8 => hf79 x (by omega))
        have hc86 : M73 (c + 32) = some (sObj 7 [.ref (c + 33), .int (sI 0), .int (sI (-1))]) := ((((hf79 (c + 32) (by omega)).trans (hf70 (c + 32) (by omega) (by omega) (by omega))).trans (hf49 (c + 32) (by omega))).trans (hf37 (c + 32) (by omega))).trans htp9
        exact xr_i E hQ dX10_join_120 ⟨Nat.le_of_ble_eq_true rfl, Nat.le_of_ble_eq_true rfl⟩ hV (⟨_, by omega, ⟨_, hc83⟩, ⟨_, _, _, _, _, _, hc80, hc81, hc82⟩, fun x q0 q1 q2 q3 q4 q5 q6 => (((((hf79 x (by omega)).trans (hf70 x (by omega) (by omega) (by omega))).trans (hf49 x (by omega))).trans (hf37 x (by omega))).trans (hf26 x (by omega))).trans (hf15 x (by omega) (by omega) (by omega)), ⟨(⟨by omega, by unfold jnQ jnK; rw [hK9, ← hgq]; exact ⟨hJ9, hjd.mp hL9⟩⟩), by unfold jnF; rw [hK9, ← hgq], hc84, by unfold jnF; rw [hK9, ← hgq]; exact hc78, hc85, hc86⟩⟩)
      · have hc87 : M41 (c + 34) = some (sObj 0 [.ref (c + 35), .ref (c + 37), .int (sI wc), .int (sI k95), .int (sI s96), .int (sI e97), .int (sI v98)]) := (hf49 (c + 34) (by omega)).trans hc39
        have hc88 : stK G M41 (c + 35) 5 n99 165 r910 := hc40.fr (fun x q8 q9 => hf49 x (by omega))
        have hc89 : M41 (c + 37) = some (sArC G 180 T) := ((((hf49 (c + 37) (by omega)).trans (hf37 (c + 37) (by omega))).trans (hf26 (c + 37) (by omega))).trans (hf15 (c + 37) (by omega) (by omega) (by omega))).trans h37
        have hc90 : stC G M41 (c + 1) f := hc30.fr (fun x q8 q9 => (hf49 x (by omega)).trans (hf37 x (by omega)))
        have hc91 : kpC G M41 (c + 31) kb kn ch fs := hkp.fr (fun x q8 => (((hf49 x (by omega)).trans (hf37 x (by omega))).trans (hf26 x (by omega))).trans (hf15 x (by omega) (by omega) (by omega)))
        have hc92 : M41 (c + 32) = some (sObj 7 [.ref (c + 33), .int (sI 0), .int (sI (-1))]) := ((hf49 (c + 32) (by omega)).trans (hf37 (c + 32) (by omega))).trans htp9
        exact xt_W (own := RX10) (rest := []) E hF_ hxt_ hQ hlt (ik := 80) (is := 359) (ic := 84) (cls := "java/lang/IllegalStateException") (text := "the catalogue is refused") (by decide +kernel) xg_IS (List.mem_of_getElem? (i := 3) rfl) (List.mem_of_getElem? (i := 4) rfl) (fun _ h => List.mem_cons_of_mem _ (List.mem_append_right _ h)) (List.mem_of_getElem? (i := 24) rfl) hl.1 dX10_join_71 dX10_join_74 dX10_join_75 dX10_join_78 dX10_join_81 ⟨Nat.le_of_ble_eq_true rfl, Nat.le_of_ble_eq_true rfl, Nat.le_of_ble_eq_true rfl, Nat.le_of_ble_eq_true rfl⟩ ⟨Nat.le_of_ble_eq_true rfl, Nat.le_of_ble_eq_true rfl⟩ hV (fun N9 h9 => ⟨_, by omega, ⟨_, hc48⟩, ⟨_, _, _, _, _, _, hc87, hc88, hc89⟩, fun x q0 q1 q2 q3 q4 q5 q6 => (((hf49 x (by omega)).trans (hf37 x (by omega))).trans (hf26 x (by omega))).trans (hf15 x (by omega) (by omega) (by omega)), Or.inr (⟨(by first | exact ⟨by omega, fun h => hJ9 (by unfold jnQ jnK at h; rw [hK9] at h; exact h.1)⟩ | exact ⟨by omega, fun h => hL9 (by unfold jnQ jnK at h; rw [hK9, ← hgq] at h; exact hjd.mpr h.2)⟩), rfl, hc59, hc90, hc91, hc92⟩)⟩)
  · have hc93 : M20 (c + 34) = some (sObj 0 [.ref (c + 35), .ref (c + 37), .int (sI wc), .int (sI k95), .int (sI s96), .int (sI e97), .int (sI v98)]) := (hf26 (c + 34) (by omega)).trans hc13
    have hc94 : stK G M20 (c + 35) 5 n99 165 r910 := hc14.fr (fun x q8 q9 => hf26 x (by omega))
    have hc95 : M20 (c + 37) = some (sArC G 180 T) := ((hf26 (c + 37) (by omega)).trans (hf15 (c + 37) (by omega) (by omega) (by omega))).trans h37
    have hc96 : stC G M20 (c + 16) g0 := h16.fr (fun x q8 q9 => (hf26 x (by omega)).trans (hf15 x (by omega) (by omega) (by omega)))
    have hc97 : M20 c = some (xO c kn ch) := (hf26 c (by omega)).trans hc18
    have hc98 : stC G M20 (c + 1) f := hst.fr (fun x q8 q9 => (hf26 x (by omega)).trans (hf15 x (by omega) (by omega) (by omega)))
    have hc99 : kpC G M20 (c + 31) kb kn ch fs := hkp.fr (fun x q8 => (hf26 x (by omega)).trans (hf15 x (by omega) (by omega) (by omega)))
    exact xt_W (own := RX10) (rest := []) E hF_ hxt_ hQ hlt (ik := 113) (is := 347) (ic := 117) (cls := "java/lang/IllegalArgumentException") (text := "the text has an error") (by decide +kernel) xg_IA (List.mem_of_getElem? (i := 1) rfl) (List.mem_of_getElem? (i := 2) rfl) (fun _ h => List.mem_cons_of_mem _ (List.mem_append_left _ (List.mem_append_right _ h))) (List.mem_of_getElem? (i := 23) rfl) hl.1 dX10_join_25 dX10_join_28 dX10_join_29 dX10_join_32 dX10_join_35 ⟨Nat.le_of_ble_eq_true rfl, Nat.le_of_ble_eq_true rfl, Nat.le_of_ble_eq_true rfl, Nat.le_of_ble_eq_true rfl⟩ ⟨Nat.le_of_ble_eq_true rfl, Nat.le_of_ble_eq_true rfl⟩ hV (fun N9 h9 => ⟨_, by omega, ⟨_, hc96⟩, ⟨_, _, _, _, _, _, hc93, hc94, hc95⟩, fun x q0 q1 q2 q3 q4 q5 q6 => (hf26 x (by omega)).trans (hf15 x (by omega) (by omega) (by omega)), Or.inl ⟨(by omega), rfl, hc97, hc98, hc99, hc25⟩⟩)
