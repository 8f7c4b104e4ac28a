/-! The class, further on. -/
abbrev rmX10_tell : Room := { frames := 7, cells := 25, slots := 3000, locals := 146 }
set_option maxHeartbeats 4000000 in
set_option maxRecDepth 100000 in
theorem kX10_tell (l_ : Launch) (G : sG) (b_ : Nat) (M : sM) (N : Nat) (c : Nat) (kn ch : Int) (f : sF) (kb : Nat) (fs : Int → sF) (s d h2 : Int) (hc0 : M c = some (xO c kn ch)) (hst : stC G M (c + 1) f) (hkp : kpC G M (c + 31) kb kn ch fs) (hlt : l_.stackTraces = false) (hok : sOk f) (hkb : c + 60 ≤ kb) (hkN : kb ≤ N) (hr : sR s ∧ sR d ∧ sR h2) : xcI l_ yX10_tell wsX10_tell rmX10_tell G b_ M N [.ref c, .int (sI s), .int (sI d), .int (sI h2)] (fun z_ M1 N1 => ∃ kn1 : Int, N ≤ N1 ∧ (∀ x : Nat, ¬ (x = c) → ¬ (x = c + 31) → ¬ (kb ≤ x) → ¬ (c + 1 ≤ x ∧ x < c + 1 + 15) → M1 x = M x) ∧ ((((0 ≤ s ∧ s < f 568) ∧ (isDt d ∧ 0 ≤ h2 ∧ h2 ≤ 6) ∧ f 570 < 60) ∧ z_ = f 570 ∧ M1 c = some (xO c kn1 (chn ch)) ∧ stC G M1 (c + 1) (tlF f s (dayI d + 3652) h2) ∧ kpC G M1 (c + 31) kb kn1 (chn ch) (fsn ch fs f)))) (fun E_ M1 N1 => ∃ kn1 : Int, N ≤ N1 ∧ (∀ x : Nat, ¬ (x = c) → ¬ (x = c + 31) → ¬ (kb ≤ x) → ¬ (c + 1 ≤ x ∧ x < c + 1 + 15) → M1 x = M x) ∧ (((¬ (0 ≤ s ∧ s < f 568)) ∧ E_ = "java/lang/IndexOutOfBoundsException" ∧ M1 c = some (xO c kn1 ch) ∧ stC G M1 (c + 1) f ∧ kpC G M1 (c + 31) kb kn1 ch fs) ∨ (((0 ≤ s ∧ s < f 568) ∧ ¬ (isDt d ∧ 0 ≤ h2 ∧ h2 ≤ 6)) ∧ E_ = "java/lang/IllegalArgumentException" ∧ M1 c = some (xO c kn1 ch) ∧ stC G M1 (c + 1) f ∧ kpC G M1 (c + 31) kb kn1 ch fs) ∨ (((0 ≤ s ∧ s < f 568) ∧ (isDt d ∧ 0 ≤ h2 ∧ h2 ≤ 6) ∧ 60 ≤ f 570) ∧ E_ = "java/lang/IllegalStateException" ∧ M1 c = some (xO c kn1 ch) ∧ stC G M1 (c + 1) f ∧ kpC G M1 (c + 31) kb kn1 ch fs))) := by
  refine xcE.ofI (cc := cX10_tell) (nL := 5) (ret := (some .int)) (by decide) rfl (Nat.le_of_ble_eq_true rfl) ?_
  intro p_ e_ s_ m_ args_ below_ meth_ c_ ls Q hQ E hF_ hxt_ hl
  have E : sE p_ l_ e_ rmX10_tell s_ m_ args_ below_ meth_ c_ cX10_tell 5 wsX10_tell RX10 "tell" (some .int) G b_ M N := E
  have S := E.1
  have hx_ := S.1
  have hb_ := S.2.1
  have hK := E.2.2.2.2.1
  have hV := E.2.2.2.2.2.2
  have hl : lv_has ls 5 [(0, .ref c), (1, .int (sI s)), (2, .int (sI d)), (3, .int (sI h2))] := hl
  have inX10_ : ∀ w ∈ wsX100, w ∈ wsX10_tell := fun _ h => List.mem_cons_of_mem _ (List.mem_append_left _ (List.mem_append_left _ (List.mem_append_left _ (List.mem_append_left _ (List.mem_append_left _ (List.mem_append_right _ h))))))
  have inX6_ : ∀ w ∈ wsX60, w ∈ wsX10_tell := fun _ h => List.mem_cons_of_mem _ (List.mem_append_left _ (List.mem_append_left _ (List.mem_append_left _ (List.mem_append_left _ (List.mem_append_right _ h)))))
  have inX8_ : ∀ w ∈ wsX80, w ∈ wsX10_tell := fun _ h => List.mem_cons_of_mem _ (List.mem_append_left _ (List.mem_append_left _ (List.mem_append_left _ (List.mem_append_right _ h))))
  have hbN : b_ ≤ N := by have h1 := hV.1.1; have h2 := hV.2.2; omega
  have kn0 := sOk_N hok
  refine lv_aload_n hx_ hb_ dX10_tell_0 rfl (lv_at hl 0 rfl) ?_
  refine lv_iload_n hx_ hb_ dX10_tell_1 rfl (lv_at hl 1 rfl) ?_
  refine xk_Vv E hF_ hxt_ hQ hV (As := [.int (sI s)]) (rest := []) (kX10_needStone l_ G b_ M N c kn ch f s hc0 hst (by omega) (by omega) (by omega)) (cwV 1 S.2.2.2.2 gX10_tell_X10_needStone rfl rfl rfl (by decide +kernel) ⟨Nat.le_of_ble_eq_true rfl, Nat.le_of_ble_eq_true rfl⟩) (ci := 8) hc0 rfl rfl rfl hl.1 (Nat.le_of_ble_eq_true rfl) dX10_tell_2 (c1 := 1) (s1 := 6) ⟨⟨rfl, rfl⟩, by decide, by decide⟩ ⟨Nat.le_of_ble_eq_true rfl, Nat.le_of_ble_eq_true rfl⟩ ?_ (fun M1 N2 H locs hp3 hV => ?_)
  · rintro E9 M9 N9 ⟨hN5, hf6, hq7⟩
    rcases hq7 with ⟨c8, ee9⟩
    · have hc10 : M9 c = some (xO c kn ch) := (hf6 c ).trans hc0
      have hc11 : stC G M9 (c + 1) f := hst.fr (fun x q8 q9 => hf6 x )
      have hc12 : kpC G M9 (c + 31) kb kn ch fs := hkp.fr (fun x q8 => hf6 x )
      exact ⟨_, by omega, fun x q0 q1 q2 q3 => hf6 x , Or.inl ⟨(by first | exact c8 | omega), ee9, hc10, hc11, hc12⟩⟩
  obtain ⟨hN13, hf14, hq15⟩ := hp3
  rw [hN13] at hV
  rcases hq15 with c16
  · refine lv_iload_n hx_ hb_ dX10_tell_5 rfl (lv_at hl 2 rfl) ?_
    refine xk_Sv E hF_ hxt_ hQ hV (As := [.int (sI d)]) (rest := []) (kX10_needDate l_ G b_ M1 N d (by omega) (by omega)) (va_cwS 1 S.2.2.2.2 gX10_tell_X10_needDate rfl rfl rfl (by decide +kernel) ⟨Nat.le_of_ble_eq_true rfl, Nat.le_of_ble_eq_true rfl⟩) rfl rfl hl.1 (Nat.le_of_ble_eq_true rfl) dX10_tell_6 (c1 := 2) (s1 := 12) ⟨⟨rfl, rfl⟩, by decide, by decide⟩ ⟨Nat.le_of_ble_eq_true rfl, Nat.le_of_ble_eq_true rfl⟩ ?_ (fun M17 N18 H locs hp19 hV => ?_)
    · rintro E9 M9 N9 ⟨hN21, hf22, hq23⟩
      rcases hq23 with ⟨c24, ee25⟩
      · have hc26 : M9 c = some (xO c kn ch) := ((hf22 c ).trans (hf14 c )).trans hc0
        have hc27 : stC G M9 (c + 1) f := hst.fr (fun x q8 q9 => (hf22 x ).trans (hf14 x ))
        have hc28 : kpC G M9 (c + 31) kb kn ch fs := hkp.fr (fun x q8 => (hf22 x ).trans (hf14 x ))
        exact ⟨_, by omega, fun x q0 q1 q2 q3 => (hf22 x ).trans (hf14 x ), Or.inr (Or.inl ⟨(⟨by omega, fun h => c24 h.1⟩), ee25, hc26, hc27, hc28⟩)⟩
    obtain ⟨hN29, hf30, hq31⟩ := hp19
    rw [hN29] at hV
    rcases hq31 with c32
    · refine lv_iload_n hx_ hb_ dX10_tell_9 rfl (lv_at hl 3 rfl) ?_
      refine si_const S dX10_tell_10 ?_
      refine si_bipush S dX10_tell_11 (by decide) ?_
      refine xk_Sv E hF_ hxt_ hQ hV (As := [.int (sI h2), .int (sI 0), .int (sI 6)]) (rest := []) (kX10_needRange l_ G b_ M17 N h2 0 6 (by omega) (by omega)) (va_cwS 3 S.2.2.2.2 gX10_tell_X10_needRange rfl rfl rfl (by decide +kernel) ⟨Nat.le_of_ble_eq_true rfl, Nat.le_of_ble_eq_true rfl⟩) rfl rfl hl.1 (Nat.le_of_ble_eq_true rfl) dX10_tell_13 (c1 := 3) (s1 := 18) ⟨⟨rfl, rfl⟩, by decide, by decide⟩ ⟨Nat.le_of_ble_eq_true rfl, Nat.le_of_ble_eq_true rfl⟩ ?_ (fun M33 N34 H locs hp35 hV => ?_)
      · rintro E9 M9 N9 ⟨hN37, hf38, hq39⟩
        rcases hq39 with ⟨c40, ee41⟩
        · have hc42 : M9 c = some (xO c kn ch) := (((hf38 c ).trans (hf30 c )).trans (hf14 c )).trans hc0
          have hc43 : stC G M9 (c + 1) f := hst.fr (fun x q8 q9 => ((hf38 x ).trans (hf30 x )).trans (hf14 x ))
          have hc44 : kpC G M9 (c + 31) kb kn ch fs := hkp.fr (fun x q8 => ((hf38 x ).trans (hf30 x )).trans (hf14 x ))
          exact ⟨_, by omega, fun x q0 q1 q2 q3 => ((hf38 x ).trans (hf30 x )).trans (hf14 x ), Or.inr (Or.inl ⟨(⟨by omega, fun h => c40 h.2⟩), ee41, hc42, hc43, hc44⟩)⟩
      obtain ⟨hN45, hf46, hq47⟩ := hp35
      rw [hN45] at hV
      rcases hq47 with c48
      · refine lv_aload_n hx_ hb_ dX10_tell_16 rfl (lv_at hl 0 rfl) ?_
        have hc49 : M33 c = some (xO c kn ch) := (((hf46 c ).trans (hf30 c )).trans (hf14 c )).trans hc0
        refine sc_get (ci := 8) (C := RX10) (T := TX10) (n := 11) S hK hV inX10_ hc49 rfl 0 (by decide) (S.2.2.2.2 _ (List.mem_of_getElem? (i := 3) rfl)) rfl rfl dX10_tell_17 ?_
        have hc50 : stC G M33 (c + 1) f := hst.fr (fun x q8 q9 => ((hf46 x ).trans (hf30 x )).trans (hf14 x ))
        refine sc_getN (ci := 4) (C := RX6) (T := TX6) (n := 8) S hK hV inX6_ (hc50).1 rfl 4 (by decide) (E.2.2.2.2.2.1.1.2.1 _ (List.mem_of_getElem? (i := 10) rfl)) rfl rfl dX10_tell_20 ?_
        refine sk_VP E hV (As := []) (rest := []) (kTf l_ G b_ M33 N (c + 10) 5 (f 570) 300 (tvT f) (60 ≤ f 570) ((hc50).2.2.2.2.2.1) (by omega) (by omega)) (cwV 0 S.2.2.2.2 gX10_tell_X8_isFull rfl rfl rfl (by decide +kernel) ⟨Nat.le_of_ble_eq_true rfl, Nat.le_of_ble_eq_true rfl⟩) (ci := 6) ((hc50).2.2.2.2.2.1).1 rfl rfl rfl hl.1 (Nat.le_of_ble_eq_true rfl) dX10_tell_23 (c1 := 3) (s1 := 18) ⟨⟨rfl, rfl⟩, by decide, by decide⟩ (fun H locs hV => ?_)
        refine sq_eq (tgt := 39) S dX10_tell_26 (by decide) (fun c51 => ?_) (fun c51 => ?_)
        · refine lv_aload_n hx_ hb_ dX10_tell_39 rfl (lv_at hl 0 rfl) ?_
          have hc52 : kpC G M33 (c + 31) kb kn ch fs := hkp.fr (fun x q8 => ((hf46 x ).trans (hf30 x )).trans (hf14 x ))
          refine sk_Vv E hV (As := []) (rest := []) (kX10_keepState l_ G b_ M33 N c kn ch f kb fs hc49 hc50 hc52 (by omega) (by omega) (by omega)) (cwV 0 S.2.2.2.2 gX10_tell_X10_keepState rfl rfl rfl (by decide +kernel) ⟨Nat.le_of_ble_eq_true rfl, Nat.le_of_ble_eq_true rfl⟩) (ci := 8) hc49 rfl rfl rfl hl.1 (Nat.le_of_ble_eq_true rfl) dX10_tell_40 (c1 := 18) (s1 := 2918) ⟨⟨rfl, rfl⟩, by decide, by decide⟩ (fun M53 N54 H locs hp55 hV => ?_)
          obtain ⟨kn157, hN58, hc59, hc60, hf61⟩ := hp55
          have hc62 : stC G M53 (c + 1) f := hc50.fr (fun x q8 q9 => hf61 x (by omega) (by omega) (by omega))
          have hx63 : M53 (c + 1) = some (sObj 4 [.ref (c + 2), .ref (c + 4), .ref (c + 6), .ref (c + 8), .ref (c + 10), .ref (c + 12), .ref (c + 14), .int (sI (f 571))]) := (hc62).1
          have hx64 : stK G M53 (c + 2) 7 (f 568) 70 (tvS f) := (hc62).2.1
          have hx65 : stK G M53 (c + 4) 2 (f 569) 80 (tvC f) := (hc62).2.2.1
          have hx66 : stK G M53 (c + 6) 2 4 8 (tvD f) := (hc62).2.2.2.1
          have hx67 : stK G M53 (c + 8) 6 6 36 (tvP f) := (hc62).2.2.2.2.1
          have hx68 : stK G M53 (c + 10) 5 (f 570) 300 (tvT f) := (hc62).2.2.2.2.2.1
          have hx69 : stK G M53 (c + 12) 4 (f 572) 80 (tvW f) := (hc62).2.2.2.2.2.2.1
          have hx70 : stK G M53 (c + 14) 3 (f 573) 24 (tvO f) := (hc62).2.2.2.2.2.2.2
          refine lv_aload_n hx_ hb_ dX10_tell_43 rfl (lv_at hl 0 rfl) ?_
          refine sc_get (ci := 8) (C := RX10) (T := TX10) (n := 11) S hK hV inX10_ hc59 rfl 0 (by decide) (S.2.2.2.2 _ (List.mem_of_getElem? (i := 3) rfl)) rfl rfl dX10_tell_44 ?_
          refine lv_dup hx_ hb_ dX10_tell_47 rfl ?_
          refine sc_getN (ci := 4) (C := RX6) (T := TX6) (n := 8) S hK hV inX6_ hx63 rfl 7 (by decide) (E.2.2.2.2.2.1.1.2.1 _ (List.mem_of_getElem? (i := 14) rfl)) rfl rfl dX10_tell_48 ?_
          refine si_const S dX10_tell_51 ?_
          refine si_add S dX10_tell_52 ?_
          refine sc_putN (ci := 4) (C := RX6) (T := TX6) (n := 8) S hK hV inX6_ tyX6_ok nmX6 hx63 rfl 7 (by decide) (E.2.2.2.2.2.1.1.2.1 _ (List.mem_of_getElem? (i := 14) rfl)) rfl rfl rfl rfl (Nat.le_of_ble_eq_true rfl) dX10_tell_53 (fs1 := [.ref (c + 2), .ref (c + 4), .ref (c + 6), .ref (c + 8), .ref (c + 10), .ref (c + 12), .ref (c + 14), .int (sI ((f 571) + 1))]) rfl (fun M71 H locs hM71 hV => ?_)
          have hc72 : M71 (c + 1) = some (sObj 4 [.ref (c + 2), .ref (c + 4), .ref (c + 6), .ref (c + 8), .ref (c + 10), .ref (c + 12), .ref (c + 14), .int (sI ((f 571) + 1))]) := (congrFun hM71 (c + 1)).trans (va_up_self M53 (c + 1) _)
          refine lv_aload_n hx_ hb_ dX10_tell_56 rfl (lv_at hl 0 rfl) ?_
          have hc73 : M71 c = some (xO c kn157 (chn ch)) := ((congrFun hM71 c).trans (va_up_ne M53 _ (by omega))).trans hc59
          refine sc_get (ci := 8) (C := RX10) (T := TX10) (n := 11) S hK hV inX10_ hc73 rfl 0 (by decide) (S.2.2.2.2 _ (List.mem_of_getElem? (i := 3) rfl)) rfl rfl dX10_tell_57 ?_
          refine sc_getN (ci := 4) (C := RX6) (T := TX6) (n := 8) S hK hV inX6_ hc72 rfl 4 (by decide) (E.2.2.2.2.2.1.1.2.1 _ (List.mem_of_getElem? (i := 10) rfl)) rfl rfl dX10_tell_60 ?_
          have hc74 : stK G M71 (c + 10) 5 (f 570) 300 (tvT f) := hx68.fr (fun x q8 q9 => (congrFun hM71 x).trans (va_up_ne M53 _ (by omega)))
          refine sk_Vi E hV (As := []) (rest := []) (kTa l_ G b_ M71 N54 (c + 10) 5 (f 570) 300 (tvT f) hc74 (by omega)) (cwV 0 S.2.2.2.2 gX10_tell_X8_add rfl rfl rfl (by decide +kernel) ⟨Nat.le_of_ble_eq_true rfl, Nat.le_of_ble_eq_true rfl⟩) (ci := 6) (hc74).1 rfl rfl rfl hl.1 (Nat.le_of_ble_eq_true rfl) dX10_tell_63 (c1 := 18) (s1 := 2918) ⟨⟨rfl, rfl⟩, by decide, by decide⟩ (fun z78 M75 N76 H locs hp77 hV => ?_)
          obtain ⟨ez79, hN80, hc81, hf82⟩ := hp77
          rw [hN80] at hV
          rw [ez79]
          refine lv_istore (lv' := [(4, .int (sI (f 570))), (0, .ref c), (1, .int (sI s)), (2, .int (sI d)), (3, .int (sI h2))]) hx_ hb_ dX10_tell_66 hl (by decide) rfl (fun ls hl => ?_)
          refine lv_aload_n hx_ hb_ dX10_tell_68 rfl (lv_at hl 1 rfl) ?_
          have hc83 : M75 c = some (xO c kn157 (chn ch)) := (hf82 c (by omega) (by omega)).trans hc73
          refine sc_get (ci := 8) (C := RX10) (T := TX10) (n := 11) S hK hV inX10_ hc83 rfl 0 (by decide) (S.2.2.2.2 _ (List.mem_of_getElem? (i := 3) rfl)) rfl rfl dX10_tell_69 ?_
          have hc84 : M75 (c + 1) = some (sObj 4 [.ref (c + 2), .ref (c + 4), .ref (c + 6), .ref (c + 8), .ref (c + 10), .ref (c + 12), .ref (c + 14), .int (sI ((f 571) + 1))]) := (hf82 (c + 1) (by omega) (by omega)).trans hc72
          refine sc_getN (ci := 4) (C := RX6) (T := TX6) (n := 8) S hK hV inX6_ hc84 rfl 4 (by decide) (E.2.2.2.2.2.1.1.2.1 _ (List.mem_of_getElem? (i := 10) rfl)) rfl rfl dX10_tell_72 ?_
          refine lv_iload hx_ hb_ dX10_tell_75 (lv_at hl 0 rfl) ?_
          refine si_const S dX10_tell_77 ?_
          refine lv_iload_n hx_ hb_ dX10_tell_78 rfl (lv_at hl 2 rfl) ?_
          refine sk_Vv E hV (As := [.int (sI (f 570)), .int (sI 0), .int (sI s)]) (rest := []) (kTw l_ G b_ M75 N54 (c + 10) 5 ((f 570) + 1) 300 (tvZ (tvT f) (f 570)) (f 570) 0 s hc81 (by omega) (by omega)) (cwV 3 S.2.2.2.2 gX10_tell_X8_set rfl rfl rfl (by decide +kernel) ⟨Nat.le_of_ble_eq_true rfl, Nat.le_of_ble_eq_true rfl⟩) (ci := 6) (hc81).1 rfl rfl rfl hl.1 (Nat.le_of_ble_eq_true rfl) dX10_tell_79 (c1 := 18) (s1 := 2918) ⟨⟨rfl, rfl⟩, by decide, by decide⟩ (fun M85 N86 H locs hp87 hV => ?_)
          obtain ⟨hN89, hc90, hf91⟩ := hp87
          rw [hN89] at hV
          refine lv_aload_n hx_ hb_ dX10_tell_82 rfl (lv_at hl 1 rfl) ?_
          have hc92 : M85 c = some (xO c kn157 (chn ch)) := (hf91 c (by omega)).trans hc83
          refine sc_get (ci := 8) (C := RX10) (T := TX10) (n := 11) S hK hV inX10_ hc92 rfl 0 (by decide) (S.2.2.2.2 _ (List.mem_of_getElem? (i := 3) rfl)) rfl rfl dX10_tell_83 ?_
          have hc93 : M85 (c + 1) = some (sObj 4 [.ref (c + 2), .ref (c + 4), .ref (c + 6), .ref (c + 8), .ref (c + 10), .ref (c + 12), .ref (c + 14), .int (sI ((f 571) + 1))]) := (hf91 (c + 1) (by omega)).trans hc84
          refine sc_getN (ci := 4) (C := RX6) (T := TX6) (n := 8) S hK hV inX6_ hc93 rfl 4 (by decide) (E.2.2.2.2.2.1.1.2.1 _ (List.mem_of_getElem? (i := 10) rfl)) rfl rfl dX10_tell_86 ?_
          refine lv_iload hx_ hb_ dX10_tell_89 (lv_at hl 0 rfl) ?_
          refine si_const S dX10_tell_91 ?_
          refine lv_iload_n hx_ hb_ dX10_tell_92 rfl (lv_at hl 3 rfl) ?_
          refine sk_Vv E hV (As := [.int (sI (f 570)), .int (sI 1), .int (sI d)]) (rest := []) (kTw l_ G b_ M85 N54 (c + 10) 5 ((f 570) + 1) 300 (tvU (tvZ (tvT f) (f 570)) (f 570) 0 s) (f 570) 1 d hc90 (by omega) (by omega)) (cwV 3 S.2.2.2.2 gX10_tell_X8_set rfl rfl rfl (by decide +kernel) ⟨Nat.le_of_ble_eq_true rfl, Nat.le_of_ble_eq_true rfl⟩) (ci := 6) (hc90).1 rfl rfl rfl hl.1 (Nat.le_of_ble_eq_true rfl) dX10_tell_93 (c1 := 18) (s1 := 2918) ⟨⟨rfl, rfl⟩, by decide, by decide⟩ (fun M94 N95 H locs hp96 hV => ?_)
          obtain ⟨hN98, hc99, hf100⟩ := hp96
          rw [hN98] at hV
          refine lv_aload_n hx_ hb_ dX10_tell_96 rfl (lv_at hl 1 rfl) ?_
          have hc101 : M94 c = some (xO c kn157 (chn ch)) := (hf100 c (by omega)).trans hc92
          refine sc_get (ci := 8) (C := RX10) (T := TX10) (n := 11) S hK hV inX10_ hc101 rfl 0 (by decide) (S.2.2.2.2 _ (List.mem_of_getElem? (i := 3) rfl)) rfl rfl dX10_tell_97 ?_
          have hc102 : M94 (c + 1) = some (sObj 4 [.ref (c + 2), .ref (c + 4), .ref (c + 6), .ref (c + 8), .ref (c + 10), .ref (c + 12), .ref (c + 14), .int (sI ((f 571) + 1))]) := (hf100 (c + 1) (by omega)).trans hc93
          refine sc_getN (ci := 4) (C := RX6) (T := TX6) (n := 8) S hK hV inX6_ hc102 rfl 4 (by decide) (E.2.2.2.2.2.1.1.2.1 _ (List.mem_of_getElem? (i := 10) rfl)) rfl rfl dX10_tell_100 ?_
          refine lv_iload hx_ hb_ dX10_tell_103 (lv_at hl 0 rfl) ?_
          refine si_const S dX10_tell_105 ?_
          refine lv_iload_n hx_ hb_ dX10_tell_106 rfl (lv_at hl 4 rfl) ?_
          refine sk_Vv E hV (As := [.int (sI (f 570)), .int (sI 2), .int (sI h2)]) (rest := []) (kTw l_ G b_ M94 N54 (c + 10) 5 ((f 570) + 1) 300 (tvU (tvU (tvZ (tvT f) (f 570)) (f 570) 0 s) (f 570) 1 d) (f 570) 2 h2 hc99 (by omega) (by omega)) (cwV 3 S.2.2.2.2 gX10_tell_X8_set rfl rfl rfl (by decide +kernel) ⟨Nat.le_of_ble_eq_true rfl, Nat.le_of_ble_eq_true rfl⟩) (ci := 6) (hc99).1 rfl rfl rfl hl.1 (Nat.le_of_ble_eq_true rfl) dX10_tell_107 (c1 := 18) (s1 := 2918) ⟨⟨rfl, rfl⟩, by decide, by decide⟩ (fun M103 N104 H locs hp105 hV => ?_)
          obtain ⟨hN107, hc108, hf109⟩ := hp105
          rw [hN107] at hV
          refine lv_aload_n hx_ hb_ dX10_tell_110 rfl (lv_at hl 1 rfl) ?_
          have hc110 : M103 c = some (xO c kn157 (chn ch)) := (hf109 c (by omega)).trans hc101
          refine sc_get (ci := 8) (C := RX10) (T := TX10) (n := 11) S hK hV inX10_ hc110 rfl 0 (by decide) (S.2.2.2.2 _ (List.mem_of_getElem? (i := 3) rfl)) rfl rfl dX10_tell_111 ?_
          have hc111 : M103 (c + 1) = some (sObj 4 [.ref (c + 2), .ref (c + 4), .ref (c + 6), .ref (c + 8), .ref (c + 10), .ref (c + 12), .ref (c + 14), .int (sI ((f 571) + 1))]) := (hf109 (c + 1) (by omega)).trans hc102
          refine sc_getN (ci := 4) (C := RX6) (T := TX6) (n := 8) S hK hV inX6_ hc111 rfl 4 (by decide) (E.2.2.2.2.2.1.1.2.1 _ (List.mem_of_getElem? (i := 10) rfl)) rfl rfl dX10_tell_114 ?_
          refine lv_iload hx_ hb_ dX10_tell_117 (lv_at hl 0 rfl) ?_
          refine si_const S dX10_tell_119 ?_
          refine lv_aload_n hx_ hb_ dX10_tell_120 rfl (lv_at hl 1 rfl) ?_
          refine sc_get (ci := 8) (C := RX10) (T := TX10) (n := 11) S hK hV inX10_ hc110 rfl 0 (by decide) (S.2.2.2.2 _ (List.mem_of_getElem? (i := 3) rfl)) rfl rfl dX10_tell_121 ?_
          refine sc_getN (ci := 4) (C := RX6) (T := TX6) (n := 8) S hK hV inX6_ hc111 rfl 7 (by decide) (E.2.2.2.2.2.1.1.2.1 _ (List.mem_of_getElem? (i := 14) rfl)) rfl rfl dX10_tell_124 ?_
          refine sk_Vv E hV (As := [.int (sI (f 570)), .int (sI 3), .int (sI ((f 571) + 1))]) (rest := []) (kTw l_ G b_ M103 N54 (c + 10) 5 ((f 570) + 1) 300 (tvU (tvU (tvU (tvZ (tvT f) (f 570)) (f 570) 0 s) (f 570) 1 d) (f 570) 2 h2) (f 570) 3 ((f 571) + 1) hc108 (by omega) (by omega)) (cwV 3 S.2.2.2.2 gX10_tell_X8_set rfl rfl rfl (by decide +kernel) ⟨Nat.le_of_ble_eq_true rfl, Nat.le_of_ble_eq_true rfl⟩) (ci := 6) (hc108).1 rfl rfl rfl hl.1 (Nat.le_of_ble_eq_true rfl) dX10_tell_127 (c1 := 18) (s1 := 2918) ⟨⟨rfl, rfl⟩, by decide, by decide⟩ (fun M112 N113 H locs hp114 hV => ?_)
          obtain ⟨hN116, hc117, hf118⟩ := hp114
          rw [hN116] at hV
          refine lv_aload_n hx_ hb_ dX10_tell_130 rfl (lv_at hl 1 rfl) ?_
          have hc119 : M112 c = some (xO c kn157 (chn ch)) := (hf118 c (by omega)).trans hc110
          refine sc_get (ci := 8) (C := RX10) (T := TX10) (n := 11) S hK hV inX10_ hc119 rfl 0 (by decide) (S.2.2.2.2 _ (List.mem_of_getElem? (i := 3) rfl)) rfl rfl dX10_tell_131 ?_
          have hc120 : M112 (c + 1) = some (sObj 4 [.ref (c + 2), .ref (c + 4), .ref (c + 6), .ref (c + 8), .ref (c + 10), .ref (c + 12), .ref (c + 14), .int (sI ((f 571) + 1))]) := (hf118 (c + 1) (by omega)).trans hc111
          refine sc_getN (ci := 4) (C := RX6) (T := TX6) (n := 8) S hK hV inX6_ hc120 rfl 4 (by decide) (E.2.2.2.2.2.1.1.2.1 _ (List.mem_of_getElem? (i := 10) rfl)) rfl rfl dX10_tell_134 ?_
          refine lv_iload hx_ hb_ dX10_tell_137 (lv_at hl 0 rfl) ?_
          refine si_const S dX10_tell_139 ?_
          refine si_const S dX10_tell_140 ?_
          refine sk_Vv E hV (As := [.int (sI (f 570)), .int (sI 4), .int (sI (-1))]) (rest := []) (kTw l_ G b_ M112 N54 (c + 10) 5 ((f 570) + 1) 300 (tvU (tvU (tvU (tvU (tvZ (tvT f) (f 570)) (f 570) 0 s) (f 570) 1 d) (f 570) 2 h2) (f 570) 3 ((f 571) + 1)) (f 570) 4 (-1) hc117 (by omega) (by omega)) (cwV 3 S.2.2.2.2 gX10_tell_X8_set rfl rfl rfl (by decide +kernel) ⟨Nat.le_of_ble_eq_true rfl, Nat.le_of_ble_eq_true rfl⟩) (ci := 6) (hc117).1 rfl rfl rfl hl.1 (Nat.le_of_ble_eq_true rfl) dX10_tell_141 (c1 := 18) (s1 := 2918) ⟨⟨rfl, rfl⟩, by decide, by decide⟩ (fun M121 N122 H locs hp123 hV => ?_)
          obtain ⟨hN125, hc126, hf127⟩ := hp123
          rw [hN125] at hV
          refine lv_iload hx_ hb_ dX10_tell_144 (lv_at hl 0 rfl) ?_
          have hc128 : M121 (c + 1) = some (sObj 4 [.ref (c + 2), .ref (c + 4), .ref (c + 6), .ref (c + 8), .ref (c + 10), .ref (c + 12), .ref (c + 14), .int (sI ((f 571) + 1))]) := (hf127 (c + 1) (by omega)).trans hc120
          have hc129 : stK G M121 (c + 2) 7 (f 568) 70 (tvS f) := hx64.fr (fun x q8 q9 => ((((((hf127 x (by omega)).trans (hf118 x (by omega))).trans (hf109 x (by omega))).trans (hf100 x (by omega))).trans (hf91 x (by omega))).trans (hf82 x (by omega) (by omega))).trans ((congrFun hM71 x).trans (va_up_ne M53 _ (by omega))))
          have hc130 : stK G M121 (c + 4) 2 (f 569) 80 (tvC f) := hx65.fr (fun x q8 q9 => ((((((hf127 x (by omega)).trans (hf118 x (by omega))).trans (hf109 x (by omega))).trans (hf100 x (by omega))).trans (hf91 x (by omega))).trans (hf82 x (by omega) (by omega))).trans ((congrFun hM71 x).trans (va_up_ne M53 _ (by omega))))
          have hc131 : stK G M121 (c + 6) 2 4 8 (tvD f) := hx66.fr (fun x q8 q9 => ((((((hf127 x (by omega)).trans (hf118 x (by omega))).trans (hf109 x (by omega))).trans (hf100 x (by omega))).trans (hf91 x (by omega))).trans (hf82 x (by omega) (by omega))).trans ((congrFun hM71 x).trans (va_up_ne M53 _ (by omega))))
          have hc132 : stK G M121 (c + 8) 6 6 36 (tvP f) := hx67.fr (fun x q8 q9 => ((((((hf127 x (by omega)).trans (hf118 x (by omega))).trans (hf109 x (by omega))).trans (hf100 x (by omega))).trans (hf91 x (by omega))).trans (hf82 x (by omega) (by omega))).trans ((congrFun hM71 x).trans (va_up_ne M53 _ (by omega))))
          have hc133 : stK G M121 (c + 12) 4 (f 572) 80 (tvW f) := hx69.fr (fun x q8 q9 => ((((((hf127 x (by omega)).trans (hf118 x (by omega))).trans (hf109 x (by omega))).trans (hf100 x (by omega))).trans (hf91 x (by omega))).trans (hf82 x (by omega) (by omega))).trans ((congrFun hM71 x).trans (va_up_ne M53 _ (by omega))))
          have hc134 : stK G M121 (c + 14) 3 (f 573) 24 (tvO f) := hx70.fr (fun x q8 q9 => ((((((hf127 x (by omega)).trans (hf118 x (by omega))).trans (hf109 x (by omega))).trans (hf100 x (by omega))).trans (hf91 x (by omega))).trans (hf82 x (by omega) (by omega))).trans ((congrFun hM71 x).trans (va_up_ne M53 _ (by omega))))
          have hc135 : M121 c = some (xO c kn157 (chn ch)) := (hf127 c (by omega)).trans hc119
          have hc136 : kpC G M121 (c + 31) kb kn157 (chn ch) (fsn ch fs f) := hc60.fr (fun x q8 => ((((((hf127 x (by omega)).trans (hf118 x (by omega))).trans (hf109 x (by omega))).trans (hf100 x (by omega))).trans (hf91 x (by omega))).trans (hf82 x (by omega) (by omega))).trans ((congrFun hM71 x).trans (va_up_ne M53 _ (by omega))))
          exact xr_i E hQ dX10_tell_146 ⟨Nat.le_of_ble_eq_true rfl, Nat.le_of_ble_eq_true rfl⟩ hV (⟨_, by omega, fun x q0 q1 q2 q3 => ((((((((((hf127 x (by omega)).trans (hf118 x (by omega))).trans (hf109 x (by omega))).trans (hf100 x (by omega))).trans (hf91 x (by omega))).trans (hf82 x (by omega) (by omega))).trans ((congrFun hM71 x).trans (va_up_ne M53 _ (by omega)))).trans (hf61 x (by omega) (by omega) (by omega))).trans (hf46 x )).trans (hf30 x )).trans (hf14 x ), ⟨(⟨by omega, ⟨by assumption, by omega, by omega⟩, by omega⟩), rfl, hc135, stC_u9 kn0 (by rw [show (tlF f s (dayI d + 3652) h2) 571 = f 571 + 1 from by unfold tlF iup; (repeat (first | rw [if_pos (by omega)] | rw [if_neg (by omega)]))]; exact hc128) hc129 hc130 hc131 hc132 (by rw [show (tlF f s (dayI d + 3652) h2) 570 = f 570 + 1 from by unfold tlF iup; (repeat (first | rw [if_pos (by omega)] | rw [if_neg (by omega)]))]; exact hc126.c (fun i j q1 q2 q3 q4 => tlF_t (by omega) (dat_dt (by assumption)) i j (by omega) (by omega))) hc133 hc134 (fun q w1 w2 w3 w4 w5 => by unfold tlF iup; (repeat (first | rw [if_pos (by omega)] | rw [if_neg (by omega)]))), hc136⟩⟩)
        · have hc137 : kpC G M33 (c + 31) kb kn ch fs := hkp.fr (fun x q8 => ((hf46 x ).trans (hf30 x )).trans (hf14 x ))
          exact xt_S (own := RX10) (rest := []) E hF_ hxt_ hQ hlt (ik := 80) (is := 253) (ic := 84) (cls := "java/lang/IllegalStateException") (text := "60 are told") (by decide +kernel) xg_IS (List.mem_of_getElem? (i := 1) rfl) (List.mem_of_getElem? (i := 2) rfl) (fun _ h => List.mem_cons_of_mem _ (List.mem_append_left _ (List.mem_append_left _ (List.mem_append_right _ h)))) (List.mem_of_getElem? (i := 13) rfl) hl.1 dX10_tell_29 dX10_tell_32 dX10_tell_33 dX10_tell_35 dX10_tell_38 ⟨Nat.le_of_ble_eq_true rfl, Nat.le_of_ble_eq_true rfl, Nat.le_of_ble_eq_true rfl, Nat.le_of_ble_eq_true rfl⟩ ⟨Nat.le_of_ble_eq_true rfl, Nat.le_of_ble_eq_true rfl⟩ hV (fun N9 h9 => ⟨_, by omega, fun x q0 q1 q2 q3 => ((hf46 x ).trans (hf30 x )).trans (hf14 x ), Or.inr (Or.inr (⟨(⟨by omega, ⟨by assumption, by omega, by omega⟩, by omega⟩), rfl, hc49, hc50, hc137⟩))⟩)

