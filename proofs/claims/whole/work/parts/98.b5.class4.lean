/-! The class, further on. -/
abbrev rmX10_show : Room := { frames := 7, cells := 25, slots := 3000, locals := 159 }
set_option maxHeartbeats 4000000 in
set_option maxRecDepth 100000 in
theorem kX10_show (l_ : Launch) (G : sG) (b_ : Nat) (M : sM) (N : Nat) (c : Nat) (kn ch : Int) (f : sF) (kb : Nat) (fs : Int → sF) (s d n l : Int) (hc0 : M c = some (xO c kn ch)) (hst : stC G M (c + 1) f) (hkp : kpC G M (c + 31) kb kn ch fs) (hlt : l_.stackTraces = false) (hok : sOk f) (hkb : c + 60 ≤ kb) (hkN : kb ≤ N) (hli : sLi f) (hr : sR s ∧ sR d ∧ sR n ∧ sR l) : xcI l_ yX10_show wsX10_show rmX10_show G b_ M N [.ref c, .int (sI s), .int (sI d), .int (sI n), .int (sI l)] (fun z_ M1 N1 => ∃ kn1 : Int, N ≤ N1 ∧ (∀ x : Nat, ¬ (x = c) → ¬ (x = c + 31) → ¬ (kb ≤ x) → ¬ (c + 1 ≤ x ∧ x < c + 1 + 15) → M1 x = M x) ∧ ((((0 ≤ s ∧ s < f 568) ∧ (isDt d ∧ (1 ≤ n ∧ n ≤ 400) ∧ (1 ≤ l ∧ l ≤ 1000) ∧ dayI d + n ≤ 109573) ∧ f 572 < 20 ∧ cbP f s (d / 10000) (dayI d + 3652) n l) ∧ z_ = f 572 ∧ M1 c = some (xO c kn1 (chn ch)) ∧ stC G M1 (c + 1) (shF f s (dayI d + 3652) n l) ∧ kpC G M1 (c + 31) kb kn1 (chn ch) (fsn ch fs f)))) (fun E_ M1 N1 => ∃ kn1 : Int, N ≤ N1 ∧ (∀ x : Nat, ¬ (x = c) → ¬ (x = c + 31) → ¬ (kb ≤ x) → ¬ (c + 1 ≤ x ∧ x < c + 1 + 15) → M1 x = M x) ∧ (((¬ (0 ≤ s ∧ s < f 568)) ∧ E_ = "java/lang/IndexOutOfBoundsException" ∧ M1 c = some (xO c kn1 ch) ∧ stC G M1 (c + 1) f ∧ kpC G M1 (c + 31) kb kn1 ch fs) ∨ (((0 ≤ s ∧ s < f 568) ∧ ¬ (isDt d ∧ (1 ≤ n ∧ n ≤ 400) ∧ (1 ≤ l ∧ l ≤ 1000) ∧ dayI d + n ≤ 109573)) ∧ E_ = "java/lang/IllegalArgumentException" ∧ M1 c = some (xO c kn1 ch) ∧ stC G M1 (c + 1) f ∧ kpC G M1 (c + 31) kb kn1 ch fs) ∨ (((0 ≤ s ∧ s < f 568) ∧ (isDt d ∧ (1 ≤ n ∧ n ≤ 400) ∧ (1 ≤ l ∧ l ≤ 1000) ∧ dayI d + n ≤ 109573) ∧ ¬ (f 572 < 20 ∧ cbP f s (d / 10000) (dayI d + 3652) n l)) ∧ E_ = "java/lang/IllegalStateException" ∧ M1 c = some (xO c kn1 ch) ∧ stC G M1 (c + 1) f ∧ kpC G M1 (c + 31) kb kn1 ch fs))) := by
  refine xcE.ofI (cc := cX10_show) (nL := 6) (ret := (some .int)) (by decide) rfl (Nat.le_of_ble_eq_true rfl) ?_
  intro p_ e_ s_ m_ args_ below_ meth_ c_ ls Q hQ E hF_ hxt_ hl
  have E : sE p_ l_ e_ rmX10_show s_ m_ args_ below_ meth_ c_ cX10_show 6 wsX10_show RX10 "show" (some .int) G b_ M N := E
  have S := E.1
  have hx_ := S.1
  have hb_ := S.2.1
  have hK := E.2.2.2.2.1
  have hV := E.2.2.2.2.2.2
  have hl : lv_has ls 6 [(0, .ref c), (1, .int (sI s)), (2, .int (sI d)), (3, .int (sI n)), (4, .int (sI l))] := hl
  have inX10_ : ∀ w ∈ wsX100, w ∈ wsX10_show := fun _ h => List.mem_cons_of_mem _ (List.mem_append_left _ (List.mem_append_left _ (List.mem_append_left _ (List.mem_append_left _ (List.mem_append_left _ (List.mem_append_right _ h))))))
  have inX6_ : ∀ w ∈ wsX60, w ∈ wsX10_show := fun _ h => List.mem_cons_of_mem _ (List.mem_append_left _ (List.mem_append_left _ (List.mem_append_left _ (List.mem_append_left _ (List.mem_append_right _ h)))))
  have inX8_ : ∀ w ∈ wsX80, w ∈ wsX10_show := fun _ h => List.mem_cons_of_mem _ (List.mem_append_left _ (List.mem_append_left _ (List.mem_append_left _ (List.mem_append_right _ h))))
  have hbN : b_ ≤ N := by have h1 := hV.1.1; have h2 := hV.2.2; omega
  have kn0 := sOk_N hok
  have hny := nyr_2200
  refine lv_aload_n hx_ hb_ dX10_show_0 rfl (lv_at hl 0 rfl) ?_
  refine lv_iload_n hx_ hb_ dX10_show_1 rfl (lv_at hl 1 rfl) ?_
  refine xk_Vv E hF_ hxt_ hQ hV (As := [.int (sI s)]) (rest := []) (kX10_needStone l_ G b_ M N c kn ch f s hc0 hst (by omega) (by omega) (by omega)) (cwV 1 S.2.2.2.2 gX10_show_X10_needStone rfl rfl rfl (by decide +kernel) ⟨Nat.le_of_ble_eq_true rfl, Nat.le_of_ble_eq_true rfl⟩) (ci := 8) hc0 rfl rfl rfl hl.1 (Nat.le_of_ble_eq_true rfl) dX10_show_2 (c1 := 1) (s1 := 6) ⟨⟨rfl, rfl⟩, by decide, by decide⟩ ⟨Nat.le_of_ble_eq_true rfl, Nat.le_of_ble_eq_true rfl⟩ ?_ (fun M1 N2 H locs hp3 hV => ?_)
  · rintro E9 M9 N9 ⟨hN5, hf6, hq7⟩
    rcases hq7 with ⟨c8, ee9⟩
    · have hc10 : M9 c = some (xO c kn ch) := (hf6 c ).trans hc0
      have hc11 : stC G M9 (c + 1) f := hst.fr (fun x q8 q9 => hf6 x )
      have hc12 : kpC G M9 (c + 31) kb kn ch fs := hkp.fr (fun x q8 => hf6 x )
      exact ⟨_, by omega, fun x q0 q1 q2 q3 => hf6 x , Or.inl ⟨(by first | exact c8 | omega), ee9, hc10, hc11, hc12⟩⟩
  obtain ⟨hN13, hf14, hq15⟩ := hp3
  rw [hN13] at hV
  rcases hq15 with c16
  · refine lv_iload_n hx_ hb_ dX10_show_5 rfl (lv_at hl 2 rfl) ?_
    refine xk_Sv E hF_ hxt_ hQ hV (As := [.int (sI d)]) (rest := []) (kX10_needDate l_ G b_ M1 N d (by omega) (by omega)) (va_cwS 1 S.2.2.2.2 gX10_show_X10_needDate rfl rfl rfl (by decide +kernel) ⟨Nat.le_of_ble_eq_true rfl, Nat.le_of_ble_eq_true rfl⟩) rfl rfl hl.1 (Nat.le_of_ble_eq_true rfl) dX10_show_6 (c1 := 2) (s1 := 12) ⟨⟨rfl, rfl⟩, by decide, by decide⟩ ⟨Nat.le_of_ble_eq_true rfl, Nat.le_of_ble_eq_true rfl⟩ ?_ (fun M17 N18 H locs hp19 hV => ?_)
    · rintro E9 M9 N9 ⟨hN21, hf22, hq23⟩
      rcases hq23 with ⟨c24, ee25⟩
      · have hc26 : M9 c = some (xO c kn ch) := ((hf22 c ).trans (hf14 c )).trans hc0
        have hc27 : stC G M9 (c + 1) f := hst.fr (fun x q8 q9 => (hf22 x ).trans (hf14 x ))
        have hc28 : kpC G M9 (c + 31) kb kn ch fs := hkp.fr (fun x q8 => (hf22 x ).trans (hf14 x ))
        exact ⟨_, by omega, fun x q0 q1 q2 q3 => (hf22 x ).trans (hf14 x ), Or.inr (Or.inl ⟨(⟨by omega, fun h => c24 h.1⟩), ee25, hc26, hc27, hc28⟩)⟩
    obtain ⟨hN29, hf30, hq31⟩ := hp19
    rw [hN29] at hV
    rcases hq31 with c32
    · refine lv_iload_n hx_ hb_ dX10_show_9 rfl (lv_at hl 3 rfl) ?_
      refine si_const S dX10_show_10 ?_
      refine si_sipush S dX10_show_11 (by decide) ?_
      refine xk_Sv E hF_ hxt_ hQ hV (As := [.int (sI n), .int (sI 1), .int (sI 400)]) (rest := []) (kX10_needRange l_ G b_ M17 N n 1 400 (by omega) (by omega)) (va_cwS 3 S.2.2.2.2 gX10_show_X10_needRange rfl rfl rfl (by decide +kernel) ⟨Nat.le_of_ble_eq_true rfl, Nat.le_of_ble_eq_true rfl⟩) rfl rfl hl.1 (Nat.le_of_ble_eq_true rfl) dX10_show_14 (c1 := 3) (s1 := 18) ⟨⟨rfl, rfl⟩, by decide, by decide⟩ ⟨Nat.le_of_ble_eq_true rfl, Nat.le_of_ble_eq_true rfl⟩ ?_ (fun M33 N34 H locs hp35 hV => ?_)
      · rintro E9 M9 N9 ⟨hN37, hf38, hq39⟩
        rcases hq39 with ⟨c40, ee41⟩
        · have hc42 : M9 c = some (xO c kn ch) := (((hf38 c ).trans (hf30 c )).trans (hf14 c )).trans hc0
          have hc43 : stC G M9 (c + 1) f := hst.fr (fun x q8 q9 => ((hf38 x ).trans (hf30 x )).trans (hf14 x ))
          have hc44 : kpC G M9 (c + 31) kb kn ch fs := hkp.fr (fun x q8 => ((hf38 x ).trans (hf30 x )).trans (hf14 x ))
          exact ⟨_, by omega, fun x q0 q1 q2 q3 => ((hf38 x ).trans (hf30 x )).trans (hf14 x ), Or.inr (Or.inl ⟨(⟨by omega, fun h => c40 h.2.1⟩), ee41, hc42, hc43, hc44⟩)⟩
      obtain ⟨hN45, hf46, hq47⟩ := hp35
      rw [hN45] at hV
      rcases hq47 with c48
      · refine lv_iload hx_ hb_ dX10_show_17 (lv_at hl 4 rfl) ?_
        refine si_const S dX10_show_19 ?_
        refine si_sipush S dX10_show_20 (by decide) ?_
        refine xk_Sv E hF_ hxt_ hQ hV (As := [.int (sI l), .int (sI 1), .int (sI 1000)]) (rest := []) (kX10_needRange l_ G b_ M33 N l 1 1000 (by omega) (by omega)) (va_cwS 3 S.2.2.2.2 gX10_show_X10_needRange rfl rfl rfl (by decide +kernel) ⟨Nat.le_of_ble_eq_true rfl, Nat.le_of_ble_eq_true rfl⟩) rfl rfl hl.1 (Nat.le_of_ble_eq_true rfl) dX10_show_23 (c1 := 4) (s1 := 24) ⟨⟨rfl, rfl⟩, by decide, by decide⟩ ⟨Nat.le_of_ble_eq_true rfl, Nat.le_of_ble_eq_true rfl⟩ ?_ (fun M49 N50 H locs hp51 hV => ?_)
        · rintro E9 M9 N9 ⟨hN53, hf54, hq55⟩
          rcases hq55 with ⟨c56, ee57⟩
          · have hc58 : M9 c = some (xO c kn ch) := ((((hf54 c ).trans (hf46 c )).trans (hf30 c )).trans (hf14 c )).trans hc0
            have hc59 : stC G M9 (c + 1) f := hst.fr (fun x q8 q9 => (((hf54 x ).trans (hf46 x )).trans (hf30 x )).trans (hf14 x ))
            have hc60 : kpC G M9 (c + 31) kb kn ch fs := hkp.fr (fun x q8 => (((hf54 x ).trans (hf46 x )).trans (hf30 x )).trans (hf14 x ))
            exact ⟨_, by omega, fun x q0 q1 q2 q3 => (((hf54 x ).trans (hf46 x )).trans (hf30 x )).trans (hf14 x ), Or.inr (Or.inl ⟨(⟨by omega, fun h => c56 h.2.2.1⟩), ee57, hc58, hc59, hc60⟩)⟩
        obtain ⟨hN61, hf62, hq63⟩ := hp51
        rw [hN61] at hV
        rcases hq63 with c64
        · refine lv_iload_n hx_ hb_ dX10_show_26 rfl (lv_at hl 3 rfl) ?_
          refine si_const S dX10_show_27 ?_
          refine lv_iload_n hx_ hb_ dX10_show_28 rfl (lv_at hl 2 rfl) ?_
          have hdy := dt_y (show isDt d by assumption)
          have hnb := nyr_b (y := d / 10000) (by omega)
          have hnb2 := nyr_b (y := d / 10000 + 1) (by omega)
          refine sk_SP E hV (As := [.int (sI d)]) (rest := [.int (sI 1), .int (sI n)]) (kX0_daysLeft l_ G b_ M49 N d (by omega)) (va_cwS 1 S.2.2.2.2 gX10_show_X0_daysLeft rfl rfl rfl (by decide +kernel) ⟨Nat.le_of_ble_eq_true rfl, Nat.le_of_ble_eq_true rfl⟩) rfl rfl hl.1 (Nat.le_of_ble_eq_true rfl) dX10_show_29 (c1 := 4) (s1 := 24) ⟨⟨rfl, rfl⟩, by decide, by decide⟩ (fun H locs hV => ?_)
          refine xk_Sv E hF_ hxt_ hQ hV (As := [.int (sI n), .int (sI 1), .int (sI (nyr 2200 - dayI d))]) (rest := []) (kX10_needRange l_ G b_ M49 N n 1 (nyr 2200 - dayI d) (by omega) (by omega)) (va_cwS 3 S.2.2.2.2 gX10_show_X10_needRange rfl rfl rfl (by decide +kernel) ⟨Nat.le_of_ble_eq_true rfl, Nat.le_of_ble_eq_true rfl⟩) rfl rfl hl.1 (Nat.le_of_ble_eq_true rfl) dX10_show_32 (c1 := 5) (s1 := 30) ⟨⟨rfl, rfl⟩, by decide, by decide⟩ ⟨Nat.le_of_ble_eq_true rfl, Nat.le_of_ble_eq_true rfl⟩ ?_ (fun M65 N66 H locs hp67 hV => ?_)
          · rintro E9 M9 N9 ⟨hN69, hf70, hq71⟩
            rcases hq71 with ⟨c72, ee73⟩
            · have hc74 : M9 c = some (xO c kn ch) := (((((hf70 c ).trans (hf62 c )).trans (hf46 c )).trans (hf30 c )).trans (hf14 c )).trans hc0
              have hc75 : stC G M9 (c + 1) f := hst.fr (fun x q8 q9 => ((((hf70 x ).trans (hf62 x )).trans (hf46 x )).trans (hf30 x )).trans (hf14 x ))
              have hc76 : kpC G M9 (c + 31) kb kn ch fs := hkp.fr (fun x q8 => ((((hf70 x ).trans (hf62 x )).trans (hf46 x )).trans (hf30 x )).trans (hf14 x ))
              exact ⟨_, by omega, fun x q0 q1 q2 q3 => ((((hf70 x ).trans (hf62 x )).trans (hf46 x )).trans (hf30 x )).trans (hf14 x ), Or.inr (Or.inl ⟨(⟨by omega, fun h => c72 ⟨h.2.1.1, by have := h.2.2.2; omega⟩⟩), ee73, hc74, hc75, hc76⟩)⟩
          obtain ⟨hN77, hf78, hq79⟩ := hp67
          rw [hN77] at hV
          rcases hq79 with c80
          · refine lv_aload_n hx_ hb_ dX10_show_35 rfl (lv_at hl 0 rfl) ?_
            have hc81 : M65 c = some (xO c kn ch) := (((((hf78 c ).trans (hf62 c )).trans (hf46 c )).trans (hf30 c )).trans (hf14 c )).trans hc0
            refine sc_get (ci := 8) (C := RX10) (T := TX10) (n := 11) S hK hV inX10_ hc81 rfl 0 (by decide) (S.2.2.2.2 _ (List.mem_of_getElem? (i := 3) rfl)) rfl rfl dX10_show_36 ?_
            have hc82 : stC G M65 (c + 1) f := hst.fr (fun x q8 q9 => ((((hf78 x ).trans (hf62 x )).trans (hf46 x )).trans (hf30 x )).trans (hf14 x ))
            refine sc_getN (ci := 4) (C := RX6) (T := TX6) (n := 8) S hK hV inX6_ (hc82).1 rfl 5 (by decide) (E.2.2.2.2.2.1.1.2.1 _ (List.mem_of_getElem? (i := 12) rfl)) rfl rfl dX10_show_39 ?_
            refine sk_VP E hV (As := []) (rest := []) (kTf l_ G b_ M65 N (c + 12) 4 (f 572) 80 (tvW f) (20 ≤ f 572) ((hc82).2.2.2.2.2.2.1) (by omega) (by omega)) (cwV 0 S.2.2.2.2 gX10_show_X8_isFull rfl rfl rfl (by decide +kernel) ⟨Nat.le_of_ble_eq_true rfl, Nat.le_of_ble_eq_true rfl⟩) (ci := 6) ((hc82).2.2.2.2.2.2.1).1 rfl rfl rfl hl.1 (Nat.le_of_ble_eq_true rfl) dX10_show_42 (c1 := 5) (s1 := 30) ⟨⟨rfl, rfl⟩, by decide, by decide⟩ (fun H locs hV => ?_)
            refine sq_ne (tgt := 63) S dX10_show_45 (by decide) (fun c83 => ?_) (fun c83 => ?_)
            · have hc84 : kpC G M65 (c + 31) kb kn ch fs := hkp.fr (fun x q8 => ((((hf78 x ).trans (hf62 x )).trans (hf46 x )).trans (hf30 x )).trans (hf14 x ))
              exact xt_W (own := RX10) (rest := []) E hF_ hxt_ hQ hlt (ik := 80) (is := 313) (ic := 84) (cls := "java/lang/IllegalStateException") (text := "20 shows are told, or it is too much light") (by decide +kernel) xg_IS (List.mem_of_getElem? (i := 1) rfl) (List.mem_of_getElem? (i := 2) rfl) (fun _ h => List.mem_cons_of_mem _ (List.mem_append_left _ (List.mem_append_left _ (List.mem_append_right _ h)))) (List.mem_of_getElem? (i := 19) rfl) hl.1 dX10_show_63 dX10_show_66 dX10_show_67 dX10_show_70 dX10_show_73 ⟨Nat.le_of_ble_eq_true rfl, Nat.le_of_ble_eq_true rfl, Nat.le_of_ble_eq_true rfl, Nat.le_of_ble_eq_true rfl⟩ ⟨Nat.le_of_ble_eq_true rfl, Nat.le_of_ble_eq_true rfl⟩ hV (fun N9 h9 => ⟨_, by omega, fun x q0 q1 q2 q3 => ((((hf78 x ).trans (hf62 x )).trans (hf46 x )).trans (hf30 x )).trans (hf14 x ), Or.inr (Or.inr (⟨(by first | exact ⟨by omega, ⟨by assumption, by omega, by omega, by omega⟩, fun h => absurd h.1 (by omega)⟩ | exact ⟨by omega, ⟨by assumption, by omega, by omega, by omega⟩, fun h => absurd ((cb_md (by omega) (by omega)).mp h.2) (by omega)⟩), rfl, hc81, hc82, hc84⟩))⟩)
            · refine lv_iload_n hx_ hb_ dX10_show_48 rfl (lv_at hl 3 rfl) ?_
              refine lv_aload_n hx_ hb_ dX10_show_49 rfl (lv_at hl 0 rfl) ?_
              refine sc_get (ci := 8) (C := RX10) (T := TX10) (n := 11) S hK hV inX10_ hc81 rfl 0 (by decide) (S.2.2.2.2 _ (List.mem_of_getElem? (i := 3) rfl)) rfl rfl dX10_show_50 ?_
              refine lv_iload_n hx_ hb_ dX10_show_53 rfl (lv_at hl 1 rfl) ?_
              refine lv_iload_n hx_ hb_ dX10_show_54 rfl (lv_at hl 2 rfl) ?_
              refine lv_iload hx_ hb_ dX10_show_55 (lv_at hl 4 rfl) ?_
              refine sk_SP E hV (As := [.ref (c + 1), .int (sI s), .int (sI d), .int (sI l)]) (rest := [.int (sI n)]) (kX4_daysPossible l_ G b_ M65 N (c + 1) f s d l hc82 (by omega) (by omega) (by omega) (by assumption) (by omega)) (va_cwS 4 S.2.2.2.2 gX10_show_X4_daysPossible rfl rfl rfl (by decide +kernel) ⟨Nat.le_of_ble_eq_true rfl, Nat.le_of_ble_eq_true rfl⟩) rfl rfl hl.1 (Nat.le_of_ble_eq_true rfl) dX10_show_57 (c1 := 5) (s1 := 30) ⟨⟨rfl, rfl⟩, by decide, by decide⟩ (fun H locs hV => ?_)
              have hmr := md_r f s (d / 10000) (dayI d + 3652) l
              refine sb_le (tgt := 74) S dX10_show_60 (by decide) (by omega) (fun c85 => ?_) (fun c85 => ?_)
              · refine lv_aload_n hx_ hb_ dX10_show_74 rfl (lv_at hl 0 rfl) ?_
                have hc86 : kpC G M65 (c + 31) kb kn ch fs := hkp.fr (fun x q8 => ((((hf78 x ).trans (hf62 x )).trans (hf46 x )).trans (hf30 x )).trans (hf14 x ))
                refine sk_Vv E hV (As := []) (rest := []) (kX10_keepState l_ G b_ M65 N c kn ch f kb fs hc81 hc82 hc86 (by omega) (by omega) (by omega)) (cwV 0 S.2.2.2.2 gX10_show_X10_keepState rfl rfl rfl (by decide +kernel) ⟨Nat.le_of_ble_eq_true rfl, Nat.le_of_ble_eq_true rfl⟩) (ci := 8) hc81 rfl rfl rfl hl.1 (Nat.le_of_ble_eq_true rfl) dX10_show_75 (c1 := 20) (s1 := 2930) ⟨⟨rfl, rfl⟩, by decide, by decide⟩ (fun M87 N88 H locs hp89 hV => ?_)
                obtain ⟨kn191, hN92, hc93, hc94, hf95⟩ := hp89
                refine lv_aload_n hx_ hb_ dX10_show_78 rfl (lv_at hl 0 rfl) ?_
                refine sc_get (ci := 8) (C := RX10) (T := TX10) (n := 11) S hK hV inX10_ hc93 rfl 0 (by decide) (S.2.2.2.2 _ (List.mem_of_getElem? (i := 3) rfl)) rfl rfl dX10_show_79 ?_
                have hc96 : stC G M87 (c + 1) f := hc82.fr (fun x q8 q9 => hf95 x (by omega) (by omega) (by omega))
                refine sc_getN (ci := 4) (C := RX6) (T := TX6) (n := 8) S hK hV inX6_ (hc96).1 rfl 5 (by decide) (E.2.2.2.2.2.1.1.2.1 _ (List.mem_of_getElem? (i := 12) rfl)) rfl rfl dX10_show_82 ?_
                have hx97 : M87 (c + 1) = some (sObj 4 [.ref (c + 2), .ref (c + 4), .ref (c + 6), .ref (c + 8), .ref (c + 10), .ref (c + 12), .ref (c + 14), .int (sI (f 571))]) := (hc96).1
                have hx98 : stK G M87 (c + 2) 7 (f 568) 70 (tvS f) := (hc96).2.1
                have hx99 : stK G M87 (c + 4) 2 (f 569) 80 (tvC f) := (hc96).2.2.1
                have hx100 : stK G M87 (c + 6) 2 4 8 (tvD f) := (hc96).2.2.2.1
                have hx101 : stK G M87 (c + 8) 6 6 36 (tvP f) := (hc96).2.2.2.2.1
                have hx102 : stK G M87 (c + 10) 5 (f 570) 300 (tvT f) := (hc96).2.2.2.2.2.1
                have hx103 : stK G M87 (c + 12) 4 (f 572) 80 (tvW f) := (hc96).2.2.2.2.2.2.1
                have hx104 : stK G M87 (c + 14) 3 (f 573) 24 (tvO f) := (hc96).2.2.2.2.2.2.2
                refine sk_Vi E hV (As := []) (rest := []) (kTa l_ G b_ M87 N88 (c + 12) 4 (f 572) 80 (tvW f) hx103 (by omega)) (cwV 0 S.2.2.2.2 gX10_show_X8_add rfl rfl rfl (by decide +kernel) ⟨Nat.le_of_ble_eq_true rfl, Nat.le_of_ble_eq_true rfl⟩) (ci := 6) (hx103).1 rfl rfl rfl hl.1 (Nat.le_of_ble_eq_true rfl) dX10_show_85 (c1 := 20) (s1 := 2930) ⟨⟨rfl, rfl⟩, by decide, by decide⟩ (fun z108 M105 N106 H locs hp107 hV => ?_)
                obtain ⟨ez109, hN110, hc111, hf112⟩ := hp107
                rw [hN110] at hV
                rw [ez109]
                refine lv_istore (lv' := [(5, .int (sI (f 572))), (0, .ref c), (1, .int (sI s)), (2, .int (sI d)), (3, .int (sI n)), (4, .int (sI l))]) hx_ hb_ dX10_show_88 hl (by decide) rfl (fun ls hl => ?_)
                refine lv_aload_n hx_ hb_ dX10_show_90 rfl (lv_at hl 1 rfl) ?_
                have hc113 : M105 c = some (xO c kn191 (chn ch)) := (hf112 c (by omega) (by omega)).trans hc93
                refine sc_get (ci := 8) (C := RX10) (T := TX10) (n := 11) S hK hV inX10_ hc113 rfl 0 (by decide) (S.2.2.2.2 _ (List.mem_of_getElem? (i := 3) rfl)) rfl rfl dX10_show_91 ?_
                have hc114 : M105 (c + 1) = some (sObj 4 [.ref (c + 2), .ref (c + 4), .ref (c + 6), .ref (c + 8), .ref (c + 10), .ref (c + 12), .ref (c + 14), .int (sI (f 571))]) := (hf112 (c + 1) (by omega) (by omega)).trans hx97
                refine sc_getN (ci := 4) (C := RX6) (T := TX6) (n := 8) S hK hV inX6_ hc114 rfl 5 (by decide) (E.2.2.2.2.2.1.1.2.1 _ (List.mem_of_getElem? (i := 12) rfl)) rfl rfl dX10_show_94 ?_
                refine lv_iload hx_ hb_ dX10_show_97 (lv_at hl 0 rfl) ?_
                refine si_const S dX10_show_99 ?_
                refine lv_iload_n hx_ hb_ dX10_show_100 rfl (lv_at hl 2 rfl) ?_
                refine sk_Vv E hV (As := [.int (sI (f 572)), .int (sI 0), .int (sI s)]) (rest := []) (kTw l_ G b_ M105 N88 (c + 12) 4 ((f 572) + 1) 80 (tvZ (tvW f) (f 572)) (f 572) 0 s hc111 (by omega) (by omega)) (cwV 3 S.2.2.2.2 gX10_show_X8_set rfl rfl rfl (by decide +kernel) ⟨Nat.le_of_ble_eq_true rfl, Nat.le_of_ble_eq_true rfl⟩) (ci := 6) (hc111).1 rfl rfl rfl hl.1 (Nat.le_of_ble_eq_true rfl) dX10_show_101 (c1 := 20) (s1 := 2930) ⟨⟨rfl, rfl⟩, by decide, by decide⟩ (fun M115 N116 H locs hp117 hV => ?_)
                obtain ⟨hN119, hc120, hf121⟩ := hp117
                rw [hN119] at hV
                refine lv_aload_n hx_ hb_ dX10_show_104 rfl (lv_at hl 1 rfl) ?_
                have hc122 : M115 c = some (xO c kn191 (chn ch)) := (hf121 c (by omega)).trans hc113
                refine sc_get (ci := 8) (C := RX10) (T := TX10) (n := 11) S hK hV inX10_ hc122 rfl 0 (by decide) (S.2.2.2.2 _ (List.mem_of_getElem? (i := 3) rfl)) rfl rfl dX10_show_105 ?_
                have hc123 : M115 (c + 1) = some (sObj 4 [.ref (c + 2), .ref (c + 4), .ref (c + 6), .ref (c + 8), .ref (c + 10), .ref (c + 12), .ref (c + 14), .int (sI (f 571))]) := (hf121 (c + 1) (by omega)).trans hc114
                refine sc_getN (ci := 4) (C := RX6) (T := TX6) (n := 8) S hK hV inX6_ hc123 rfl 5 (by decide) (E.2.2.2.2.2.1.1.2.1 _ (List.mem_of_getElem? (i := 12) rfl)) rfl rfl dX10_show_108 ?_
                refine lv_iload hx_ hb_ dX10_show_111 (lv_at hl 0 rfl) ?_
                refine si_const S dX10_show_113 ?_
                refine lv_iload_n hx_ hb_ dX10_show_114 rfl (lv_at hl 3 rfl) ?_
                refine sk_Vv E hV (As := [.int (sI (f 572)), .int (sI 1), .int (sI d)]) (rest := []) (kTw l_ G b_ M115 N88 (c + 12) 4 ((f 572) + 1) 80 (tvU (tvZ (tvW f) (f 572)) (f 572) 0 s) (f 572) 1 d hc120 (by omega) (by omega)) (cwV 3 S.2.2.2.2 gX10_show_X8_set rfl rfl rfl (by decide +kernel) ⟨Nat.le_of_ble_eq_true rfl, Nat.le_of_ble_eq_true rfl⟩) (ci := 6) (hc120).1 rfl rfl rfl hl.1 (Nat.le_of_ble_eq_true rfl) dX10_show_115 (c1 := 20) (s1 := 2930) ⟨⟨rfl, rfl⟩, by decide, by decide⟩ (fun M124 N125 H locs hp126 hV => ?_)
                obtain ⟨hN128, hc129, hf130⟩ := hp126
                rw [hN128] at hV
                refine lv_aload_n hx_ hb_ dX10_show_118 rfl (lv_at hl 1 rfl) ?_
                have hc131 : M124 c = some (xO c kn191 (chn ch)) := (hf130 c (by omega)).trans hc122
                refine sc_get (ci := 8) (C := RX10) (T := TX10) (n := 11) S hK hV inX10_ hc131 rfl 0 (by decide) (S.2.2.2.2 _ (List.mem_of_getElem? (i := 3) rfl)) rfl rfl dX10_show_119 ?_
                have hc132 : M124 (c + 1) = some (sObj 4 [.ref (c + 2), .ref (c + 4), .ref (c + 6), .ref (c + 8), .ref (c + 10), .ref (c + 12), .ref (c + 14), .int (sI (f 571))]) := (hf130 (c + 1) (by omega)).trans hc123
                refine sc_getN (ci := 4) (C := RX6) (T := TX6) (n := 8) S hK hV inX6_ hc132 rfl 5 (by decide) (E.2.2.2.2.2.1.1.2.1 _ (List.mem_of_getElem? (i := 12) rfl)) rfl rfl dX10_show_122 ?_
                refine lv_iload hx_ hb_ dX10_show_125 (lv_at hl 0 rfl) ?_
                refine si_const S dX10_show_127 ?_
                refine lv_iload_n hx_ hb_ dX10_show_128 rfl (lv_at hl 4 rfl) ?_
                refine sk_Vv E hV (As := [.int (sI (f 572)), .int (sI 2), .int (sI n)]) (rest := []) (kTw l_ G b_ M124 N88 (c + 12) 4 ((f 572) + 1) 80 (tvU (tvU (tvZ (tvW f) (f 572)) (f 572) 0 s) (f 572) 1 d) (f 572) 2 n hc129 (by omega) (by omega)) (cwV 3 S.2.2.2.2 gX10_show_X8_set rfl rfl rfl (by decide +kernel) ⟨Nat.le_of_ble_eq_true rfl, Nat.le_of_ble_eq_true rfl⟩) (ci := 6) (hc129).1 rfl rfl rfl hl.1 (Nat.le_of_ble_eq_true rfl) dX10_show_129 (c1 := 20) (s1 := 2930) ⟨⟨rfl, rfl⟩, by decide, by decide⟩ (fun M133 N134 H locs hp135 hV => ?_)
                obtain ⟨hN137, hc138, hf139⟩ := hp135
                rw [hN137] at hV
                refine lv_aload_n hx_ hb_ dX10_show_132 rfl (lv_at hl 1 rfl) ?_
                have hc140 : M133 c = some (xO c kn191 (chn ch)) := (hf139 c (by omega)).trans hc131
                refine sc_get (ci := 8) (C := RX10) (T := TX10) (n := 11) S hK hV inX10_ hc140 rfl 0 (by decide) (S.2.2.2.2 _ (List.mem_of_getElem? (i := 3) rfl)) rfl rfl dX10_show_133 ?_
                have hc141 : M133 (c + 1) = some (sObj 4 [.ref (c + 2), .ref (c + 4), .ref (c + 6), .ref (c + 8), .ref (c + 10), .ref (c + 12), .ref (c + 14), .int (sI (f 571))]) := (hf139 (c + 1) (by omega)).trans hc132
                refine sc_getN (ci := 4) (C := RX6) (T := TX6) (n := 8) S hK hV inX6_ hc141 rfl 5 (by decide) (E.2.2.2.2.2.1.1.2.1 _ (List.mem_of_getElem? (i := 12) rfl)) rfl rfl dX10_show_136 ?_
                refine lv_iload hx_ hb_ dX10_show_139 (lv_at hl 0 rfl) ?_
                refine si_const S dX10_show_141 ?_
                refine lv_iload hx_ hb_ dX10_show_142 (lv_at hl 5 rfl) ?_
                refine sk_Vv E hV (As := [.int (sI (f 572)), .int (sI 3), .int (sI l)]) (rest := []) (kTw l_ G b_ M133 N88 (c + 12) 4 ((f 572) + 1) 80 (tvU (tvU (tvU (tvZ (tvW f) (f 572)) (f 572) 0 s) (f 572) 1 d) (f 572) 2 n) (f 572) 3 l hc138 (by omega) (by omega)) (cwV 3 S.2.2.2.2 gX10_show_X8_set rfl rfl rfl (by decide +kernel) ⟨Nat.le_of_ble_eq_true rfl, Nat.le_of_ble_eq_true rfl⟩) (ci := 6) (hc138).1 rfl rfl rfl hl.1 (Nat.le_of_ble_eq_true rfl) dX10_show_144 (c1 := 20) (s1 := 2930) ⟨⟨rfl, rfl⟩, by decide, by decide⟩ (fun M142 N143 H locs hp144 hV => ?_)
                obtain ⟨hN146, hc147, hf148⟩ := hp144
                rw [hN146] at hV
                refine lv_iload hx_ hb_ dX10_show_147 (lv_at hl 0 rfl) ?_
                have hc149 : M142 (c + 1) = some (sObj 4 [.ref (c + 2), .ref (c + 4), .ref (c + 6), .ref (c + 8), .ref (c + 10), .ref (c + 12), .ref (c + 14), .int (sI (f 571))]) := (hf148 (c + 1) (by omega)).trans hc141
                have hc150 : stK G M142 (c + 2) 7 (f 568) 70 (tvS f) := hx98.fr (fun x q8 q9 => ((((hf148 x (by omega)).trans (hf139 x (by omega))).trans (hf130 x (by omega))).trans (hf121 x (by omega))).trans (hf112 x (by omega) (by omega)))
                have hc151 : stK G M142 (c + 4) 2 (f 569) 80 (tvC f) := hx99.fr (fun x q8 q9 => ((((hf148 x (by omega)).trans (hf139 x (by omega))).trans (hf130 x (by omega))).trans (hf121 x (by omega))).trans (hf112 x (by omega) (by omega)))
                have hc152 : stK G M142 (c + 6) 2 4 8 (tvD f) := hx100.fr (fun x q8 q9 => ((((hf148 x (by omega)).trans (hf139 x (by omega))).trans (hf130 x (by omega))).trans (hf121 x (by omega))).trans (hf112 x (by omega) (by omega)))
                have hc153 : stK G M142 (c + 8) 6 6 36 (tvP f) := hx101.fr (fun x q8 q9 => ((((hf148 x (by omega)).trans (hf139 x (by omega))).trans (hf130 x (by omega))).trans (hf121 x (by omega))).trans (hf112 x (by omega) (by omega)))
                have hc154 : stK G M142 (c + 10) 5 (f 570) 300 (tvT f) := hx102.fr (fun x q8 q9 => ((((hf148 x (by omega)).trans (hf139 x (by omega))).trans (hf130 x (by omega))).trans (hf121 x (by omega))).trans (hf112 x (by omega) (by omega)))
                have hc155 : stK G M142 (c + 14) 3 (f 573) 24 (tvO f) := hx104.fr (fun x q8 q9 => ((((hf148 x (by omega)).trans (hf139 x (by omega))).trans (hf130 x (by omega))).trans (hf121 x (by omega))).trans (hf112 x (by omega) (by omega)))
                have hc156 : M142 c = some (xO c kn191 (chn ch)) := (hf148 c (by omega)).trans hc140
                have hc157 : kpC G M142 (c + 31) kb kn191 (chn ch) (fsn ch fs f) := hc94.fr (fun x q8 => ((((hf148 x (by omega)).trans (hf139 x (by omega))).trans (hf130 x (by omega))).trans (hf121 x (by omega))).trans (hf112 x (by omega) (by omega)))
                exact xr_i E hQ dX10_show_149 ⟨Nat.le_of_ble_eq_true rfl, Nat.le_of_ble_eq_true rfl⟩ hV (⟨_, by omega, fun x q0 q1 q2 q3 => ((((((((((hf148 x (by omega)).trans (hf139 x (by omega))).trans (hf130 x (by omega))).trans (hf121 x (by omega))).trans (hf112 x (by omega) (by omega))).trans (hf95 x (by omega) (by omega) (by omega))).trans (hf78 x )).trans (hf62 x )).trans (hf46 x )).trans (hf30 x )).trans (hf14 x ), ⟨(⟨by omega, ⟨by assumption, by omega, by omega, by omega⟩, by omega, (cb_md (by omega) (by omega)).mpr (by omega)⟩), rfl, hc156, stC_u5 kn0 hc149 hc150 hc151 hc152 hc153 hc154 (by rw [show (shF f s (dayI d + 3652) n l) 572 = f 572 + 1 from by unfold shF iup; (repeat (first | rw [if_pos (by omega)] | rw [if_neg (by omega)]))]; exact hc147.c (fun i j q1 q2 q3 q4 => shF_t (by omega) (dat_dt (by assumption)) i j (by omega) (by omega))) hc155 (fun q w1 w2 w3 w4 => by unfold shF iup; (repeat (first | rw [if_pos (by omega)] | rw [if_neg (by omega)]))), hc157⟩⟩)
              · have hc158 : kpC G M65 (c + 31) kb kn ch fs := hkp.fr (fun x q8 => ((((hf78 x ).trans (hf62 x )).trans (hf46 x )).trans (hf30 x )).trans (hf14 x ))
                exact xt_W (own := RX10) (rest := []) E hF_ hxt_ hQ hlt (ik := 80) (is := 313) (ic := 84) (cls := "java/lang/IllegalStateException") (text := "20 shows are told, or it is too much light") (by decide +kernel) xg_IS (List.mem_of_getElem? (i := 1) rfl) (List.mem_of_getElem? (i := 2) rfl) (fun _ h => List.mem_cons_of_mem _ (List.mem_append_left _ (List.mem_append_left _ (List.mem_append_right _ h)))) (List.mem_of_getElem? (i := 19) rfl) hl.1 dX10_show_63 dX10_show_66 dX10_show_67 dX10_show_70 dX10_show_73 ⟨Nat.le_of_ble_eq_true rfl, Nat.le_of_ble_eq_true rfl, Nat.le_of_ble_eq_true rfl, Nat.le_of_ble_eq_true rfl⟩ ⟨Nat.le_of_ble_eq_true rfl, Nat.le_of_ble_eq_true rfl⟩ hV (fun N9 h9 => ⟨_, by omega, fun x q0 q1 q2 q3 => ((((hf78 x ).trans (hf62 x )).trans (hf46 x )).trans (hf30 x )).trans (hf14 x ), Or.inr (Or.inr (⟨(by first | exact ⟨by omega, ⟨by assumption, by omega, by omega, by omega⟩, fun h => absurd h.1 (by omega)⟩ | exact ⟨by omega, ⟨by assumption, by omega, by omega, by omega⟩, fun h => absurd ((cb_md (by omega) (by omega)).mp h.2) (by omega)⟩), rfl, hc81, hc82, hc158⟩))⟩)

