/-! The law: wrappers. -/

abbrev rmL_away : Room := { frames := 9, cells := 10, slots := 60, locals := 196 }
set_option maxHeartbeats 4000000 in
set_option maxRecDepth 100000 in
theorem kL_away (l_ : Launch) (G : sG) (b_ : Nat) (M : sM) (N : Nat) (ou : Nat) (g0 : Int → Int) (c : Nat) (kn : Int) (ch : Int) (f : sF) (s : Int) (a : Int) (b : Int) (hc0 : M c = some (xO c kn ch)) (hst : stC G M (c + 1) f) (hkn : knoC G M (c + 54)) (ho9 : M ou = some (sArL G 1 g0)) (hlt : l_.stackTraces = false) (hok : sOk f) (hr : sR s ∧ sR a ∧ sR b) (ho1 : c + 60 ≤ ou) : xcI l_ yL_away wsL_away rmL_away G b_ M N [.ref c, .int (sI s), .int (sI a), .int (sI b), .ref ou] (fun z_ M1 N1 => N ≤ N1 ∧ knoC G M1 (c + 54) ∧ (∀ x : Nat, ¬ (c + 54 ≤ x ∧ x < c + 54 + 3) → ¬ (x = ou) → M1 x = M x) ∧ (((¬ (0 ≤ s ∧ s < f 568)) ∧ z_ = 1 ∧ M1 ou = some (sArL G 1 g0)) ∨ (((0 ≤ s ∧ s < f 568) ∧ ¬ (isDt a ∧ isDt b ∧ a ≤ b)) ∧ z_ = 2 ∧ M1 ou = some (sArL G 1 g0)) ∨ (((0 ≤ s ∧ s < f 568) ∧ isDt a ∧ isDt b ∧ a ≤ b) ∧ z_ = 0 ∧ M1 ou = some (sArL G 1 (iup g0 0 (sW (isum (dayI b - dayI a + 1) (awT f s (dayI a + 3652))))))))) (fun _ _ _ => False) := by
  refine yE.ofI (cc := cL_away) (nL := 6) (ret := (some .int)) (hh := [(0, 12, 15, 25), (0, 12, 19, 19)]) (by decide) rfl (Nat.le_of_ble_eq_true rfl) ?_
  intro p_ e_ s_ m_ args_ below_ meth_ c_ ls Q hQ E hF_ hxt_ hl
  have E : sE p_ l_ e_ rmL_away s_ m_ args_ below_ meth_ c_ cL_away 6 wsL_away RL "away" (some .int) G b_ M N := E
  have S := E.1
  have hx_ := S.1
  have hb_ := S.2.1
  have hK := E.2.2.2.2.1
  have hV := E.2.2.2.2.2.2
  have hl : lv_has ls 6 [(0, .ref c), (1, .int (sI s)), (2, .int (sI a)), (3, .int (sI b)), (4, .ref ou)] := hl
  have inX10_ : ∀ w ∈ wsX100, w ∈ wsL_away := fun _ h => List.mem_cons_of_mem _ (List.mem_append_left _ (List.mem_append_left _ (List.mem_append_left _ (List.mem_append_left _ (List.mem_append_left _ (List.mem_append_right _ h))))))
  have inX6_ : ∀ w ∈ wsX60, w ∈ wsL_away := fun _ h => List.mem_cons_of_mem _ (List.mem_append_left _ (List.mem_append_left _ (List.mem_append_left _ (List.mem_append_left _ (List.mem_append_right _ h)))))
  have inX8_ : ∀ w ∈ wsX80, w ∈ wsL_away := fun _ h => List.mem_cons_of_mem _ (List.mem_append_left _ (List.mem_append_left _ (List.mem_append_left _ (List.mem_append_right _ h))))
  have inX7_ : ∀ w ∈ wsX70, w ∈ wsL_away := fun _ h => List.mem_cons_of_mem _ (List.mem_append_left _ (List.mem_append_left _ (List.mem_append_right _ h)))
  have hbN : b_ ≤ N := by have h1 := hV.1.1; have h2 := hV.2.2; omega
  refine lv_aload hx_ hb_ dL_away_0 (lv_at hl 4 rfl) ?_
  refine si_const S dL_away_2 ?_
  refine lv_aload_n hx_ hb_ dL_away_3 rfl (lv_at hl 0 rfl) ?_
  refine lv_iload_n hx_ hb_ dL_away_4 rfl (lv_at hl 1 rfl) ?_
  refine lv_iload_n hx_ hb_ dL_away_5 rfl (lv_at hl 2 rfl) ?_
  refine lv_iload_n hx_ hb_ dL_away_6 rfl (lv_at hl 3 rfl) ?_
  refine yk_Vi E hF_ hV (As := [.int (sI s), .int (sI a), .int (sI b)]) (rest := [.int (sI 0), .ref ou]) (kX10_away l_ G b_ M N c kn ch f s a b hc0 hst hkn (hlt) (hok) (hr)) (cwV 3 S.2.2.2.2 gL_away_X10_away rfl rfl rfl (by decide +kernel) ⟨Nat.le_of_ble_eq_true rfl, Nat.le_of_ble_eq_true rfl⟩) (ci := 8) hc0 rfl rfl rfl hl.1 (Nat.le_of_ble_eq_true rfl) dL_away_7 (c1 := 10) (s1 := 60) ⟨⟨rfl, rfl⟩, by decide, by decide⟩ ?_ (fun z4 M1 N2 H locs hp3 hV => ?_)
  · rintro E9 M9 N9 H9 locs9 q9 ce9 ⟨hN5, hc8, hf6, hq7⟩ hV hce9 hcv9 hcl9
    rcases hq7 with ⟨c9, ee10⟩ | ⟨c11, ee12⟩
    · subst ee10
      refine vx_catch (own := RL) (name := "java/lang/IndexOutOfBoundsException") S.2.2.2.1 ([] : List ExceptionTableEntry) ⟨0, 12, 15, 25⟩ ([⟨0, 12, 19, 19⟩] : List ExceptionTableEntry) (hxt_.trans rfl) (fun z hz => by cases hz) (by decide) (by decide) (S.2.2.2.2 _ (List.mem_of_getElem? (i := 1) rfl)) (va_Nw.use rfl (hF_.1.1 _ (by decide +kernel))) hce9 hcv9 hcl9 ?_
      refine lv_astore (lv' := [(5, .ref q9), (0, .ref c), (1, .int (sI s)), (2, .int (sI a)), (3, .int (sI b)), (4, .ref ou)]) hx_ hb_ dL_away_15 hl (by decide) rfl (fun ls hl => ?_)
      refine si_const S dL_away_17 ?_
      have hc13 : M9 ou = some (sArL G 1 g0) := (hf6 ou (by omega)).trans ho9
      exact xr_i E hQ dL_away_18 ⟨Nat.le_of_ble_eq_true rfl, Nat.le_of_ble_eq_true rfl⟩ hV (⟨by omega, hc8, fun x q0 q1 => hf6 x (by omega), Or.inl ⟨(c9), rfl, hc13⟩⟩)
    · subst ee12
      refine vx_catch (own := RL) (name := "java/lang/IllegalArgumentException") S.2.2.2.1 ([⟨0, 12, 15, 25⟩] : List ExceptionTableEntry) ⟨0, 12, 19, 19⟩ ([] : List ExceptionTableEntry) (hxt_.trans rfl) (fun z hz => by rcases List.mem_singleton.mp hz with rfl; exact Or.inr ⟨by decide, _, (S.2.2.2.2 _ (List.mem_of_getElem? (i := 1) rfl)), hF_.1.2 _ (by decide +kernel) _ (by decide +kernel) (by decide)⟩) (by decide) (by decide) (S.2.2.2.2 _ (List.mem_of_getElem? (i := 2) rfl)) (va_Nw.use rfl (hF_.1.1 _ (by decide +kernel))) hce9 hcv9 hcl9 ?_
      refine lv_astore (lv' := [(5, .ref q9), (0, .ref c), (1, .int (sI s)), (2, .int (sI a)), (3, .int (sI b)), (4, .ref ou)]) hx_ hb_ dL_away_19 hl (by decide) rfl (fun ls hl => ?_)
      refine si_const S dL_away_21 ?_
      have hc14 : M9 ou = some (sArL G 1 g0) := (hf6 ou (by omega)).trans ho9
      exact xr_i E hQ dL_away_22 ⟨Nat.le_of_ble_eq_true rfl, Nat.le_of_ble_eq_true rfl⟩ hV (⟨by omega, hc8, fun x q0 q1 => hf6 x (by omega), Or.inr (Or.inl ⟨(c11), rfl, hc14⟩)⟩)
  obtain ⟨hN15, hc16, hf17, hq18⟩ := hp3
  rw [hN15] at hV
  rcases hq18 with ⟨c19, ez20⟩
  · rw [ez20]
    refine sl_i2w S dL_away_10 ?_
    have hc21 : M1 ou = some (sArL G 1 g0) := (hf17 ou (by omega)).trans ho9
    refine sc_last S hK hV hc21 (by omega) dL_away_11 (fun M22 H locs hM22 hV => ?_)
    have hc23 : M22 ou = some (sArL G 1 (iup g0 0 (sW (isum (dayI b - dayI a + 1) (awT f s (dayI a + 3652)))))) := (congrFun hM22 ou).trans (va_up_self M1 ou _)
    refine lv_goto (tgt := 23) hx_ hb_ dL_away_12 (by decide) ?_
    refine si_const S dL_away_23 ?_
    have hc24 : knoC G M22 (c + 54) := hc16.fr (fun x q8 q9 => (congrFun hM22 x).trans (va_up_ne M1 _ (by omega)))
    exact xr_i E hQ dL_away_24 ⟨Nat.le_of_ble_eq_true rfl, Nat.le_of_ble_eq_true rfl⟩ hV (⟨by omega, hc24, fun x q0 q1 => ((congrFun hM22 x).trans (va_up_ne M1 _ (by omega))).trans (hf17 x (by omega)), Or.inr (Or.inr (⟨(c19), rfl, hc23⟩))⟩)

abbrev rmL_fee : Room := { frames := 9, cells := 10, slots := 60, locals := 198 }
set_option maxHeartbeats 4000000 in
set_option maxRecDepth 100000 in
theorem kL_fee (l_ : Launch) (G : sG) (b_ : Nat) (M : sM) (N : Nat) (ou : Nat) (g0 : Int → Int) (c : Nat) (kn : Int) (ch : Int) (f : sF) (s : Int) (a : Int) (b : Int) (hc0 : M c = some (xO c kn ch)) (hst : stC G M (c + 1) f) (hkn : knoC G M (c + 54)) (ho9 : M ou = some (sArL G 1 g0)) (hlt : l_.stackTraces = false) (hok : sOk f) (hr : sR s ∧ sR a ∧ sR b) (ho1 : c + 60 ≤ ou) : xcI l_ yL_fee wsL_fee rmL_fee G b_ M N [.ref c, .int (sI s), .int (sI a), .int (sI b), .ref ou] (fun z_ M1 N1 => N ≤ N1 ∧ knoC G M1 (c + 54) ∧ (∀ x : Nat, ¬ (c + 54 ≤ x ∧ x < c + 54 + 3) → ¬ (x = ou) → M1 x = M x) ∧ (((¬ (0 ≤ s ∧ s < f 568)) ∧ z_ = 1 ∧ M1 ou = some (sArL G 1 g0)) ∨ (((0 ≤ s ∧ s < f 568) ∧ ¬ (isDt a ∧ isDt b ∧ a ≤ b)) ∧ z_ = 2 ∧ M1 ou = some (sArL G 1 g0)) ∨ (((0 ≤ s ∧ s < f 568) ∧ isDt a ∧ isDt b ∧ a ≤ b) ∧ z_ = 0 ∧ M1 ou = some (sArL G 1 (iup g0 0 (isum (dayI b - dayI a + 1) (fdT f s (dayI a + 3652)) / 1000)))))) (fun _ _ _ => False) := by
  refine yE.ofI (cc := cL_fee) (nL := 6) (ret := (some .int)) (hh := [(0, 11, 14, 25), (0, 11, 18, 19)]) (by decide) rfl (Nat.le_of_ble_eq_true rfl) ?_
  intro p_ e_ s_ m_ args_ below_ meth_ c_ ls Q hQ E hF_ hxt_ hl
  have E : sE p_ l_ e_ rmL_fee s_ m_ args_ below_ meth_ c_ cL_fee 6 wsL_fee RL "fee" (some .int) G b_ M N := E
  have S := E.1
  have hx_ := S.1
  have hb_ := S.2.1
  have hK := E.2.2.2.2.1
  have hV := E.2.2.2.2.2.2
  have hl : lv_has ls 6 [(0, .ref c), (1, .int (sI s)), (2, .int (sI a)), (3, .int (sI b)), (4, .ref ou)] := hl
  have inX10_ : ∀ w ∈ wsX100, w ∈ wsL_fee := fun _ h => List.mem_cons_of_mem _ (List.mem_append_left _ (List.mem_append_left _ (List.mem_append_left _ (List.mem_append_left _ (List.mem_append_left _ (List.mem_append_right _ h))))))
  have inX6_ : ∀ w ∈ wsX60, w ∈ wsL_fee := fun _ h => List.mem_cons_of_mem _ (List.mem_append_left _ (List.mem_append_left _ (List.mem_append_left _ (List.mem_append_left _ (List.mem_append_right _ h)))))
  have inX8_ : ∀ w ∈ wsX80, w ∈ wsL_fee := fun _ h => List.mem_cons_of_mem _ (List.mem_append_left _ (List.mem_append_left _ (List.mem_append_left _ (List.mem_append_right _ h))))
  have inX7_ : ∀ w ∈ wsX70, w ∈ wsL_fee := fun _ h => List.mem_cons_of_mem _ (List.mem_append_left _ (List.mem_append_left _ (List.mem_append_right _ h)))
  have hbN : b_ ≤ N := by have h1 := hV.1.1; have h2 := hV.2.2; omega
  refine lv_aload hx_ hb_ dL_fee_0 (lv_at hl 4 rfl) ?_
  refine si_const S dL_fee_2 ?_
  refine lv_aload_n hx_ hb_ dL_fee_3 rfl (lv_at hl 0 rfl) ?_
  refine lv_iload_n hx_ hb_ dL_fee_4 rfl (lv_at hl 1 rfl) ?_
  refine lv_iload_n hx_ hb_ dL_fee_5 rfl (lv_at hl 2 rfl) ?_
  refine lv_iload_n hx_ hb_ dL_fee_6 rfl (lv_at hl 3 rfl) ?_
  refine yk_Vl E hF_ hV (As := [.int (sI s), .int (sI a), .int (sI b)]) (rest := [.int (sI 0), .ref ou]) (kX10_fee l_ G b_ M N c kn ch f s a b hc0 hst hkn (hlt) (hok) (hr)) (cwV 3 S.2.2.2.2 gL_fee_X10_fee rfl rfl rfl (by decide +kernel) ⟨Nat.le_of_ble_eq_true rfl, Nat.le_of_ble_eq_true rfl⟩) (ci := 8) hc0 rfl rfl rfl hl.1 (Nat.le_of_ble_eq_true rfl) dL_fee_7 (c1 := 10) (s1 := 60) ⟨⟨rfl, rfl⟩, by decide, by decide⟩ ?_ (fun z4 M1 N2 H locs hp3 hV => ?_)
  · rintro E9 M9 N9 H9 locs9 q9 ce9 ⟨hN5, hc8, hf6, hq7⟩ hV hce9 hcv9 hcl9
    rcases hq7 with ⟨c9, ee10⟩ | ⟨c11, ee12⟩
    · subst ee10
      refine vx_catch (own := RL) (name := "java/lang/IndexOutOfBoundsException") S.2.2.2.1 ([] : List ExceptionTableEntry) ⟨0, 11, 14, 25⟩ ([⟨0, 11, 18, 19⟩] : List ExceptionTableEntry) (hxt_.trans rfl) (fun z hz => by cases hz) (by decide) (by decide) (S.2.2.2.2 _ (List.mem_of_getElem? (i := 1) rfl)) (va_Nw.use rfl (hF_.1.1 _ (by decide +kernel))) hce9 hcv9 hcl9 ?_
      refine lv_astore (lv' := [(5, .ref q9), (0, .ref c), (1, .int (sI s)), (2, .int (sI a)), (3, .int (sI b)), (4, .ref ou)]) hx_ hb_ dL_fee_14 hl (by decide) rfl (fun ls hl => ?_)
      refine si_const S dL_fee_16 ?_
      have hc13 : M9 ou = some (sArL G 1 g0) := (hf6 ou (by omega)).trans ho9
      exact xr_i E hQ dL_fee_17 ⟨Nat.le_of_ble_eq_true rfl, Nat.le_of_ble_eq_true rfl⟩ hV (⟨by omega, hc8, fun x q0 q1 => hf6 x (by omega), Or.inl ⟨(c9), rfl, hc13⟩⟩)
    · subst ee12
      refine vx_catch (own := RL) (name := "java/lang/IllegalArgumentException") S.2.2.2.1 ([⟨0, 11, 14, 25⟩] : List ExceptionTableEntry) ⟨0, 11, 18, 19⟩ ([] : List ExceptionTableEntry) (hxt_.trans rfl) (fun z hz => by rcases List.mem_singleton.mp hz with rfl; exact Or.inr ⟨by decide, _, (S.2.2.2.2 _ (List.mem_of_getElem? (i := 1) rfl)), hF_.1.2 _ (by decide +kernel) _ (by decide +kernel) (by decide)⟩) (by decide) (by decide) (S.2.2.2.2 _ (List.mem_of_getElem? (i := 2) rfl)) (va_Nw.use rfl (hF_.1.1 _ (by decide +kernel))) hce9 hcv9 hcl9 ?_
      refine lv_astore (lv' := [(5, .ref q9), (0, .ref c), (1, .int (sI s)), (2, .int (sI a)), (3, .int (sI b)), (4, .ref ou)]) hx_ hb_ dL_fee_18 hl (by decide) rfl (fun ls hl => ?_)
      refine si_const S dL_fee_20 ?_
      have hc14 : M9 ou = some (sArL G 1 g0) := (hf6 ou (by omega)).trans ho9
      exact xr_i E hQ dL_fee_21 ⟨Nat.le_of_ble_eq_true rfl, Nat.le_of_ble_eq_true rfl⟩ hV (⟨by omega, hc8, fun x q0 q1 => hf6 x (by omega), Or.inr (Or.inl ⟨(c11), rfl, hc14⟩)⟩)
  obtain ⟨hN15, hc16, hf17, hq18⟩ := hp3
  rw [hN15] at hV
  rcases hq18 with ⟨c19, ez20⟩
  · rw [ez20]
    have hc21 : M1 ou = some (sArL G 1 g0) := (hf17 ou (by omega)).trans ho9
    refine sc_last S hK hV hc21 (by omega) dL_fee_10 (fun M22 H locs hM22 hV => ?_)
    have hc23 : M22 ou = some (sArL G 1 (iup g0 0 (isum (dayI b - dayI a + 1) (fdT f s (dayI a + 3652)) / 1000))) := (congrFun hM22 ou).trans (va_up_self M1 ou _)
    refine lv_goto (tgt := 22) hx_ hb_ dL_fee_11 (by decide) ?_
    refine si_const S dL_fee_22 ?_
    have hc24 : knoC G M22 (c + 54) := hc16.fr (fun x q8 q9 => (congrFun hM22 x).trans (va_up_ne M1 _ (by omega)))
    exact xr_i E hQ dL_fee_23 ⟨Nat.le_of_ble_eq_true rfl, Nat.le_of_ble_eq_true rfl⟩ hV (⟨by omega, hc24, fun x q0 q1 => ((congrFun hM22 x).trans (va_up_ne M1 _ (by omega))).trans (hf17 x (by omega)), Or.inr (Or.inr (⟨(c19), rfl, hc23⟩))⟩)

abbrev rmL_inHand : Room := { frames := 8, cells := 10, slots := 60, locals := 170 }
set_option maxHeartbeats 4000000 in
set_option maxRecDepth 100000 in
theorem kL_inHand (l_ : Launch) (G : sG) (b_ : Nat) (M : sM) (N : Nat) (ou : Nat) (g0 : Int → Int) (c : Nat) (kn : Int) (ch : Int) (f : sF) (h : Int) (d : Int) (hc0 : M c = some (xO c kn ch)) (hst : stC G M (c + 1) f) (hkn : knoC G M (c + 54)) (ho9 : M ou = some (sArL G 1 g0)) (hlt : l_.stackTraces = false) (hok : sOk f) (hr : sR h ∧ sR d) (ho1 : c + 60 ≤ ou) : xcI l_ yL_inHand wsL_inHand rmL_inHand G b_ M N [.ref c, .int (sI h), .int (sI d), .ref ou] (fun z_ M1 N1 => N ≤ N1 ∧ knoC G M1 (c + 54) ∧ (∀ x : Nat, ¬ (c + 54 ≤ x ∧ x < c + 54 + 3) → ¬ (x = ou) → M1 x = M x) ∧ (((¬ ((0 ≤ h ∧ h ≤ 6) ∧ isDt d)) ∧ z_ = 1 ∧ M1 ou = some (sArL G 1 g0)) ∨ (((0 ≤ h ∧ h ≤ 6) ∧ isDt d) ∧ z_ = 0 ∧ M1 ou = some (sArL G 1 (iup g0 0 (sW (isum (f 568) (ihT f h (dayI d + 3652))))))))) (fun _ _ _ => False) := by
  refine yE.ofI (cc := cL_inHand) (nL := 5) (ret := (some .int)) (hh := [(0, 10, 13, 19)]) (by decide) rfl (Nat.le_of_ble_eq_true rfl) ?_
  intro p_ e_ s_ m_ args_ below_ meth_ c_ ls Q hQ E hF_ hxt_ hl
  have E : sE p_ l_ e_ rmL_inHand s_ m_ args_ below_ meth_ c_ cL_inHand 5 wsL_inHand RL "inHand" (some .int) G b_ M N := E
  have S := E.1
  have hx_ := S.1
  have hb_ := S.2.1
  have hK := E.2.2.2.2.1
  have hV := E.2.2.2.2.2.2
  have hl : lv_has ls 5 [(0, .ref c), (1, .int (sI h)), (2, .int (sI d)), (3, .ref ou)] := hl
  have inX10_ : ∀ w ∈ wsX100, w ∈ wsL_inHand := fun _ h => List.mem_cons_of_mem _ (List.mem_append_left _ (List.mem_append_left _ (List.mem_append_left _ (List.mem_append_left _ (List.mem_append_right _ h)))))
  have inX6_ : ∀ w ∈ wsX60, w ∈ wsL_inHand := fun _ h => List.mem_cons_of_mem _ (List.mem_append_left _ (List.mem_append_left _ (List.mem_append_left _ (List.mem_append_right _ h))))
  have inX8_ : ∀ w ∈ wsX80, w ∈ wsL_inHand := fun _ h => List.mem_cons_of_mem _ (List.mem_append_left _ (List.mem_append_left _ (List.mem_append_right _ h)))
  have inX7_ : ∀ w ∈ wsX70, w ∈ wsL_inHand := fun _ h => List.mem_cons_of_mem _ (List.mem_append_left _ (List.mem_append_right _ h))
  have hbN : b_ ≤ N := by have h1 := hV.1.1; have h2 := hV.2.2; omega
  refine lv_aload_n hx_ hb_ dL_inHand_0 rfl (lv_at hl 3 rfl) ?_
  refine si_const S dL_inHand_1 ?_
  refine lv_aload_n hx_ hb_ dL_inHand_2 rfl (lv_at hl 0 rfl) ?_
  refine lv_iload_n hx_ hb_ dL_inHand_3 rfl (lv_at hl 1 rfl) ?_
  refine lv_iload_n hx_ hb_ dL_inHand_4 rfl (lv_at hl 2 rfl) ?_
  refine yk_Vi E hF_ hV (As := [.int (sI h), .int (sI d)]) (rest := [.int (sI 0), .ref ou]) (kX10_inHand l_ G b_ M N c kn ch f h d hc0 hst hkn (hlt) (hok) (hr)) (cwV 2 S.2.2.2.2 gL_inHand_X10_inHand rfl rfl rfl (by decide +kernel) ⟨Nat.le_of_ble_eq_true rfl, Nat.le_of_ble_eq_true rfl⟩) (ci := 8) hc0 rfl rfl rfl hl.1 (Nat.le_of_ble_eq_true rfl) dL_inHand_5 (c1 := 10) (s1 := 60) ⟨⟨rfl, rfl⟩, by decide, by decide⟩ ?_ (fun z4 M1 N2 H locs hp3 hV => ?_)
  · rintro E9 M9 N9 H9 locs9 q9 ce9 ⟨hN5, hc8, hf6, hq7⟩ hV hce9 hcv9 hcl9
    rcases hq7 with ⟨c9, ee10⟩
    · subst ee10
      refine vx_catch (own := RL) (name := "java/lang/IllegalArgumentException") S.2.2.2.1 ([] : List ExceptionTableEntry) ⟨0, 10, 13, 19⟩ ([] : List ExceptionTableEntry) (hxt_.trans rfl) (fun z hz => by cases hz) (by decide) (by decide) (S.2.2.2.2 _ (List.mem_of_getElem? (i := 1) rfl)) (va_Nw.use rfl (hF_.1.1 _ (by decide +kernel))) hce9 hcv9 hcl9 ?_
      refine lv_astore (lv' := [(4, .ref q9), (0, .ref c), (1, .int (sI h)), (2, .int (sI d)), (3, .ref ou)]) hx_ hb_ dL_inHand_13 hl (by decide) rfl (fun ls hl => ?_)
      refine si_const S dL_inHand_15 ?_
      have hc11 : M9 ou = some (sArL G 1 g0) := (hf6 ou (by omega)).trans ho9
      exact xr_i E hQ dL_inHand_16 ⟨Nat.le_of_ble_eq_true rfl, Nat.le_of_ble_eq_true rfl⟩ hV (⟨by omega, hc8, fun x q0 q1 => hf6 x (by omega), Or.inl ⟨(c9), rfl, hc11⟩⟩)
  obtain ⟨hN12, hc13, hf14, hq15⟩ := hp3
  rw [hN12] at hV
  rcases hq15 with ⟨c16, ez17⟩
  · rw [ez17]
    refine sl_i2w S dL_inHand_8 ?_
    have hc18 : M1 ou = some (sArL G 1 g0) := (hf14 ou (by omega)).trans ho9
    refine sc_last S hK hV hc18 (by omega) dL_inHand_9 (fun M19 H locs hM19 hV => ?_)
    have hc20 : M19 ou = some (sArL G 1 (iup g0 0 (sW (isum (f 568) (ihT f h (dayI d + 3652)))))) := (congrFun hM19 ou).trans (va_up_self M1 ou _)
    refine lv_goto (tgt := 17) hx_ hb_ dL_inHand_10 (by decide) ?_
    refine si_const S dL_inHand_17 ?_
    have hc21 : knoC G M19 (c + 54) := hc13.fr (fun x q8 q9 => (congrFun hM19 x).trans (va_up_ne M1 _ (by omega)))
    exact xr_i E hQ dL_inHand_18 ⟨Nat.le_of_ble_eq_true rfl, Nat.le_of_ble_eq_true rfl⟩ hV (⟨by omega, hc21, fun x q0 q1 => ((congrFun hM19 x).trans (va_up_ne M1 _ (by omega))).trans (hf14 x (by omega)), Or.inr (⟨(c16), rfl, hc20⟩)⟩)

abbrev rmL_setLight : Room := { frames := 8, cells := 25, slots := 3000, locals := 201 }
set_option maxHeartbeats 4000000 in
set_option maxRecDepth 100000 in
theorem kL_setLight (l_ : Launch) (G : sG) (b_ : Nat) (M : sM) (N : Nat) (ou : Nat) (g0 : Int → Int) (c : Nat) (kn : Int) (ch : Int) (f : sF) (kb : Nat) (fs : Int → sF) (s : Int) (l : Int) (hc0 : M c = some (xO c kn ch)) (hst : stC G M (c + 1) f) (hkp : kpC G M (c + 31) kb kn ch fs) (ho9 : M ou = some (sArL G 1 g0)) (hlt : l_.stackTraces = false) (hok : sOk f) (hkb : c + 60 ≤ kb) (hkN : kb ≤ N) (hr : sR s ∧ sR l) (ho1 : c + 60 ≤ ou) (ho2 : ou < kb) : xcI l_ yL_setLight wsL_setLight rmL_setLight G b_ M N [.ref c, .int (sI s), .int (sI l), .ref ou] (fun z_ M1 N1 => ∃ kn1 : Int, N ≤ N1 ∧ (∀ x : Nat, ¬ (x = c) → ¬ (x = c + 31) → ¬ (kb ≤ x) → ¬ (c + 1 ≤ x ∧ x < c + 1 + 15) → ¬ (x = ou) → M1 x = M x) ∧ (((¬ (0 ≤ s ∧ s < f 568)) ∧ z_ = 1 ∧ M1 c = some (xO c kn1 ch) ∧ stC G M1 (c + 1) f ∧ kpC G M1 (c + 31) kb kn1 ch fs ∧ M1 ou = some (sArL G 1 g0)) ∨ (((0 ≤ s ∧ s < f 568) ∧ ¬ (0 ≤ l ∧ l ≤ 100000)) ∧ z_ = 2 ∧ M1 c = some (xO c kn1 ch) ∧ stC G M1 (c + 1) f ∧ kpC G M1 (c + 31) kb kn1 ch fs ∧ M1 ou = some (sArL G 1 g0)) ∨ (((0 ≤ s ∧ s < f 568) ∧ (0 ≤ l ∧ l ≤ 100000) ∧ ¬ ∀ y, 1900 ≤ y → y < 2200 → liI f s y ≤ l) ∧ z_ = 3 ∧ M1 c = some (xO c kn1 ch) ∧ stC G M1 (c + 1) f ∧ kpC G M1 (c + 31) kb kn1 ch fs ∧ M1 ou = some (sArL G 1 g0)) ∨ (((0 ≤ s ∧ s < f 568) ∧ (0 ≤ l ∧ l ≤ 100000) ∧ ∀ y, 1900 ≤ y → y < 2200 → liI f s y ≤ l) ∧ z_ = 0 ∧ M1 c = some (xO c kn1 (chn ch)) ∧ stC G M1 (c + 1) (slF f s l) ∧ kpC G M1 (c + 31) kb kn1 (chn ch) (fsn ch fs f) ∧ M1 ou = some (sArL G 1 (iup g0 0 (sW (f (60 + s)))))))) (fun _ _ _ => False) := by
  refine yE.ofI (cc := cL_setLight) (nL := 5) (ret := (some .int)) (hh := [(0, 10, 13, 25), (0, 10, 17, 19), (0, 10, 21, 13)]) (by decide) rfl (Nat.le_of_ble_eq_true rfl) ?_
  intro p_ e_ s_ m_ args_ below_ meth_ c_ ls Q hQ E hF_ hxt_ hl
  have E : sE p_ l_ e_ rmL_setLight s_ m_ args_ below_ meth_ c_ cL_setLight 5 wsL_setLight RL "setLight" (some .int) G b_ M N := E
  have S := E.1
  have hx_ := S.1
  have hb_ := S.2.1
  have hK := E.2.2.2.2.1
  have hV := E.2.2.2.2.2.2
  have hl : lv_has ls 5 [(0, .ref c), (1, .int (sI s)), (2, .int (sI l)), (3, .ref ou)] := hl
  have inX10_ : ∀ w ∈ wsX100, w ∈ wsL_setLight := fun _ h => List.mem_cons_of_mem _ (List.mem_append_left _ (List.mem_append_left _ (List.mem_append_left _ (List.mem_append_left _ (List.mem_append_left _ (List.mem_append_right _ h))))))
  have inX6_ : ∀ w ∈ wsX60, w ∈ wsL_setLight := fun _ h => List.mem_cons_of_mem _ (List.mem_append_left _ (List.mem_append_left _ (List.mem_append_left _ (List.mem_append_left _ (List.mem_append_right _ h)))))
  have inX8_ : ∀ w ∈ wsX80, w ∈ wsL_setLight := fun _ h => List.mem_cons_of_mem _ (List.mem_append_left _ (List.mem_append_left _ (List.mem_append_left _ (List.mem_append_right _ h))))
  have hbN : b_ ≤ N := by have h1 := hV.1.1; have h2 := hV.2.2; omega
  refine lv_aload_n hx_ hb_ dL_setLight_0 rfl (lv_at hl 3 rfl) ?_
  refine si_const S dL_setLight_1 ?_
  refine lv_aload_n hx_ hb_ dL_setLight_2 rfl (lv_at hl 0 rfl) ?_
  refine lv_iload_n hx_ hb_ dL_setLight_3 rfl (lv_at hl 1 rfl) ?_
  refine lv_iload_n hx_ hb_ dL_setLight_4 rfl (lv_at hl 2 rfl) ?_
  refine yk_Vi E hF_ hV (As := [.int (sI s), .int (sI l)]) (rest := [.int (sI 0), .ref ou]) (kX10_setLight l_ G b_ M N c kn ch f kb fs s l hc0 hst hkp (hlt) (hok) (hkb) (hkN) (hr)) (cwV 2 S.2.2.2.2 gL_setLight_X10_setLight rfl rfl rfl (by decide +kernel) ⟨Nat.le_of_ble_eq_true rfl, Nat.le_of_ble_eq_true rfl⟩) (ci := 8) hc0 rfl rfl rfl hl.1 (Nat.le_of_ble_eq_true rfl) dL_setLight_5 (c1 := 25) (s1 := 3000) ⟨⟨rfl, rfl⟩, by decide, by decide⟩ ?_ (fun z4 M1 N2 H locs hp3 hV => ?_)
  · rintro E9 M9 N9 H9 locs9 q9 ce9 ⟨kn15, hN6, hf7, hq8⟩ hV hce9 hcv9 hcl9
    rcases hq8 with ⟨c9, ee10, hc11, hc12, hc13⟩ | ⟨c14, ee15, hc16, hc17, hc18⟩ | ⟨c19, ee20, hc21, hc22, hc23⟩
    · subst ee10
      refine vx_catch (own := RL) (name := "java/lang/IndexOutOfBoundsException") S.2.2.2.1 ([] : List ExceptionTableEntry) ⟨0, 10, 13, 25⟩ ([⟨0, 10, 17, 19⟩, ⟨0, 10, 21, 13⟩] : List ExceptionTableEntry) (hxt_.trans rfl) (fun z hz => by cases hz) (by decide) (by decide) (S.2.2.2.2 _ (List.mem_of_getElem? (i := 1) rfl)) (va_Nw.use rfl (hF_.1.1 _ (by decide +kernel))) hce9 hcv9 hcl9 ?_
      refine lv_astore (lv' := [(4, .ref q9), (0, .ref c), (1, .int (sI s)), (2, .int (sI l)), (3, .ref ou)]) hx_ hb_ dL_setLight_13 hl (by decide) rfl (fun ls hl => ?_)
      refine si_const S dL_setLight_15 ?_
      have hc24 : M9 ou = some (sArL G 1 g0) := (hf7 ou (by omega) (by omega) (by omega) (by omega)).trans ho9
      exact xr_i E hQ dL_setLight_16 ⟨Nat.le_of_ble_eq_true rfl, Nat.le_of_ble_eq_true rfl⟩ hV (⟨_, by omega, fun x q0 q1 q2 q3 q4 => hf7 x (by omega) (by omega) (by omega) (by omega), Or.inl ⟨(c9), rfl, hc11, hc12, hc13, hc24⟩⟩)
    · subst ee15
      refine vx_catch (own := RL) (name := "java/lang/IllegalArgumentException") S.2.2.2.1 ([⟨0, 10, 13, 25⟩] : List ExceptionTableEntry) ⟨0, 10, 17, 19⟩ ([⟨0, 10, 21, 13⟩] : List ExceptionTableEntry) (hxt_.trans rfl) (fun z hz => by rcases List.mem_singleton.mp hz with rfl; exact Or.inr ⟨by decide, _, (S.2.2.2.2 _ (List.mem_of_getElem? (i := 1) rfl)), hF_.1.2 _ (by decide +kernel) _ (by decide +kernel) (by decide)⟩) (by decide) (by decide) (S.2.2.2.2 _ (List.mem_of_getElem? (i := 2) rfl)) (va_Nw.use rfl (hF_.1.1 _ (by decide +kernel))) hce9 hcv9 hcl9 ?_
      refine lv_astore (lv' := [(4, .ref q9), (0, .ref c), (1, .int (sI s)), (2, .int (sI l)), (3, .ref ou)]) hx_ hb_ dL_setLight_17 hl (by decide) rfl (fun ls hl => ?_)
      refine si_const S dL_setLight_19 ?_
      have hc25 : M9 ou = some (sArL G 1 g0) := (hf7 ou (by omega) (by omega) (by omega) (by omega)).trans ho9
      exact xr_i E hQ dL_setLight_20 ⟨Nat.le_of_ble_eq_true rfl, Nat.le_of_ble_eq_true rfl⟩ hV (⟨_, by omega, fun x q0 q1 q2 q3 q4 => hf7 x (by omega) (by omega) (by omega) (by omega), Or.inr (Or.inl ⟨(c14), rfl, hc16, hc17, hc18, hc25⟩)⟩)
    · subst ee20
      refine vx_catch (own := RL) (name := "java/lang/IllegalStateException") S.2.2.2.1 ([⟨0, 10, 13, 25⟩, ⟨0, 10, 17, 19⟩] : List ExceptionTableEntry) ⟨0, 10, 21, 13⟩ ([] : List ExceptionTableEntry) (hxt_.trans rfl) (fun z hz => by rcases List.mem_cons.mp hz with rfl | hz; exact Or.inr ⟨by decide, _, (S.2.2.2.2 _ (List.mem_of_getElem? (i := 1) rfl)), hF_.1.2 _ (by decide +kernel) _ (by decide +kernel) (by decide)⟩; rcases List.mem_singleton.mp hz with rfl; exact Or.inr ⟨by decide, _, (S.2.2.2.2 _ (List.mem_of_getElem? (i := 2) rfl)), hF_.1.2 _ (by decide +kernel) _ (by decide +kernel) (by decide)⟩) (by decide) (by decide) (S.2.2.2.2 _ (List.mem_of_getElem? (i := 3) rfl)) (va_Nw.use rfl (hF_.1.1 _ (by decide +kernel))) hce9 hcv9 hcl9 ?_
      refine lv_astore (lv' := [(4, .ref q9), (0, .ref c), (1, .int (sI s)), (2, .int (sI l)), (3, .ref ou)]) hx_ hb_ dL_setLight_21 hl (by decide) rfl (fun ls hl => ?_)
      refine si_const S dL_setLight_23 ?_
      have hc26 : M9 ou = some (sArL G 1 g0) := (hf7 ou (by omega) (by omega) (by omega) (by omega)).trans ho9
      exact xr_i E hQ dL_setLight_24 ⟨Nat.le_of_ble_eq_true rfl, Nat.le_of_ble_eq_true rfl⟩ hV (⟨_, by omega, fun x q0 q1 q2 q3 q4 => hf7 x (by omega) (by omega) (by omega) (by omega), Or.inr (Or.inr (Or.inl ⟨(c19), rfl, hc21, hc22, hc23, hc26⟩))⟩)
  obtain ⟨kn127, hN28, hf29, hq30⟩ := hp3
  rcases hq30 with ⟨c31, ez32, hc33, hc34, hc35⟩
  · rw [ez32]
    refine sl_i2w S dL_setLight_8 ?_
    have hc36 : M1 ou = some (sArL G 1 g0) := (hf29 ou (by omega) (by omega) (by omega) (by omega)).trans ho9
    refine sc_last S hK hV hc36 (by omega) dL_setLight_9 (fun M37 H locs hM37 hV => ?_)
    have hc38 : M37 ou = some (sArL G 1 (iup g0 0 (sW (f (60 + s))))) := (congrFun hM37 ou).trans (va_up_self M1 ou _)
    refine lv_goto (tgt := 25) hx_ hb_ dL_setLight_10 (by decide) ?_
    refine si_const S dL_setLight_25 ?_
    have hc39 : M37 c = some (xO c kn127 (chn ch)) := ((congrFun hM37 c).trans (va_up_ne M1 _ (by omega))).trans hc33
    have hc40 : stC G M37 (c + 1) (slF f s l) := hc34.fr (fun x q8 q9 => (congrFun hM37 x).trans (va_up_ne M1 _ (by omega)))
    have hc41 : kpC G M37 (c + 31) kb kn127 (chn ch) (fsn ch fs f) := hc35.fr (fun x q8 => (congrFun hM37 x).trans (va_up_ne M1 _ (by omega)))
    exact xr_i E hQ dL_setLight_26 ⟨Nat.le_of_ble_eq_true rfl, Nat.le_of_ble_eq_true rfl⟩ hV (⟨_, by omega, fun x q0 q1 q2 q3 q4 => ((congrFun hM37 x).trans (va_up_ne M1 _ (by omega))).trans (hf29 x (by omega) (by omega) (by omega) (by omega)), Or.inr (Or.inr (Or.inr (⟨(c31), rfl, hc39, hc40, hc41, hc38⟩)))⟩)

abbrev rmL_show : Room := { frames := 8, cells := 25, slots := 3000, locals := 184 }
set_option maxHeartbeats 4000000 in
set_option maxRecDepth 100000 in
theorem kL_show (l_ : Launch) (G : sG) (b_ : Nat) (M : sM) (N : Nat) (ou : Nat) (g0 : Int → Int) (c : Nat) (kn : Int) (ch : Int) (f : sF) (kb : Nat) (fs : Int → sF) (s : Int) (d : Int) (n : Int) (l : Int) (hc0 : M c = some (xO c kn ch)) (hst : stC G M (c + 1) f) (hkp : kpC G M (c + 31) kb kn ch fs) (ho9 : M ou = some (sArL G 1 g0)) (hlt : l_.stackTraces = false) (hok : sOk f) (hkb : c + 60 ≤ kb) (hkN : kb ≤ N) (hli : sLi f) (hr : sR s ∧ sR d ∧ sR n ∧ sR l) (ho1 : c + 60 ≤ ou) (ho2 : ou < kb) : xcI l_ yL_show wsL_show rmL_show G b_ M N [.ref c, .int (sI s), .int (sI d), .int (sI n), .int (sI l), .ref ou] (fun z_ M1 N1 => ∃ kn1 : Int, N ≤ N1 ∧ (∀ x : Nat, ¬ (x = c) → ¬ (x = c + 31) → ¬ (kb ≤ x) → ¬ (c + 1 ≤ x ∧ x < c + 1 + 15) → ¬ (x = ou) → M1 x = M x) ∧ (((¬ (0 ≤ s ∧ s < f 568)) ∧ z_ = 1 ∧ M1 c = some (xO c kn1 ch) ∧ stC G M1 (c + 1) f ∧ kpC G M1 (c + 31) kb kn1 ch fs ∧ M1 ou = some (sArL G 1 g0)) ∨ (((0 ≤ s ∧ s < f 568) ∧ ¬ (isDt d ∧ (1 ≤ n ∧ n ≤ 400) ∧ (1 ≤ l ∧ l ≤ 1000) ∧ dayI d + n ≤ 109573)) ∧ z_ = 2 ∧ M1 c = some (xO c kn1 ch) ∧ stC G M1 (c + 1) f ∧ kpC G M1 (c + 31) kb kn1 ch fs ∧ M1 ou = some (sArL G 1 g0)) ∨ (((0 ≤ s ∧ s < f 568) ∧ (isDt d ∧ (1 ≤ n ∧ n ≤ 400) ∧ (1 ≤ l ∧ l ≤ 1000) ∧ dayI d + n ≤ 109573) ∧ ¬ (f 572 < 20 ∧ cbP f s (d / 10000) (dayI d + 3652) n l)) ∧ z_ = 3 ∧ M1 c = some (xO c kn1 ch) ∧ stC G M1 (c + 1) f ∧ kpC G M1 (c + 31) kb kn1 ch fs ∧ M1 ou = some (sArL G 1 g0)) ∨ (((0 ≤ s ∧ s < f 568) ∧ (isDt d ∧ (1 ≤ n ∧ n ≤ 400) ∧ (1 ≤ l ∧ l ≤ 1000) ∧ dayI d + n ≤ 109573) ∧ f 572 < 20 ∧ cbP f s (d / 10000) (dayI d + 3652) n l) ∧ z_ = 0 ∧ M1 c = some (xO c kn1 (chn ch)) ∧ stC G M1 (c + 1) (shF f s (dayI d + 3652) n l) ∧ kpC G M1 (c + 31) kb kn1 (chn ch) (fsn ch fs f) ∧ M1 ou = some (sArL G 1 (iup g0 0 (sW (f 572))))))) (fun _ _ _ => False) := by
  refine yE.ofI (cc := cL_show) (nL := 7) (ret := (some .int)) (hh := [(0, 14, 17, 25), (0, 14, 21, 19), (0, 14, 25, 13)]) (by decide) rfl (Nat.le_of_ble_eq_true rfl) ?_
  intro p_ e_ s_ m_ args_ below_ meth_ c_ ls Q hQ E hF_ hxt_ hl
  have E : sE p_ l_ e_ rmL_show s_ m_ args_ below_ meth_ c_ cL_show 7 wsL_show RL "show" (some .int) G b_ M N := E
  have S := E.1
  have hx_ := S.1
  have hb_ := S.2.1
  have hK := E.2.2.2.2.1
  have hV := E.2.2.2.2.2.2
  have hl : lv_has ls 7 [(0, .ref c), (1, .int (sI s)), (2, .int (sI d)), (3, .int (sI n)), (4, .int (sI l)), (5, .ref ou)] := hl
  have inX10_ : ∀ w ∈ wsX100, w ∈ wsL_show := fun _ h => List.mem_cons_of_mem _ (List.mem_append_left _ (List.mem_append_left _ (List.mem_append_left _ (List.mem_append_left _ (List.mem_append_left _ (List.mem_append_right _ h))))))
  have inX6_ : ∀ w ∈ wsX60, w ∈ wsL_show := fun _ h => List.mem_cons_of_mem _ (List.mem_append_left _ (List.mem_append_left _ (List.mem_append_left _ (List.mem_append_left _ (List.mem_append_right _ h)))))
  have inX8_ : ∀ w ∈ wsX80, w ∈ wsL_show := fun _ h => List.mem_cons_of_mem _ (List.mem_append_left _ (List.mem_append_left _ (List.mem_append_left _ (List.mem_append_right _ h))))
  have hbN : b_ ≤ N := by have h1 := hV.1.1; have h2 := hV.2.2; omega
  refine lv_aload hx_ hb_ dL_show_0 (lv_at hl 5 rfl) ?_
  refine si_const S dL_show_2 ?_
  refine lv_aload_n hx_ hb_ dL_show_3 rfl (lv_at hl 0 rfl) ?_
  refine lv_iload_n hx_ hb_ dL_show_4 rfl (lv_at hl 1 rfl) ?_
  refine lv_iload_n hx_ hb_ dL_show_5 rfl (lv_at hl 2 rfl) ?_
  refine lv_iload_n hx_ hb_ dL_show_6 rfl (lv_at hl 3 rfl) ?_
  refine lv_iload hx_ hb_ dL_show_7 (lv_at hl 4 rfl) ?_
  refine yk_Vi E hF_ hV (As := [.int (sI s), .int (sI d), .int (sI n), .int (sI l)]) (rest := [.int (sI 0), .ref ou]) (kX10_show l_ G b_ M N c kn ch f kb fs s d n l hc0 hst hkp (hlt) (hok) (hkb) (hkN) (hli) (hr)) (cwV 4 S.2.2.2.2 gL_show_X10_show rfl rfl rfl (by decide +kernel) ⟨Nat.le_of_ble_eq_true rfl, Nat.le_of_ble_eq_true rfl⟩) (ci := 8) hc0 rfl rfl rfl hl.1 (Nat.le_of_ble_eq_true rfl) dL_show_9 (c1 := 25) (s1 := 3000) ⟨⟨rfl, rfl⟩, by decide, by decide⟩ ?_ (fun z4 M1 N2 H locs hp3 hV => ?_)
  · rintro E9 M9 N9 H9 locs9 q9 ce9 ⟨kn15, hN6, hf7, hq8⟩ hV hce9 hcv9 hcl9
    rcases hq8 with ⟨c9, ee10, hc11, hc12, hc13⟩ | ⟨c14, ee15, hc16, hc17, hc18⟩ | ⟨c19, ee20, hc21, hc22, hc23⟩
    · subst ee10
      refine vx_catch (own := RL) (name := "java/lang/IndexOutOfBoundsException") S.2.2.2.1 ([] : List ExceptionTableEntry) ⟨0, 14, 17, 25⟩ ([⟨0, 14, 21, 19⟩, ⟨0, 14, 25, 13⟩] : List ExceptionTableEntry) (hxt_.trans rfl) (fun z hz => by cases hz) (by decide) (by decide) (S.2.2.2.2 _ (List.mem_of_getElem? (i := 1) rfl)) (va_Nw.use rfl (hF_.1.1 _ (by decide +kernel))) hce9 hcv9 hcl9 ?_
      refine lv_astore (lv' := [(6, .ref q9), (0, .ref c), (1, .int (sI s)), (2, .int (sI d)), (3, .int (sI n)), (4, .int (sI l)), (5, .ref ou)]) hx_ hb_ dL_show_17 hl (by decide) rfl (fun ls hl => ?_)
      refine si_const S dL_show_19 ?_
      have hc24 : M9 ou = some (sArL G 1 g0) := (hf7 ou (by omega) (by omega) (by omega) (by omega)).trans ho9
      exact xr_i E hQ dL_show_20 ⟨Nat.le_of_ble_eq_true rfl, Nat.le_of_ble_eq_true rfl⟩ hV (⟨_, by omega, fun x q0 q1 q2 q3 q4 => hf7 x (by omega) (by omega) (by omega) (by omega), Or.inl ⟨(c9), rfl, hc11, hc12, hc13, hc24⟩⟩)
    · subst ee15
      refine vx_catch (own := RL) (name := "java/lang/IllegalArgumentException") S.2.2.2.1 ([⟨0, 14, 17, 25⟩] : List ExceptionTableEntry) ⟨0, 14, 21, 19⟩ ([⟨0, 14, 25, 13⟩] : List ExceptionTableEntry) (hxt_.trans rfl) (fun z hz => by rcases List.mem_singleton.mp hz with rfl; exact Or.inr ⟨by decide, _, (S.2.2.2.2 _ (List.mem_of_getElem? (i := 1) rfl)), hF_.1.2 _ (by decide +kernel) _ (by decide +kernel) (by decide)⟩) (by decide) (by decide) (S.2.2.2.2 _ (List.mem_of_getElem? (i := 2) rfl)) (va_Nw.use rfl (hF_.1.1 _ (by decide +kernel))) hce9 hcv9 hcl9 ?_
      refine lv_astore (lv' := [(6, .ref q9), (0, .ref c), (1, .int (sI s)), (2, .int (sI d)), (3, .int (sI n)), (4, .int (sI l)), (5, .ref ou)]) hx_ hb_ dL_show_21 hl (by decide) rfl (fun ls hl => ?_)
      refine si_const S dL_show_23 ?_
      have hc25 : M9 ou = some (sArL G 1 g0) := (hf7 ou (by omega) (by omega) (by omega) (by omega)).trans ho9
      exact xr_i E hQ dL_show_24 ⟨Nat.le_of_ble_eq_true rfl, Nat.le_of_ble_eq_true rfl⟩ hV (⟨_, by omega, fun x q0 q1 q2 q3 q4 => hf7 x (by omega) (by omega) (by omega) (by omega), Or.inr (Or.inl ⟨(c14), rfl, hc16, hc17, hc18, hc25⟩)⟩)
    · subst ee20
      refine vx_catch (own := RL) (name := "java/lang/IllegalStateException") S.2.2.2.1 ([⟨0, 14, 17, 25⟩, ⟨0, 14, 21, 19⟩] : List ExceptionTableEntry) ⟨0, 14, 25, 13⟩ ([] : List ExceptionTableEntry) (hxt_.trans rfl) (fun z hz => by rcases List.mem_cons.mp hz with rfl | hz; exact Or.inr ⟨by decide, _, (S.2.2.2.2 _ (List.mem_of_getElem? (i := 1) rfl)), hF_.1.2 _ (by decide +kernel) _ (by decide +kernel) (by decide)⟩; rcases List.mem_singleton.mp hz with rfl; exact Or.inr ⟨by decide, _, (S.2.2.2.2 _ (List.mem_of_getElem? (i := 2) rfl)), hF_.1.2 _ (by decide +kernel) _ (by decide +kernel) (by decide)⟩) (by decide) (by decide) (S.2.2.2.2 _ (List.mem_of_getElem? (i := 3) rfl)) (va_Nw.use rfl (hF_.1.1 _ (by decide +kernel))) hce9 hcv9 hcl9 ?_
      refine lv_astore (lv' := [(6, .ref q9), (0, .ref c), (1, .int (sI s)), (2, .int (sI d)), (3, .int (sI n)), (4, .int (sI l)), (5, .ref ou)]) hx_ hb_ dL_show_25 hl (by decide) rfl (fun ls hl => ?_)
      refine si_const S dL_show_27 ?_
      have hc26 : M9 ou = some (sArL G 1 g0) := (hf7 ou (by omega) (by omega) (by omega) (by omega)).trans ho9
      exact xr_i E hQ dL_show_28 ⟨Nat.le_of_ble_eq_true rfl, Nat.le_of_ble_eq_true rfl⟩ hV (⟨_, by omega, fun x q0 q1 q2 q3 q4 => hf7 x (by omega) (by omega) (by omega) (by omega), Or.inr (Or.inr (Or.inl ⟨(c19), rfl, hc21, hc22, hc23, hc26⟩))⟩)
  obtain ⟨kn127, hN28, hf29, hq30⟩ := hp3
  rcases hq30 with ⟨c31, ez32, hc33, hc34, hc35⟩
  · rw [ez32]
    refine sl_i2w S dL_show_12 ?_
    have hc36 : M1 ou = some (sArL G 1 g0) := (hf29 ou (by omega) (by omega) (by omega) (by omega)).trans ho9
    refine sc_last S hK hV hc36 (by omega) dL_show_13 (fun M37 H locs hM37 hV => ?_)
    have hc38 : M37 ou = some (sArL G 1 (iup g0 0 (sW (f 572)))) := (congrFun hM37 ou).trans (va_up_self M1 ou _)
    refine lv_goto (tgt := 29) hx_ hb_ dL_show_14 (by decide) ?_
    refine si_const S dL_show_29 ?_
    have hc39 : M37 c = some (xO c kn127 (chn ch)) := ((congrFun hM37 c).trans (va_up_ne M1 _ (by omega))).trans hc33
    have hc40 : stC G M37 (c + 1) (shF f s (dayI d + 3652) n l) := hc34.fr (fun x q8 q9 => (congrFun hM37 x).trans (va_up_ne M1 _ (by omega)))
    have hc41 : kpC G M37 (c + 31) kb kn127 (chn ch) (fsn ch fs f) := hc35.fr (fun x q8 => (congrFun hM37 x).trans (va_up_ne M1 _ (by omega)))
    exact xr_i E hQ dL_show_30 ⟨Nat.le_of_ble_eq_true rfl, Nat.le_of_ble_eq_true rfl⟩ hV (⟨_, by omega, fun x q0 q1 q2 q3 q4 => ((congrFun hM37 x).trans (va_up_ne M1 _ (by omega))).trans (hf29 x (by omega) (by omega) (by omega) (by omega)), Or.inr (Or.inr (Or.inr (⟨(c31), rfl, hc39, hc40, hc41, hc38⟩)))⟩)

abbrev rmL_light : Room := { frames := 8, cells := 8, slots := 50, locals := 152 }
set_option maxHeartbeats 4000000 in
set_option maxRecDepth 100000 in
theorem kL_light (l_ : Launch) (G : sG) (b_ : Nat) (M : sM) (N : Nat) (ou : Nat) (g0 : Int → Int) (c : Nat) (kn : Int) (ch : Int) (f : sF) (s : Int) (y : Int) (hc0 : M c = some (xO c kn ch)) (hst : stC G M (c + 1) f) (ho9 : M ou = some (sArL G 1 g0)) (hlt : l_.stackTraces = false) (hok : sOk f) (hr : sR s ∧ sR y) (ho1 : c + 60 ≤ ou) : xcI l_ yL_light wsL_light rmL_light G b_ M N [.ref c, .int (sI s), .int (sI y), .ref ou] (fun z_ M1 N1 => N ≤ N1 ∧ (∀ x : Nat, ¬ (x = ou) → M1 x = M x) ∧ (((¬ (0 ≤ s ∧ s < f 568)) ∧ z_ = 1 ∧ M1 ou = some (sArL G 1 g0)) ∨ (((0 ≤ s ∧ s < f 568) ∧ ¬ (1900 ≤ y ∧ y ≤ 2199)) ∧ z_ = 2 ∧ M1 ou = some (sArL G 1 g0)) ∨ (((0 ≤ s ∧ s < f 568) ∧ 1900 ≤ y ∧ y ≤ 2199) ∧ z_ = 0 ∧ M1 ou = some (sArL G 1 (iup g0 0 (sW (liI f s y))))))) (fun _ _ _ => False) := by
  refine yE.ofI (cc := cL_light) (nL := 5) (ret := (some .int)) (hh := [(0, 10, 13, 25), (0, 10, 17, 19)]) (by decide) rfl (Nat.le_of_ble_eq_true rfl) ?_
  intro p_ e_ s_ m_ args_ below_ meth_ c_ ls Q hQ E hF_ hxt_ hl
  have E : sE p_ l_ e_ rmL_light s_ m_ args_ below_ meth_ c_ cL_light 5 wsL_light RL "light" (some .int) G b_ M N := E
  have S := E.1
  have hx_ := S.1
  have hb_ := S.2.1
  have hK := E.2.2.2.2.1
  have hV := E.2.2.2.2.2.2
  have hl : lv_has ls 5 [(0, .ref c), (1, .int (sI s)), (2, .int (sI y)), (3, .ref ou)] := hl
  have inX10_ : ∀ w ∈ wsX100, w ∈ wsL_light := fun _ h => List.mem_cons_of_mem _ (List.mem_append_left _ (List.mem_append_left _ (List.mem_append_left _ (List.mem_append_left _ (List.mem_append_right _ h)))))
  have inX6_ : ∀ w ∈ wsX60, w ∈ wsL_light := fun _ h => List.mem_cons_of_mem _ (List.mem_append_left _ (List.mem_append_left _ (List.mem_append_left _ (List.mem_append_right _ h))))
  have inX8_ : ∀ w ∈ wsX80, w ∈ wsL_light := fun _ h => List.mem_cons_of_mem _ (List.mem_append_left _ (List.mem_append_left _ (List.mem_append_right _ h)))
  have hbN : b_ ≤ N := by have h1 := hV.1.1; have h2 := hV.2.2; omega
  refine lv_aload_n hx_ hb_ dL_light_0 rfl (lv_at hl 3 rfl) ?_
  refine si_const S dL_light_1 ?_
  refine lv_aload_n hx_ hb_ dL_light_2 rfl (lv_at hl 0 rfl) ?_
  refine lv_iload_n hx_ hb_ dL_light_3 rfl (lv_at hl 1 rfl) ?_
  refine lv_iload_n hx_ hb_ dL_light_4 rfl (lv_at hl 2 rfl) ?_
  refine yk_Vi E hF_ hV (As := [.int (sI s), .int (sI y)]) (rest := [.int (sI 0), .ref ou]) (kX10_light l_ G b_ M N c kn ch f s y hc0 hst (hlt) (hok) (hr)) (cwV 2 S.2.2.2.2 gL_light_X10_light rfl rfl rfl (by decide +kernel) ⟨Nat.le_of_ble_eq_true rfl, Nat.le_of_ble_eq_true rfl⟩) (ci := 8) hc0 rfl rfl rfl hl.1 (Nat.le_of_ble_eq_true rfl) dL_light_5 (c1 := 8) (s1 := 50) ⟨⟨rfl, rfl⟩, by decide, by decide⟩ ?_ (fun z4 M1 N2 H locs hp3 hV => ?_)
  · rintro E9 M9 N9 H9 locs9 q9 ce9 ⟨hN5, hf6, hq7⟩ hV hce9 hcv9 hcl9
    rcases hq7 with ⟨c8, ee9⟩ | ⟨c10, ee11⟩
    · subst ee9
      refine vx_catch (own := RL) (name := "java/lang/IndexOutOfBoundsException") S.2.2.2.1 ([] : List ExceptionTableEntry) ⟨0, 10, 13, 25⟩ ([⟨0, 10, 17, 19⟩] : List ExceptionTableEntry) (hxt_.trans rfl) (fun z hz => by cases hz) (by decide) (by decide) (S.2.2.2.2 _ (List.mem_of_getElem? (i := 1) rfl)) (va_Nw.use rfl (hF_.1.1 _ (by decide +kernel))) hce9 hcv9 hcl9 ?_
      refine lv_astore (lv' := [(4, .ref q9), (0, .ref c), (1, .int (sI s)), (2, .int (sI y)), (3, .ref ou)]) hx_ hb_ dL_light_13 hl (by decide) rfl (fun ls hl => ?_)
      refine si_const S dL_light_15 ?_
      have hc12 : M9 ou = some (sArL G 1 g0) := (hf6 ou ).trans ho9
      exact xr_i E hQ dL_light_16 ⟨Nat.le_of_ble_eq_true rfl, Nat.le_of_ble_eq_true rfl⟩ hV (⟨by omega, fun x q0 => hf6 x , Or.inl ⟨(c8), rfl, hc12⟩⟩)
    · subst ee11
      refine vx_catch (own := RL) (name := "java/lang/IllegalArgumentException") S.2.2.2.1 ([⟨0, 10, 13, 25⟩] : List ExceptionTableEntry) ⟨0, 10, 17, 19⟩ ([] : List ExceptionTableEntry) (hxt_.trans rfl) (fun z hz => by rcases List.mem_singleton.mp hz with rfl; exact Or.inr ⟨by decide, _, (S.2.2.2.2 _ (List.mem_of_getElem? (i := 1) rfl)), hF_.1.2 _ (by decide +kernel) _ (by decide +kernel) (by decide)⟩) (by decide) (by decide) (S.2.2.2.2 _ (List.mem_of_getElem? (i := 2) rfl)) (va_Nw.use rfl (hF_.1.1 _ (by decide +kernel))) hce9 hcv9 hcl9 ?_
      refine lv_astore (lv' := [(4, .ref q9), (0, .ref c), (1, .int (sI s)), (2, .int (sI y)), (3, .ref ou)]) hx_ hb_ dL_light_17 hl (by decide) rfl (fun ls hl => ?_)
      refine si_const S dL_light_19 ?_
      have hc13 : M9 ou = some (sArL G 1 g0) := (hf6 ou ).trans ho9
      exact xr_i E hQ dL_light_20 ⟨Nat.le_of_ble_eq_true rfl, Nat.le_of_ble_eq_true rfl⟩ hV (⟨by omega, fun x q0 => hf6 x , Or.inr (Or.inl ⟨(c10), rfl, hc13⟩)⟩)
  obtain ⟨hN14, hf15, hq16⟩ := hp3
  rw [hN14] at hV
  rcases hq16 with ⟨c17, ez18⟩
  · rw [ez18]
    refine sl_i2w S dL_light_8 ?_
    have hc19 : M1 ou = some (sArL G 1 g0) := (hf15 ou ).trans ho9
    refine sc_last S hK hV hc19 (by omega) dL_light_9 (fun M20 H locs hM20 hV => ?_)
    have hc21 : M20 ou = some (sArL G 1 (iup g0 0 (sW (liI f s y)))) := (congrFun hM20 ou).trans (va_up_self M1 ou _)
    refine lv_goto (tgt := 21) hx_ hb_ dL_light_10 (by decide) ?_
    refine si_const S dL_light_21 ?_
    exact xr_i E hQ dL_light_22 ⟨Nat.le_of_ble_eq_true rfl, Nat.le_of_ble_eq_true rfl⟩ hV (⟨by omega, fun x q0 => ((congrFun hM20 x).trans (va_up_ne M1 _ (by omega))).trans (hf15 x ), Or.inr (Or.inr (⟨(c17), rfl, hc21⟩))⟩)

abbrev rmL_mostDays : Room := { frames := 8, cells := 8, slots := 50, locals := 182 }
set_option maxHeartbeats 4000000 in
set_option maxRecDepth 100000 in
theorem kL_mostDays (l_ : Launch) (G : sG) (b_ : Nat) (M : sM) (N : Nat) (ou : Nat) (g0 : Int → Int) (c : Nat) (kn : Int) (ch : Int) (f : sF) (s : Int) (d : Int) (l : Int) (hc0 : M c = some (xO c kn ch)) (hst : stC G M (c + 1) f) (ho9 : M ou = some (sArL G 1 g0)) (hlt : l_.stackTraces = false) (hok : sOk f) (hli : sLi f) (hr : sR s ∧ sR d ∧ sR l) (ho1 : c + 60 ≤ ou) : xcI l_ yL_mostDays wsL_mostDays rmL_mostDays G b_ M N [.ref c, .int (sI s), .int (sI d), .int (sI l), .ref ou] (fun z_ M1 N1 => N ≤ N1 ∧ (∀ x : Nat, ¬ (x = ou) → M1 x = M x) ∧ (((¬ (0 ≤ s ∧ s < f 568)) ∧ z_ = 1 ∧ M1 ou = some (sArL G 1 g0)) ∨ (((0 ≤ s ∧ s < f 568) ∧ ¬ (isDt d ∧ 1 ≤ l ∧ l ≤ 1000)) ∧ z_ = 2 ∧ M1 ou = some (sArL G 1 g0)) ∨ (((0 ≤ s ∧ s < f 568) ∧ isDt d ∧ 1 ≤ l ∧ l ≤ 1000) ∧ z_ = 0 ∧ M1 ou = some (sArL G 1 (iup g0 0 (sW (mdI f s (d / 10000) (dayI d + 3652) l))))))) (fun _ _ _ => False) := by
  refine yE.ofI (cc := cL_mostDays) (nL := 6) (ret := (some .int)) (hh := [(0, 12, 15, 25), (0, 12, 19, 19)]) (by decide) rfl (Nat.le_of_ble_eq_true rfl) ?_
  intro p_ e_ s_ m_ args_ below_ meth_ c_ ls Q hQ E hF_ hxt_ hl
  have E : sE p_ l_ e_ rmL_mostDays s_ m_ args_ below_ meth_ c_ cL_mostDays 6 wsL_mostDays RL "mostDays" (some .int) G b_ M N := E
  have S := E.1
  have hx_ := S.1
  have hb_ := S.2.1
  have hK := E.2.2.2.2.1
  have hV := E.2.2.2.2.2.2
  have hl : lv_has ls 6 [(0, .ref c), (1, .int (sI s)), (2, .int (sI d)), (3, .int (sI l)), (4, .ref ou)] := hl
  have inX10_ : ∀ w ∈ wsX100, w ∈ wsL_mostDays := fun _ h => List.mem_cons_of_mem _ (List.mem_append_left _ (List.mem_append_left _ (List.mem_append_left _ (List.mem_append_left _ (List.mem_append_right _ h)))))
  have inX6_ : ∀ w ∈ wsX60, w ∈ wsL_mostDays := fun _ h => List.mem_cons_of_mem _ (List.mem_append_left _ (List.mem_append_left _ (List.mem_append_left _ (List.mem_append_right _ h))))
  have inX8_ : ∀ w ∈ wsX80, w ∈ wsL_mostDays := fun _ h => List.mem_cons_of_mem _ (List.mem_append_left _ (List.mem_append_left _ (List.mem_append_right _ h)))
  have hbN : b_ ≤ N := by have h1 := hV.1.1; have h2 := hV.2.2; omega
  refine lv_aload hx_ hb_ dL_mostDays_0 (lv_at hl 4 rfl) ?_
  refine si_const S dL_mostDays_2 ?_
  refine lv_aload_n hx_ hb_ dL_mostDays_3 rfl (lv_at hl 0 rfl) ?_
  refine lv_iload_n hx_ hb_ dL_mostDays_4 rfl (lv_at hl 1 rfl) ?_
  refine lv_iload_n hx_ hb_ dL_mostDays_5 rfl (lv_at hl 2 rfl) ?_
  refine lv_iload_n hx_ hb_ dL_mostDays_6 rfl (lv_at hl 3 rfl) ?_
  refine yk_Vi E hF_ hV (As := [.int (sI s), .int (sI d), .int (sI l)]) (rest := [.int (sI 0), .ref ou]) (kX10_mostDays l_ G b_ M N c kn ch f s d l hc0 hst (hlt) (hok) (hli) (hr)) (cwV 3 S.2.2.2.2 gL_mostDays_X10_mostDays rfl rfl rfl (by decide +kernel) ⟨Nat.le_of_ble_eq_true rfl, Nat.le_of_ble_eq_true rfl⟩) (ci := 8) hc0 rfl rfl rfl hl.1 (Nat.le_of_ble_eq_true rfl) dL_mostDays_7 (c1 := 8) (s1 := 50) ⟨⟨rfl, rfl⟩, by decide, by decide⟩ ?_ (fun z4 M1 N2 H locs hp3 hV => ?_)
  · rintro E9 M9 N9 H9 locs9 q9 ce9 ⟨hN5, hf6, hq7⟩ hV hce9 hcv9 hcl9
    rcases hq7 with ⟨c8, ee9⟩ | ⟨c10, ee11⟩
    · subst ee9
      refine vx_catch (own := RL) (name := "java/lang/IndexOutOfBoundsException") S.2.2.2.1 ([] : List ExceptionTableEntry) ⟨0, 12, 15, 25⟩ ([⟨0, 12, 19, 19⟩] : List ExceptionTableEntry) (hxt_.trans rfl) (fun z hz => by cases hz) (by decide) (by decide) (S.2.2.2.2 _ (List.mem_of_getElem? (i := 1) rfl)) (va_Nw.use rfl (hF_.1.1 _ (by decide +kernel))) hce9 hcv9 hcl9 ?_
      refine lv_astore (lv' := [(5, .ref q9), (0, .ref c), (1, .int (sI s)), (2, .int (sI d)), (3, .int (sI l)), (4, .ref ou)]) hx_ hb_ dL_mostDays_15 hl (by decide) rfl (fun ls hl => ?_)
      refine si_const S dL_mostDays_17 ?_
      have hc12 : M9 ou = some (sArL G 1 g0) := (hf6 ou ).trans ho9
      exact xr_i E hQ dL_mostDays_18 ⟨Nat.le_of_ble_eq_true rfl, Nat.le_of_ble_eq_true rfl⟩ hV (⟨by omega, fun x q0 => hf6 x , Or.inl ⟨(c8), rfl, hc12⟩⟩)
    · subst ee11
      refine vx_catch (own := RL) (name := "java/lang/IllegalArgumentException") S.2.2.2.1 ([⟨0, 12, 15, 25⟩] : List ExceptionTableEntry) ⟨0, 12, 19, 19⟩ ([] : List ExceptionTableEntry) (hxt_.trans rfl) (fun z hz => by rcases List.mem_singleton.mp hz with rfl; exact Or.inr ⟨by decide, _, (S.2.2.2.2 _ (List.mem_of_getElem? (i := 1) rfl)), hF_.1.2 _ (by decide +kernel) _ (by decide +kernel) (by decide)⟩) (by decide) (by decide) (S.2.2.2.2 _ (List.mem_of_getElem? (i := 2) rfl)) (va_Nw.use rfl (hF_.1.1 _ (by decide +kernel))) hce9 hcv9 hcl9 ?_
      refine lv_astore (lv' := [(5, .ref q9), (0, .ref c), (1, .int (sI s)), (2, .int (sI d)), (3, .int (sI l)), (4, .ref ou)]) hx_ hb_ dL_mostDays_19 hl (by decide) rfl (fun ls hl => ?_)
      refine si_const S dL_mostDays_21 ?_
      have hc13 : M9 ou = some (sArL G 1 g0) := (hf6 ou ).trans ho9
      exact xr_i E hQ dL_mostDays_22 ⟨Nat.le_of_ble_eq_true rfl, Nat.le_of_ble_eq_true rfl⟩ hV (⟨by omega, fun x q0 => hf6 x , Or.inr (Or.inl ⟨(c10), rfl, hc13⟩)⟩)
  obtain ⟨hN14, hf15, hq16⟩ := hp3
  rw [hN14] at hV
  rcases hq16 with ⟨c17, ez18⟩
  · rw [ez18]
    refine sl_i2w S dL_mostDays_10 ?_
    have hc19 : M1 ou = some (sArL G 1 g0) := (hf15 ou ).trans ho9
    refine sc_last S hK hV hc19 (by omega) dL_mostDays_11 (fun M20 H locs hM20 hV => ?_)
    have hc21 : M20 ou = some (sArL G 1 (iup g0 0 (sW (mdI f s (d / 10000) (dayI d + 3652) l)))) := (congrFun hM20 ou).trans (va_up_self M1 ou _)
    refine lv_goto (tgt := 23) hx_ hb_ dL_mostDays_12 (by decide) ?_
    refine si_const S dL_mostDays_23 ?_
    exact xr_i E hQ dL_mostDays_24 ⟨Nat.le_of_ble_eq_true rfl, Nat.le_of_ble_eq_true rfl⟩ hV (⟨by omega, fun x q0 => ((congrFun hM20 x).trans (va_up_ne M1 _ (by omega))).trans (hf15 x ), Or.inr (Or.inr (⟨(c17), rfl, hc21⟩))⟩)

abbrev rmL_offer : Room := { frames := 8, cells := 25, slots := 3000, locals := 149 }
set_option maxHeartbeats 4000000 in
set_option maxRecDepth 100000 in
theorem kL_offer (l_ : Launch) (G : sG) (b_ : Nat) (M : sM) (N : Nat) (ou : Nat) (g0 : Int → Int) (c : Nat) (kn : Int) (ch : Int) (f : sF) (kb : Nat) (fs : Int → sF) (p : Int) (g : Int) (v : Int) (hc0 : M c = some (xO c kn ch)) (hst : stC G M (c + 1) f) (hkp : kpC G M (c + 31) kb kn ch fs) (ho9 : M ou = some (sArL G 1 g0)) (hlt : l_.stackTraces = false) (hok : sOk f) (hkb : c + 60 ≤ kb) (hkN : kb ≤ N) (hr : sR p ∧ sR g ∧ sR v) (ho1 : c + 60 ≤ ou) (ho2 : ou < kb) : xcI l_ yL_offer wsL_offer rmL_offer G b_ M N [.ref c, .int (sI p), .int (sI g), .int (sI v), .ref ou] (fun z_ M1 N1 => ∃ kn1 : Int, N ≤ N1 ∧ (∀ x : Nat, ¬ (x = c) → ¬ (x = c + 31) → ¬ (kb ≤ x) → ¬ (c + 1 ≤ x ∧ x < c + 1 + 15) → ¬ (x = ou) → M1 x = M x) ∧ (((¬ ((0 ≤ p ∧ p ≤ 4) ∧ (0 ≤ g ∧ g ≤ 5) ∧ (0 ≤ v ∧ v ≤ 5) ∧ g ≠ v)) ∧ z_ = 1 ∧ M1 c = some (xO c kn1 ch) ∧ stC G M1 (c + 1) f ∧ kpC G M1 (c + 31) kb kn1 ch fs ∧ M1 ou = some (sArL G 1 g0)) ∨ ((((0 ≤ p ∧ p ≤ 4) ∧ (0 ≤ g ∧ g ≤ 5) ∧ (0 ≤ v ∧ v ≤ 5) ∧ g ≠ v) ∧ 8 ≤ f 573) ∧ z_ = 2 ∧ M1 c = some (xO c kn1 ch) ∧ stC G M1 (c + 1) f ∧ kpC G M1 (c + 31) kb kn1 ch fs ∧ M1 ou = some (sArL G 1 g0)) ∨ ((((0 ≤ p ∧ p ≤ 4) ∧ (0 ≤ g ∧ g ≤ 5) ∧ (0 ≤ v ∧ v ≤ 5) ∧ g ≠ v) ∧ f 573 < 8) ∧ z_ = 0 ∧ M1 c = some (xO c kn1 (chn ch)) ∧ stC G M1 (c + 1) (ofF f p g v) ∧ kpC G M1 (c + 31) kb kn1 (chn ch) (fsn ch fs f) ∧ M1 ou = some (sArL G 1 (iup g0 0 (sW (f 573))))))) (fun _ _ _ => False) := by
  refine yE.ofI (cc := cL_offer) (nL := 6) (ret := (some .int)) (hh := [(0, 12, 15, 19), (0, 12, 19, 13)]) (by decide) rfl (Nat.le_of_ble_eq_true rfl) ?_
  intro p_ e_ s_ m_ args_ below_ meth_ c_ ls Q hQ E hF_ hxt_ hl
  have E : sE p_ l_ e_ rmL_offer s_ m_ args_ below_ meth_ c_ cL_offer 6 wsL_offer RL "offer" (some .int) G b_ M N := E
  have S := E.1
  have hx_ := S.1
  have hb_ := S.2.1
  have hK := E.2.2.2.2.1
  have hV := E.2.2.2.2.2.2
  have hl : lv_has ls 6 [(0, .ref c), (1, .int (sI p)), (2, .int (sI g)), (3, .int (sI v)), (4, .ref ou)] := hl
  have inX10_ : ∀ w ∈ wsX100, w ∈ wsL_offer := fun _ h => List.mem_cons_of_mem _ (List.mem_append_left _ (List.mem_append_left _ (List.mem_append_left _ (List.mem_append_left _ (List.mem_append_right _ h)))))
  have inX6_ : ∀ w ∈ wsX60, w ∈ wsL_offer := fun _ h => List.mem_cons_of_mem _ (List.mem_append_left _ (List.mem_append_left _ (List.mem_append_left _ (List.mem_append_right _ h))))
  have inX8_ : ∀ w ∈ wsX80, w ∈ wsL_offer := fun _ h => List.mem_cons_of_mem _ (List.mem_append_left _ (List.mem_append_left _ (List.mem_append_right _ h)))
  have hbN : b_ ≤ N := by have h1 := hV.1.1; have h2 := hV.2.2; omega
  refine lv_aload hx_ hb_ dL_offer_0 (lv_at hl 4 rfl) ?_
  refine si_const S dL_offer_2 ?_
  refine lv_aload_n hx_ hb_ dL_offer_3 rfl (lv_at hl 0 rfl) ?_
  refine lv_iload_n hx_ hb_ dL_offer_4 rfl (lv_at hl 1 rfl) ?_
  refine lv_iload_n hx_ hb_ dL_offer_5 rfl (lv_at hl 2 rfl) ?_
  refine lv_iload_n hx_ hb_ dL_offer_6 rfl (lv_at hl 3 rfl) ?_
  refine yk_Vi E hF_ hV (As := [.int (sI p), .int (sI g), .int (sI v)]) (rest := [.int (sI 0), .ref ou]) (kX10_offer l_ G b_ M N c kn ch f kb fs p g v hc0 hst hkp (hlt) (hok) (hkb) (hkN) (hr)) (cwV 3 S.2.2.2.2 gL_offer_X10_offer rfl rfl rfl (by decide +kernel) ⟨Nat.le_of_ble_eq_true rfl, Nat.le_of_ble_eq_true rfl⟩) (ci := 8) hc0 rfl rfl rfl hl.1 (Nat.le_of_ble_eq_true rfl) dL_offer_7 (c1 := 25) (s1 := 3000) ⟨⟨rfl, rfl⟩, by decide, by decide⟩ ?_ (fun z4 M1 N2 H locs hp3 hV => ?_)
  · rintro E9 M9 N9 H9 locs9 q9 ce9 ⟨kn15, hN6, hf7, hq8⟩ hV hce9 hcv9 hcl9
    rcases hq8 with ⟨c9, ee10, hc11, hc12, hc13⟩ | ⟨c14, ee15, hc16, hc17, hc18⟩
    · subst ee10
      refine vx_catch (own := RL) (name := "java/lang/IllegalArgumentException") S.2.2.2.1 ([] : List ExceptionTableEntry) ⟨0, 12, 15, 19⟩ ([⟨0, 12, 19, 13⟩] : List ExceptionTableEntry) (hxt_.trans rfl) (fun z hz => by cases hz) (by decide) (by decide) (S.2.2.2.2 _ (List.mem_of_getElem? (i := 1) rfl)) (va_Nw.use rfl (hF_.1.1 _ (by decide +kernel))) hce9 hcv9 hcl9 ?_
      refine lv_astore (lv' := [(5, .ref q9), (0, .ref c), (1, .int (sI p)), (2, .int (sI g)), (3, .int (sI v)), (4, .ref ou)]) hx_ hb_ dL_offer_15 hl (by decide) rfl (fun ls hl => ?_)
      refine si_const S dL_offer_17 ?_
      have hc19 : M9 ou = some (sArL G 1 g0) := (hf7 ou (by omega) (by omega) (by omega) (by omega)).trans ho9
      exact xr_i E hQ dL_offer_18 ⟨Nat.le_of_ble_eq_true rfl, Nat.le_of_ble_eq_true rfl⟩ hV (⟨_, by omega, fun x q0 q1 q2 q3 q4 => hf7 x (by omega) (by omega) (by omega) (by omega), Or.inl ⟨(c9), rfl, hc11, hc12, hc13, hc19⟩⟩)
    · subst ee15
      refine vx_catch (own := RL) (name := "java/lang/IllegalStateException") S.2.2.2.1 ([⟨0, 12, 15, 19⟩] : List ExceptionTableEntry) ⟨0, 12, 19, 13⟩ ([] : List ExceptionTableEntry) (hxt_.trans rfl) (fun z hz => by rcases List.mem_singleton.mp hz with rfl; exact Or.inr ⟨by decide, _, (S.2.2.2.2 _ (List.mem_of_getElem? (i := 1) rfl)), hF_.1.2 _ (by decide +kernel) _ (by decide +kernel) (by decide)⟩) (by decide) (by decide) (S.2.2.2.2 _ (List.mem_of_getElem? (i := 2) rfl)) (va_Nw.use rfl (hF_.1.1 _ (by decide +kernel))) hce9 hcv9 hcl9 ?_
      refine lv_astore (lv' := [(5, .ref q9), (0, .ref c), (1, .int (sI p)), (2, .int (sI g)), (3, .int (sI v)), (4, .ref ou)]) hx_ hb_ dL_offer_19 hl (by decide) rfl (fun ls hl => ?_)
      refine si_const S dL_offer_21 ?_
      have hc20 : M9 ou = some (sArL G 1 g0) := (hf7 ou (by omega) (by omega) (by omega) (by omega)).trans ho9
      exact xr_i E hQ dL_offer_22 ⟨Nat.le_of_ble_eq_true rfl, Nat.le_of_ble_eq_true rfl⟩ hV (⟨_, by omega, fun x q0 q1 q2 q3 q4 => hf7 x (by omega) (by omega) (by omega) (by omega), Or.inr (Or.inl ⟨(c14), rfl, hc16, hc17, hc18, hc20⟩)⟩)
  obtain ⟨kn121, hN22, hf23, hq24⟩ := hp3
  rcases hq24 with ⟨c25, ez26, hc27, hc28, hc29⟩
  · rw [ez26]
    refine sl_i2w S dL_offer_10 ?_
    have hc30 : M1 ou = some (sArL G 1 g0) := (hf23 ou (by omega) (by omega) (by omega) (by omega)).trans ho9
    refine sc_last S hK hV hc30 (by omega) dL_offer_11 (fun M31 H locs hM31 hV => ?_)
    have hc32 : M31 ou = some (sArL G 1 (iup g0 0 (sW (f 573)))) := (congrFun hM31 ou).trans (va_up_self M1 ou _)
    refine lv_goto (tgt := 23) hx_ hb_ dL_offer_12 (by decide) ?_
    refine si_const S dL_offer_23 ?_
    have hc33 : M31 c = some (xO c kn121 (chn ch)) := ((congrFun hM31 c).trans (va_up_ne M1 _ (by omega))).trans hc27
    have hc34 : stC G M31 (c + 1) (ofF f p g v) := hc28.fr (fun x q8 q9 => (congrFun hM31 x).trans (va_up_ne M1 _ (by omega)))
    have hc35 : kpC G M31 (c + 31) kb kn121 (chn ch) (fsn ch fs f) := hc29.fr (fun x q8 => (congrFun hM31 x).trans (va_up_ne M1 _ (by omega)))
    exact xr_i E hQ dL_offer_24 ⟨Nat.le_of_ble_eq_true rfl, Nat.le_of_ble_eq_true rfl⟩ hV (⟨_, by omega, fun x q0 q1 q2 q3 q4 => ((congrFun hM31 x).trans (va_up_ne M1 _ (by omega))).trans (hf23 x (by omega) (by omega) (by omega) (by omega)), Or.inr (Or.inr (⟨(c25), rfl, hc33, hc34, hc35, hc32⟩))⟩)

abbrev rmL_getsFrom : Room := { frames := 7, cells := 8, slots := 50, locals := 156 }
set_option maxHeartbeats 4000000 in
set_option maxRecDepth 100000 in
theorem kL_getsFrom (l_ : Launch) (G : sG) (b_ : Nat) (M : sM) (N : Nat) (ou : Nat) (g0 : Int → Int) (c : Nat) (kn : Int) (ch : Int) (f : sF) (o : Int) (hc0 : M c = some (xO c kn ch)) (hst : stC G M (c + 1) f) (hex : excC G M (c + 57)) (ho9 : M ou = some (sArL G 1 g0)) (hlt : l_.stackTraces = false) (hok : sOk f) (hr : sR o) (ho1 : c + 60 ≤ ou) : xcI l_ yL_getsFrom wsL_getsFrom rmL_getsFrom G b_ M N [.ref c, .int (sI o), .ref ou] (fun z_ M1 N1 => N ≤ N1 ∧ excC G M1 (c + 57) ∧ (∀ x : Nat, ¬ (c + 57 ≤ x ∧ x < c + 57 + 3) → ¬ (x = ou) → M1 x = M x) ∧ (((¬ (0 ≤ o ∧ o < f 573)) ∧ z_ = 1 ∧ M1 ou = some (sArL G 1 g0)) ∨ ((0 ≤ o ∧ o < f 573) ∧ z_ = 0 ∧ M1 ou = some (sArL G 1 (iup g0 0 (sW (if plnB f o = 8 then -1 else plnB f o))))))) (fun _ _ _ => False) := by
  refine yE.ofI (cc := cL_getsFrom) (nL := 4) (ret := (some .int)) (hh := [(0, 9, 12, 25)]) (by decide) rfl (Nat.le_of_ble_eq_true rfl) ?_
  intro p_ e_ s_ m_ args_ below_ meth_ c_ ls Q hQ E hF_ hxt_ hl
  have E : sE p_ l_ e_ rmL_getsFrom s_ m_ args_ below_ meth_ c_ cL_getsFrom 4 wsL_getsFrom RL "getsFrom" (some .int) G b_ M N := E
  have S := E.1
  have hx_ := S.1
  have hb_ := S.2.1
  have hK := E.2.2.2.2.1
  have hV := E.2.2.2.2.2.2
  have hl : lv_has ls 4 [(0, .ref c), (1, .int (sI o)), (2, .ref ou)] := hl
  have inX10_ : ∀ w ∈ wsX100, w ∈ wsL_getsFrom := fun _ h => List.mem_cons_of_mem _ (List.mem_append_left _ (List.mem_append_left _ (List.mem_append_left _ (List.mem_append_left _ (List.mem_append_right _ h)))))
  have inX6_ : ∀ w ∈ wsX60, w ∈ wsL_getsFrom := fun _ h => List.mem_cons_of_mem _ (List.mem_append_left _ (List.mem_append_left _ (List.mem_append_left _ (List.mem_append_right _ h))))
  have inX8_ : ∀ w ∈ wsX80, w ∈ wsL_getsFrom := fun _ h => List.mem_cons_of_mem _ (List.mem_append_left _ (List.mem_append_left _ (List.mem_append_right _ h)))
  have inX2_ : ∀ w ∈ wsX20, w ∈ wsL_getsFrom := fun _ h => List.mem_cons_of_mem _ (List.mem_append_left _ (List.mem_append_right _ h))
  have hbN : b_ ≤ N := by have h1 := hV.1.1; have h2 := hV.2.2; omega
  refine lv_aload_n hx_ hb_ dL_getsFrom_0 rfl (lv_at hl 2 rfl) ?_
  refine si_const S dL_getsFrom_1 ?_
  refine lv_aload_n hx_ hb_ dL_getsFrom_2 rfl (lv_at hl 0 rfl) ?_
  refine lv_iload_n hx_ hb_ dL_getsFrom_3 rfl (lv_at hl 1 rfl) ?_
  refine yk_Vi E hF_ hV (As := [.int (sI o)]) (rest := [.int (sI 0), .ref ou]) (kX10_getsFrom l_ G b_ M N c kn ch f o hc0 hst hex (hlt) (hok) (hr)) (cwV 1 S.2.2.2.2 gL_getsFrom_X10_getsFrom rfl rfl rfl (by decide +kernel) ⟨Nat.le_of_ble_eq_true rfl, Nat.le_of_ble_eq_true rfl⟩) (ci := 8) hc0 rfl rfl rfl hl.1 (Nat.le_of_ble_eq_true rfl) dL_getsFrom_4 (c1 := 8) (s1 := 50) ⟨⟨rfl, rfl⟩, by decide, by decide⟩ ?_ (fun z4 M1 N2 H locs hp3 hV => ?_)
  · rintro E9 M9 N9 H9 locs9 q9 ce9 ⟨hN5, hc8, hf6, hq7⟩ hV hce9 hcv9 hcl9
    rcases hq7 with ⟨c9, ee10⟩
    · subst ee10
      refine vx_catch (own := RL) (name := "java/lang/IndexOutOfBoundsException") S.2.2.2.1 ([] : List ExceptionTableEntry) ⟨0, 9, 12, 25⟩ ([] : List ExceptionTableEntry) (hxt_.trans rfl) (fun z hz => by cases hz) (by decide) (by decide) (S.2.2.2.2 _ (List.mem_of_getElem? (i := 1) rfl)) (va_Nw.use rfl (hF_.1.1 _ (by decide +kernel))) hce9 hcv9 hcl9 ?_
      refine lv_astore_n (lv' := [(3, .ref q9), (0, .ref c), (1, .int (sI o)), (2, .ref ou)]) hx_ hb_ dL_getsFrom_12 rfl hl (by decide) rfl (fun ls hl => ?_)
      refine si_const S dL_getsFrom_13 ?_
      have hc11 : M9 ou = some (sArL G 1 g0) := (hf6 ou (by omega)).trans ho9
      exact xr_i E hQ dL_getsFrom_14 ⟨Nat.le_of_ble_eq_true rfl, Nat.le_of_ble_eq_true rfl⟩ hV (⟨by omega, hc8, fun x q0 q1 => hf6 x (by omega), Or.inl ⟨(c9), rfl, hc11⟩⟩)
  obtain ⟨hN12, hc13, hf14, hq15⟩ := hp3
  rw [hN12] at hV
  rcases hq15 with ⟨c16, ez17⟩
  · rw [ez17]
    refine sl_i2w S dL_getsFrom_7 ?_
    have hc18 : M1 ou = some (sArL G 1 g0) := (hf14 ou (by omega)).trans ho9
    refine sc_last S hK hV hc18 (by omega) dL_getsFrom_8 (fun M19 H locs hM19 hV => ?_)
    have hc20 : M19 ou = some (sArL G 1 (iup g0 0 (sW (if plnB f o = 8 then -1 else plnB f o)))) := (congrFun hM19 ou).trans (va_up_self M1 ou _)
    refine lv_goto (tgt := 15) hx_ hb_ dL_getsFrom_9 (by decide) ?_
    refine si_const S dL_getsFrom_15 ?_
    have hc21 : excC G M19 (c + 57) := hc13.fr (fun x q8 q9 => (congrFun hM19 x).trans (va_up_ne M1 _ (by omega)))
    exact xr_i E hQ dL_getsFrom_16 ⟨Nat.le_of_ble_eq_true rfl, Nat.le_of_ble_eq_true rfl⟩ hV (⟨by omega, hc21, fun x q0 q1 => ((congrFun hM19 x).trans (va_up_ne M1 _ (by omega))).trans (hf14 x (by omega)), Or.inr (⟨(c16), rfl, hc20⟩)⟩)

abbrev rmL_join : Room := { frames := 7, cells := 25, slots := 3000, locals := 175 }
set_option maxHeartbeats 4000000 in
set_option maxRecDepth 100000 in
theorem kL_join (l_ : Launch) (G : sG) (b_ : Nat) (M : sM) (N : Nat) (ou : Nat) (g0 : Int → Int) (c : Nat) (kn : Int) (ch : Int) (f : sF) (kb : Nat) (fs : Int → sF) (tn : Int) (te : Int) (t : sF) (wc : Int) (T : sF) (hc0 : M c = some (xO c kn ch)) (hst : stC G M (c + 1) f) (hkp : kpC G M (c + 31) kb kn ch fs) (ht0 : M (c + 32) = some (sObj 7 [.ref (c + 33), .int (sI tn), .int (sI te)])) (ht1 : M (c + 33) = some (sArr G 300 t)) (hct : catC G M (c + 34) wc T) (htr : triC G M (c + 16)) (ho9 : M ou = some (sArL G 1 g0)) (hlt : l_.stackTraces = false) (hok : sOk f) (hkb : c + 60 ≤ kb) (hkN : kb ≤ N) (ht : tpOk t tn) (ho1 : c + 60 ≤ ou) (ho2 : ou < kb) : xcI l_ yL_join wsL_join rmL_join G b_ M N [.ref c, .ref ou] (fun z_ M1 N1 => ∃ kn1 : Int, N ≤ N1 ∧ triC G M1 (c + 16) ∧ catC G M1 (c + 34) wc T ∧ (∀ x : Nat, ¬ (x = c) → ¬ (x = c + 31) → ¬ (x = c + 32) → ¬ (kb ≤ x) → ¬ (c + 1 ≤ x ∧ x < c + 1 + 15) → ¬ (c + 16 ≤ x ∧ x < c + 16 + 15) → ¬ (c + 34 ≤ x ∧ x < c + 34 + 4) → ¬ (x = ou) → M1 x = M x) ∧ (((rcE t tn ≠ -1) ∧ z_ = 1 ∧ M1 c = some (xO c kn1 ch) ∧ stC G M1 (c + 1) f ∧ kpC G M1 (c + 31) kb kn1 ch fs ∧ M1 (c + 32) = some (sObj 7 [.ref (c + 33), .int (sI 0), .int (sI (rcE t tn))]) ∧ M1 ou = some (sArL G 1 g0)) ∨ ((rcE t tn = -1 ∧ ¬ jnQ f t tn) ∧ z_ = 2 ∧ M1 c = some (xO c kn1 ch) ∧ stC G M1 (c + 1) f ∧ kpC G M1 (c + 31) kb kn1 ch fs ∧ M1 (c + 32) = some (sObj 7 [.ref (c + 33), .int (sI 0), .int (sI (-1))]) ∧ M1 ou = some (sArL G 1 g0)) ∨ ((rcE t tn = -1 ∧ jnQ f t tn) ∧ z_ = 0 ∧ M1 c = some (xO c kn1 (chn ch)) ∧ stC G M1 (c + 1) (jnF f t tn) ∧ kpC G M1 (c + 31) kb kn1 (chn ch) (fsn ch fs f) ∧ M1 (c + 32) = some (sObj 7 [.ref (c + 33), .int (sI 0), .int (sI (-1))]) ∧ M1 ou = some (sArL G 1 (iup g0 0 (sW (jnF f t tn 568 - f 568))))))) (fun _ _ _ => False) := by
  refine yE.ofI (cc := cL_join) (nL := 3) (ret := (some .int)) (hh := [(0, 8, 11, 19), (0, 8, 14, 13)]) (by decide) rfl (Nat.le_of_ble_eq_true rfl) ?_
  intro p_ e_ s_ m_ args_ below_ meth_ c_ ls Q hQ E hF_ hxt_ hl
  have E : sE p_ l_ e_ rmL_join s_ m_ args_ below_ meth_ c_ cL_join 3 wsL_join RL "join" (some .int) G b_ M N := E
  have S := E.1
  have hx_ := S.1
  have hb_ := S.2.1
  have hK := E.2.2.2.2.1
  have hV := E.2.2.2.2.2.2
  have hl : lv_has ls 3 [(0, .ref c), (1, .ref ou)] := hl
  have inX10_ : ∀ w ∈ wsX100, w ∈ wsL_join := fun _ h => List.mem_cons_of_mem _ (List.mem_append_left _ (List.mem_append_left _ (List.mem_append_left _ (List.mem_append_left _ (List.mem_append_left _ (List.mem_append_left _ (List.mem_append_right _ h)))))))
  have inX6_ : ∀ w ∈ wsX60, w ∈ wsL_join := fun _ h => List.mem_cons_of_mem _ (List.mem_append_left _ (List.mem_append_left _ (List.mem_append_left _ (List.mem_append_left _ (List.mem_append_left _ (List.mem_append_right _ h))))))
  have inX1_ : ∀ w ∈ wsX10, w ∈ wsL_join := fun _ h => List.mem_cons_of_mem _ (List.mem_append_left _ (List.mem_append_left _ (List.mem_append_left _ (List.mem_append_left _ (List.mem_append_right _ h)))))
  have inX8_ : ∀ w ∈ wsX80, w ∈ wsL_join := fun _ h => List.mem_cons_of_mem _ (List.mem_append_left _ (List.mem_append_left _ (List.mem_append_left _ (List.mem_append_right _ h))))
  have inX9_ : ∀ w ∈ wsX90, w ∈ wsL_join := fun _ h => List.mem_cons_of_mem _ (List.mem_append_left _ (List.mem_append_left _ (List.mem_append_right _ h)))
  have hbN : b_ ≤ N := by have h1 := hV.1.1; have h2 := hV.2.2; omega
  refine lv_aload_n hx_ hb_ dL_join_0 rfl (lv_at hl 1 rfl) ?_
  refine si_const S dL_join_1 ?_
  refine lv_aload_n hx_ hb_ dL_join_2 rfl (lv_at hl 0 rfl) ?_
  refine yk_Vi E hF_ hV (As := []) (rest := [.int (sI 0), .ref ou]) (kX10_join l_ G b_ M N c kn ch f kb fs tn te t wc T hc0 hst hkp ht0 ht1 hct htr (hlt) (hok) (hkb) (hkN) (ht)) (cwV 0 S.2.2.2.2 gL_join_X10_join rfl rfl rfl (by decide +kernel) ⟨Nat.le_of_ble_eq_true rfl, Nat.le_of_ble_eq_true rfl⟩) (ci := 8) hc0 rfl rfl rfl hl.1 (Nat.le_of_ble_eq_true rfl) dL_join_3 (c1 := 25) (s1 := 3000) ⟨⟨rfl, rfl⟩, by decide, by decide⟩ ?_ (fun z4 M1 N2 H locs hp3 hV => ?_)
  · rintro E9 M9 N9 H9 locs9 q9 ce9 ⟨kn15, hN6, hc9, hc10, hf7, hq8⟩ hV hce9 hcv9 hcl9
    rcases hq8 with ⟨c11, ee12, hc13, hc14, hc15, hc16⟩ | ⟨c17, ee18, hc19, hc20, hc21, hc22⟩
    · subst ee12
      refine vx_catch (own := RL) (name := "java/lang/IllegalArgumentException") S.2.2.2.1 ([] : List ExceptionTableEntry) ⟨0, 8, 11, 19⟩ ([⟨0, 8, 14, 13⟩] : List ExceptionTableEntry) (hxt_.trans rfl) (fun z hz => by cases hz) (by decide) (by decide) (S.2.2.2.2 _ (List.mem_of_getElem? (i := 1) rfl)) (va_Nw.use rfl (hF_.1.1 _ (by decide +kernel))) hce9 hcv9 hcl9 ?_
      refine lv_astore_n (lv' := [(2, .ref q9), (0, .ref c), (1, .ref ou)]) hx_ hb_ dL_join_11 rfl hl (by decide) rfl (fun ls hl => ?_)
      refine si_const S dL_join_12 ?_
      have hc23 : M9 ou = some (sArL G 1 g0) := (hf7 ou (by omega) (by omega) (by omega) (by omega) (by omega) (by omega) (by omega)).trans ho9
      exact xr_i E hQ dL_join_13 ⟨Nat.le_of_ble_eq_true rfl, Nat.le_of_ble_eq_true rfl⟩ hV (⟨_, by omega, hc9, hc10, fun x q0 q1 q2 q3 q4 q5 q6 q7 => hf7 x (by omega) (by omega) (by omega) (by omega) (by omega) (by omega) (by omega), Or.inl ⟨(c11), rfl, hc13, hc14, hc15, hc16, hc23⟩⟩)
    · subst ee18
      refine vx_catch (own := RL) (name := "java/lang/IllegalStateException") S.2.2.2.1 ([⟨0, 8, 11, 19⟩] : List ExceptionTableEntry) ⟨0, 8, 14, 13⟩ ([] : List ExceptionTableEntry) (hxt_.trans rfl) (fun z hz => by rcases List.mem_singleton.mp hz with rfl; exact Or.inr ⟨by decide, _, (S.2.2.2.2 _ (List.mem_of_getElem? (i := 1) rfl)), hF_.1.2 _ (by decide +kernel) _ (by decide +kernel) (by decide)⟩) (by decide) (by decide) (S.2.2.2.2 _ (List.mem_of_getElem? (i := 2) rfl)) (va_Nw.use rfl (hF_.1.1 _ (by decide +kernel))) hce9 hcv9 hcl9 ?_
      refine lv_astore_n (lv' := [(2, .ref q9), (0, .ref c), (1, .ref ou)]) hx_ hb_ dL_join_14 rfl hl (by decide) rfl (fun ls hl => ?_)
      refine si_const S dL_join_15 ?_
      have hc24 : M9 ou = some (sArL G 1 g0) := (hf7 ou (by omega) (by omega) (by omega) (by omega) (by omega) (by omega) (by omega)).trans ho9
      exact xr_i E hQ dL_join_16 ⟨Nat.le_of_ble_eq_true rfl, Nat.le_of_ble_eq_true rfl⟩ hV (⟨_, by omega, hc9, hc10, fun x q0 q1 q2 q3 q4 q5 q6 q7 => hf7 x (by omega) (by omega) (by omega) (by omega) (by omega) (by omega) (by omega), Or.inr (Or.inl ⟨(c17), rfl, hc19, hc20, hc21, hc22, hc24⟩)⟩)
  obtain ⟨kn125, hN26, hc27, hc28, hf29, hq30⟩ := hp3
  rcases hq30 with ⟨c31, ez32, hc33, hc34, hc35, hc36⟩
  · rw [ez32]
    refine sl_i2w S dL_join_6 ?_
    have hc37 : M1 ou = some (sArL G 1 g0) := (hf29 ou (by omega) (by omega) (by omega) (by omega) (by omega) (by omega) (by omega)).trans ho9
    refine sc_last S hK hV hc37 (by omega) dL_join_7 (fun M38 H locs hM38 hV => ?_)
    have hc39 : M38 ou = some (sArL G 1 (iup g0 0 (sW (jnF f t tn 568 - f 568)))) := (congrFun hM38 ou).trans (va_up_self M1 ou _)
    refine lv_goto (tgt := 17) hx_ hb_ dL_join_8 (by decide) ?_
    refine si_const S dL_join_17 ?_
    have hc40 : triC G M38 (c + 16) := hc27.fr (fun x q8 q9 => (congrFun hM38 x).trans (va_up_ne M1 _ (by omega)))
    have hc41 : catC G M38 (c + 34) wc T := hc28.fr (fun x q8 q9 => (congrFun hM38 x).trans (va_up_ne M1 _ (by omega)))
    have hc42 : M38 c = some (xO c kn125 (chn ch)) := ((congrFun hM38 c).trans (va_up_ne M1 _ (by omega))).trans hc33
    have hc43 : stC G M38 (c + 1) (jnF f t tn) := hc34.fr (fun x q8 q9 => (congrFun hM38 x).trans (va_up_ne M1 _ (by omega)))
    have hc44 : kpC G M38 (c + 31) kb kn125 (chn ch) (fsn ch fs f) := hc35.fr (fun x q8 => (congrFun hM38 x).trans (va_up_ne M1 _ (by omega)))
    have hc45 : M38 (c + 32) = some (sObj 7 [.ref (c + 33), .int (sI 0), .int (sI (-1))]) := ((congrFun hM38 (c + 32)).trans (va_up_ne M1 _ (by omega))).trans hc36
    exact xr_i E hQ dL_join_18 ⟨Nat.le_of_ble_eq_true rfl, Nat.le_of_ble_eq_true rfl⟩ hV (⟨_, by omega, hc40, hc41, fun x q0 q1 q2 q3 q4 q5 q6 q7 => ((congrFun hM38 x).trans (va_up_ne M1 _ (by omega))).trans (hf29 x (by omega) (by omega) (by omega) (by omega) (by omega) (by omega) (by omega)), Or.inr (Or.inr (⟨(c31), rfl, hc42, hc43, hc44, hc45, hc39⟩))⟩)

abbrev rmL_writtenAt : Room := { frames := 7, cells := 8, slots := 50, locals := 121 }
set_option maxHeartbeats 4000000 in
set_option maxRecDepth 100000 in
theorem kL_writtenAt (l_ : Launch) (G : sG) (b_ : Nat) (M : sM) (N : Nat) (ou : Nat) (g0 : Int → Int) (c : Nat) (kn : Int) (ch : Int) (wc : Int) (T : sF) (i : Int) (hc0 : M c = some (xO c kn ch)) (hct : catC G M (c + 34) wc T) (ho9 : M ou = some (sArL G 1 g0)) (hlt : l_.stackTraces = false) (hwc : 0 ≤ wc ∧ wc ≤ 180) (hT : ∀ q, 0 ≤ q → q < wc → 0 ≤ T q ∧ T q < 65536) (hr : sR i) (ho1 : c + 60 ≤ ou) : xcI l_ yL_writtenAt wsL_writtenAt rmL_writtenAt G b_ M N [.ref c, .int (sI i), .ref ou] (fun z_ M1 N1 => N ≤ N1 ∧ (∀ x : Nat, ¬ (x = ou) → M1 x = M x) ∧ (((¬ (0 ≤ i ∧ i < wc)) ∧ z_ = 1 ∧ M1 ou = some (sArL G 1 g0)) ∨ ((0 ≤ i ∧ i < wc) ∧ z_ = 0 ∧ M1 ou = some (sArL G 1 (iup g0 0 (sW (T i))))))) (fun _ _ _ => False) := by
  refine yE.ofI (cc := cL_writtenAt) (nL := 4) (ret := (some .int)) (hh := [(0, 9, 12, 25)]) (by decide) rfl (Nat.le_of_ble_eq_true rfl) ?_
  intro p_ e_ s_ m_ args_ below_ meth_ c_ ls Q hQ E hF_ hxt_ hl
  have E : sE p_ l_ e_ rmL_writtenAt s_ m_ args_ below_ meth_ c_ cL_writtenAt 4 wsL_writtenAt RL "writtenAt" (some .int) G b_ M N := E
  have S := E.1
  have hx_ := S.1
  have hb_ := S.2.1
  have hK := E.2.2.2.2.1
  have hV := E.2.2.2.2.2.2
  have hl : lv_has ls 4 [(0, .ref c), (1, .int (sI i)), (2, .ref ou)] := hl
  have inX10_ : ∀ w ∈ wsX100, w ∈ wsL_writtenAt := fun _ h => List.mem_cons_of_mem _ (List.mem_append_left _ (List.mem_append_left _ (List.mem_append_right _ h)))
  have inX1_ : ∀ w ∈ wsX10, w ∈ wsL_writtenAt := fun _ h => List.mem_cons_of_mem _ (List.mem_append_left _ (List.mem_append_right _ h))
  have hbN : b_ ≤ N := by have h1 := hV.1.1; have h2 := hV.2.2; omega
  refine lv_aload_n hx_ hb_ dL_writtenAt_0 rfl (lv_at hl 2 rfl) ?_
  refine si_const S dL_writtenAt_1 ?_
  refine lv_aload_n hx_ hb_ dL_writtenAt_2 rfl (lv_at hl 0 rfl) ?_
  refine lv_iload_n hx_ hb_ dL_writtenAt_3 rfl (lv_at hl 1 rfl) ?_
  refine yk_Vi E hF_ hV (As := [.int (sI i)]) (rest := [.int (sI 0), .ref ou]) (kX10_writtenAt l_ G b_ M N c kn ch wc T i hc0 hct (hlt) (hwc) (hT) (hr)) (cwV 1 S.2.2.2.2 gL_writtenAt_X10_writtenAt rfl rfl rfl (by decide +kernel) ⟨Nat.le_of_ble_eq_true rfl, Nat.le_of_ble_eq_true rfl⟩) (ci := 8) hc0 rfl rfl rfl hl.1 (Nat.le_of_ble_eq_true rfl) dL_writtenAt_4 (c1 := 8) (s1 := 50) ⟨⟨rfl, rfl⟩, by decide, by decide⟩ ?_ (fun z4 M1 N2 H locs hp3 hV => ?_)
  · rintro E9 M9 N9 H9 locs9 q9 ce9 ⟨hN5, hf6, hq7⟩ hV hce9 hcv9 hcl9
    rcases hq7 with ⟨c8, ee9⟩
    · subst ee9
      refine vx_catch (own := RL) (name := "java/lang/IndexOutOfBoundsException") S.2.2.2.1 ([] : List ExceptionTableEntry) ⟨0, 9, 12, 25⟩ ([] : List ExceptionTableEntry) (hxt_.trans rfl) (fun z hz => by cases hz) (by decide) (by decide) (S.2.2.2.2 _ (List.mem_of_getElem? (i := 1) rfl)) (va_Nw.use rfl (hF_.1.1 _ (by decide +kernel))) hce9 hcv9 hcl9 ?_
      refine lv_astore_n (lv' := [(3, .ref q9), (0, .ref c), (1, .int (sI i)), (2, .ref ou)]) hx_ hb_ dL_writtenAt_12 rfl hl (by decide) rfl (fun ls hl => ?_)
      refine si_const S dL_writtenAt_13 ?_
      have hc10 : M9 ou = some (sArL G 1 g0) := (hf6 ou ).trans ho9
      exact xr_i E hQ dL_writtenAt_14 ⟨Nat.le_of_ble_eq_true rfl, Nat.le_of_ble_eq_true rfl⟩ hV (⟨by omega, fun x q0 => hf6 x , Or.inl ⟨(c8), rfl, hc10⟩⟩)
  obtain ⟨hN11, hf12, hq13⟩ := hp3
  rw [hN11] at hV
  rcases hq13 with ⟨c14, ez15⟩
  · rw [ez15]
    refine sl_i2w S dL_writtenAt_7 ?_
    have hc16 : M1 ou = some (sArL G 1 g0) := (hf12 ou ).trans ho9
    refine sc_last S hK hV hc16 (by omega) dL_writtenAt_8 (fun M17 H locs hM17 hV => ?_)
    have hc18 : M17 ou = some (sArL G 1 (iup g0 0 (sW (T i)))) := (congrFun hM17 ou).trans (va_up_self M1 ou _)
    refine lv_goto (tgt := 15) hx_ hb_ dL_writtenAt_9 (by decide) ?_
    refine si_const S dL_writtenAt_15 ?_
    exact xr_i E hQ dL_writtenAt_16 ⟨Nat.le_of_ble_eq_true rfl, Nat.le_of_ble_eq_true rfl⟩ hV (⟨by omega, fun x q0 => ((congrFun hM17 x).trans (va_up_ne M1 _ (by omega))).trans (hf12 x ), Or.inr (⟨(c14), rfl, hc18⟩)⟩)
