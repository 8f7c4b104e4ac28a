/-! The law: wrappers. -/

abbrev rmL_append : Room := { frames := 7, cells := 1, slots := 6, locals := 126 }
set_option maxHeartbeats 4000000 in
set_option maxRecDepth 100000 in
theorem kL_append (l_ : Launch) (G : sG) (b_ : Nat) (M : sM) (N : Nat) (ou : Nat) (g0 : Int → Int) (c : Nat) (kn : Int) (ch : Int) (tn : Int) (te : Int) (t : sF) (v1 : Int) (v2 : Int) (v3 : Int) (v4 : Int) (v5 : Int) (hc0 : M c = some (xO c kn ch)) (ht0 : M (c + 32) = some (sObj 7 [.ref (c + 33), .int (sI tn), .int (sI te)])) (ht1 : M (c + 33) = some (sArr G 300 t)) (ho9 : M ou = some (sArL G 1 g0)) (hlt : l_.stackTraces = false) (hn : 0 ≤ tn ∧ tn ≤ 300) (ho1 : c + 60 ≤ ou) : xcI l_ yL_append wsL_append rmL_append G b_ M N [.ref c, .int (sI v1), .int (sI v2), .int (sI v3), .int (sI v4), .int (sI v5), .ref ou] (fun z_ M1 N1 => N ≤ N1 ∧ (∀ x : Nat, ¬ (x = c + 32) → ¬ (x = c + 33) → ¬ (x = ou) → M1 x = M x) ∧ (((300 < tn + apB v1 v2 v3 v4 v5) ∧ z_ = 1 ∧ M1 (c + 32) = some (sObj 7 [.ref (c + 33), .int (sI tn), .int (sI te)]) ∧ M1 (c + 33) = some (sArr G 300 t) ∧ M1 ou = some (sArL G 1 g0)) ∨ ((tn + apB v1 v2 v3 v4 v5 ≤ 300) ∧ z_ = 0 ∧ M1 (c + 32) = some (sObj 7 [.ref (c + 33), .int (sI (tn + apB v1 v2 v3 v4 v5)), .int (sI te)]) ∧ M1 (c + 33) = some (sArr G 300 (apT t tn v1 v2 v3 v4 v5)) ∧ M1 ou = some (sArL G 1 (iup g0 0 (sW (tn + apB v1 v2 v3 v4 v5))))))) (fun _ _ _ => False) := by
  refine yE.ofI (cc := cL_append) (nL := 8) (ret := (some .int)) (hh := [(0, 16, 19, 13)]) (by decide) rfl (Nat.le_of_ble_eq_true rfl) ?_
  intro p_ e_ s_ m_ args_ below_ meth_ c_ ls Q hQ E hF_ hxt_ hl
  have E : sE p_ l_ e_ rmL_append s_ m_ args_ below_ meth_ c_ cL_append 8 wsL_append RL "append" (some .int) G b_ M N := E
  have S := E.1
  have hx_ := S.1
  have hb_ := S.2.1
  have hK := E.2.2.2.2.1
  have hV := E.2.2.2.2.2.2
  have hl : lv_has ls 8 [(0, .ref c), (1, .int (sI v1)), (2, .int (sI v2)), (3, .int (sI v3)), (4, .int (sI v4)), (5, .int (sI v5)), (6, .ref ou)] := hl
  have inX10_ : ∀ w ∈ wsX100, w ∈ wsL_append := fun _ h => List.mem_cons_of_mem _ (List.mem_append_left _ (List.mem_append_left _ (List.mem_append_right _ h)))
  have inX9_ : ∀ w ∈ wsX90, w ∈ wsL_append := fun _ h => List.mem_cons_of_mem _ (List.mem_append_left _ (List.mem_append_right _ h))
  have hbN : b_ ≤ N := by have h1 := hV.1.1; have h2 := hV.2.2; omega
  refine lv_aload hx_ hb_ dL_append_0 (lv_at hl 6 rfl) ?_
  refine si_const S dL_append_2 ?_
  refine lv_aload_n hx_ hb_ dL_append_3 rfl (lv_at hl 0 rfl) ?_
  refine lv_iload_n hx_ hb_ dL_append_4 rfl (lv_at hl 1 rfl) ?_
  refine lv_iload_n hx_ hb_ dL_append_5 rfl (lv_at hl 2 rfl) ?_
  refine lv_iload_n hx_ hb_ dL_append_6 rfl (lv_at hl 3 rfl) ?_
  refine lv_iload hx_ hb_ dL_append_7 (lv_at hl 4 rfl) ?_
  refine lv_iload hx_ hb_ dL_append_9 (lv_at hl 5 rfl) ?_
  refine yk_Vi E hF_ hV (As := [.int (sI v1), .int (sI v2), .int (sI v3), .int (sI v4), .int (sI v5)]) (rest := [.int (sI 0), .ref ou]) (kX10_append l_ G b_ M N c kn ch tn te t v1 v2 v3 v4 v5 hc0 ht0 ht1 (hlt) (hn)) (cwV 5 S.2.2.2.2 gL_append_X10_append rfl rfl rfl (by decide +kernel) ⟨Nat.le_of_ble_eq_true rfl, Nat.le_of_ble_eq_true rfl⟩) (ci := 8) hc0 rfl rfl rfl hl.1 (Nat.le_of_ble_eq_true rfl) dL_append_11 (c1 := 1) (s1 := 6) ⟨⟨rfl, rfl⟩, by decide, by decide⟩ ?_ (fun z4 M1 N2 H locs hp3 hV => ?_)
  · rintro E9 M9 N9 H9 locs9 q9 ce9 ⟨hN5, hf6, hq7⟩ hV hce9 hcv9 hcl9
    rcases hq7 with ⟨c8, ee9, hc10, hc11⟩
    · subst ee9
      refine vx_catch (own := RL) (name := "java/lang/IllegalStateException") S.2.2.2.1 ([] : List ExceptionTableEntry) ⟨0, 16, 19, 13⟩ ([] : List ExceptionTableEntry) (hxt_.trans rfl) (fun z hz => by cases hz) (by decide) (by decide) (S.2.2.2.2 _ (List.mem_of_getElem? (i := 1) rfl)) (va_Nw.use rfl (hF_.1.1 _ (by decide +kernel))) hce9 hcv9 hcl9 ?_
      refine lv_astore (lv' := [(7, .ref q9), (0, .ref c), (1, .int (sI v1)), (2, .int (sI v2)), (3, .int (sI v3)), (4, .int (sI v4)), (5, .int (sI v5)), (6, .ref ou)]) hx_ hb_ dL_append_19 hl (by decide) rfl (fun ls hl => ?_)
      refine si_const S dL_append_21 ?_
      have hc12 : M9 ou = some (sArL G 1 g0) := (hf6 ou (by omega) (by omega)).trans ho9
      exact xr_i E hQ dL_append_22 ⟨Nat.le_of_ble_eq_true rfl, Nat.le_of_ble_eq_true rfl⟩ hV (⟨by omega, fun x q0 q1 q2 => hf6 x (by omega) (by omega), Or.inl ⟨(c8), rfl, hc10, hc11, hc12⟩⟩)
  obtain ⟨hN13, hf14, hq15⟩ := hp3
  rw [hN13] at hV
  rcases hq15 with ⟨c16, ez17, hc18, hc19⟩
  · rw [ez17]
    refine sl_i2w S dL_append_14 ?_
    have hc20 : M1 ou = some (sArL G 1 g0) := (hf14 ou (by omega) (by omega)).trans ho9
    refine sc_last S hK hV hc20 (by omega) dL_append_15 (fun M21 H locs hM21 hV => ?_)
    have hc22 : M21 ou = some (sArL G 1 (iup g0 0 (sW (tn + apB v1 v2 v3 v4 v5)))) := (congrFun hM21 ou).trans (va_up_self M1 ou _)
    refine lv_goto (tgt := 23) hx_ hb_ dL_append_16 (by decide) ?_
    refine si_const S dL_append_23 ?_
    have hc23 : M21 (c + 32) = some (sObj 7 [.ref (c + 33), .int (sI (tn + apB v1 v2 v3 v4 v5)), .int (sI te)]) := ((congrFun hM21 (c + 32)).trans (va_up_ne M1 _ (by omega))).trans hc18
    have hc24 : M21 (c + 33) = some (sArr G 300 (apT t tn v1 v2 v3 v4 v5)) := ((congrFun hM21 (c + 33)).trans (va_up_ne M1 _ (by omega))).trans hc19
    exact xr_i E hQ dL_append_24 ⟨Nat.le_of_ble_eq_true rfl, Nat.le_of_ble_eq_true rfl⟩ hV (⟨by omega, fun x q0 q1 q2 => ((congrFun hM21 x).trans (va_up_ne M1 _ (by omega))).trans (hf14 x (by omega) (by omega)), Or.inr (⟨(c16), rfl, hc23, hc24, hc22⟩)⟩)

abbrev rmL_stone : Room := { frames := 7, cells := 25, slots := 3000, locals := 152 }
set_option maxHeartbeats 4000000 in
set_option maxRecDepth 100000 in
theorem kL_stone (l_ : Launch) (G : sG) (b_ : Nat) (M : sM) (N : Nat) (ou : Nat) (g0 : Int → Int) (c : Nat) (kn : Int) (ch : Int) (f : sF) (kb : Nat) (fs : Int → sF) (tn : Int) (te : Int) (t : sF) (k : Int) (z : Int) (u : Int) (v : Int) (hc0 : M c = some (xO c kn ch)) (hst : stC G M (c + 1) f) (hkp : kpC G M (c + 31) kb kn ch fs) (ht0 : M (c + 32) = some (sObj 7 [.ref (c + 33), .int (sI tn), .int (sI te)])) (ht1 : M (c + 33) = some (sArr G 300 t)) (ho9 : M ou = some (sArL G 1 g0)) (hlt : l_.stackTraces = false) (hok : sOk f) (hkb : c + 60 ≤ kb) (hkN : kb ≤ N) (ht : tpOk t tn) (hr : sR k ∧ sR z ∧ sR u ∧ sR v) (ho1 : c + 60 ≤ ou) (ho2 : ou < kb) : xcI l_ yL_stone wsL_stone rmL_stone G b_ M N [.ref c, .int (sI k), .int (sI z), .int (sI u), .int (sI v), .ref ou] (fun z_ M1 N1 => ∃ kn1 : Int, N ≤ N1 ∧ (∀ x : Nat, ¬ (x = c) → ¬ (x = c + 31) → ¬ (x = c + 32) → ¬ (kb ≤ x) → ¬ (c + 1 ≤ x ∧ x < c + 1 + 15) → ¬ (x = ou) → M1 x = M x) ∧ (((¬ nuP k z u v) ∧ z_ = 1 ∧ M1 c = some (xO c kn1 ch) ∧ stC G M1 (c + 1) f ∧ kpC G M1 (c + 31) kb kn1 ch fs ∧ M1 (c + 32) = some (sObj 7 [.ref (c + 33), .int (sI 0), .int (sI (-1))]) ∧ M1 (c + 33) = some (sArr G 300 t) ∧ M1 ou = some (sArL G 1 g0)) ∨ ((nuP k z u v ∧ ¬ isC t tn) ∧ z_ = 1 ∧ M1 c = some (xO c kn1 ch) ∧ stC G M1 (c + 1) f ∧ kpC G M1 (c + 31) kb kn1 ch fs ∧ M1 (c + 32) = some (sObj 7 [.ref (c + 33), .int (sI 0), .int (sI (ltc t tn))]) ∧ M1 (c + 33) = some (sArr G 300 t) ∧ M1 ou = some (sArL G 1 g0)) ∨ ((nuP k z u v ∧ isC t tn ∧ idx (fun q => f q = coA t tn 0) (f 568) ≠ -1) ∧ z_ = 1 ∧ M1 c = some (xO c kn1 ch) ∧ stC G M1 (c + 1) f ∧ kpC G M1 (c + 31) kb kn1 ch fs ∧ M1 (c + 32) = some (sObj 7 [.ref (c + 33), .int (sI 0), .int (sI 0)]) ∧ M1 (c + 33) = some (sArr G 300 t) ∧ M1 ou = some (sArL G 1 g0)) ∨ ((nuP k z u v ∧ isC t tn ∧ idx (fun q => f q = coA t tn 0) (f 568) = -1 ∧ 10 ≤ f 568) ∧ z_ = 2 ∧ M1 c = some (xO c kn1 ch) ∧ stC G M1 (c + 1) f ∧ kpC G M1 (c + 31) kb kn1 ch fs ∧ M1 (c + 32) = some (sObj 7 [.ref (c + 33), .int (sI 0), .int (sI (-1))]) ∧ M1 (c + 33) = some (sArr G 300 t) ∧ M1 ou = some (sArL G 1 g0)) ∨ ((nuP k z u v ∧ isC t tn ∧ idx (fun q => f q = coA t tn 0) (f 568) = -1 ∧ f 568 < 10) ∧ z_ = 0 ∧ M1 c = some (xO c kn1 (chn ch)) ∧ stC G M1 (c + 1) (comF f (coA t tn 0) k z u v) ∧ kpC G M1 (c + 31) kb kn1 (chn ch) (fsn ch fs f) ∧ M1 (c + 32) = some (sObj 7 [.ref (c + 33), .int (sI 0), .int (sI (-1))]) ∧ M1 (c + 33) = some (sArr G 300 t) ∧ M1 ou = some (sArL G 1 (iup g0 0 (sW (f 568))))))) (fun _ _ _ => False) := by
  refine yE.ofI (cc := cL_stone) (nL := 7) (ret := (some .int)) (hh := [(0, 14, 17, 19), (0, 14, 21, 13)]) (by decide) rfl (Nat.le_of_ble_eq_true rfl) ?_
  intro p_ e_ s_ m_ args_ below_ meth_ c_ ls Q hQ E hF_ hxt_ hl
  have E : sE p_ l_ e_ rmL_stone s_ m_ args_ below_ meth_ c_ cL_stone 7 wsL_stone RL "stone" (some .int) G b_ M N := E
  have S := E.1
  have hx_ := S.1
  have hb_ := S.2.1
  have hK := E.2.2.2.2.1
  have hV := E.2.2.2.2.2.2
  have hl : lv_has ls 7 [(0, .ref c), (1, .int (sI k)), (2, .int (sI z)), (3, .int (sI u)), (4, .int (sI v)), (5, .ref ou)] := hl
  have inX10_ : ∀ w ∈ wsX100, w ∈ wsL_stone := fun _ h => List.mem_cons_of_mem _ (List.mem_append_left _ (List.mem_append_left _ (List.mem_append_left _ (List.mem_append_left _ (List.mem_append_left _ (List.mem_append_right _ h))))))
  have inX6_ : ∀ w ∈ wsX60, w ∈ wsL_stone := fun _ h => List.mem_cons_of_mem _ (List.mem_append_left _ (List.mem_append_left _ (List.mem_append_left _ (List.mem_append_left _ (List.mem_append_right _ h)))))
  have inX9_ : ∀ w ∈ wsX90, w ∈ wsL_stone := fun _ h => List.mem_cons_of_mem _ (List.mem_append_left _ (List.mem_append_left _ (List.mem_append_left _ (List.mem_append_right _ h))))
  have inX8_ : ∀ w ∈ wsX80, w ∈ wsL_stone := fun _ h => List.mem_cons_of_mem _ (List.mem_append_left _ (List.mem_append_left _ (List.mem_append_right _ h)))
  have hbN : b_ ≤ N := by have h1 := hV.1.1; have h2 := hV.2.2; omega
  refine lv_aload hx_ hb_ dL_stone_0 (lv_at hl 5 rfl) ?_
  refine si_const S dL_stone_2 ?_
  refine lv_aload_n hx_ hb_ dL_stone_3 rfl (lv_at hl 0 rfl) ?_
  refine lv_iload_n hx_ hb_ dL_stone_4 rfl (lv_at hl 1 rfl) ?_
  refine lv_iload_n hx_ hb_ dL_stone_5 rfl (lv_at hl 2 rfl) ?_
  refine lv_iload_n hx_ hb_ dL_stone_6 rfl (lv_at hl 3 rfl) ?_
  refine lv_iload hx_ hb_ dL_stone_7 (lv_at hl 4 rfl) ?_
  refine yk_Vi E hF_ hV (As := [.int (sI k), .int (sI z), .int (sI u), .int (sI v)]) (rest := [.int (sI 0), .ref ou]) (kX10_stone l_ G b_ M N c kn ch f kb fs tn te t k z u v hc0 hst hkp ht0 ht1 (hlt) (hok) (hkb) (hkN) (ht) (hr)) (cwV 4 S.2.2.2.2 gL_stone_X10_stone rfl rfl rfl (by decide +kernel) ⟨Nat.le_of_ble_eq_true rfl, Nat.le_of_ble_eq_true rfl⟩) (ci := 8) hc0 rfl rfl rfl hl.1 (Nat.le_of_ble_eq_true rfl) dL_stone_9 (c1 := 25) (s1 := 3000) ⟨⟨rfl, rfl⟩, by decide, by decide⟩ ?_ (fun z4 M1 N2 H locs hp3 hV => ?_)
  · rintro E9 M9 N9 H9 locs9 q9 ce9 ⟨kn15, hN6, hf7, hq8⟩ hV hce9 hcv9 hcl9
    rcases hq8 with ⟨c9, ee10, hc11, hc12, hc13, hc14, hc15⟩ | ⟨c16, ee17, hc18, hc19, hc20, hc21, hc22⟩ | ⟨c23, ee24, hc25, hc26, hc27, hc28, hc29⟩ | ⟨c30, ee31, hc32, hc33, hc34, hc35, hc36⟩
    · subst ee10
      refine vx_catch (own := RL) (name := "java/lang/IllegalArgumentException") S.2.2.2.1 ([] : List ExceptionTableEntry) ⟨0, 14, 17, 19⟩ ([⟨0, 14, 21, 13⟩] : List ExceptionTableEntry) (hxt_.trans rfl) (fun z hz => by cases hz) (by decide) (by decide) (S.2.2.2.2 _ (List.mem_of_getElem? (i := 1) rfl)) (va_Nw.use rfl (hF_.1.1 _ (by decide +kernel))) hce9 hcv9 hcl9 ?_
      refine lv_astore (lv' := [(6, .ref q9), (0, .ref c), (1, .int (sI k)), (2, .int (sI z)), (3, .int (sI u)), (4, .int (sI v)), (5, .ref ou)]) hx_ hb_ dL_stone_17 hl (by decide) rfl (fun ls hl => ?_)
      refine si_const S dL_stone_19 ?_
      have hc37 : M9 ou = some (sArL G 1 g0) := (hf7 ou (by omega) (by omega) (by omega) (by omega) (by omega)).trans ho9
      exact xr_i E hQ dL_stone_20 ⟨Nat.le_of_ble_eq_true rfl, Nat.le_of_ble_eq_true rfl⟩ hV (⟨_, by omega, fun x q0 q1 q2 q3 q4 q5 => hf7 x (by omega) (by omega) (by omega) (by omega) (by omega), Or.inl ⟨(c9), rfl, hc11, hc12, hc13, hc14, hc15, hc37⟩⟩)
    · subst ee17
      refine vx_catch (own := RL) (name := "java/lang/IllegalArgumentException") S.2.2.2.1 ([] : List ExceptionTableEntry) ⟨0, 14, 17, 19⟩ ([⟨0, 14, 21, 13⟩] : List ExceptionTableEntry) (hxt_.trans rfl) (fun z hz => by cases hz) (by decide) (by decide) (S.2.2.2.2 _ (List.mem_of_getElem? (i := 1) rfl)) (va_Nw.use rfl (hF_.1.1 _ (by decide +kernel))) hce9 hcv9 hcl9 ?_
      refine lv_astore (lv' := [(6, .ref q9), (0, .ref c), (1, .int (sI k)), (2, .int (sI z)), (3, .int (sI u)), (4, .int (sI v)), (5, .ref ou)]) hx_ hb_ dL_stone_17 hl (by decide) rfl (fun ls hl => ?_)
      refine si_const S dL_stone_19 ?_
      have hc38 : M9 ou = some (sArL G 1 g0) := (hf7 ou (by omega) (by omega) (by omega) (by omega) (by omega)).trans ho9
      exact xr_i E hQ dL_stone_20 ⟨Nat.le_of_ble_eq_true rfl, Nat.le_of_ble_eq_true rfl⟩ hV (⟨_, by omega, fun x q0 q1 q2 q3 q4 q5 => hf7 x (by omega) (by omega) (by omega) (by omega) (by omega), Or.inr (Or.inl ⟨(c16), rfl, hc18, hc19, hc20, hc21, hc22, hc38⟩)⟩)
    · subst ee24
      refine vx_catch (own := RL) (name := "java/lang/IllegalArgumentException") S.2.2.2.1 ([] : List ExceptionTableEntry) ⟨0, 14, 17, 19⟩ ([⟨0, 14, 21, 13⟩] : List ExceptionTableEntry) (hxt_.trans rfl) (fun z hz => by cases hz) (by decide) (by decide) (S.2.2.2.2 _ (List.mem_of_getElem? (i := 1) rfl)) (va_Nw.use rfl (hF_.1.1 _ (by decide +kernel))) hce9 hcv9 hcl9 ?_
      refine lv_astore (lv' := [(6, .ref q9), (0, .ref c), (1, .int (sI k)), (2, .int (sI z)), (3, .int (sI u)), (4, .int (sI v)), (5, .ref ou)]) hx_ hb_ dL_stone_17 hl (by decide) rfl (fun ls hl => ?_)
      refine si_const S dL_stone_19 ?_
      have hc39 : M9 ou = some (sArL G 1 g0) := (hf7 ou (by omega) (by omega) (by omega) (by omega) (by omega)).trans ho9
      exact xr_i E hQ dL_stone_20 ⟨Nat.le_of_ble_eq_true rfl, Nat.le_of_ble_eq_true rfl⟩ hV (⟨_, by omega, fun x q0 q1 q2 q3 q4 q5 => hf7 x (by omega) (by omega) (by omega) (by omega) (by omega), Or.inr (Or.inr (Or.inl ⟨(c23), rfl, hc25, hc26, hc27, hc28, hc29, hc39⟩))⟩)
    · subst ee31
      refine vx_catch (own := RL) (name := "java/lang/IllegalStateException") S.2.2.2.1 ([⟨0, 14, 17, 19⟩] : List ExceptionTableEntry) ⟨0, 14, 21, 13⟩ ([] : List ExceptionTableEntry) (hxt_.trans rfl) (fun z hz => by rcases List.mem_singleton.mp hz with rfl; exact Or.inr ⟨by decide, _, (S.2.2.2.2 _ (List.mem_of_getElem? (i := 1) rfl)), hF_.1.2 _ (by decide +kernel) _ (by decide +kernel) (by decide)⟩) (by decide) (by decide) (S.2.2.2.2 _ (List.mem_of_getElem? (i := 2) rfl)) (va_Nw.use rfl (hF_.1.1 _ (by decide +kernel))) hce9 hcv9 hcl9 ?_
      refine lv_astore (lv' := [(6, .ref q9), (0, .ref c), (1, .int (sI k)), (2, .int (sI z)), (3, .int (sI u)), (4, .int (sI v)), (5, .ref ou)]) hx_ hb_ dL_stone_21 hl (by decide) rfl (fun ls hl => ?_)
      refine si_const S dL_stone_23 ?_
      have hc40 : M9 ou = some (sArL G 1 g0) := (hf7 ou (by omega) (by omega) (by omega) (by omega) (by omega)).trans ho9
      exact xr_i E hQ dL_stone_24 ⟨Nat.le_of_ble_eq_true rfl, Nat.le_of_ble_eq_true rfl⟩ hV (⟨_, by omega, fun x q0 q1 q2 q3 q4 q5 => hf7 x (by omega) (by omega) (by omega) (by omega) (by omega), Or.inr (Or.inr (Or.inr (Or.inl ⟨(c30), rfl, hc32, hc33, hc34, hc35, hc36, hc40⟩)))⟩)
  obtain ⟨kn141, hN42, hf43, hq44⟩ := hp3
  rcases hq44 with ⟨c45, ez46, hc47, hc48, hc49, hc50, hc51⟩
  · rw [ez46]
    refine sl_i2w S dL_stone_12 ?_
    have hc52 : M1 ou = some (sArL G 1 g0) := (hf43 ou (by omega) (by omega) (by omega) (by omega) (by omega)).trans ho9
    refine sc_last S hK hV hc52 (by omega) dL_stone_13 (fun M53 H locs hM53 hV => ?_)
    have hc54 : M53 ou = some (sArL G 1 (iup g0 0 (sW (f 568)))) := (congrFun hM53 ou).trans (va_up_self M1 ou _)
    refine lv_goto (tgt := 25) hx_ hb_ dL_stone_14 (by decide) ?_
    refine si_const S dL_stone_25 ?_
    have hc55 : M53 c = some (xO c kn141 (chn ch)) := ((congrFun hM53 c).trans (va_up_ne M1 _ (by omega))).trans hc47
    have hc56 : stC G M53 (c + 1) (comF f (coA t tn 0) k z u v) := hc48.fr (fun x q8 q9 => (congrFun hM53 x).trans (va_up_ne M1 _ (by omega)))
    have hc57 : kpC G M53 (c + 31) kb kn141 (chn ch) (fsn ch fs f) := hc49.fr (fun x q8 => (congrFun hM53 x).trans (va_up_ne M1 _ (by omega)))
    have hc58 : M53 (c + 32) = some (sObj 7 [.ref (c + 33), .int (sI 0), .int (sI (-1))]) := ((congrFun hM53 (c + 32)).trans (va_up_ne M1 _ (by omega))).trans hc50
    have hc59 : M53 (c + 33) = some (sArr G 300 t) := ((congrFun hM53 (c + 33)).trans (va_up_ne M1 _ (by omega))).trans hc51
    exact xr_i E hQ dL_stone_26 ⟨Nat.le_of_ble_eq_true rfl, Nat.le_of_ble_eq_true rfl⟩ hV (⟨_, by omega, fun x q0 q1 q2 q3 q4 q5 => ((congrFun hM53 x).trans (va_up_ne M1 _ (by omega))).trans (hf43 x (by omega) (by omega) (by omega) (by omega) (by omega)), Or.inr (Or.inr (Or.inr (Or.inr (⟨(c45), rfl, hc55, hc56, hc57, hc58, hc59, hc54⟩))))⟩)

abbrev rmL_stoneOf : Room := { frames := 8, cells := 8, slots := 50, locals := 144 }
set_option maxHeartbeats 4000000 in
set_option maxRecDepth 100000 in
theorem kL_stoneOf (l_ : Launch) (G : sG) (b_ : Nat) (M : sM) (N : Nat) (ou : Nat) (g0 : Int → Int) (c : Nat) (kn : Int) (ch : Int) (f : sF) (s : Int) (j : Int) (hc0 : M c = some (xO c kn ch)) (hst : stC G M (c + 1) f) (ho9 : M ou = some (sArL G 1 g0)) (hlt : l_.stackTraces = false) (hok : sOk f) (hr : sR s ∧ sR j) (ho1 : c + 60 ≤ ou) : xcI l_ yL_stoneOf wsL_stoneOf rmL_stoneOf G b_ M N [.ref c, .int (sI s), .int (sI j), .ref ou] (fun z_ M1 N1 => N ≤ N1 ∧ (∀ x : Nat, ¬ (x = ou) → M1 x = M x) ∧ (((¬ (0 ≤ s ∧ s < f 568)) ∧ z_ = 1 ∧ M1 ou = some (sArL G 1 g0)) ∨ (((0 ≤ s ∧ s < f 568) ∧ ¬ (0 ≤ j ∧ j ≤ 5)) ∧ z_ = 2 ∧ M1 ou = some (sArL G 1 g0)) ∨ (((0 ≤ s ∧ s < f 568) ∧ j = 5) ∧ z_ = 0 ∧ M1 ou = some (sArL G 1 (iup g0 0 (sW (isum (f 568) (plT f s)))))) ∨ (((0 ≤ s ∧ s < f 568) ∧ 0 ≤ j ∧ j ≤ 4) ∧ z_ = 0 ∧ M1 ou = some (sArL G 1 (iup g0 0 (sW (f (10 + 10 * j + s)))))))) (fun _ _ _ => False) := by
  refine yE.ofI (cc := cL_stoneOf) (nL := 5) (ret := (some .int)) (hh := [(0, 10, 13, 25), (0, 10, 17, 19)]) (by decide) rfl (Nat.le_of_ble_eq_true rfl) ?_
  intro p_ e_ s_ m_ args_ below_ meth_ c_ ls Q hQ E hF_ hxt_ hl
  have E : sE p_ l_ e_ rmL_stoneOf s_ m_ args_ below_ meth_ c_ cL_stoneOf 5 wsL_stoneOf RL "stoneOf" (some .int) G b_ M N := E
  have S := E.1
  have hx_ := S.1
  have hb_ := S.2.1
  have hK := E.2.2.2.2.1
  have hV := E.2.2.2.2.2.2
  have hl : lv_has ls 5 [(0, .ref c), (1, .int (sI s)), (2, .int (sI j)), (3, .ref ou)] := hl
  have inX10_ : ∀ w ∈ wsX100, w ∈ wsL_stoneOf := fun _ h => List.mem_cons_of_mem _ (List.mem_append_left _ (List.mem_append_left _ (List.mem_append_left _ (List.mem_append_left _ (List.mem_append_right _ h)))))
  have inX6_ : ∀ w ∈ wsX60, w ∈ wsL_stoneOf := fun _ h => List.mem_cons_of_mem _ (List.mem_append_left _ (List.mem_append_left _ (List.mem_append_left _ (List.mem_append_right _ h))))
  have inX8_ : ∀ w ∈ wsX80, w ∈ wsL_stoneOf := fun _ h => List.mem_cons_of_mem _ (List.mem_append_left _ (List.mem_append_left _ (List.mem_append_right _ h)))
  have hbN : b_ ≤ N := by have h1 := hV.1.1; have h2 := hV.2.2; omega
  refine lv_aload_n hx_ hb_ dL_stoneOf_0 rfl (lv_at hl 3 rfl) ?_
  refine si_const S dL_stoneOf_1 ?_
  refine lv_aload_n hx_ hb_ dL_stoneOf_2 rfl (lv_at hl 0 rfl) ?_
  refine lv_iload_n hx_ hb_ dL_stoneOf_3 rfl (lv_at hl 1 rfl) ?_
  refine lv_iload_n hx_ hb_ dL_stoneOf_4 rfl (lv_at hl 2 rfl) ?_
  refine yk_Vi E hF_ hV (As := [.int (sI s), .int (sI j)]) (rest := [.int (sI 0), .ref ou]) (kX10_stoneOf l_ G b_ M N c kn ch f s j hc0 hst (hlt) (hok) (hr)) (cwV 2 S.2.2.2.2 gL_stoneOf_X10_stoneOf rfl rfl rfl (by decide +kernel) ⟨Nat.le_of_ble_eq_true rfl, Nat.le_of_ble_eq_true rfl⟩) (ci := 8) hc0 rfl rfl rfl hl.1 (Nat.le_of_ble_eq_true rfl) dL_stoneOf_5 (c1 := 8) (s1 := 50) ⟨⟨rfl, rfl⟩, by decide, by decide⟩ ?_ (fun z4 M1 N2 H locs hp3 hV => ?_)
  · rintro E9 M9 N9 H9 locs9 q9 ce9 ⟨hN5, hf6, hq7⟩ hV hce9 hcv9 hcl9
    rcases hq7 with ⟨c8, ee9⟩ | ⟨c10, ee11⟩
    · subst ee9
      refine vx_catch (own := RL) (name := "java/lang/IndexOutOfBoundsException") S.2.2.2.1 ([] : List ExceptionTableEntry) ⟨0, 10, 13, 25⟩ ([⟨0, 10, 17, 19⟩] : List ExceptionTableEntry) (hxt_.trans rfl) (fun z hz => by cases hz) (by decide) (by decide) (S.2.2.2.2 _ (List.mem_of_getElem? (i := 1) rfl)) (va_Nw.use rfl (hF_.1.1 _ (by decide +kernel))) hce9 hcv9 hcl9 ?_
      refine lv_astore (lv' := [(4, .ref q9), (0, .ref c), (1, .int (sI s)), (2, .int (sI j)), (3, .ref ou)]) hx_ hb_ dL_stoneOf_13 hl (by decide) rfl (fun ls hl => ?_)
      refine si_const S dL_stoneOf_15 ?_
      have hc12 : M9 ou = some (sArL G 1 g0) := (hf6 ou ).trans ho9
      exact xr_i E hQ dL_stoneOf_16 ⟨Nat.le_of_ble_eq_true rfl, Nat.le_of_ble_eq_true rfl⟩ hV (⟨by omega, fun x q0 => hf6 x , Or.inl ⟨(c8), rfl, hc12⟩⟩)
    · subst ee11
      refine vx_catch (own := RL) (name := "java/lang/IllegalArgumentException") S.2.2.2.1 ([⟨0, 10, 13, 25⟩] : List ExceptionTableEntry) ⟨0, 10, 17, 19⟩ ([] : List ExceptionTableEntry) (hxt_.trans rfl) (fun z hz => by rcases List.mem_singleton.mp hz with rfl; exact Or.inr ⟨by decide, _, (S.2.2.2.2 _ (List.mem_of_getElem? (i := 1) rfl)), hF_.1.2 _ (by decide +kernel) _ (by decide +kernel) (by decide)⟩) (by decide) (by decide) (S.2.2.2.2 _ (List.mem_of_getElem? (i := 2) rfl)) (va_Nw.use rfl (hF_.1.1 _ (by decide +kernel))) hce9 hcv9 hcl9 ?_
      refine lv_astore (lv' := [(4, .ref q9), (0, .ref c), (1, .int (sI s)), (2, .int (sI j)), (3, .ref ou)]) hx_ hb_ dL_stoneOf_17 hl (by decide) rfl (fun ls hl => ?_)
      refine si_const S dL_stoneOf_19 ?_
      have hc13 : M9 ou = some (sArL G 1 g0) := (hf6 ou ).trans ho9
      exact xr_i E hQ dL_stoneOf_20 ⟨Nat.le_of_ble_eq_true rfl, Nat.le_of_ble_eq_true rfl⟩ hV (⟨by omega, fun x q0 => hf6 x , Or.inr (Or.inl ⟨(c10), rfl, hc13⟩)⟩)
  obtain ⟨hN14, hf15, hq16⟩ := hp3
  rw [hN14] at hV
  rcases hq16 with ⟨c17, ez18⟩ | ⟨c19, ez20⟩
  · rw [ez18]
    refine sl_i2w S dL_stoneOf_8 ?_
    have hc21 : M1 ou = some (sArL G 1 g0) := (hf15 ou ).trans ho9
    refine sc_last S hK hV hc21 (by omega) dL_stoneOf_9 (fun M22 H locs hM22 hV => ?_)
    have hc23 : M22 ou = some (sArL G 1 (iup g0 0 (sW (isum (f 568) (plT f s))))) := (congrFun hM22 ou).trans (va_up_self M1 ou _)
    refine lv_goto (tgt := 21) hx_ hb_ dL_stoneOf_10 (by decide) ?_
    refine si_const S dL_stoneOf_21 ?_
    exact xr_i E hQ dL_stoneOf_22 ⟨Nat.le_of_ble_eq_true rfl, Nat.le_of_ble_eq_true rfl⟩ hV (⟨by omega, fun x q0 => ((congrFun hM22 x).trans (va_up_ne M1 _ (by omega))).trans (hf15 x ), Or.inr (Or.inr (Or.inl ⟨(c17), rfl, hc23⟩))⟩)
  · rw [ez20]
    refine sl_i2w S dL_stoneOf_8 ?_
    have hc24 : M1 ou = some (sArL G 1 g0) := (hf15 ou ).trans ho9
    refine sc_last S hK hV hc24 (by omega) dL_stoneOf_9 (fun M25 H locs hM25 hV => ?_)
    have hc26 : M25 ou = some (sArL G 1 (iup g0 0 (sW (f (10 + 10 * j + s))))) := (congrFun hM25 ou).trans (va_up_self M1 ou _)
    refine lv_goto (tgt := 21) hx_ hb_ dL_stoneOf_10 (by decide) ?_
    refine si_const S dL_stoneOf_21 ?_
    exact xr_i E hQ dL_stoneOf_22 ⟨Nat.le_of_ble_eq_true rfl, Nat.le_of_ble_eq_true rfl⟩ hV (⟨by omega, fun x q0 => ((congrFun hM25 x).trans (va_up_ne M1 _ (by omega))).trans (hf15 x ), Or.inr (Or.inr (Or.inr (⟨(c19), rfl, hc26⟩)))⟩)

abbrev rmL_scratch : Room := { frames := 9, cells := 25, slots := 3000, locals := 166 }
set_option maxHeartbeats 4000000 in
set_option maxRecDepth 100000 in
theorem kL_scratch (l_ : Launch) (G : sG) (b_ : Nat) (M : sM) (N : Nat) (ou : Nat) (g0 : Int → Int) (c : Nat) (kn : Int) (ch : Int) (f : sF) (kb : Nat) (fs : Int → sF) (p : Int) (q : Int) (hc0 : M c = some (xO c kn ch)) (hst : stC G M (c + 1) f) (hkp : kpC G M (c + 31) kb kn ch fs) (ho9 : M ou = some (sArL G 1 g0)) (hlt : l_.stackTraces = false) (hok : sOk f) (hkb : c + 60 ≤ kb) (hkN : kb ≤ N) (hr : sR p ∧ sR q) (ho1 : c + 60 ≤ ou) (ho2 : ou < kb) : xcI l_ yL_scratch wsL_scratch rmL_scratch G b_ M N [.ref c, .int (sI p), .int (sI q), .ref ou] (fun z_ M1 N1 => ∃ kn1 : Int, N ≤ N1 ∧ (∀ x : Nat, ¬ (x = c) → ¬ (x = c + 31) → ¬ (kb ≤ x) → ¬ (c + 1 ≤ x ∧ x < c + 1 + 15) → ¬ (x = ou) → M1 x = M x) ∧ (((¬ ((0 ≤ p ∧ p < f 568) ∧ (0 ≤ q ∧ q < f 568))) ∧ z_ = 1 ∧ M1 c = some (xO c kn1 ch) ∧ stC G M1 (c + 1) f ∧ kpC G M1 (c + 31) kb kn1 ch fs ∧ M1 ou = some (sArL G 1 g0)) ∨ ((((0 ≤ p ∧ p < f 568) ∧ (0 ≤ q ∧ q < f 568)) ∧ p = q) ∧ z_ = 2 ∧ M1 c = some (xO c kn1 ch) ∧ stC G M1 (c + 1) f ∧ kpC G M1 (c + 31) kb kn1 ch fs ∧ M1 ou = some (sArL G 1 g0)) ∨ ((((0 ≤ p ∧ p < f 568) ∧ (0 ≤ q ∧ q < f 568)) ∧ p ≠ q ∧ 40 ≤ f 569) ∧ z_ = 3 ∧ M1 c = some (xO c kn1 ch) ∧ stC G M1 (c + 1) f ∧ kpC G M1 (c + 31) kb kn1 ch fs ∧ M1 ou = some (sArL G 1 g0)) ∨ ((((0 ≤ p ∧ p < f 568) ∧ (0 ≤ q ∧ q < f 568)) ∧ p ≠ q ∧ f 569 < 40) ∧ z_ = 0 ∧ M1 c = some (xO c kn1 (chn ch)) ∧ stC G M1 (c + 1) (scF f p q) ∧ kpC G M1 (c + 31) kb kn1 (chn ch) (fsn ch fs f) ∧ M1 ou = some (sArL G 1 (iup g0 0 (sW (f 569))))))) (fun _ _ _ => False) := by
  refine yE.ofI (cc := cL_scratch) (nL := 5) (ret := (some .int)) (hh := [(0, 10, 13, 25), (0, 10, 17, 19), (0, 10, 21, 13)]) (by decide) rfl (Nat.le_of_ble_eq_true rfl) ?_
  intro p_ e_ s_ m_ args_ below_ meth_ c_ ls Q hQ E hF_ hxt_ hl
  have E : sE p_ l_ e_ rmL_scratch s_ m_ args_ below_ meth_ c_ cL_scratch 5 wsL_scratch RL "scratch" (some .int) G b_ M N := E
  have S := E.1
  have hx_ := S.1
  have hb_ := S.2.1
  have hK := E.2.2.2.2.1
  have hV := E.2.2.2.2.2.2
  have hl : lv_has ls 5 [(0, .ref c), (1, .int (sI p)), (2, .int (sI q)), (3, .ref ou)] := hl
  have inX10_ : ∀ w ∈ wsX100, w ∈ wsL_scratch := fun _ h => List.mem_cons_of_mem _ (List.mem_append_left _ (List.mem_append_left _ (List.mem_append_left _ (List.mem_append_left _ (List.mem_append_left _ (List.mem_append_right _ h))))))
  have inX6_ : ∀ w ∈ wsX60, w ∈ wsL_scratch := fun _ h => List.mem_cons_of_mem _ (List.mem_append_left _ (List.mem_append_left _ (List.mem_append_left _ (List.mem_append_left _ (List.mem_append_right _ h)))))
  have inX8_ : ∀ w ∈ wsX80, w ∈ wsL_scratch := fun _ h => List.mem_cons_of_mem _ (List.mem_append_left _ (List.mem_append_left _ (List.mem_append_left _ (List.mem_append_right _ h))))
  have hbN : b_ ≤ N := by have h1 := hV.1.1; have h2 := hV.2.2; omega
  refine lv_aload_n hx_ hb_ dL_scratch_0 rfl (lv_at hl 3 rfl) ?_
  refine si_const S dL_scratch_1 ?_
  refine lv_aload_n hx_ hb_ dL_scratch_2 rfl (lv_at hl 0 rfl) ?_
  refine lv_iload_n hx_ hb_ dL_scratch_3 rfl (lv_at hl 1 rfl) ?_
  refine lv_iload_n hx_ hb_ dL_scratch_4 rfl (lv_at hl 2 rfl) ?_
  refine yk_Vi E hF_ hV (As := [.int (sI p), .int (sI q)]) (rest := [.int (sI 0), .ref ou]) (kX10_scratch l_ G b_ M N c kn ch f kb fs p q hc0 hst hkp (hlt) (hok) (hkb) (hkN) (hr)) (cwV 2 S.2.2.2.2 gL_scratch_X10_scratch rfl rfl rfl (by decide +kernel) ⟨Nat.le_of_ble_eq_true rfl, Nat.le_of_ble_eq_true rfl⟩) (ci := 8) hc0 rfl rfl rfl hl.1 (Nat.le_of_ble_eq_true rfl) dL_scratch_5 (c1 := 25) (s1 := 3000) ⟨⟨rfl, rfl⟩, by decide, by decide⟩ ?_ (fun z4 M1 N2 H locs hp3 hV => ?_)
  · rintro E9 M9 N9 H9 locs9 q9 ce9 ⟨kn15, hN6, hf7, hq8⟩ hV hce9 hcv9 hcl9
    rcases hq8 with ⟨c9, ee10, hc11, hc12, hc13⟩ | ⟨c14, ee15, hc16, hc17, hc18⟩ | ⟨c19, ee20, hc21, hc22, hc23⟩
    · subst ee10
      refine vx_catch (own := RL) (name := "java/lang/IndexOutOfBoundsException") S.2.2.2.1 ([] : List ExceptionTableEntry) ⟨0, 10, 13, 25⟩ ([⟨0, 10, 17, 19⟩, ⟨0, 10, 21, 13⟩] : List ExceptionTableEntry) (hxt_.trans rfl) (fun z hz => by cases hz) (by decide) (by decide) (S.2.2.2.2 _ (List.mem_of_getElem? (i := 1) rfl)) (va_Nw.use rfl (hF_.1.1 _ (by decide +kernel))) hce9 hcv9 hcl9 ?_
      refine lv_astore (lv' := [(4, .ref q9), (0, .ref c), (1, .int (sI p)), (2, .int (sI q)), (3, .ref ou)]) hx_ hb_ dL_scratch_13 hl (by decide) rfl (fun ls hl => ?_)
      refine si_const S dL_scratch_15 ?_
      have hc24 : M9 ou = some (sArL G 1 g0) := (hf7 ou (by omega) (by omega) (by omega) (by omega)).trans ho9
      exact xr_i E hQ dL_scratch_16 ⟨Nat.le_of_ble_eq_true rfl, Nat.le_of_ble_eq_true rfl⟩ hV (⟨_, by omega, fun x q0 q1 q2 q3 q4 => hf7 x (by omega) (by omega) (by omega) (by omega), Or.inl ⟨(c9), rfl, hc11, hc12, hc13, hc24⟩⟩)
    · subst ee15
      refine vx_catch (own := RL) (name := "java/lang/IllegalArgumentException") S.2.2.2.1 ([⟨0, 10, 13, 25⟩] : List ExceptionTableEntry) ⟨0, 10, 17, 19⟩ ([⟨0, 10, 21, 13⟩] : List ExceptionTableEntry) (hxt_.trans rfl) (fun z hz => by rcases List.mem_singleton.mp hz with rfl; exact Or.inr ⟨by decide, _, (S.2.2.2.2 _ (List.mem_of_getElem? (i := 1) rfl)), hF_.1.2 _ (by decide +kernel) _ (by decide +kernel) (by decide)⟩) (by decide) (by decide) (S.2.2.2.2 _ (List.mem_of_getElem? (i := 2) rfl)) (va_Nw.use rfl (hF_.1.1 _ (by decide +kernel))) hce9 hcv9 hcl9 ?_
      refine lv_astore (lv' := [(4, .ref q9), (0, .ref c), (1, .int (sI p)), (2, .int (sI q)), (3, .ref ou)]) hx_ hb_ dL_scratch_17 hl (by decide) rfl (fun ls hl => ?_)
      refine si_const S dL_scratch_19 ?_
      have hc25 : M9 ou = some (sArL G 1 g0) := (hf7 ou (by omega) (by omega) (by omega) (by omega)).trans ho9
      exact xr_i E hQ dL_scratch_20 ⟨Nat.le_of_ble_eq_true rfl, Nat.le_of_ble_eq_true rfl⟩ hV (⟨_, by omega, fun x q0 q1 q2 q3 q4 => hf7 x (by omega) (by omega) (by omega) (by omega), Or.inr (Or.inl ⟨(c14), rfl, hc16, hc17, hc18, hc25⟩)⟩)
    · subst ee20
      refine vx_catch (own := RL) (name := "java/lang/IllegalStateException") S.2.2.2.1 ([⟨0, 10, 13, 25⟩, ⟨0, 10, 17, 19⟩] : List ExceptionTableEntry) ⟨0, 10, 21, 13⟩ ([] : List ExceptionTableEntry) (hxt_.trans rfl) (fun z hz => by rcases List.mem_cons.mp hz with rfl | hz; exact Or.inr ⟨by decide, _, (S.2.2.2.2 _ (List.mem_of_getElem? (i := 1) rfl)), hF_.1.2 _ (by decide +kernel) _ (by decide +kernel) (by decide)⟩; rcases List.mem_singleton.mp hz with rfl; exact Or.inr ⟨by decide, _, (S.2.2.2.2 _ (List.mem_of_getElem? (i := 2) rfl)), hF_.1.2 _ (by decide +kernel) _ (by decide +kernel) (by decide)⟩) (by decide) (by decide) (S.2.2.2.2 _ (List.mem_of_getElem? (i := 3) rfl)) (va_Nw.use rfl (hF_.1.1 _ (by decide +kernel))) hce9 hcv9 hcl9 ?_
      refine lv_astore (lv' := [(4, .ref q9), (0, .ref c), (1, .int (sI p)), (2, .int (sI q)), (3, .ref ou)]) hx_ hb_ dL_scratch_21 hl (by decide) rfl (fun ls hl => ?_)
      refine si_const S dL_scratch_23 ?_
      have hc26 : M9 ou = some (sArL G 1 g0) := (hf7 ou (by omega) (by omega) (by omega) (by omega)).trans ho9
      exact xr_i E hQ dL_scratch_24 ⟨Nat.le_of_ble_eq_true rfl, Nat.le_of_ble_eq_true rfl⟩ hV (⟨_, by omega, fun x q0 q1 q2 q3 q4 => hf7 x (by omega) (by omega) (by omega) (by omega), Or.inr (Or.inr (Or.inl ⟨(c19), rfl, hc21, hc22, hc23, hc26⟩))⟩)
  obtain ⟨kn127, hN28, hf29, hq30⟩ := hp3
  rcases hq30 with ⟨c31, ez32, hc33, hc34, hc35⟩
  · rw [ez32]
    refine sl_i2w S dL_scratch_8 ?_
    have hc36 : M1 ou = some (sArL G 1 g0) := (hf29 ou (by omega) (by omega) (by omega) (by omega)).trans ho9
    refine sc_last S hK hV hc36 (by omega) dL_scratch_9 (fun M37 H locs hM37 hV => ?_)
    have hc38 : M37 ou = some (sArL G 1 (iup g0 0 (sW (f 569)))) := (congrFun hM37 ou).trans (va_up_self M1 ou _)
    refine lv_goto (tgt := 25) hx_ hb_ dL_scratch_10 (by decide) ?_
    refine si_const S dL_scratch_25 ?_
    have hc39 : M37 c = some (xO c kn127 (chn ch)) := ((congrFun hM37 c).trans (va_up_ne M1 _ (by omega))).trans hc33
    have hc40 : stC G M37 (c + 1) (scF f p q) := hc34.fr (fun x q8 q9 => (congrFun hM37 x).trans (va_up_ne M1 _ (by omega)))
    have hc41 : kpC G M37 (c + 31) kb kn127 (chn ch) (fsn ch fs f) := hc35.fr (fun x q8 => (congrFun hM37 x).trans (va_up_ne M1 _ (by omega)))
    exact xr_i E hQ dL_scratch_26 ⟨Nat.le_of_ble_eq_true rfl, Nat.le_of_ble_eq_true rfl⟩ hV (⟨_, by omega, fun x q0 q1 q2 q3 q4 => ((congrFun hM37 x).trans (va_up_ne M1 _ (by omega))).trans (hf29 x (by omega) (by omega) (by omega) (by omega)), Or.inr (Or.inr (Or.inr (⟨(c31), rfl, hc39, hc40, hc41, hc38⟩)))⟩)

abbrev rmL_unscratch : Room := { frames := 7, cells := 25, slots := 3000, locals := 146 }
set_option maxHeartbeats 4000000 in
set_option maxRecDepth 100000 in
theorem kL_unscratch (l_ : Launch) (G : sG) (b_ : Nat) (M : sM) (N : Nat) (ou : Nat) (g0 : Int → Int) (c : Nat) (kn : Int) (ch : Int) (f : sF) (kb : Nat) (fs : Int → sF) (a0 : Int) (hc0 : M c = some (xO c kn ch)) (hst : stC G M (c + 1) f) (hkp : kpC G M (c + 31) kb kn ch fs) (ho9 : M ou = some (sArL G 1 g0)) (hlt : l_.stackTraces = false) (hok : sOk f) (hkb : c + 60 ≤ kb) (hkN : kb ≤ N) (hr : sR a0) (ho1 : c + 60 ≤ ou) (ho2 : ou < kb) : xcI l_ yL_unscratch wsL_unscratch rmL_unscratch G b_ M N [.ref c, .int (sI a0), .ref ou] (fun z_ M1 N1 => ∃ kn1 : Int, N ≤ N1 ∧ (∀ x : Nat, ¬ (x = c) → ¬ (x = c + 31) → ¬ (kb ≤ x) → ¬ (c + 1 ≤ x ∧ x < c + 1 + 15) → ¬ (x = ou) → M1 x = M x) ∧ (((¬ (0 ≤ a0 ∧ a0 < f 569)) ∧ z_ = 1 ∧ M1 c = some (xO c kn1 ch) ∧ stC G M1 (c + 1) f ∧ kpC G M1 (c + 31) kb kn1 ch fs ∧ M1 ou = some (sArL G 1 g0)) ∨ (((0 ≤ a0 ∧ a0 < f 569)) ∧ z_ = 0 ∧ M1 c = some (xO c kn1 (chn ch)) ∧ stC G M1 (c + 1) (usF f a0) ∧ kpC G M1 (c + 31) kb kn1 (chn ch) (fsn ch fs f) ∧ M1 ou = some (sArL G 1 (iup g0 0 (sW (f 569 - 1))))))) (fun _ _ _ => False) := by
  refine yE.ofI (cc := cL_unscratch) (nL := 4) (ret := (some .int)) (hh := [(0, 9, 12, 25)]) (by decide) rfl (Nat.le_of_ble_eq_true rfl) ?_
  intro p_ e_ s_ m_ args_ below_ meth_ c_ ls Q hQ E hF_ hxt_ hl
  have E : sE p_ l_ e_ rmL_unscratch s_ m_ args_ below_ meth_ c_ cL_unscratch 4 wsL_unscratch RL "unscratch" (some .int) G b_ M N := E
  have S := E.1
  have hx_ := S.1
  have hb_ := S.2.1
  have hK := E.2.2.2.2.1
  have hV := E.2.2.2.2.2.2
  have hl : lv_has ls 4 [(0, .ref c), (1, .int (sI a0)), (2, .ref ou)] := hl
  have inX10_ : ∀ w ∈ wsX100, w ∈ wsL_unscratch := fun _ h => List.mem_cons_of_mem _ (List.mem_append_left _ (List.mem_append_left _ (List.mem_append_left _ (List.mem_append_right _ h))))
  have inX6_ : ∀ w ∈ wsX60, w ∈ wsL_unscratch := fun _ h => List.mem_cons_of_mem _ (List.mem_append_left _ (List.mem_append_left _ (List.mem_append_right _ h)))
  have inX8_ : ∀ w ∈ wsX80, w ∈ wsL_unscratch := fun _ h => List.mem_cons_of_mem _ (List.mem_append_left _ (List.mem_append_right _ h))
  have hbN : b_ ≤ N := by have h1 := hV.1.1; have h2 := hV.2.2; omega
  refine lv_aload_n hx_ hb_ dL_unscratch_0 rfl (lv_at hl 2 rfl) ?_
  refine si_const S dL_unscratch_1 ?_
  refine lv_aload_n hx_ hb_ dL_unscratch_2 rfl (lv_at hl 0 rfl) ?_
  refine lv_iload_n hx_ hb_ dL_unscratch_3 rfl (lv_at hl 1 rfl) ?_
  refine yk_Vi E hF_ hV (As := [.int (sI a0)]) (rest := [.int (sI 0), .ref ou]) (kX10_unscratch l_ G b_ M N c kn ch f kb fs a0 hc0 hst hkp (hlt) (hok) (hkb) (hkN) (hr)) (cwV 1 S.2.2.2.2 gL_unscratch_X10_unscratch rfl rfl rfl (by decide +kernel) ⟨Nat.le_of_ble_eq_true rfl, Nat.le_of_ble_eq_true rfl⟩) (ci := 8) hc0 rfl rfl rfl hl.1 (Nat.le_of_ble_eq_true rfl) dL_unscratch_4 (c1 := 25) (s1 := 3000) ⟨⟨rfl, rfl⟩, by decide, by decide⟩ ?_ (fun z4 M1 N2 H locs hp3 hV => ?_)
  · rintro E9 M9 N9 H9 locs9 q9 ce9 ⟨kn15, hN6, hf7, hq8⟩ hV hce9 hcv9 hcl9
    rcases hq8 with ⟨c9, ee10, hc11, hc12, hc13⟩
    · subst ee10
      refine vx_catch (own := RL) (name := "java/lang/IndexOutOfBoundsException") S.2.2.2.1 ([] : List ExceptionTableEntry) ⟨0, 9, 12, 25⟩ ([] : List ExceptionTableEntry) (hxt_.trans rfl) (fun z hz => by cases hz) (by decide) (by decide) (S.2.2.2.2 _ (List.mem_of_getElem? (i := 1) rfl)) (va_Nw.use rfl (hF_.1.1 _ (by decide +kernel))) hce9 hcv9 hcl9 ?_
      refine lv_astore_n (lv' := [(3, .ref q9), (0, .ref c), (1, .int (sI a0)), (2, .ref ou)]) hx_ hb_ dL_unscratch_12 rfl hl (by decide) rfl (fun ls hl => ?_)
      refine si_const S dL_unscratch_13 ?_
      have hc14 : M9 ou = some (sArL G 1 g0) := (hf7 ou (by omega) (by omega) (by omega) (by omega)).trans ho9
      exact xr_i E hQ dL_unscratch_14 ⟨Nat.le_of_ble_eq_true rfl, Nat.le_of_ble_eq_true rfl⟩ hV (⟨_, by omega, fun x q0 q1 q2 q3 q4 => hf7 x (by omega) (by omega) (by omega) (by omega), Or.inl ⟨(c9), rfl, hc11, hc12, hc13, hc14⟩⟩)
  obtain ⟨kn115, hN16, hf17, hq18⟩ := hp3
  rcases hq18 with ⟨c19, ez20, hc21, hc22, hc23⟩
  · rw [ez20]
    refine sl_i2w S dL_unscratch_7 ?_
    have hc24 : M1 ou = some (sArL G 1 g0) := (hf17 ou (by omega) (by omega) (by omega) (by omega)).trans ho9
    refine sc_last S hK hV hc24 (by omega) dL_unscratch_8 (fun M25 H locs hM25 hV => ?_)
    have hc26 : M25 ou = some (sArL G 1 (iup g0 0 (sW (f 569 - 1)))) := (congrFun hM25 ou).trans (va_up_self M1 ou _)
    refine lv_goto (tgt := 15) hx_ hb_ dL_unscratch_9 (by decide) ?_
    refine si_const S dL_unscratch_15 ?_
    have hc27 : M25 c = some (xO c kn115 (chn ch)) := ((congrFun hM25 c).trans (va_up_ne M1 _ (by omega))).trans hc21
    have hc28 : stC G M25 (c + 1) (usF f a0) := hc22.fr (fun x q8 q9 => (congrFun hM25 x).trans (va_up_ne M1 _ (by omega)))
    have hc29 : kpC G M25 (c + 31) kb kn115 (chn ch) (fsn ch fs f) := hc23.fr (fun x q8 => (congrFun hM25 x).trans (va_up_ne M1 _ (by omega)))
    exact xr_i E hQ dL_unscratch_16 ⟨Nat.le_of_ble_eq_true rfl, Nat.le_of_ble_eq_true rfl⟩ hV (⟨_, by omega, fun x q0 q1 q2 q3 q4 => ((congrFun hM25 x).trans (va_up_ne M1 _ (by omega))).trans (hf17 x (by omega) (by omega) (by omega) (by omega)), Or.inr (⟨(c19), rfl, hc27, hc28, hc29, hc26⟩)⟩)

abbrev rmL_ringAt : Room := { frames := 7, cells := 8, slots := 50, locals := 156 }
set_option maxHeartbeats 4000000 in
set_option maxRecDepth 100000 in
theorem kL_ringAt (l_ : Launch) (G : sG) (b_ : Nat) (M : sM) (N : Nat) (ou : Nat) (g0 : Int → Int) (c : Nat) (kn : Int) (ch : Int) (f : sF) (p : Int) (hc0 : M c = some (xO c kn ch)) (hst : stC G M (c + 1) f) (hft : orfC G M (c + 38)) (ho9 : M ou = some (sArL G 1 g0)) (hlt : l_.stackTraces = false) (hok : sOk f) (hr : sR p) (ho1 : c + 60 ≤ ou) : xcI l_ yL_ringAt wsL_ringAt rmL_ringAt G b_ M N [.ref c, .int (sI p), .ref ou] (fun z_ M1 N1 => N ≤ N1 ∧ orfC G M1 (c + 38) ∧ (∀ x : Nat, ¬ (c + 38 ≤ x ∧ x < c + 38 + 10) → ¬ (x = ou) → M1 x = M x) ∧ (((¬ (0 ≤ p ∧ p < rgL f)) ∧ z_ = 1 ∧ M1 ou = some (sArL G 1 g0)) ∨ ((0 ≤ p ∧ p < rgL f) ∧ z_ = 0 ∧ M1 ou = some (sArL G 1 (iup g0 0 (sW (rgS f p))))))) (fun _ _ _ => False) := by
  refine yE.ofI (cc := cL_ringAt) (nL := 4) (ret := (some .int)) (hh := [(0, 9, 12, 25)]) (by decide) rfl (Nat.le_of_ble_eq_true rfl) ?_
  intro p_ e_ s_ m_ args_ below_ meth_ c_ ls Q hQ E hF_ hxt_ hl
  have E : sE p_ l_ e_ rmL_ringAt s_ m_ args_ below_ meth_ c_ cL_ringAt 4 wsL_ringAt RL "ringAt" (some .int) G b_ M N := E
  have S := E.1
  have hx_ := S.1
  have hb_ := S.2.1
  have hK := E.2.2.2.2.1
  have hV := E.2.2.2.2.2.2
  have hl : lv_has ls 4 [(0, .ref c), (1, .int (sI p)), (2, .ref ou)] := hl
  have inX10_ : ∀ w ∈ wsX100, w ∈ wsL_ringAt := fun _ h => List.mem_cons_of_mem _ (List.mem_append_left _ (List.mem_append_left _ (List.mem_append_left _ (List.mem_append_left _ (List.mem_append_right _ h)))))
  have inX6_ : ∀ w ∈ wsX60, w ∈ wsL_ringAt := fun _ h => List.mem_cons_of_mem _ (List.mem_append_left _ (List.mem_append_left _ (List.mem_append_left _ (List.mem_append_right _ h))))
  have inX5_ : ∀ w ∈ wsX50, w ∈ wsL_ringAt := fun _ h => List.mem_cons_of_mem _ (List.mem_append_left _ (List.mem_append_left _ (List.mem_append_right _ h)))
  have inX8_ : ∀ w ∈ wsX80, w ∈ wsL_ringAt := fun _ h => List.mem_cons_of_mem _ (List.mem_append_left _ (List.mem_append_right _ h))
  have hbN : b_ ≤ N := by have h1 := hV.1.1; have h2 := hV.2.2; omega
  refine lv_aload_n hx_ hb_ dL_ringAt_0 rfl (lv_at hl 2 rfl) ?_
  refine si_const S dL_ringAt_1 ?_
  refine lv_aload_n hx_ hb_ dL_ringAt_2 rfl (lv_at hl 0 rfl) ?_
  refine lv_iload_n hx_ hb_ dL_ringAt_3 rfl (lv_at hl 1 rfl) ?_
  refine yk_Vi E hF_ hV (As := [.int (sI p)]) (rest := [.int (sI 0), .ref ou]) (kX10_ringAt l_ G b_ M N c kn ch f p hc0 hst hft (hlt) (hok) (hr)) (cwV 1 S.2.2.2.2 gL_ringAt_X10_ringAt rfl rfl rfl (by decide +kernel) ⟨Nat.le_of_ble_eq_true rfl, Nat.le_of_ble_eq_true rfl⟩) (ci := 8) hc0 rfl rfl rfl hl.1 (Nat.le_of_ble_eq_true rfl) dL_ringAt_4 (c1 := 8) (s1 := 50) ⟨⟨rfl, rfl⟩, by decide, by decide⟩ ?_ (fun z4 M1 N2 H locs hp3 hV => ?_)
  · rintro E9 M9 N9 H9 locs9 q9 ce9 ⟨hN5, hc8, hf6, hq7⟩ hV hce9 hcv9 hcl9
    rcases hq7 with ⟨c9, ee10⟩
    · subst ee10
      refine vx_catch (own := RL) (name := "java/lang/IndexOutOfBoundsException") S.2.2.2.1 ([] : List ExceptionTableEntry) ⟨0, 9, 12, 25⟩ ([] : List ExceptionTableEntry) (hxt_.trans rfl) (fun z hz => by cases hz) (by decide) (by decide) (S.2.2.2.2 _ (List.mem_of_getElem? (i := 1) rfl)) (va_Nw.use rfl (hF_.1.1 _ (by decide +kernel))) hce9 hcv9 hcl9 ?_
      refine lv_astore_n (lv' := [(3, .ref q9), (0, .ref c), (1, .int (sI p)), (2, .ref ou)]) hx_ hb_ dL_ringAt_12 rfl hl (by decide) rfl (fun ls hl => ?_)
      refine si_const S dL_ringAt_13 ?_
      have hc11 : M9 ou = some (sArL G 1 g0) := (hf6 ou (by omega)).trans ho9
      exact xr_i E hQ dL_ringAt_14 ⟨Nat.le_of_ble_eq_true rfl, Nat.le_of_ble_eq_true rfl⟩ hV (⟨by omega, hc8, fun x q0 q1 => hf6 x (by omega), Or.inl ⟨(c9), rfl, hc11⟩⟩)
  obtain ⟨hN12, hc13, hf14, hq15⟩ := hp3
  rw [hN12] at hV
  rcases hq15 with ⟨c16, ez17⟩
  · rw [ez17]
    refine sl_i2w S dL_ringAt_7 ?_
    have hc18 : M1 ou = some (sArL G 1 g0) := (hf14 ou (by omega)).trans ho9
    refine sc_last S hK hV hc18 (by omega) dL_ringAt_8 (fun M19 H locs hM19 hV => ?_)
    have hc20 : M19 ou = some (sArL G 1 (iup g0 0 (sW (rgS f p)))) := (congrFun hM19 ou).trans (va_up_self M1 ou _)
    refine lv_goto (tgt := 15) hx_ hb_ dL_ringAt_9 (by decide) ?_
    refine si_const S dL_ringAt_15 ?_
    have hc21 : orfC G M19 (c + 38) := hc13.fr (fun x q8 q9 => (congrFun hM19 x).trans (va_up_ne M1 _ (by omega)))
    exact xr_i E hQ dL_ringAt_16 ⟨Nat.le_of_ble_eq_true rfl, Nat.le_of_ble_eq_true rfl⟩ hV (⟨by omega, hc21, fun x q0 q1 => ((congrFun hM19 x).trans (va_up_ne M1 _ (by omega))).trans (hf14 x (by omega)), Or.inr (⟨(c16), rfl, hc20⟩)⟩)

abbrev rmL_rank : Room := { frames := 8, cells := 8, slots := 50, locals := 159 }
set_option maxHeartbeats 4000000 in
set_option maxRecDepth 100000 in
theorem kL_rank (l_ : Launch) (G : sG) (b_ : Nat) (M : sM) (N : Nat) (ou : Nat) (g0 : Int → Int) (c : Nat) (kn : Int) (ch : Int) (f : sF) (s : Int) (B : Prop) (hc0 : M c = some (xO c kn ch)) (hst : stC G M (c + 1) f) (hft : orfC G M (c + 38)) (ho9 : M ou = some (sArL G 1 g0)) (hlt : l_.stackTraces = false) (hok : sOk f) (hr : sR s) (ho1 : c + 60 ≤ ou) : xcI l_ yL_rank wsL_rank rmL_rank G b_ M N [.ref c, .int (sI s), .int (sI (bI B)), .ref ou] (fun z_ M1 N1 => N ≤ N1 ∧ orfC G M1 (c + 38) ∧ (∀ x : Nat, ¬ (c + 38 ≤ x ∧ x < c + 38 + 10) → ¬ (x = ou) → M1 x = M x) ∧ (((¬ (0 ≤ s ∧ s < f 568)) ∧ z_ = 1 ∧ M1 ou = some (sArL G 1 g0)) ∨ (((0 ≤ s ∧ s < f 568)) ∧ z_ = 0 ∧ M1 ou = some (sArL G 1 (iup g0 0 (sW (rnI B (rkI f s) (f 568)))))))) (fun _ _ _ => False) := by
  refine yE.ofI (cc := cL_rank) (nL := 5) (ret := (some .int)) (hh := [(0, 10, 13, 25)]) (by decide) rfl (Nat.le_of_ble_eq_true rfl) ?_
  intro p_ e_ s_ m_ args_ below_ meth_ c_ ls Q hQ E hF_ hxt_ hl
  have E : sE p_ l_ e_ rmL_rank s_ m_ args_ below_ meth_ c_ cL_rank 5 wsL_rank RL "rank" (some .int) G b_ M N := E
  have S := E.1
  have hx_ := S.1
  have hb_ := S.2.1
  have hK := E.2.2.2.2.1
  have hV := E.2.2.2.2.2.2
  have hl : lv_has ls 5 [(0, .ref c), (1, .int (sI s)), (2, .int (sI (bI B))), (3, .ref ou)] := hl
  have inX10_ : ∀ w ∈ wsX100, w ∈ wsL_rank := fun _ h => List.mem_cons_of_mem _ (List.mem_append_left _ (List.mem_append_left _ (List.mem_append_left _ (List.mem_append_left _ (List.mem_append_right _ h)))))
  have inX6_ : ∀ w ∈ wsX60, w ∈ wsL_rank := fun _ h => List.mem_cons_of_mem _ (List.mem_append_left _ (List.mem_append_left _ (List.mem_append_left _ (List.mem_append_right _ h))))
  have inX8_ : ∀ w ∈ wsX80, w ∈ wsL_rank := fun _ h => List.mem_cons_of_mem _ (List.mem_append_left _ (List.mem_append_left _ (List.mem_append_right _ h)))
  have inX5_ : ∀ w ∈ wsX50, w ∈ wsL_rank := fun _ h => List.mem_cons_of_mem _ (List.mem_append_left _ (List.mem_append_right _ h))
  have hbN : b_ ≤ N := by have h1 := hV.1.1; have h2 := hV.2.2; omega
  refine lv_aload_n hx_ hb_ dL_rank_0 rfl (lv_at hl 3 rfl) ?_
  refine si_const S dL_rank_1 ?_
  refine lv_aload_n hx_ hb_ dL_rank_2 rfl (lv_at hl 0 rfl) ?_
  refine lv_iload_n hx_ hb_ dL_rank_3 rfl (lv_at hl 1 rfl) ?_
  refine lv_iload_n hx_ hb_ dL_rank_4 rfl (lv_at hl 2 rfl) ?_
  refine yk_Vi E hF_ hV (As := [.int (sI s), .int (sI (bI B))]) (rest := [.int (sI 0), .ref ou]) (kX10_rank l_ G b_ M N c kn ch f s B hc0 hst hft (hlt) (hok) (hr)) (cwV 2 S.2.2.2.2 gL_rank_X10_rank rfl rfl rfl (by decide +kernel) ⟨Nat.le_of_ble_eq_true rfl, Nat.le_of_ble_eq_true rfl⟩) (ci := 8) hc0 rfl rfl rfl hl.1 (Nat.le_of_ble_eq_true rfl) dL_rank_5 (c1 := 8) (s1 := 50) ⟨⟨rfl, rfl⟩, by decide, by decide⟩ ?_ (fun z4 M1 N2 H locs hp3 hV => ?_)
  · rintro E9 M9 N9 H9 locs9 q9 ce9 ⟨hN5, hc8, hf6, hq7⟩ hV hce9 hcv9 hcl9
    rcases hq7 with ⟨c9, ee10⟩
    · subst ee10
      refine vx_catch (own := RL) (name := "java/lang/IndexOutOfBoundsException") S.2.2.2.1 ([] : List ExceptionTableEntry) ⟨0, 10, 13, 25⟩ ([] : List ExceptionTableEntry) (hxt_.trans rfl) (fun z hz => by cases hz) (by decide) (by decide) (S.2.2.2.2 _ (List.mem_of_getElem? (i := 1) rfl)) (va_Nw.use rfl (hF_.1.1 _ (by decide +kernel))) hce9 hcv9 hcl9 ?_
      refine lv_astore (lv' := [(4, .ref q9), (0, .ref c), (1, .int (sI s)), (2, .int (sI (bI B))), (3, .ref ou)]) hx_ hb_ dL_rank_13 hl (by decide) rfl (fun ls hl => ?_)
      refine si_const S dL_rank_15 ?_
      have hc11 : M9 ou = some (sArL G 1 g0) := (hf6 ou (by omega)).trans ho9
      exact xr_i E hQ dL_rank_16 ⟨Nat.le_of_ble_eq_true rfl, Nat.le_of_ble_eq_true rfl⟩ hV (⟨by omega, hc8, fun x q0 q1 => hf6 x (by omega), Or.inl ⟨(c9), rfl, hc11⟩⟩)
  obtain ⟨hN12, hc13, hf14, hq15⟩ := hp3
  rw [hN12] at hV
  rcases hq15 with ⟨c16, ez17⟩
  · rw [ez17]
    refine sl_i2w S dL_rank_8 ?_
    have hc18 : M1 ou = some (sArL G 1 g0) := (hf14 ou (by omega)).trans ho9
    refine sc_last S hK hV hc18 (by omega) dL_rank_9 (fun M19 H locs hM19 hV => ?_)
    have hc20 : M19 ou = some (sArL G 1 (iup g0 0 (sW (rnI B (rkI f s) (f 568))))) := (congrFun hM19 ou).trans (va_up_self M1 ou _)
    refine lv_goto (tgt := 17) hx_ hb_ dL_rank_10 (by decide) ?_
    refine si_const S dL_rank_17 ?_
    have hc21 : orfC G M19 (c + 38) := hc13.fr (fun x q8 q9 => (congrFun hM19 x).trans (va_up_ne M1 _ (by omega)))
    exact xr_i E hQ dL_rank_18 ⟨Nat.le_of_ble_eq_true rfl, Nat.le_of_ble_eq_true rfl⟩ hV (⟨by omega, hc21, fun x q0 q1 => ((congrFun hM19 x).trans (va_up_ne M1 _ (by omega))).trans (hf14 x (by omega)), Or.inr (⟨(c16), rfl, hc20⟩)⟩)

abbrev rmL_withRank : Room := { frames := 8, cells := 8, slots := 50, locals := 157 }
set_option maxHeartbeats 4000000 in
set_option maxRecDepth 100000 in
theorem kL_withRank (l_ : Launch) (G : sG) (b_ : Nat) (M : sM) (N : Nat) (ou : Nat) (g0 : Int → Int) (c : Nat) (kn : Int) (ch : Int) (f : sF) (s : Int) (r : Int) (hc0 : M c = some (xO c kn ch)) (hst : stC G M (c + 1) f) (hft : orfC G M (c + 38)) (ho9 : M ou = some (sArL G 1 g0)) (hlt : l_.stackTraces = false) (hok : sOk f) (hr : sR s ∧ sR r) (ho1 : c + 60 ≤ ou) : xcI l_ yL_withRank wsL_withRank rmL_withRank G b_ M N [.ref c, .int (sI s), .int (sI r), .ref ou] (fun z_ M1 N1 => N ≤ N1 ∧ orfC G M1 (c + 38) ∧ (∀ x : Nat, ¬ (c + 38 ≤ x ∧ x < c + 38 + 10) → ¬ (x = ou) → M1 x = M x) ∧ (((¬ (0 ≤ s ∧ s < f 568)) ∧ z_ = 1 ∧ M1 ou = some (sArL G 1 g0)) ∨ (((0 ≤ s ∧ s < f 568) ∧ ¬ (0 ≤ r ∧ r ≤ 9)) ∧ z_ = 2 ∧ M1 ou = some (sArL G 1 g0)) ∨ (((0 ≤ s ∧ s < f 568) ∧ 0 ≤ r ∧ r ≤ 9) ∧ z_ = 0 ∧ M1 ou = some (sArL G 1 (iup g0 0 (sW (rkI f s r))))))) (fun _ _ _ => False) := by
  refine yE.ofI (cc := cL_withRank) (nL := 5) (ret := (some .int)) (hh := [(0, 10, 13, 25), (0, 10, 17, 19)]) (by decide) rfl (Nat.le_of_ble_eq_true rfl) ?_
  intro p_ e_ s_ m_ args_ below_ meth_ c_ ls Q hQ E hF_ hxt_ hl
  have E : sE p_ l_ e_ rmL_withRank s_ m_ args_ below_ meth_ c_ cL_withRank 5 wsL_withRank RL "withRank" (some .int) G b_ M N := E
  have S := E.1
  have hx_ := S.1
  have hb_ := S.2.1
  have hK := E.2.2.2.2.1
  have hV := E.2.2.2.2.2.2
  have hl : lv_has ls 5 [(0, .ref c), (1, .int (sI s)), (2, .int (sI r)), (3, .ref ou)] := hl
  have inX10_ : ∀ w ∈ wsX100, w ∈ wsL_withRank := fun _ h => List.mem_cons_of_mem _ (List.mem_append_left _ (List.mem_append_left _ (List.mem_append_left _ (List.mem_append_left _ (List.mem_append_left _ (List.mem_append_right _ h))))))
  have inX6_ : ∀ w ∈ wsX60, w ∈ wsL_withRank := fun _ h => List.mem_cons_of_mem _ (List.mem_append_left _ (List.mem_append_left _ (List.mem_append_left _ (List.mem_append_left _ (List.mem_append_right _ h)))))
  have inX8_ : ∀ w ∈ wsX80, w ∈ wsL_withRank := fun _ h => List.mem_cons_of_mem _ (List.mem_append_left _ (List.mem_append_left _ (List.mem_append_left _ (List.mem_append_right _ h))))
  have inX5_ : ∀ w ∈ wsX50, w ∈ wsL_withRank := fun _ h => List.mem_cons_of_mem _ (List.mem_append_left _ (List.mem_append_left _ (List.mem_append_right _ h)))
  have hbN : b_ ≤ N := by have h1 := hV.1.1; have h2 := hV.2.2; omega
  refine lv_aload_n hx_ hb_ dL_withRank_0 rfl (lv_at hl 3 rfl) ?_
  refine si_const S dL_withRank_1 ?_
  refine lv_aload_n hx_ hb_ dL_withRank_2 rfl (lv_at hl 0 rfl) ?_
  refine lv_iload_n hx_ hb_ dL_withRank_3 rfl (lv_at hl 1 rfl) ?_
  refine lv_iload_n hx_ hb_ dL_withRank_4 rfl (lv_at hl 2 rfl) ?_
  refine yk_Vi E hF_ hV (As := [.int (sI s), .int (sI r)]) (rest := [.int (sI 0), .ref ou]) (kX10_withRank l_ G b_ M N c kn ch f s r hc0 hst hft (hlt) (hok) (hr)) (cwV 2 S.2.2.2.2 gL_withRank_X10_withRank rfl rfl rfl (by decide +kernel) ⟨Nat.le_of_ble_eq_true rfl, Nat.le_of_ble_eq_true rfl⟩) (ci := 8) hc0 rfl rfl rfl hl.1 (Nat.le_of_ble_eq_true rfl) dL_withRank_5 (c1 := 8) (s1 := 50) ⟨⟨rfl, rfl⟩, by decide, by decide⟩ ?_ (fun z4 M1 N2 H locs hp3 hV => ?_)
  · rintro E9 M9 N9 H9 locs9 q9 ce9 ⟨hN5, hc8, hf6, hq7⟩ hV hce9 hcv9 hcl9
    rcases hq7 with ⟨c9, ee10⟩ | ⟨c11, ee12⟩
    · subst ee10
      refine vx_catch (own := RL) (name := "java/lang/IndexOutOfBoundsException") S.2.2.2.1 ([] : List ExceptionTableEntry) ⟨0, 10, 13, 25⟩ ([⟨0, 10, 17, 19⟩] : List ExceptionTableEntry) (hxt_.trans rfl) (fun z hz => by cases hz) (by decide) (by decide) (S.2.2.2.2 _ (List.mem_of_getElem? (i := 1) rfl)) (va_Nw.use rfl (hF_.1.1 _ (by decide +kernel))) hce9 hcv9 hcl9 ?_
      refine lv_astore (lv' := [(4, .ref q9), (0, .ref c), (1, .int (sI s)), (2, .int (sI r)), (3, .ref ou)]) hx_ hb_ dL_withRank_13 hl (by decide) rfl (fun ls hl => ?_)
      refine si_const S dL_withRank_15 ?_
      have hc13 : M9 ou = some (sArL G 1 g0) := (hf6 ou (by omega)).trans ho9
      exact xr_i E hQ dL_withRank_16 ⟨Nat.le_of_ble_eq_true rfl, Nat.le_of_ble_eq_true rfl⟩ hV (⟨by omega, hc8, fun x q0 q1 => hf6 x (by omega), Or.inl ⟨(c9), rfl, hc13⟩⟩)
    · subst ee12
      refine vx_catch (own := RL) (name := "java/lang/IllegalArgumentException") S.2.2.2.1 ([⟨0, 10, 13, 25⟩] : List ExceptionTableEntry) ⟨0, 10, 17, 19⟩ ([] : List ExceptionTableEntry) (hxt_.trans rfl) (fun z hz => by rcases List.mem_singleton.mp hz with rfl; exact Or.inr ⟨by decide, _, (S.2.2.2.2 _ (List.mem_of_getElem? (i := 1) rfl)), hF_.1.2 _ (by decide +kernel) _ (by decide +kernel) (by decide)⟩) (by decide) (by decide) (S.2.2.2.2 _ (List.mem_of_getElem? (i := 2) rfl)) (va_Nw.use rfl (hF_.1.1 _ (by decide +kernel))) hce9 hcv9 hcl9 ?_
      refine lv_astore (lv' := [(4, .ref q9), (0, .ref c), (1, .int (sI s)), (2, .int (sI r)), (3, .ref ou)]) hx_ hb_ dL_withRank_17 hl (by decide) rfl (fun ls hl => ?_)
      refine si_const S dL_withRank_19 ?_
      have hc14 : M9 ou = some (sArL G 1 g0) := (hf6 ou (by omega)).trans ho9
      exact xr_i E hQ dL_withRank_20 ⟨Nat.le_of_ble_eq_true rfl, Nat.le_of_ble_eq_true rfl⟩ hV (⟨by omega, hc8, fun x q0 q1 => hf6 x (by omega), Or.inr (Or.inl ⟨(c11), rfl, hc14⟩)⟩)
  obtain ⟨hN15, hc16, hf17, hq18⟩ := hp3
  rw [hN15] at hV
  rcases hq18 with ⟨c19, ez20⟩
  · rw [ez20]
    refine sl_i2w S dL_withRank_8 ?_
    have hc21 : M1 ou = some (sArL G 1 g0) := (hf17 ou (by omega)).trans ho9
    refine sc_last S hK hV hc21 (by omega) dL_withRank_9 (fun M22 H locs hM22 hV => ?_)
    have hc23 : M22 ou = some (sArL G 1 (iup g0 0 (sW (rkI f s r)))) := (congrFun hM22 ou).trans (va_up_self M1 ou _)
    refine lv_goto (tgt := 21) hx_ hb_ dL_withRank_10 (by decide) ?_
    refine si_const S dL_withRank_21 ?_
    have hc24 : orfC G M22 (c + 38) := hc16.fr (fun x q8 q9 => (congrFun hM22 x).trans (va_up_ne M1 _ (by omega)))
    exact xr_i E hQ dL_withRank_22 ⟨Nat.le_of_ble_eq_true rfl, Nat.le_of_ble_eq_true rfl⟩ hV (⟨by omega, hc24, fun x q0 q1 => ((congrFun hM22 x).trans (va_up_ne M1 _ (by omega))).trans (hf17 x (by omega)), Or.inr (Or.inr (⟨(c19), rfl, hc23⟩))⟩)

abbrev rmL_harder : Room := { frames := 9, cells := 8, slots := 50, locals := 165 }
set_option maxHeartbeats 4000000 in
set_option maxRecDepth 100000 in
theorem kL_harder (l_ : Launch) (G : sG) (b_ : Nat) (M : sM) (N : Nat) (ou : Nat) (g0 : Int → Int) (c : Nat) (kn : Int) (ch : Int) (f : sF) (a : Int) (b : Int) (hc0 : M c = some (xO c kn ch)) (hst : stC G M (c + 1) f) (hft : orfC G M (c + 38)) (ho9 : M ou = some (sArL G 1 g0)) (hlt : l_.stackTraces = false) (hok : sOk f) (hr : sR a ∧ sR b) (ho1 : c + 60 ≤ ou) : xcI l_ yL_harder wsL_harder rmL_harder G b_ M N [.ref c, .int (sI a), .int (sI b), .ref ou] (fun z_ M1 N1 => N ≤ N1 ∧ orfC G M1 (c + 38) ∧ (∀ x : Nat, ¬ (c + 38 ≤ x ∧ x < c + 38 + 10) → ¬ (x = ou) → M1 x = M x) ∧ (((¬ ((0 ≤ a ∧ a < f 568) ∧ (0 ≤ b ∧ b < f 568))) ∧ z_ = 1 ∧ M1 ou = some (sArL G 1 g0)) ∨ ((((0 ≤ a ∧ a < f 568) ∧ (0 ≤ b ∧ b < f 568)) ∧ a = b) ∧ z_ = 2 ∧ M1 ou = some (sArL G 1 g0)) ∨ ((((0 ≤ a ∧ a < f 568) ∧ (0 ≤ b ∧ b < f 568)) ∧ a ≠ b) ∧ z_ = 0 ∧ M1 ou = some (sArL G 1 (iup g0 0 (sW (abI f a b))))))) (fun _ _ _ => False) := by
  refine yE.ofI (cc := cL_harder) (nL := 5) (ret := (some .int)) (hh := [(0, 10, 13, 25), (0, 10, 17, 19)]) (by decide) rfl (Nat.le_of_ble_eq_true rfl) ?_
  intro p_ e_ s_ m_ args_ below_ meth_ c_ ls Q hQ E hF_ hxt_ hl
  have E : sE p_ l_ e_ rmL_harder s_ m_ args_ below_ meth_ c_ cL_harder 5 wsL_harder RL "harder" (some .int) G b_ M N := E
  have S := E.1
  have hx_ := S.1
  have hb_ := S.2.1
  have hK := E.2.2.2.2.1
  have hV := E.2.2.2.2.2.2
  have hl : lv_has ls 5 [(0, .ref c), (1, .int (sI a)), (2, .int (sI b)), (3, .ref ou)] := hl
  have inX10_ : ∀ w ∈ wsX100, w ∈ wsL_harder := fun _ h => List.mem_cons_of_mem _ (List.mem_append_left _ (List.mem_append_left _ (List.mem_append_left _ (List.mem_append_left _ (List.mem_append_left _ (List.mem_append_right _ h))))))
  have inX6_ : ∀ w ∈ wsX60, w ∈ wsL_harder := fun _ h => List.mem_cons_of_mem _ (List.mem_append_left _ (List.mem_append_left _ (List.mem_append_left _ (List.mem_append_left _ (List.mem_append_right _ h)))))
  have inX8_ : ∀ w ∈ wsX80, w ∈ wsL_harder := fun _ h => List.mem_cons_of_mem _ (List.mem_append_left _ (List.mem_append_left _ (List.mem_append_left _ (List.mem_append_right _ h))))
  have inX5_ : ∀ w ∈ wsX50, w ∈ wsL_harder := fun _ h => List.mem_cons_of_mem _ (List.mem_append_left _ (List.mem_append_left _ (List.mem_append_right _ h)))
  have hbN : b_ ≤ N := by have h1 := hV.1.1; have h2 := hV.2.2; omega
  refine lv_aload_n hx_ hb_ dL_harder_0 rfl (lv_at hl 3 rfl) ?_
  refine si_const S dL_harder_1 ?_
  refine lv_aload_n hx_ hb_ dL_harder_2 rfl (lv_at hl 0 rfl) ?_
  refine lv_iload_n hx_ hb_ dL_harder_3 rfl (lv_at hl 1 rfl) ?_
  refine lv_iload_n hx_ hb_ dL_harder_4 rfl (lv_at hl 2 rfl) ?_
  refine yk_Vi E hF_ hV (As := [.int (sI a), .int (sI b)]) (rest := [.int (sI 0), .ref ou]) (kX10_harder l_ G b_ M N c kn ch f a b hc0 hst hft (hlt) (hok) (hr)) (cwV 2 S.2.2.2.2 gL_harder_X10_harder rfl rfl rfl (by decide +kernel) ⟨Nat.le_of_ble_eq_true rfl, Nat.le_of_ble_eq_true rfl⟩) (ci := 8) hc0 rfl rfl rfl hl.1 (Nat.le_of_ble_eq_true rfl) dL_harder_5 (c1 := 8) (s1 := 50) ⟨⟨rfl, rfl⟩, by decide, by decide⟩ ?_ (fun z4 M1 N2 H locs hp3 hV => ?_)
  · rintro E9 M9 N9 H9 locs9 q9 ce9 ⟨hN5, hc8, hf6, hq7⟩ hV hce9 hcv9 hcl9
    rcases hq7 with ⟨c9, ee10⟩ | ⟨c11, ee12⟩
    · subst ee10
      refine vx_catch (own := RL) (name := "java/lang/IndexOutOfBoundsException") S.2.2.2.1 ([] : List ExceptionTableEntry) ⟨0, 10, 13, 25⟩ ([⟨0, 10, 17, 19⟩] : List ExceptionTableEntry) (hxt_.trans rfl) (fun z hz => by cases hz) (by decide) (by decide) (S.2.2.2.2 _ (List.mem_of_getElem? (i := 1) rfl)) (va_Nw.use rfl (hF_.1.1 _ (by decide +kernel))) hce9 hcv9 hcl9 ?_
      refine lv_astore (lv' := [(4, .ref q9), (0, .ref c), (1, .int (sI a)), (2, .int (sI b)), (3, .ref ou)]) hx_ hb_ dL_harder_13 hl (by decide) rfl (fun ls hl => ?_)
      refine si_const S dL_harder_15 ?_
      have hc13 : M9 ou = some (sArL G 1 g0) := (hf6 ou (by omega)).trans ho9
      exact xr_i E hQ dL_harder_16 ⟨Nat.le_of_ble_eq_true rfl, Nat.le_of_ble_eq_true rfl⟩ hV (⟨by omega, hc8, fun x q0 q1 => hf6 x (by omega), Or.inl ⟨(c9), rfl, hc13⟩⟩)
    · subst ee12
      refine vx_catch (own := RL) (name := "java/lang/IllegalArgumentException") S.2.2.2.1 ([⟨0, 10, 13, 25⟩] : List ExceptionTableEntry) ⟨0, 10, 17, 19⟩ ([] : List ExceptionTableEntry) (hxt_.trans rfl) (fun z hz => by rcases List.mem_singleton.mp hz with rfl; exact Or.inr ⟨by decide, _, (S.2.2.2.2 _ (List.mem_of_getElem? (i := 1) rfl)), hF_.1.2 _ (by decide +kernel) _ (by decide +kernel) (by decide)⟩) (by decide) (by decide) (S.2.2.2.2 _ (List.mem_of_getElem? (i := 2) rfl)) (va_Nw.use rfl (hF_.1.1 _ (by decide +kernel))) hce9 hcv9 hcl9 ?_
      refine lv_astore (lv' := [(4, .ref q9), (0, .ref c), (1, .int (sI a)), (2, .int (sI b)), (3, .ref ou)]) hx_ hb_ dL_harder_17 hl (by decide) rfl (fun ls hl => ?_)
      refine si_const S dL_harder_19 ?_
      have hc14 : M9 ou = some (sArL G 1 g0) := (hf6 ou (by omega)).trans ho9
      exact xr_i E hQ dL_harder_20 ⟨Nat.le_of_ble_eq_true rfl, Nat.le_of_ble_eq_true rfl⟩ hV (⟨by omega, hc8, fun x q0 q1 => hf6 x (by omega), Or.inr (Or.inl ⟨(c11), rfl, hc14⟩)⟩)
  obtain ⟨hN15, hc16, hf17, hq18⟩ := hp3
  rw [hN15] at hV
  rcases hq18 with ⟨c19, ez20⟩
  · rw [ez20]
    refine sl_i2w S dL_harder_8 ?_
    have hc21 : M1 ou = some (sArL G 1 g0) := (hf17 ou (by omega)).trans ho9
    refine sc_last S hK hV hc21 (by omega) dL_harder_9 (fun M22 H locs hM22 hV => ?_)
    have hc23 : M22 ou = some (sArL G 1 (iup g0 0 (sW (abI f a b)))) := (congrFun hM22 ou).trans (va_up_self M1 ou _)
    refine lv_goto (tgt := 21) hx_ hb_ dL_harder_10 (by decide) ?_
    refine si_const S dL_harder_21 ?_
    have hc24 : orfC G M22 (c + 38) := hc16.fr (fun x q8 q9 => (congrFun hM22 x).trans (va_up_ne M1 _ (by omega)))
    exact xr_i E hQ dL_harder_22 ⟨Nat.le_of_ble_eq_true rfl, Nat.le_of_ble_eq_true rfl⟩ hV (⟨by omega, hc24, fun x q0 q1 => ((congrFun hM22 x).trans (va_up_ne M1 _ (by omega))).trans (hf17 x (by omega)), Or.inr (Or.inr (⟨(c19), rfl, hc23⟩))⟩)

abbrev rmL_shareOf : Room := { frames := 9, cells := 8, slots := 50, locals := 169 }
set_option maxHeartbeats 4000000 in
set_option maxRecDepth 100000 in
theorem kL_shareOf (l_ : Launch) (G : sG) (b_ : Nat) (M : sM) (N : Nat) (ou : Nat) (g0 : Int → Int) (c : Nat) (kn : Int) (ch : Int) (f : sF) (a : Int) (b : Int) (B : Prop) (hc0 : M c = some (xO c kn ch)) (hst : stC G M (c + 1) f) (hft : orfC G M (c + 38)) (ho9 : M ou = some (sArL G 1 g0)) (hlt : l_.stackTraces = false) (hok : sOk f) (hr : sR a ∧ sR b) (ho1 : c + 60 ≤ ou) : xcI l_ yL_shareOf wsL_shareOf rmL_shareOf G b_ M N [.ref c, .int (sI a), .int (sI b), .int (sI (bI B)), .ref ou] (fun z_ M1 N1 => N ≤ N1 ∧ orfC G M1 (c + 38) ∧ (∀ x : Nat, ¬ (c + 38 ≤ x ∧ x < c + 38 + 10) → ¬ (x = ou) → M1 x = M x) ∧ (((¬ ((0 ≤ a ∧ a < f 568) ∧ (0 ≤ b ∧ b < f 568))) ∧ z_ = 1 ∧ M1 ou = some (sArL G 1 g0)) ∨ ((((0 ≤ a ∧ a < f 568) ∧ (0 ≤ b ∧ b < f 568)) ∧ a = b) ∧ z_ = 2 ∧ M1 ou = some (sArL G 1 g0)) ∨ ((((0 ≤ a ∧ a < f 568) ∧ (0 ≤ b ∧ b < f 568)) ∧ a ≠ b ∧ totI f = 0) ∧ z_ = 0 ∧ M1 ou = some (sArL G 1 (iup g0 0 (sW (bI B))))) ∨ ((((0 ≤ a ∧ a < f 568) ∧ (0 ≤ b ∧ b < f 568)) ∧ a ≠ b ∧ totI f ≠ 0) ∧ z_ = 0 ∧ M1 ou = some (sArL G 1 (iup g0 0 (sW (pif B (totI f) (abI f a b) / cmI (totI f) (abI f a b)))))))) (fun _ _ _ => False) := by
  refine yE.ofI (cc := cL_shareOf) (nL := 6) (ret := (some .int)) (hh := [(0, 12, 15, 25), (0, 12, 19, 19)]) (by decide) rfl (Nat.le_of_ble_eq_true rfl) ?_
  intro p_ e_ s_ m_ args_ below_ meth_ c_ ls Q hQ E hF_ hxt_ hl
  have E : sE p_ l_ e_ rmL_shareOf s_ m_ args_ below_ meth_ c_ cL_shareOf 6 wsL_shareOf RL "shareOf" (some .int) G b_ M N := E
  have S := E.1
  have hx_ := S.1
  have hb_ := S.2.1
  have hK := E.2.2.2.2.1
  have hV := E.2.2.2.2.2.2
  have hl : lv_has ls 6 [(0, .ref c), (1, .int (sI a)), (2, .int (sI b)), (3, .int (sI (bI B))), (4, .ref ou)] := hl
  have inX10_ : ∀ w ∈ wsX100, w ∈ wsL_shareOf := fun _ h => List.mem_cons_of_mem _ (List.mem_append_left _ (List.mem_append_left _ (List.mem_append_left _ (List.mem_append_left _ (List.mem_append_left _ (List.mem_append_right _ h))))))
  have inX6_ : ∀ w ∈ wsX60, w ∈ wsL_shareOf := fun _ h => List.mem_cons_of_mem _ (List.mem_append_left _ (List.mem_append_left _ (List.mem_append_left _ (List.mem_append_left _ (List.mem_append_right _ h)))))
  have inX8_ : ∀ w ∈ wsX80, w ∈ wsL_shareOf := fun _ h => List.mem_cons_of_mem _ (List.mem_append_left _ (List.mem_append_left _ (List.mem_append_left _ (List.mem_append_right _ h))))
  have inX5_ : ∀ w ∈ wsX50, w ∈ wsL_shareOf := fun _ h => List.mem_cons_of_mem _ (List.mem_append_left _ (List.mem_append_left _ (List.mem_append_right _ h)))
  have hbN : b_ ≤ N := by have h1 := hV.1.1; have h2 := hV.2.2; omega
  refine lv_aload hx_ hb_ dL_shareOf_0 (lv_at hl 4 rfl) ?_
  refine si_const S dL_shareOf_2 ?_
  refine lv_aload_n hx_ hb_ dL_shareOf_3 rfl (lv_at hl 0 rfl) ?_
  refine lv_iload_n hx_ hb_ dL_shareOf_4 rfl (lv_at hl 1 rfl) ?_
  refine lv_iload_n hx_ hb_ dL_shareOf_5 rfl (lv_at hl 2 rfl) ?_
  refine lv_iload_n hx_ hb_ dL_shareOf_6 rfl (lv_at hl 3 rfl) ?_
  refine yk_Vi E hF_ hV (As := [.int (sI a), .int (sI b), .int (sI (bI B))]) (rest := [.int (sI 0), .ref ou]) (kX10_shareOf l_ G b_ M N c kn ch f a b B hc0 hst hft (hlt) (hok) (hr)) (cwV 3 S.2.2.2.2 gL_shareOf_X10_shareOf rfl rfl rfl (by decide +kernel) ⟨Nat.le_of_ble_eq_true rfl, Nat.le_of_ble_eq_true rfl⟩) (ci := 8) hc0 rfl rfl rfl hl.1 (Nat.le_of_ble_eq_true rfl) dL_shareOf_7 (c1 := 8) (s1 := 50) ⟨⟨rfl, rfl⟩, by decide, by decide⟩ ?_ (fun z4 M1 N2 H locs hp3 hV => ?_)
  · rintro E9 M9 N9 H9 locs9 q9 ce9 ⟨hN5, hc8, hf6, hq7⟩ hV hce9 hcv9 hcl9
    rcases hq7 with ⟨c9, ee10⟩ | ⟨c11, ee12⟩
    · subst ee10
      refine vx_catch (own := RL) (name := "java/lang/IndexOutOfBoundsException") S.2.2.2.1 ([] : List ExceptionTableEntry) ⟨0, 12, 15, 25⟩ ([⟨0, 12, 19, 19⟩] : List ExceptionTableEntry) (hxt_.trans rfl) (fun z hz => by cases hz) (by decide) (by decide) (S.2.2.2.2 _ (List.mem_of_getElem? (i := 1) rfl)) (va_Nw.use rfl (hF_.1.1 _ (by decide +kernel))) hce9 hcv9 hcl9 ?_
      refine lv_astore (lv' := [(5, .ref q9), (0, .ref c), (1, .int (sI a)), (2, .int (sI b)), (3, .int (sI (bI B))), (4, .ref ou)]) hx_ hb_ dL_shareOf_15 hl (by decide) rfl (fun ls hl => ?_)
      refine si_const S dL_shareOf_17 ?_
      have hc13 : M9 ou = some (sArL G 1 g0) := (hf6 ou (by omega)).trans ho9
      exact xr_i E hQ dL_shareOf_18 ⟨Nat.le_of_ble_eq_true rfl, Nat.le_of_ble_eq_true rfl⟩ hV (⟨by omega, hc8, fun x q0 q1 => hf6 x (by omega), Or.inl ⟨(c9), rfl, hc13⟩⟩)
    · subst ee12
      refine vx_catch (own := RL) (name := "java/lang/IllegalArgumentException") S.2.2.2.1 ([⟨0, 12, 15, 25⟩] : List ExceptionTableEntry) ⟨0, 12, 19, 19⟩ ([] : List ExceptionTableEntry) (hxt_.trans rfl) (fun z hz => by rcases List.mem_singleton.mp hz with rfl; exact Or.inr ⟨by decide, _, (S.2.2.2.2 _ (List.mem_of_getElem? (i := 1) rfl)), hF_.1.2 _ (by decide +kernel) _ (by decide +kernel) (by decide)⟩) (by decide) (by decide) (S.2.2.2.2 _ (List.mem_of_getElem? (i := 2) rfl)) (va_Nw.use rfl (hF_.1.1 _ (by decide +kernel))) hce9 hcv9 hcl9 ?_
      refine lv_astore (lv' := [(5, .ref q9), (0, .ref c), (1, .int (sI a)), (2, .int (sI b)), (3, .int (sI (bI B))), (4, .ref ou)]) hx_ hb_ dL_shareOf_19 hl (by decide) rfl (fun ls hl => ?_)
      refine si_const S dL_shareOf_21 ?_
      have hc14 : M9 ou = some (sArL G 1 g0) := (hf6 ou (by omega)).trans ho9
      exact xr_i E hQ dL_shareOf_22 ⟨Nat.le_of_ble_eq_true rfl, Nat.le_of_ble_eq_true rfl⟩ hV (⟨by omega, hc8, fun x q0 q1 => hf6 x (by omega), Or.inr (Or.inl ⟨(c11), rfl, hc14⟩)⟩)
  obtain ⟨hN15, hc16, hf17, hq18⟩ := hp3
  rw [hN15] at hV
  rcases hq18 with ⟨c19, ez20⟩ | ⟨c21, ez22⟩
  · rw [ez20]
    refine sl_i2w S dL_shareOf_10 ?_
    have hc23 : M1 ou = some (sArL G 1 g0) := (hf17 ou (by omega)).trans ho9
    refine sc_last S hK hV hc23 (by omega) dL_shareOf_11 (fun M24 H locs hM24 hV => ?_)
    have hc25 : M24 ou = some (sArL G 1 (iup g0 0 (sW (bI B)))) := (congrFun hM24 ou).trans (va_up_self M1 ou _)
    refine lv_goto (tgt := 23) hx_ hb_ dL_shareOf_12 (by decide) ?_
    refine si_const S dL_shareOf_23 ?_
    have hc26 : orfC G M24 (c + 38) := hc16.fr (fun x q8 q9 => (congrFun hM24 x).trans (va_up_ne M1 _ (by omega)))
    exact xr_i E hQ dL_shareOf_24 ⟨Nat.le_of_ble_eq_true rfl, Nat.le_of_ble_eq_true rfl⟩ hV (⟨by omega, hc26, fun x q0 q1 => ((congrFun hM24 x).trans (va_up_ne M1 _ (by omega))).trans (hf17 x (by omega)), Or.inr (Or.inr (Or.inl ⟨(c19), rfl, hc25⟩))⟩)
  · rw [ez22]
    refine sl_i2w S dL_shareOf_10 ?_
    have hc27 : M1 ou = some (sArL G 1 g0) := (hf17 ou (by omega)).trans ho9
    refine sc_last S hK hV hc27 (by omega) dL_shareOf_11 (fun M28 H locs hM28 hV => ?_)
    have hc29 : M28 ou = some (sArL G 1 (iup g0 0 (sW (pif B (totI f) (abI f a b) / cmI (totI f) (abI f a b))))) := (congrFun hM28 ou).trans (va_up_self M1 ou _)
    refine lv_goto (tgt := 23) hx_ hb_ dL_shareOf_12 (by decide) ?_
    refine si_const S dL_shareOf_23 ?_
    have hc30 : orfC G M28 (c + 38) := hc16.fr (fun x q8 q9 => (congrFun hM28 x).trans (va_up_ne M1 _ (by omega)))
    exact xr_i E hQ dL_shareOf_24 ⟨Nat.le_of_ble_eq_true rfl, Nat.le_of_ble_eq_true rfl⟩ hV (⟨by omega, hc30, fun x q0 q1 => ((congrFun hM28 x).trans (va_up_ne M1 _ (by omega))).trans (hf17 x (by omega)), Or.inr (Or.inr (Or.inr (⟨(c21), rfl, hc29⟩)))⟩)
