/-! The law: wrappers. -/

abbrev rmL_orderAt : Room := { frames := 7, cells := 8, slots := 50, locals := 156 }
set_option maxHeartbeats 4000000 in
set_option maxRecDepth 100000 in
theorem kL_orderAt (l_ : Launch) (G : sG) (b_ : Nat) (M : sM) (N : Nat) (ou : Nat) (g0 : Int → Int) (c : Nat) (kn : Int) (ch : Int) (f : sF) (r : Int) (hc0 : M c = some (xO c kn ch)) (hst : stC G M (c + 1) f) (hft : orfC G M (c + 38)) (ho9 : M ou = some (sArL G 1 g0)) (hlt : l_.stackTraces = false) (hok : sOk f) (hr : sR r) (ho1 : c + 60 ≤ ou) : xcI l_ yL_orderAt wsL_orderAt rmL_orderAt G b_ M N [.ref c, .int (sI r), .ref ou] (fun z_ M1 N1 => N ≤ N1 ∧ orfC G M1 (c + 38) ∧ (∀ x : Nat, ¬ (c + 38 ≤ x ∧ x < c + 38 + 10) → ¬ (x = ou) → M1 x = M x) ∧ (((¬ ((0 ≤ r ∧ r < f 568) ∧ 0 < totI f)) ∧ z_ = 1 ∧ M1 ou = some (sArL G 1 g0)) ∨ (((0 ≤ r ∧ r < f 568) ∧ 0 < totI f) ∧ z_ = 0 ∧ M1 ou = some (sArL G 1 (iup g0 0 (sW (orI f r))))))) (fun _ _ _ => False) := by
  refine yE.ofI (cc := cL_orderAt) (nL := 4) (ret := (some .int)) (hh := [(0, 9, 12, 25)]) (by decide) rfl (Nat.le_of_ble_eq_true rfl) ?_
  intro p_ e_ s_ m_ args_ below_ meth_ c_ ls Q hQ E hF_ hxt_ hl
  have E : sE p_ l_ e_ rmL_orderAt s_ m_ args_ below_ meth_ c_ cL_orderAt 4 wsL_orderAt RL "orderAt" (some .int) G b_ M N := E
  have S := E.1
  have hx_ := S.1
  have hb_ := S.2.1
  have hK := E.2.2.2.2.1
  have hV := E.2.2.2.2.2.2
  have hl : lv_has ls 4 [(0, .ref c), (1, .int (sI r)), (2, .ref ou)] := hl
  have inX10_ : ∀ w ∈ wsX100, w ∈ wsL_orderAt := fun _ h => List.mem_cons_of_mem _ (List.mem_append_left _ (List.mem_append_left _ (List.mem_append_left _ (List.mem_append_left _ (List.mem_append_right _ h)))))
  have inX6_ : ∀ w ∈ wsX60, w ∈ wsL_orderAt := fun _ h => List.mem_cons_of_mem _ (List.mem_append_left _ (List.mem_append_left _ (List.mem_append_left _ (List.mem_append_right _ h))))
  have inX5_ : ∀ w ∈ wsX50, w ∈ wsL_orderAt := fun _ h => List.mem_cons_of_mem _ (List.mem_append_left _ (List.mem_append_left _ (List.mem_append_right _ h)))
  have inX8_ : ∀ w ∈ wsX80, w ∈ wsL_orderAt := fun _ h => List.mem_cons_of_mem _ (List.mem_append_left _ (List.mem_append_right _ h))
  have hbN : b_ ≤ N := by have h1 := hV.1.1; have h2 := hV.2.2; omega
  refine lv_aload_n hx_ hb_ dL_orderAt_0 rfl (lv_at hl 2 rfl) ?_
  refine si_const S dL_orderAt_1 ?_
  refine lv_aload_n hx_ hb_ dL_orderAt_2 rfl (lv_at hl 0 rfl) ?_
  refine lv_iload_n hx_ hb_ dL_orderAt_3 rfl (lv_at hl 1 rfl) ?_
  refine yk_Vi E hF_ hV (As := [.int (sI r)]) (rest := [.int (sI 0), .ref ou]) (kX10_orderAt l_ G b_ M N c kn ch f r hc0 hst hft (hlt) (hok) (hr)) (cwV 1 S.2.2.2.2 gL_orderAt_X10_orderAt rfl rfl rfl (by decide +kernel) ⟨Nat.le_of_ble_eq_true rfl, Nat.le_of_ble_eq_true rfl⟩) (ci := 8) hc0 rfl rfl rfl hl.1 (Nat.le_of_ble_eq_true rfl) dL_orderAt_4 (c1 := 8) (s1 := 50) ⟨⟨rfl, rfl⟩, by decide, by decide⟩ ?_ (fun z4 M1 N2 H locs hp3 hV => ?_)
  · rintro E9 M9 N9 H9 locs9 q9 ce9 ⟨hN5, hc8, hf6, hq7⟩ hV hce9 hcv9 hcl9
    rcases hq7 with ⟨c9, ee10⟩
    · subst ee10
      refine vx_catch (own := RL) (name := "java/lang/IndexOutOfBoundsException") S.2.2.2.1 ([] : List ExceptionTableEntry) ⟨0, 9, 12, 25⟩ ([] : List ExceptionTableEntry) (hxt_.trans rfl) (fun z hz => by cases hz) (by decide) (by decide) (S.2.2.2.2 _ (List.mem_of_getElem? (i := 1) rfl)) (va_Nw.use rfl (hF_.1.1 _ (by decide +kernel))) hce9 hcv9 hcl9 ?_
      refine lv_astore_n (lv' := [(3, .ref q9), (0, .ref c), (1, .int (sI r)), (2, .ref ou)]) hx_ hb_ dL_orderAt_12 rfl hl (by decide) rfl (fun ls hl => ?_)
      refine si_const S dL_orderAt_13 ?_
      have hc11 : M9 ou = some (sArL G 1 g0) := (hf6 ou (by omega)).trans ho9
      exact xr_i E hQ dL_orderAt_14 ⟨Nat.le_of_ble_eq_true rfl, Nat.le_of_ble_eq_true rfl⟩ hV (⟨by omega, hc8, fun x q0 q1 => hf6 x (by omega), Or.inl ⟨(c9), rfl, hc11⟩⟩)
  obtain ⟨hN12, hc13, hf14, hq15⟩ := hp3
  rw [hN12] at hV
  rcases hq15 with ⟨c16, ez17⟩
  · rw [ez17]
    refine sl_i2w S dL_orderAt_7 ?_
    have hc18 : M1 ou = some (sArL G 1 g0) := (hf14 ou (by omega)).trans ho9
    refine sc_last S hK hV hc18 (by omega) dL_orderAt_8 (fun M19 H locs hM19 hV => ?_)
    have hc20 : M19 ou = some (sArL G 1 (iup g0 0 (sW (orI f r)))) := (congrFun hM19 ou).trans (va_up_self M1 ou _)
    refine lv_goto (tgt := 15) hx_ hb_ dL_orderAt_9 (by decide) ?_
    refine si_const S dL_orderAt_15 ?_
    have hc21 : orfC G M19 (c + 38) := hc13.fr (fun x q8 q9 => (congrFun hM19 x).trans (va_up_ne M1 _ (by omega)))
    exact xr_i E hQ dL_orderAt_16 ⟨Nat.le_of_ble_eq_true rfl, Nat.le_of_ble_eq_true rfl⟩ hV (⟨by omega, hc21, fun x q0 q1 => ((congrFun hM19 x).trans (va_up_ne M1 _ (by omega))).trans (hf14 x (by omega)), Or.inr (⟨(c16), rfl, hc20⟩)⟩)

abbrev rmL_setDrawer : Room := { frames := 8, cells := 25, slots := 3000, locals := 149 }
set_option maxHeartbeats 4000000 in
set_option maxRecDepth 100000 in
theorem kL_setDrawer (l_ : Launch) (G : sG) (b_ : Nat) (M : sM) (N : Nat) (ou : Nat) (g0 : Int → Int) (c : Nat) (kn : Int) (ch : Int) (f : sF) (kb : Nat) (fs : Int → sF) (d : Int) (z : Int) (v : Int) (hc0 : M c = some (xO c kn ch)) (hst : stC G M (c + 1) f) (hkp : kpC G M (c + 31) kb kn ch fs) (ho9 : M ou = some (sArL G 1 g0)) (hlt : l_.stackTraces = false) (hok : sOk f) (hkb : c + 60 ≤ kb) (hkN : kb ≤ N) (hr : sR d ∧ sR z ∧ sR v) (ho1 : c + 60 ≤ ou) (ho2 : ou < kb) : xcI l_ yL_setDrawer wsL_setDrawer rmL_setDrawer G b_ M N [.ref c, .int (sI d), .int (sI z), .int (sI v), .ref ou] (fun z_ M1 N1 => ∃ kn1 : Int, N ≤ N1 ∧ (∀ x : Nat, ¬ (x = c) → ¬ (x = c + 31) → ¬ (kb ≤ x) → ¬ (c + 1 ≤ x ∧ x < c + 1 + 15) → ¬ (x = ou) → M1 x = M x) ∧ (((¬ ((0 ≤ d ∧ d ≤ 3) ∧ (0 ≤ z ∧ z ≤ 99) ∧ (0 ≤ v ∧ v ≤ 999))) ∧ z_ = 1 ∧ M1 c = some (xO c kn1 ch) ∧ stC G M1 (c + 1) f ∧ kpC G M1 (c + 31) kb kn1 ch fs ∧ M1 ou = some (sArL G 1 g0)) ∨ ((((0 ≤ d ∧ d ≤ 3) ∧ (0 ≤ z ∧ z ≤ 99) ∧ (0 ≤ v ∧ v ≤ 999)) ∧ ¬ (isum (f 568) (lyT f d 1) ≤ z ∧ isum (f 568) (lyT f d 2) ≤ v)) ∧ z_ = 2 ∧ M1 c = some (xO c kn1 ch) ∧ stC G M1 (c + 1) f ∧ kpC G M1 (c + 31) kb kn1 ch fs ∧ M1 ou = some (sArL G 1 g0)) ∨ ((((0 ≤ d ∧ d ≤ 3) ∧ (0 ≤ z ∧ z ≤ 99) ∧ (0 ≤ v ∧ v ≤ 999)) ∧ isum (f 568) (lyT f d 1) ≤ z ∧ isum (f 568) (lyT f d 2) ≤ v) ∧ z_ = 0 ∧ M1 c = some (xO c kn1 (chn ch)) ∧ stC G M1 (c + 1) (sdF f d z v) ∧ kpC G M1 (c + 31) kb kn1 (chn ch) (fsn ch fs f) ∧ M1 ou = some (sArL G 1 (iup g0 0 (sW (f (150 + d)))))))) (fun _ _ _ => False) := by
  refine yE.ofI (cc := cL_setDrawer) (nL := 6) (ret := (some .int)) (hh := [(0, 12, 15, 19), (0, 12, 19, 13)]) (by decide) rfl (Nat.le_of_ble_eq_true rfl) ?_
  intro p_ e_ s_ m_ args_ below_ meth_ c_ ls Q hQ E hF_ hxt_ hl
  have E : sE p_ l_ e_ rmL_setDrawer s_ m_ args_ below_ meth_ c_ cL_setDrawer 6 wsL_setDrawer RL "setDrawer" (some .int) G b_ M N := E
  have S := E.1
  have hx_ := S.1
  have hb_ := S.2.1
  have hK := E.2.2.2.2.1
  have hV := E.2.2.2.2.2.2
  have hl : lv_has ls 6 [(0, .ref c), (1, .int (sI d)), (2, .int (sI z)), (3, .int (sI v)), (4, .ref ou)] := hl
  have inX10_ : ∀ w ∈ wsX100, w ∈ wsL_setDrawer := fun _ h => List.mem_cons_of_mem _ (List.mem_append_left _ (List.mem_append_left _ (List.mem_append_left _ (List.mem_append_left _ (List.mem_append_right _ h)))))
  have inX6_ : ∀ w ∈ wsX60, w ∈ wsL_setDrawer := fun _ h => List.mem_cons_of_mem _ (List.mem_append_left _ (List.mem_append_left _ (List.mem_append_left _ (List.mem_append_right _ h))))
  have inX8_ : ∀ w ∈ wsX80, w ∈ wsL_setDrawer := fun _ h => List.mem_cons_of_mem _ (List.mem_append_left _ (List.mem_append_left _ (List.mem_append_right _ h)))
  have hbN : b_ ≤ N := by have h1 := hV.1.1; have h2 := hV.2.2; omega
  refine lv_aload hx_ hb_ dL_setDrawer_0 (lv_at hl 4 rfl) ?_
  refine si_const S dL_setDrawer_2 ?_
  refine lv_aload_n hx_ hb_ dL_setDrawer_3 rfl (lv_at hl 0 rfl) ?_
  refine lv_iload_n hx_ hb_ dL_setDrawer_4 rfl (lv_at hl 1 rfl) ?_
  refine lv_iload_n hx_ hb_ dL_setDrawer_5 rfl (lv_at hl 2 rfl) ?_
  refine lv_iload_n hx_ hb_ dL_setDrawer_6 rfl (lv_at hl 3 rfl) ?_
  refine yk_Vi E hF_ hV (As := [.int (sI d), .int (sI z), .int (sI v)]) (rest := [.int (sI 0), .ref ou]) (kX10_setDrawer l_ G b_ M N c kn ch f kb fs d z v hc0 hst hkp (hlt) (hok) (hkb) (hkN) (hr)) (cwV 3 S.2.2.2.2 gL_setDrawer_X10_setDrawer rfl rfl rfl (by decide +kernel) ⟨Nat.le_of_ble_eq_true rfl, Nat.le_of_ble_eq_true rfl⟩) (ci := 8) hc0 rfl rfl rfl hl.1 (Nat.le_of_ble_eq_true rfl) dL_setDrawer_7 (c1 := 25) (s1 := 3000) ⟨⟨rfl, rfl⟩, by decide, by decide⟩ ?_ (fun z4 M1 N2 H locs hp3 hV => ?_)
  · rintro E9 M9 N9 H9 locs9 q9 ce9 ⟨kn15, hN6, hf7, hq8⟩ hV hce9 hcv9 hcl9
    rcases hq8 with ⟨c9, ee10, hc11, hc12, hc13⟩ | ⟨c14, ee15, hc16, hc17, hc18⟩
    · subst ee10
      refine vx_catch (own := RL) (name := "java/lang/IllegalArgumentException") S.2.2.2.1 ([] : List ExceptionTableEntry) ⟨0, 12, 15, 19⟩ ([⟨0, 12, 19, 13⟩] : List ExceptionTableEntry) (hxt_.trans rfl) (fun z hz => by cases hz) (by decide) (by decide) (S.2.2.2.2 _ (List.mem_of_getElem? (i := 1) rfl)) (va_Nw.use rfl (hF_.1.1 _ (by decide +kernel))) hce9 hcv9 hcl9 ?_
      refine lv_astore (lv' := [(5, .ref q9), (0, .ref c), (1, .int (sI d)), (2, .int (sI z)), (3, .int (sI v)), (4, .ref ou)]) hx_ hb_ dL_setDrawer_15 hl (by decide) rfl (fun ls hl => ?_)
      refine si_const S dL_setDrawer_17 ?_
      have hc19 : M9 ou = some (sArL G 1 g0) := (hf7 ou (by omega) (by omega) (by omega) (by omega)).trans ho9
      exact xr_i E hQ dL_setDrawer_18 ⟨Nat.le_of_ble_eq_true rfl, Nat.le_of_ble_eq_true rfl⟩ hV (⟨_, by omega, fun x q0 q1 q2 q3 q4 => hf7 x (by omega) (by omega) (by omega) (by omega), Or.inl ⟨(c9), rfl, hc11, hc12, hc13, hc19⟩⟩)
    · subst ee15
      refine vx_catch (own := RL) (name := "java/lang/IllegalStateException") S.2.2.2.1 ([⟨0, 12, 15, 19⟩] : List ExceptionTableEntry) ⟨0, 12, 19, 13⟩ ([] : List ExceptionTableEntry) (hxt_.trans rfl) (fun z hz => by rcases List.mem_singleton.mp hz with rfl; exact Or.inr ⟨by decide, _, (S.2.2.2.2 _ (List.mem_of_getElem? (i := 1) rfl)), hF_.1.2 _ (by decide +kernel) _ (by decide +kernel) (by decide)⟩) (by decide) (by decide) (S.2.2.2.2 _ (List.mem_of_getElem? (i := 2) rfl)) (va_Nw.use rfl (hF_.1.1 _ (by decide +kernel))) hce9 hcv9 hcl9 ?_
      refine lv_astore (lv' := [(5, .ref q9), (0, .ref c), (1, .int (sI d)), (2, .int (sI z)), (3, .int (sI v)), (4, .ref ou)]) hx_ hb_ dL_setDrawer_19 hl (by decide) rfl (fun ls hl => ?_)
      refine si_const S dL_setDrawer_21 ?_
      have hc20 : M9 ou = some (sArL G 1 g0) := (hf7 ou (by omega) (by omega) (by omega) (by omega)).trans ho9
      exact xr_i E hQ dL_setDrawer_22 ⟨Nat.le_of_ble_eq_true rfl, Nat.le_of_ble_eq_true rfl⟩ hV (⟨_, by omega, fun x q0 q1 q2 q3 q4 => hf7 x (by omega) (by omega) (by omega) (by omega), Or.inr (Or.inl ⟨(c14), rfl, hc16, hc17, hc18, hc20⟩)⟩)
  obtain ⟨kn121, hN22, hf23, hq24⟩ := hp3
  rcases hq24 with ⟨c25, ez26, hc27, hc28, hc29⟩
  · rw [ez26]
    refine sl_i2w S dL_setDrawer_10 ?_
    have hc30 : M1 ou = some (sArL G 1 g0) := (hf23 ou (by omega) (by omega) (by omega) (by omega)).trans ho9
    refine sc_last S hK hV hc30 (by omega) dL_setDrawer_11 (fun M31 H locs hM31 hV => ?_)
    have hc32 : M31 ou = some (sArL G 1 (iup g0 0 (sW (f (150 + d))))) := (congrFun hM31 ou).trans (va_up_self M1 ou _)
    refine lv_goto (tgt := 23) hx_ hb_ dL_setDrawer_12 (by decide) ?_
    refine si_const S dL_setDrawer_23 ?_
    have hc33 : M31 c = some (xO c kn121 (chn ch)) := ((congrFun hM31 c).trans (va_up_ne M1 _ (by omega))).trans hc27
    have hc34 : stC G M31 (c + 1) (sdF f d z v) := hc28.fr (fun x q8 q9 => (congrFun hM31 x).trans (va_up_ne M1 _ (by omega)))
    have hc35 : kpC G M31 (c + 31) kb kn121 (chn ch) (fsn ch fs f) := hc29.fr (fun x q8 => (congrFun hM31 x).trans (va_up_ne M1 _ (by omega)))
    exact xr_i E hQ dL_setDrawer_24 ⟨Nat.le_of_ble_eq_true rfl, Nat.le_of_ble_eq_true rfl⟩ hV (⟨_, by omega, fun x q0 q1 q2 q3 q4 => ((congrFun hM31 x).trans (va_up_ne M1 _ (by omega))).trans (hf23 x (by omega) (by omega) (by omega) (by omega)), Or.inr (Or.inr (⟨(c25), rfl, hc33, hc34, hc35, hc32⟩))⟩)

abbrev rmL_part : Room := { frames := 8, cells := 25, slots := 3000, locals := 149 }
set_option maxHeartbeats 4000000 in
set_option maxRecDepth 100000 in
theorem kL_part (l_ : Launch) (G : sG) (b_ : Nat) (M : sM) (N : Nat) (ou : Nat) (g0 : Int → Int) (c : Nat) (kn : Int) (ch : Int) (f : sF) (kb : Nat) (fs : Int → sF) (p : Int) (q : Int) (B : Prop) (hc0 : M c = some (xO c kn ch)) (hst : stC G M (c + 1) f) (hkp : kpC G M (c + 31) kb kn ch fs) (ho9 : M ou = some (sArL G 1 g0)) (hlt : l_.stackTraces = false) (hok : sOk f) (hkb : c + 60 ≤ kb) (hkN : kb ≤ N) (hr : sR p ∧ sR q) (ho1 : c + 60 ≤ ou) (ho2 : ou < kb) : xcI l_ yL_part wsL_part rmL_part G b_ M N [.ref c, .int (sI p), .int (sI q), .int (sI (bI B)), .ref ou] (fun z_ M1 N1 => ∃ kn1 : Int, N ≤ N1 ∧ (∀ x : Nat, ¬ (x = c) → ¬ (x = c + 31) → ¬ (kb ≤ x) → ¬ (c + 1 ≤ x ∧ x < c + 1 + 15) → ¬ (x = ou) → M1 x = M x) ∧ (((¬ ((0 ≤ p ∧ p ≤ 5) ∧ (0 ≤ q ∧ q ≤ 5))) ∧ z_ = 1 ∧ M1 c = some (xO c kn1 ch) ∧ stC G M1 (c + 1) f ∧ kpC G M1 (c + 31) kb kn1 ch fs ∧ M1 ou = some (sArL G 1 g0)) ∨ ((((0 ≤ p ∧ p ≤ 5) ∧ (0 ≤ q ∧ q ≤ 5)) ∧ B ∧ lieP f p q) ∧ z_ = 2 ∧ M1 c = some (xO c kn1 ch) ∧ stC G M1 (c + 1) f ∧ kpC G M1 (c + 31) kb kn1 ch fs ∧ M1 ou = some (sArL G 1 g0)) ∨ ((((0 ≤ p ∧ p ≤ 5) ∧ (0 ≤ q ∧ q ≤ 5)) ∧ ¬ (B ∧ lieP f p q)) ∧ z_ = 0 ∧ M1 c = some (xO c kn1 (chn ch)) ∧ stC G M1 (c + 1) (prF f B p q) ∧ kpC G M1 (c + 31) kb kn1 (chn ch) (fsn ch fs f) ∧ M1 ou = some (sArL G 1 (iup g0 0 (bI (tb (f (158 + p)) q))))))) (fun _ _ _ => False) := by
  refine yE.ofI (cc := cL_part) (nL := 6) (ret := (some .int)) (hh := [(0, 19, 22, 19), (0, 19, 26, 13)]) (by decide) rfl (Nat.le_of_ble_eq_true rfl) ?_
  intro p_ e_ s_ m_ args_ below_ meth_ c_ ls Q hQ E hF_ hxt_ hl
  have E : sE p_ l_ e_ rmL_part s_ m_ args_ below_ meth_ c_ cL_part 6 wsL_part RL "part" (some .int) G b_ M N := E
  have S := E.1
  have hx_ := S.1
  have hb_ := S.2.1
  have hK := E.2.2.2.2.1
  have hV := E.2.2.2.2.2.2
  have hl : lv_has ls 6 [(0, .ref c), (1, .int (sI p)), (2, .int (sI q)), (3, .int (sI (bI B))), (4, .ref ou)] := hl
  have inX10_ : ∀ w ∈ wsX100, w ∈ wsL_part := fun _ h => List.mem_cons_of_mem _ (List.mem_append_left _ (List.mem_append_left _ (List.mem_append_left _ (List.mem_append_left _ (List.mem_append_right _ h)))))
  have inX6_ : ∀ w ∈ wsX60, w ∈ wsL_part := fun _ h => List.mem_cons_of_mem _ (List.mem_append_left _ (List.mem_append_left _ (List.mem_append_left _ (List.mem_append_right _ h))))
  have inX8_ : ∀ w ∈ wsX80, w ∈ wsL_part := fun _ h => List.mem_cons_of_mem _ (List.mem_append_left _ (List.mem_append_left _ (List.mem_append_right _ h)))
  have hbN : b_ ≤ N := by have h1 := hV.1.1; have h2 := hV.2.2; omega
  refine lv_aload hx_ hb_ dL_part_0 (lv_at hl 4 rfl) ?_
  refine si_const S dL_part_2 ?_
  refine lv_aload_n hx_ hb_ dL_part_3 rfl (lv_at hl 0 rfl) ?_
  refine lv_iload_n hx_ hb_ dL_part_4 rfl (lv_at hl 1 rfl) ?_
  refine lv_iload_n hx_ hb_ dL_part_5 rfl (lv_at hl 2 rfl) ?_
  refine lv_iload_n hx_ hb_ dL_part_6 rfl (lv_at hl 3 rfl) ?_
  refine yk_Vi E hF_ hV (As := [.int (sI p), .int (sI q), .int (sI (bI B))]) (rest := [.int (sI 0), .ref ou]) (kX10_part l_ G b_ M N c kn ch f kb fs p q B hc0 hst hkp (hlt) (hok) (hkb) (hkN) (hr)) (cwV 3 S.2.2.2.2 gL_part_X10_part rfl rfl rfl (by decide +kernel) ⟨Nat.le_of_ble_eq_true rfl, Nat.le_of_ble_eq_true rfl⟩) (ci := 8) hc0 rfl rfl rfl hl.1 (Nat.le_of_ble_eq_true rfl) dL_part_7 (c1 := 25) (s1 := 3000) ⟨⟨rfl, rfl⟩, by decide, by decide⟩ ?_ (fun z4 M1 N2 H locs hp3 hV => ?_)
  · rintro E9 M9 N9 H9 locs9 q9 ce9 ⟨kn15, hN6, hf7, hq8⟩ hV hce9 hcv9 hcl9
    rcases hq8 with ⟨c9, ee10, hc11, hc12, hc13⟩ | ⟨c14, ee15, hc16, hc17, hc18⟩
    · subst ee10
      refine vx_catch (own := RL) (name := "java/lang/IllegalArgumentException") S.2.2.2.1 ([] : List ExceptionTableEntry) ⟨0, 19, 22, 19⟩ ([⟨0, 19, 26, 13⟩] : List ExceptionTableEntry) (hxt_.trans rfl) (fun z hz => by cases hz) (by decide) (by decide) (S.2.2.2.2 _ (List.mem_of_getElem? (i := 1) rfl)) (va_Nw.use rfl (hF_.1.1 _ (by decide +kernel))) hce9 hcv9 hcl9 ?_
      refine lv_astore (lv' := [(5, .ref q9), (0, .ref c), (1, .int (sI p)), (2, .int (sI q)), (3, .int (sI (bI B))), (4, .ref ou)]) hx_ hb_ dL_part_22 hl (by decide) rfl (fun ls hl => ?_)
      refine si_const S dL_part_24 ?_
      have hc19 : M9 ou = some (sArL G 1 g0) := (hf7 ou (by omega) (by omega) (by omega) (by omega)).trans ho9
      exact xr_i E hQ dL_part_25 ⟨Nat.le_of_ble_eq_true rfl, Nat.le_of_ble_eq_true rfl⟩ hV (⟨_, by omega, fun x q0 q1 q2 q3 q4 => hf7 x (by omega) (by omega) (by omega) (by omega), Or.inl ⟨(c9), rfl, hc11, hc12, hc13, hc19⟩⟩)
    · subst ee15
      refine vx_catch (own := RL) (name := "java/lang/IllegalStateException") S.2.2.2.1 ([⟨0, 19, 22, 19⟩] : List ExceptionTableEntry) ⟨0, 19, 26, 13⟩ ([] : List ExceptionTableEntry) (hxt_.trans rfl) (fun z hz => by rcases List.mem_singleton.mp hz with rfl; exact Or.inr ⟨by decide, _, (S.2.2.2.2 _ (List.mem_of_getElem? (i := 1) rfl)), hF_.1.2 _ (by decide +kernel) _ (by decide +kernel) (by decide)⟩) (by decide) (by decide) (S.2.2.2.2 _ (List.mem_of_getElem? (i := 2) rfl)) (va_Nw.use rfl (hF_.1.1 _ (by decide +kernel))) hce9 hcv9 hcl9 ?_
      refine lv_astore (lv' := [(5, .ref q9), (0, .ref c), (1, .int (sI p)), (2, .int (sI q)), (3, .int (sI (bI B))), (4, .ref ou)]) hx_ hb_ dL_part_26 hl (by decide) rfl (fun ls hl => ?_)
      refine si_const S dL_part_28 ?_
      have hc20 : M9 ou = some (sArL G 1 g0) := (hf7 ou (by omega) (by omega) (by omega) (by omega)).trans ho9
      exact xr_i E hQ dL_part_29 ⟨Nat.le_of_ble_eq_true rfl, Nat.le_of_ble_eq_true rfl⟩ hV (⟨_, by omega, fun x q0 q1 q2 q3 q4 => hf7 x (by omega) (by omega) (by omega) (by omega), Or.inr (Or.inl ⟨(c14), rfl, hc16, hc17, hc18, hc20⟩)⟩)
  obtain ⟨kn121, hN22, hf23, hq24⟩ := hp3
  rcases hq24 with ⟨c25, ez26, hc27, hc28, hc29⟩
  · rw [ez26]
    refine sq_eq (tgt := 17) S dL_part_10 (by decide) (fun hP9 => ?_) (fun hP9 => ?_)
    · refine sl_const S (z := 0) dL_part_17 (by decide) ?_
      have hc30 : M1 ou = some (sArL G 1 g0) := (hf23 ou (by omega) (by omega) (by omega) (by omega)).trans ho9
      refine sc_last S hK hV hc30 (by omega) dL_part_18 (fun M31 H locs hM31 hV => ?_)
      have hc32 : M31 ou = some (sArL G 1 (iup g0 0 0)) := (congrFun hM31 ou).trans (va_up_self M1 ou _)
      refine lv_goto (tgt := 30) hx_ hb_ dL_part_19 (by decide) ?_
      refine si_const S dL_part_30 ?_
      have hc33 : M31 c = some (xO c kn121 (chn ch)) := ((congrFun hM31 c).trans (va_up_ne M1 _ (by omega))).trans hc27
      have hc34 : stC G M31 (c + 1) (prF f B p q) := hc28.fr (fun x q8 q9 => (congrFun hM31 x).trans (va_up_ne M1 _ (by omega)))
      have hc35 : kpC G M31 (c + 31) kb kn121 (chn ch) (fsn ch fs f) := hc29.fr (fun x q8 => (congrFun hM31 x).trans (va_up_ne M1 _ (by omega)))
      exact xr_i E hQ dL_part_31 ⟨Nat.le_of_ble_eq_true rfl, Nat.le_of_ble_eq_true rfl⟩ hV (⟨_, by omega, fun x q0 q1 q2 q3 q4 => ((congrFun hM31 x).trans (va_up_ne M1 _ (by omega))).trans (hf23 x (by omega) (by omega) (by omega) (by omega)), Or.inr (Or.inr (⟨(c25), rfl, hc33, hc34, hc35, by rw [show bI (tb (f (158 + p)) q) = 0 from bI_f hP9]; exact hc32⟩))⟩)
    · refine sl_const S (z := 1) dL_part_13 (by decide) ?_
      refine lv_goto (tgt := 18) hx_ hb_ dL_part_14 (by decide) ?_
      have hc36 : M1 ou = some (sArL G 1 g0) := (hf23 ou (by omega) (by omega) (by omega) (by omega)).trans ho9
      refine sc_last S hK hV hc36 (by omega) dL_part_18 (fun M37 H locs hM37 hV => ?_)
      have hc38 : M37 ou = some (sArL G 1 (iup g0 0 1)) := (congrFun hM37 ou).trans (va_up_self M1 ou _)
      refine lv_goto (tgt := 30) hx_ hb_ dL_part_19 (by decide) ?_
      refine si_const S dL_part_30 ?_
      have hc39 : M37 c = some (xO c kn121 (chn ch)) := ((congrFun hM37 c).trans (va_up_ne M1 _ (by omega))).trans hc27
      have hc40 : stC G M37 (c + 1) (prF f B p q) := hc28.fr (fun x q8 q9 => (congrFun hM37 x).trans (va_up_ne M1 _ (by omega)))
      have hc41 : kpC G M37 (c + 31) kb kn121 (chn ch) (fsn ch fs f) := hc29.fr (fun x q8 => (congrFun hM37 x).trans (va_up_ne M1 _ (by omega)))
      exact xr_i E hQ dL_part_31 ⟨Nat.le_of_ble_eq_true rfl, Nat.le_of_ble_eq_true rfl⟩ hV (⟨_, by omega, fun x q0 q1 q2 q3 q4 => ((congrFun hM37 x).trans (va_up_ne M1 _ (by omega))).trans (hf23 x (by omega) (by omega) (by omega) (by omega)), Or.inr (Or.inr (⟨(c25), rfl, hc39, hc40, hc41, by rw [show bI (tb (f (158 + p)) q) = 1 from bI_t hP9]; exact hc38⟩))⟩)

abbrev rmL_lay : Room := { frames := 8, cells := 25, slots := 3000, locals := 149 }
set_option maxHeartbeats 4000000 in
set_option maxRecDepth 100000 in
theorem kL_lay (l_ : Launch) (G : sG) (b_ : Nat) (M : sM) (N : Nat) (ou : Nat) (g0 : Int → Int) (c : Nat) (kn : Int) (ch : Int) (f : sF) (kb : Nat) (fs : Int → sF) (s : Int) (d : Int) (hc0 : M c = some (xO c kn ch)) (hst : stC G M (c + 1) f) (hkp : kpC G M (c + 31) kb kn ch fs) (ho9 : M ou = some (sArL G 1 g0)) (hlt : l_.stackTraces = false) (hok : sOk f) (hkb : c + 60 ≤ kb) (hkN : kb ≤ N) (hI : dI f) (hr : sR s ∧ sR d) (ho1 : c + 60 ≤ ou) (ho2 : ou < kb) : xcI l_ yL_lay wsL_lay rmL_lay G b_ M N [.ref c, .int (sI s), .int (sI d), .ref ou] (fun z_ M1 N1 => ∃ kn1 : Int, N ≤ N1 ∧ (∀ x : Nat, ¬ (x = c) → ¬ (x = c + 31) → ¬ (kb ≤ x) → ¬ (c + 1 ≤ x ∧ x < c + 1 + 15) → ¬ (x = ou) → M1 x = M x) ∧ (((¬ (0 ≤ s ∧ s < f 568)) ∧ z_ = 1 ∧ M1 c = some (xO c kn1 ch) ∧ stC G M1 (c + 1) f ∧ kpC G M1 (c + 31) kb kn1 ch fs ∧ M1 ou = some (sArL G 1 g0)) ∨ ((((0 ≤ s ∧ s < f 568)) ∧ ¬ (d = -1 ∨ 0 ≤ d ∧ d ≤ 3)) ∧ z_ = 2 ∧ M1 c = some (xO c kn1 ch) ∧ stC G M1 (c + 1) f ∧ kpC G M1 (c + 31) kb kn1 ch fs ∧ M1 ou = some (sArL G 1 g0)) ∨ ((((0 ≤ s ∧ s < f 568)) ∧ (d = -1 ∨ 0 ≤ d ∧ d ≤ 3)) ∧ z_ = 0 ∧ M1 c = some (xO c kn1 (chn ch)) ∧ stC G M1 (c + 1) (layF f s d) ∧ kpC G M1 (c + 31) kb kn1 (chn ch) (fsn ch fs f) ∧ M1 ou = some (sArL G 1 (iup g0 0 (sW (whyL f s d))))))) (fun _ _ _ => False) := by
  refine yE.ofI (cc := cL_lay) (nL := 5) (ret := (some .int)) (hh := [(0, 10, 13, 25), (0, 10, 17, 19)]) (by decide) rfl (Nat.le_of_ble_eq_true rfl) ?_
  intro p_ e_ s_ m_ args_ below_ meth_ c_ ls Q hQ E hF_ hxt_ hl
  have E : sE p_ l_ e_ rmL_lay s_ m_ args_ below_ meth_ c_ cL_lay 5 wsL_lay RL "lay" (some .int) G b_ M N := E
  have S := E.1
  have hx_ := S.1
  have hb_ := S.2.1
  have hK := E.2.2.2.2.1
  have hV := E.2.2.2.2.2.2
  have hl : lv_has ls 5 [(0, .ref c), (1, .int (sI s)), (2, .int (sI d)), (3, .ref ou)] := hl
  have inX10_ : ∀ w ∈ wsX100, w ∈ wsL_lay := fun _ h => List.mem_cons_of_mem _ (List.mem_append_left _ (List.mem_append_left _ (List.mem_append_left _ (List.mem_append_left _ (List.mem_append_right _ h)))))
  have inX6_ : ∀ w ∈ wsX60, w ∈ wsL_lay := fun _ h => List.mem_cons_of_mem _ (List.mem_append_left _ (List.mem_append_left _ (List.mem_append_left _ (List.mem_append_right _ h))))
  have inX8_ : ∀ w ∈ wsX80, w ∈ wsL_lay := fun _ h => List.mem_cons_of_mem _ (List.mem_append_left _ (List.mem_append_left _ (List.mem_append_right _ h)))
  have hbN : b_ ≤ N := by have h1 := hV.1.1; have h2 := hV.2.2; omega
  refine lv_aload_n hx_ hb_ dL_lay_0 rfl (lv_at hl 3 rfl) ?_
  refine si_const S dL_lay_1 ?_
  refine lv_aload_n hx_ hb_ dL_lay_2 rfl (lv_at hl 0 rfl) ?_
  refine lv_iload_n hx_ hb_ dL_lay_3 rfl (lv_at hl 1 rfl) ?_
  refine lv_iload_n hx_ hb_ dL_lay_4 rfl (lv_at hl 2 rfl) ?_
  refine yk_Vi E hF_ hV (As := [.int (sI s), .int (sI d)]) (rest := [.int (sI 0), .ref ou]) (kX10_lay l_ G b_ M N c kn ch f kb fs s d hc0 hst hkp (hlt) (hok) (hkb) (hkN) (hI) (hr)) (cwV 2 S.2.2.2.2 gL_lay_X10_lay rfl rfl rfl (by decide +kernel) ⟨Nat.le_of_ble_eq_true rfl, Nat.le_of_ble_eq_true rfl⟩) (ci := 8) hc0 rfl rfl rfl hl.1 (Nat.le_of_ble_eq_true rfl) dL_lay_5 (c1 := 25) (s1 := 3000) ⟨⟨rfl, rfl⟩, by decide, by decide⟩ ?_ (fun z4 M1 N2 H locs hp3 hV => ?_)
  · rintro E9 M9 N9 H9 locs9 q9 ce9 ⟨kn15, hN6, hf7, hq8⟩ hV hce9 hcv9 hcl9
    rcases hq8 with ⟨c9, ee10, hc11, hc12, hc13⟩ | ⟨c14, ee15, hc16, hc17, hc18⟩
    · subst ee10
      refine vx_catch (own := RL) (name := "java/lang/IndexOutOfBoundsException") S.2.2.2.1 ([] : List ExceptionTableEntry) ⟨0, 10, 13, 25⟩ ([⟨0, 10, 17, 19⟩] : List ExceptionTableEntry) (hxt_.trans rfl) (fun z hz => by cases hz) (by decide) (by decide) (S.2.2.2.2 _ (List.mem_of_getElem? (i := 1) rfl)) (va_Nw.use rfl (hF_.1.1 _ (by decide +kernel))) hce9 hcv9 hcl9 ?_
      refine lv_astore (lv' := [(4, .ref q9), (0, .ref c), (1, .int (sI s)), (2, .int (sI d)), (3, .ref ou)]) hx_ hb_ dL_lay_13 hl (by decide) rfl (fun ls hl => ?_)
      refine si_const S dL_lay_15 ?_
      have hc19 : M9 ou = some (sArL G 1 g0) := (hf7 ou (by omega) (by omega) (by omega) (by omega)).trans ho9
      exact xr_i E hQ dL_lay_16 ⟨Nat.le_of_ble_eq_true rfl, Nat.le_of_ble_eq_true rfl⟩ hV (⟨_, by omega, fun x q0 q1 q2 q3 q4 => hf7 x (by omega) (by omega) (by omega) (by omega), Or.inl ⟨(c9), rfl, hc11, hc12, hc13, hc19⟩⟩)
    · subst ee15
      refine vx_catch (own := RL) (name := "java/lang/IllegalArgumentException") S.2.2.2.1 ([⟨0, 10, 13, 25⟩] : List ExceptionTableEntry) ⟨0, 10, 17, 19⟩ ([] : List ExceptionTableEntry) (hxt_.trans rfl) (fun z hz => by rcases List.mem_singleton.mp hz with rfl; exact Or.inr ⟨by decide, _, (S.2.2.2.2 _ (List.mem_of_getElem? (i := 1) rfl)), hF_.1.2 _ (by decide +kernel) _ (by decide +kernel) (by decide)⟩) (by decide) (by decide) (S.2.2.2.2 _ (List.mem_of_getElem? (i := 2) rfl)) (va_Nw.use rfl (hF_.1.1 _ (by decide +kernel))) hce9 hcv9 hcl9 ?_
      refine lv_astore (lv' := [(4, .ref q9), (0, .ref c), (1, .int (sI s)), (2, .int (sI d)), (3, .ref ou)]) hx_ hb_ dL_lay_17 hl (by decide) rfl (fun ls hl => ?_)
      refine si_const S dL_lay_19 ?_
      have hc20 : M9 ou = some (sArL G 1 g0) := (hf7 ou (by omega) (by omega) (by omega) (by omega)).trans ho9
      exact xr_i E hQ dL_lay_20 ⟨Nat.le_of_ble_eq_true rfl, Nat.le_of_ble_eq_true rfl⟩ hV (⟨_, by omega, fun x q0 q1 q2 q3 q4 => hf7 x (by omega) (by omega) (by omega) (by omega), Or.inr (Or.inl ⟨(c14), rfl, hc16, hc17, hc18, hc20⟩)⟩)
  obtain ⟨kn121, hN22, hf23, hq24⟩ := hp3
  rcases hq24 with ⟨c25, ez26, hc27, hc28, hc29⟩
  · rw [ez26]
    refine sl_i2w S dL_lay_8 ?_
    have hc30 : M1 ou = some (sArL G 1 g0) := (hf23 ou (by omega) (by omega) (by omega) (by omega)).trans ho9
    refine sc_last S hK hV hc30 (by omega) dL_lay_9 (fun M31 H locs hM31 hV => ?_)
    have hc32 : M31 ou = some (sArL G 1 (iup g0 0 (sW (whyL f s d)))) := (congrFun hM31 ou).trans (va_up_self M1 ou _)
    refine lv_goto (tgt := 21) hx_ hb_ dL_lay_10 (by decide) ?_
    refine si_const S dL_lay_21 ?_
    have hc33 : M31 c = some (xO c kn121 (chn ch)) := ((congrFun hM31 c).trans (va_up_ne M1 _ (by omega))).trans hc27
    have hc34 : stC G M31 (c + 1) (layF f s d) := hc28.fr (fun x q8 q9 => (congrFun hM31 x).trans (va_up_ne M1 _ (by omega)))
    have hc35 : kpC G M31 (c + 31) kb kn121 (chn ch) (fsn ch fs f) := hc29.fr (fun x q8 => (congrFun hM31 x).trans (va_up_ne M1 _ (by omega)))
    exact xr_i E hQ dL_lay_22 ⟨Nat.le_of_ble_eq_true rfl, Nat.le_of_ble_eq_true rfl⟩ hV (⟨_, by omega, fun x q0 q1 q2 q3 q4 => ((congrFun hM31 x).trans (va_up_ne M1 _ (by omega))).trans (hf23 x (by omega) (by omega) (by omega) (by omega)), Or.inr (Or.inr (⟨(c25), rfl, hc33, hc34, hc35, hc32⟩))⟩)

abbrev rmL_lies : Room := { frames := 8, cells := 8, slots := 50, locals := 144 }
set_option maxHeartbeats 4000000 in
set_option maxRecDepth 100000 in
theorem kL_lies (l_ : Launch) (G : sG) (b_ : Nat) (M : sM) (N : Nat) (ou : Nat) (g0 : Int → Int) (c : Nat) (kn : Int) (ch : Int) (f : sF) (d : Int) (j : Int) (hc0 : M c = some (xO c kn ch)) (hst : stC G M (c + 1) f) (ho9 : M ou = some (sArL G 1 g0)) (hlt : l_.stackTraces = false) (hok : sOk f) (hr : sR d ∧ sR j) (ho1 : c + 60 ≤ ou) : xcI l_ yL_lies wsL_lies rmL_lies G b_ M N [.ref c, .int (sI d), .int (sI j), .ref ou] (fun z_ M1 N1 => N ≤ N1 ∧ (∀ x : Nat, ¬ (x = ou) → M1 x = M x) ∧ (((¬ ((0 ≤ d ∧ d ≤ 3) ∧ (0 ≤ j ∧ j ≤ 2))) ∧ z_ = 1 ∧ M1 ou = some (sArL G 1 g0)) ∨ ((((0 ≤ d ∧ d ≤ 3) ∧ (0 ≤ j ∧ j ≤ 2))) ∧ z_ = 0 ∧ M1 ou = some (sArL G 1 (iup g0 0 (sW (isum (f 568) (lyT f d j)))))))) (fun _ _ _ => False) := by
  refine yE.ofI (cc := cL_lies) (nL := 5) (ret := (some .int)) (hh := [(0, 10, 13, 19)]) (by decide) rfl (Nat.le_of_ble_eq_true rfl) ?_
  intro p_ e_ s_ m_ args_ below_ meth_ c_ ls Q hQ E hF_ hxt_ hl
  have E : sE p_ l_ e_ rmL_lies s_ m_ args_ below_ meth_ c_ cL_lies 5 wsL_lies RL "lies" (some .int) G b_ M N := E
  have S := E.1
  have hx_ := S.1
  have hb_ := S.2.1
  have hK := E.2.2.2.2.1
  have hV := E.2.2.2.2.2.2
  have hl : lv_has ls 5 [(0, .ref c), (1, .int (sI d)), (2, .int (sI j)), (3, .ref ou)] := hl
  have inX10_ : ∀ w ∈ wsX100, w ∈ wsL_lies := fun _ h => List.mem_cons_of_mem _ (List.mem_append_left _ (List.mem_append_left _ (List.mem_append_left _ (List.mem_append_right _ h))))
  have inX6_ : ∀ w ∈ wsX60, w ∈ wsL_lies := fun _ h => List.mem_cons_of_mem _ (List.mem_append_left _ (List.mem_append_left _ (List.mem_append_right _ h)))
  have inX8_ : ∀ w ∈ wsX80, w ∈ wsL_lies := fun _ h => List.mem_cons_of_mem _ (List.mem_append_left _ (List.mem_append_right _ h))
  have hbN : b_ ≤ N := by have h1 := hV.1.1; have h2 := hV.2.2; omega
  refine lv_aload_n hx_ hb_ dL_lies_0 rfl (lv_at hl 3 rfl) ?_
  refine si_const S dL_lies_1 ?_
  refine lv_aload_n hx_ hb_ dL_lies_2 rfl (lv_at hl 0 rfl) ?_
  refine lv_iload_n hx_ hb_ dL_lies_3 rfl (lv_at hl 1 rfl) ?_
  refine lv_iload_n hx_ hb_ dL_lies_4 rfl (lv_at hl 2 rfl) ?_
  refine yk_Vi E hF_ hV (As := [.int (sI d), .int (sI j)]) (rest := [.int (sI 0), .ref ou]) (kX10_lies l_ G b_ M N c kn ch f d j hc0 hst (hlt) (hok) (hr)) (cwV 2 S.2.2.2.2 gL_lies_X10_lies rfl rfl rfl (by decide +kernel) ⟨Nat.le_of_ble_eq_true rfl, Nat.le_of_ble_eq_true rfl⟩) (ci := 8) hc0 rfl rfl rfl hl.1 (Nat.le_of_ble_eq_true rfl) dL_lies_5 (c1 := 8) (s1 := 50) ⟨⟨rfl, rfl⟩, by decide, by decide⟩ ?_ (fun z4 M1 N2 H locs hp3 hV => ?_)
  · rintro E9 M9 N9 H9 locs9 q9 ce9 ⟨hN5, hf6, hq7⟩ hV hce9 hcv9 hcl9
    rcases hq7 with ⟨c8, ee9⟩
    · subst ee9
      refine vx_catch (own := RL) (name := "java/lang/IllegalArgumentException") S.2.2.2.1 ([] : List ExceptionTableEntry) ⟨0, 10, 13, 19⟩ ([] : List ExceptionTableEntry) (hxt_.trans rfl) (fun z hz => by cases hz) (by decide) (by decide) (S.2.2.2.2 _ (List.mem_of_getElem? (i := 1) rfl)) (va_Nw.use rfl (hF_.1.1 _ (by decide +kernel))) hce9 hcv9 hcl9 ?_
      refine lv_astore (lv' := [(4, .ref q9), (0, .ref c), (1, .int (sI d)), (2, .int (sI j)), (3, .ref ou)]) hx_ hb_ dL_lies_13 hl (by decide) rfl (fun ls hl => ?_)
      refine si_const S dL_lies_15 ?_
      have hc10 : M9 ou = some (sArL G 1 g0) := (hf6 ou ).trans ho9
      exact xr_i E hQ dL_lies_16 ⟨Nat.le_of_ble_eq_true rfl, Nat.le_of_ble_eq_true rfl⟩ hV (⟨by omega, fun x q0 => hf6 x , Or.inl ⟨(c8), rfl, hc10⟩⟩)
  obtain ⟨hN11, hf12, hq13⟩ := hp3
  rw [hN11] at hV
  rcases hq13 with ⟨c14, ez15⟩
  · rw [ez15]
    refine sl_i2w S dL_lies_8 ?_
    have hc16 : M1 ou = some (sArL G 1 g0) := (hf12 ou ).trans ho9
    refine sc_last S hK hV hc16 (by omega) dL_lies_9 (fun M17 H locs hM17 hV => ?_)
    have hc18 : M17 ou = some (sArL G 1 (iup g0 0 (sW (isum (f 568) (lyT f d j))))) := (congrFun hM17 ou).trans (va_up_self M1 ou _)
    refine lv_goto (tgt := 17) hx_ hb_ dL_lies_10 (by decide) ?_
    refine si_const S dL_lies_17 ?_
    exact xr_i E hQ dL_lies_18 ⟨Nat.le_of_ble_eq_true rfl, Nat.le_of_ble_eq_true rfl⟩ hV (⟨by omega, fun x q0 => ((congrFun hM17 x).trans (va_up_ne M1 _ (by omega))).trans (hf12 x ), Or.inr (⟨(c14), rfl, hc18⟩)⟩)

abbrev rmL_tell : Room := { frames := 8, cells := 25, slots := 3000, locals := 170 }
set_option maxHeartbeats 4000000 in
set_option maxRecDepth 100000 in
theorem kL_tell (l_ : Launch) (G : sG) (b_ : Nat) (M : sM) (N : Nat) (ou : Nat) (g0 : Int → Int) (c : Nat) (kn : Int) (ch : Int) (f : sF) (kb : Nat) (fs : Int → sF) (s : Int) (d : Int) (h2 : Int) (hc0 : M c = some (xO c kn ch)) (hst : stC G M (c + 1) f) (hkp : kpC G M (c + 31) kb kn ch fs) (ho9 : M ou = some (sArL G 1 g0)) (hlt : l_.stackTraces = false) (hok : sOk f) (hkb : c + 60 ≤ kb) (hkN : kb ≤ N) (hr : sR s ∧ sR d ∧ sR h2) (ho1 : c + 60 ≤ ou) (ho2 : ou < kb) : xcI l_ yL_tell wsL_tell rmL_tell G b_ M N [.ref c, .int (sI s), .int (sI d), .int (sI h2), .ref ou] (fun z_ M1 N1 => ∃ kn1 : Int, N ≤ N1 ∧ (∀ x : Nat, ¬ (x = c) → ¬ (x = c + 31) → ¬ (kb ≤ x) → ¬ (c + 1 ≤ x ∧ x < c + 1 + 15) → ¬ (x = ou) → M1 x = M x) ∧ (((¬ (0 ≤ s ∧ s < f 568)) ∧ z_ = 1 ∧ M1 c = some (xO c kn1 ch) ∧ stC G M1 (c + 1) f ∧ kpC G M1 (c + 31) kb kn1 ch fs ∧ M1 ou = some (sArL G 1 g0)) ∨ (((0 ≤ s ∧ s < f 568) ∧ ¬ (isDt d ∧ 0 ≤ h2 ∧ h2 ≤ 6)) ∧ z_ = 2 ∧ M1 c = some (xO c kn1 ch) ∧ stC G M1 (c + 1) f ∧ kpC G M1 (c + 31) kb kn1 ch fs ∧ M1 ou = some (sArL G 1 g0)) ∨ (((0 ≤ s ∧ s < f 568) ∧ (isDt d ∧ 0 ≤ h2 ∧ h2 ≤ 6) ∧ 60 ≤ f 570) ∧ z_ = 3 ∧ M1 c = some (xO c kn1 ch) ∧ stC G M1 (c + 1) f ∧ kpC G M1 (c + 31) kb kn1 ch fs ∧ M1 ou = some (sArL G 1 g0)) ∨ (((0 ≤ s ∧ s < f 568) ∧ (isDt d ∧ 0 ≤ h2 ∧ h2 ≤ 6) ∧ f 570 < 60) ∧ z_ = 0 ∧ M1 c = some (xO c kn1 (chn ch)) ∧ stC G M1 (c + 1) (tlF f s (dayI d + 3652) h2) ∧ kpC G M1 (c + 31) kb kn1 (chn ch) (fsn ch fs f) ∧ M1 ou = some (sArL G 1 (iup g0 0 (sW (f 570))))))) (fun _ _ _ => False) := by
  refine yE.ofI (cc := cL_tell) (nL := 6) (ret := (some .int)) (hh := [(0, 12, 15, 25), (0, 12, 19, 19), (0, 12, 23, 13)]) (by decide) rfl (Nat.le_of_ble_eq_true rfl) ?_
  intro p_ e_ s_ m_ args_ below_ meth_ c_ ls Q hQ E hF_ hxt_ hl
  have E : sE p_ l_ e_ rmL_tell s_ m_ args_ below_ meth_ c_ cL_tell 6 wsL_tell RL "tell" (some .int) G b_ M N := E
  have S := E.1
  have hx_ := S.1
  have hb_ := S.2.1
  have hK := E.2.2.2.2.1
  have hV := E.2.2.2.2.2.2
  have hl : lv_has ls 6 [(0, .ref c), (1, .int (sI s)), (2, .int (sI d)), (3, .int (sI h2)), (4, .ref ou)] := hl
  have inX10_ : ∀ w ∈ wsX100, w ∈ wsL_tell := fun _ h => List.mem_cons_of_mem _ (List.mem_append_left _ (List.mem_append_left _ (List.mem_append_left _ (List.mem_append_left _ (List.mem_append_left _ (List.mem_append_right _ h))))))
  have inX6_ : ∀ w ∈ wsX60, w ∈ wsL_tell := fun _ h => List.mem_cons_of_mem _ (List.mem_append_left _ (List.mem_append_left _ (List.mem_append_left _ (List.mem_append_left _ (List.mem_append_right _ h)))))
  have inX8_ : ∀ w ∈ wsX80, w ∈ wsL_tell := fun _ h => List.mem_cons_of_mem _ (List.mem_append_left _ (List.mem_append_left _ (List.mem_append_left _ (List.mem_append_right _ h))))
  have hbN : b_ ≤ N := by have h1 := hV.1.1; have h2 := hV.2.2; omega
  refine lv_aload hx_ hb_ dL_tell_0 (lv_at hl 4 rfl) ?_
  refine si_const S dL_tell_2 ?_
  refine lv_aload_n hx_ hb_ dL_tell_3 rfl (lv_at hl 0 rfl) ?_
  refine lv_iload_n hx_ hb_ dL_tell_4 rfl (lv_at hl 1 rfl) ?_
  refine lv_iload_n hx_ hb_ dL_tell_5 rfl (lv_at hl 2 rfl) ?_
  refine lv_iload_n hx_ hb_ dL_tell_6 rfl (lv_at hl 3 rfl) ?_
  refine yk_Vi E hF_ hV (As := [.int (sI s), .int (sI d), .int (sI h2)]) (rest := [.int (sI 0), .ref ou]) (kX10_tell l_ G b_ M N c kn ch f kb fs s d h2 hc0 hst hkp (hlt) (hok) (hkb) (hkN) (hr)) (cwV 3 S.2.2.2.2 gL_tell_X10_tell rfl rfl rfl (by decide +kernel) ⟨Nat.le_of_ble_eq_true rfl, Nat.le_of_ble_eq_true rfl⟩) (ci := 8) hc0 rfl rfl rfl hl.1 (Nat.le_of_ble_eq_true rfl) dL_tell_7 (c1 := 25) (s1 := 3000) ⟨⟨rfl, rfl⟩, by decide, by decide⟩ ?_ (fun z4 M1 N2 H locs hp3 hV => ?_)
  · rintro E9 M9 N9 H9 locs9 q9 ce9 ⟨kn15, hN6, hf7, hq8⟩ hV hce9 hcv9 hcl9
    rcases hq8 with ⟨c9, ee10, hc11, hc12, hc13⟩ | ⟨c14, ee15, hc16, hc17, hc18⟩ | ⟨c19, ee20, hc21, hc22, hc23⟩
    · subst ee10
      refine vx_catch (own := RL) (name := "java/lang/IndexOutOfBoundsException") S.2.2.2.1 ([] : List ExceptionTableEntry) ⟨0, 12, 15, 25⟩ ([⟨0, 12, 19, 19⟩, ⟨0, 12, 23, 13⟩] : List ExceptionTableEntry) (hxt_.trans rfl) (fun z hz => by cases hz) (by decide) (by decide) (S.2.2.2.2 _ (List.mem_of_getElem? (i := 1) rfl)) (va_Nw.use rfl (hF_.1.1 _ (by decide +kernel))) hce9 hcv9 hcl9 ?_
      refine lv_astore (lv' := [(5, .ref q9), (0, .ref c), (1, .int (sI s)), (2, .int (sI d)), (3, .int (sI h2)), (4, .ref ou)]) hx_ hb_ dL_tell_15 hl (by decide) rfl (fun ls hl => ?_)
      refine si_const S dL_tell_17 ?_
      have hc24 : M9 ou = some (sArL G 1 g0) := (hf7 ou (by omega) (by omega) (by omega) (by omega)).trans ho9
      exact xr_i E hQ dL_tell_18 ⟨Nat.le_of_ble_eq_true rfl, Nat.le_of_ble_eq_true rfl⟩ hV (⟨_, by omega, fun x q0 q1 q2 q3 q4 => hf7 x (by omega) (by omega) (by omega) (by omega), Or.inl ⟨(c9), rfl, hc11, hc12, hc13, hc24⟩⟩)
    · subst ee15
      refine vx_catch (own := RL) (name := "java/lang/IllegalArgumentException") S.2.2.2.1 ([⟨0, 12, 15, 25⟩] : List ExceptionTableEntry) ⟨0, 12, 19, 19⟩ ([⟨0, 12, 23, 13⟩] : List ExceptionTableEntry) (hxt_.trans rfl) (fun z hz => by rcases List.mem_singleton.mp hz with rfl; exact Or.inr ⟨by decide, _, (S.2.2.2.2 _ (List.mem_of_getElem? (i := 1) rfl)), hF_.1.2 _ (by decide +kernel) _ (by decide +kernel) (by decide)⟩) (by decide) (by decide) (S.2.2.2.2 _ (List.mem_of_getElem? (i := 2) rfl)) (va_Nw.use rfl (hF_.1.1 _ (by decide +kernel))) hce9 hcv9 hcl9 ?_
      refine lv_astore (lv' := [(5, .ref q9), (0, .ref c), (1, .int (sI s)), (2, .int (sI d)), (3, .int (sI h2)), (4, .ref ou)]) hx_ hb_ dL_tell_19 hl (by decide) rfl (fun ls hl => ?_)
      refine si_const S dL_tell_21 ?_
      have hc25 : M9 ou = some (sArL G 1 g0) := (hf7 ou (by omega) (by omega) (by omega) (by omega)).trans ho9
      exact xr_i E hQ dL_tell_22 ⟨Nat.le_of_ble_eq_true rfl, Nat.le_of_ble_eq_true rfl⟩ hV (⟨_, by omega, fun x q0 q1 q2 q3 q4 => hf7 x (by omega) (by omega) (by omega) (by omega), Or.inr (Or.inl ⟨(c14), rfl, hc16, hc17, hc18, hc25⟩)⟩)
    · subst ee20
      refine vx_catch (own := RL) (name := "java/lang/IllegalStateException") S.2.2.2.1 ([⟨0, 12, 15, 25⟩, ⟨0, 12, 19, 19⟩] : List ExceptionTableEntry) ⟨0, 12, 23, 13⟩ ([] : List ExceptionTableEntry) (hxt_.trans rfl) (fun z hz => by rcases List.mem_cons.mp hz with rfl | hz; exact Or.inr ⟨by decide, _, (S.2.2.2.2 _ (List.mem_of_getElem? (i := 1) rfl)), hF_.1.2 _ (by decide +kernel) _ (by decide +kernel) (by decide)⟩; rcases List.mem_singleton.mp hz with rfl; exact Or.inr ⟨by decide, _, (S.2.2.2.2 _ (List.mem_of_getElem? (i := 2) rfl)), hF_.1.2 _ (by decide +kernel) _ (by decide +kernel) (by decide)⟩) (by decide) (by decide) (S.2.2.2.2 _ (List.mem_of_getElem? (i := 3) rfl)) (va_Nw.use rfl (hF_.1.1 _ (by decide +kernel))) hce9 hcv9 hcl9 ?_
      refine lv_astore (lv' := [(5, .ref q9), (0, .ref c), (1, .int (sI s)), (2, .int (sI d)), (3, .int (sI h2)), (4, .ref ou)]) hx_ hb_ dL_tell_23 hl (by decide) rfl (fun ls hl => ?_)
      refine si_const S dL_tell_25 ?_
      have hc26 : M9 ou = some (sArL G 1 g0) := (hf7 ou (by omega) (by omega) (by omega) (by omega)).trans ho9
      exact xr_i E hQ dL_tell_26 ⟨Nat.le_of_ble_eq_true rfl, Nat.le_of_ble_eq_true rfl⟩ hV (⟨_, by omega, fun x q0 q1 q2 q3 q4 => hf7 x (by omega) (by omega) (by omega) (by omega), Or.inr (Or.inr (Or.inl ⟨(c19), rfl, hc21, hc22, hc23, hc26⟩))⟩)
  obtain ⟨kn127, hN28, hf29, hq30⟩ := hp3
  rcases hq30 with ⟨c31, ez32, hc33, hc34, hc35⟩
  · rw [ez32]
    refine sl_i2w S dL_tell_10 ?_
    have hc36 : M1 ou = some (sArL G 1 g0) := (hf29 ou (by omega) (by omega) (by omega) (by omega)).trans ho9
    refine sc_last S hK hV hc36 (by omega) dL_tell_11 (fun M37 H locs hM37 hV => ?_)
    have hc38 : M37 ou = some (sArL G 1 (iup g0 0 (sW (f 570)))) := (congrFun hM37 ou).trans (va_up_self M1 ou _)
    refine lv_goto (tgt := 27) hx_ hb_ dL_tell_12 (by decide) ?_
    refine si_const S dL_tell_27 ?_
    have hc39 : M37 c = some (xO c kn127 (chn ch)) := ((congrFun hM37 c).trans (va_up_ne M1 _ (by omega))).trans hc33
    have hc40 : stC G M37 (c + 1) (tlF f s (dayI d + 3652) h2) := hc34.fr (fun x q8 q9 => (congrFun hM37 x).trans (va_up_ne M1 _ (by omega)))
    have hc41 : kpC G M37 (c + 31) kb kn127 (chn ch) (fsn ch fs f) := hc35.fr (fun x q8 => (congrFun hM37 x).trans (va_up_ne M1 _ (by omega)))
    exact xr_i E hQ dL_tell_28 ⟨Nat.le_of_ble_eq_true rfl, Nat.le_of_ble_eq_true rfl⟩ hV (⟨_, by omega, fun x q0 q1 q2 q3 q4 => ((congrFun hM37 x).trans (va_up_ne M1 _ (by omega))).trans (hf29 x (by omega) (by omega) (by omega) (by omega)), Or.inr (Or.inr (Or.inr (⟨(c31), rfl, hc39, hc40, hc41, hc38⟩)))⟩)

abbrev rmL_takeBack : Room := { frames := 7, cells := 25, slots := 3000, locals := 146 }
set_option maxHeartbeats 4000000 in
set_option maxRecDepth 100000 in
theorem kL_takeBack (l_ : Launch) (G : sG) (b_ : Nat) (M : sM) (N : Nat) (ou : Nat) (g0 : Int → Int) (c : Nat) (kn : Int) (ch : Int) (f : sF) (kb : Nat) (fs : Int → sF) (a0 : Int) (hc0 : M c = some (xO c kn ch)) (hst : stC G M (c + 1) f) (hkp : kpC G M (c + 31) kb kn ch fs) (ho9 : M ou = some (sArL G 1 g0)) (hlt : l_.stackTraces = false) (hok : sOk f) (hkb : c + 60 ≤ kb) (hkN : kb ≤ N) (hr : sR a0) (ho1 : c + 60 ≤ ou) (ho2 : ou < kb) : xcI l_ yL_takeBack wsL_takeBack rmL_takeBack G b_ M N [.ref c, .int (sI a0), .ref ou] (fun z_ M1 N1 => ∃ kn1 : Int, N ≤ N1 ∧ (∀ x : Nat, ¬ (x = c) → ¬ (x = c + 31) → ¬ (kb ≤ x) → ¬ (c + 1 ≤ x ∧ x < c + 1 + 15) → ¬ (x = ou) → M1 x = M x) ∧ (((¬ (0 ≤ a0 ∧ a0 < f 570)) ∧ z_ = 1 ∧ M1 c = some (xO c kn1 ch) ∧ stC G M1 (c + 1) f ∧ kpC G M1 (c + 31) kb kn1 ch fs ∧ M1 ou = some (sArL G 1 g0)) ∨ (((0 ≤ a0 ∧ a0 < f 570) ∧ f (404 + a0) ≠ 0) ∧ z_ = 2 ∧ M1 c = some (xO c kn1 ch) ∧ stC G M1 (c + 1) f ∧ kpC G M1 (c + 31) kb kn1 ch fs ∧ M1 ou = some (sArL G 1 g0)) ∨ (((0 ≤ a0 ∧ a0 < f 570) ∧ f (404 + a0) = 0) ∧ z_ = 0 ∧ M1 c = some (xO c kn1 (chn ch)) ∧ stC G M1 (c + 1) (tbF f a0) ∧ kpC G M1 (c + 31) kb kn1 (chn ch) (fsn ch fs f) ∧ M1 ou = some (sArL G 1 (iup g0 0 (sW (f 571 + 1))))))) (fun _ _ _ => False) := by
  refine yE.ofI (cc := cL_takeBack) (nL := 4) (ret := (some .int)) (hh := [(0, 9, 12, 25), (0, 9, 15, 13)]) (by decide) rfl (Nat.le_of_ble_eq_true rfl) ?_
  intro p_ e_ s_ m_ args_ below_ meth_ c_ ls Q hQ E hF_ hxt_ hl
  have E : sE p_ l_ e_ rmL_takeBack s_ m_ args_ below_ meth_ c_ cL_takeBack 4 wsL_takeBack RL "takeBack" (some .int) G b_ M N := E
  have S := E.1
  have hx_ := S.1
  have hb_ := S.2.1
  have hK := E.2.2.2.2.1
  have hV := E.2.2.2.2.2.2
  have hl : lv_has ls 4 [(0, .ref c), (1, .int (sI a0)), (2, .ref ou)] := hl
  have inX10_ : ∀ w ∈ wsX100, w ∈ wsL_takeBack := fun _ h => List.mem_cons_of_mem _ (List.mem_append_left _ (List.mem_append_left _ (List.mem_append_left _ (List.mem_append_left _ (List.mem_append_right _ h)))))
  have inX6_ : ∀ w ∈ wsX60, w ∈ wsL_takeBack := fun _ h => List.mem_cons_of_mem _ (List.mem_append_left _ (List.mem_append_left _ (List.mem_append_left _ (List.mem_append_right _ h))))
  have inX8_ : ∀ w ∈ wsX80, w ∈ wsL_takeBack := fun _ h => List.mem_cons_of_mem _ (List.mem_append_left _ (List.mem_append_left _ (List.mem_append_right _ h)))
  have hbN : b_ ≤ N := by have h1 := hV.1.1; have h2 := hV.2.2; omega
  refine lv_aload_n hx_ hb_ dL_takeBack_0 rfl (lv_at hl 2 rfl) ?_
  refine si_const S dL_takeBack_1 ?_
  refine lv_aload_n hx_ hb_ dL_takeBack_2 rfl (lv_at hl 0 rfl) ?_
  refine lv_iload_n hx_ hb_ dL_takeBack_3 rfl (lv_at hl 1 rfl) ?_
  refine yk_Vi E hF_ hV (As := [.int (sI a0)]) (rest := [.int (sI 0), .ref ou]) (kX10_takeBack l_ G b_ M N c kn ch f kb fs a0 hc0 hst hkp (hlt) (hok) (hkb) (hkN) (hr)) (cwV 1 S.2.2.2.2 gL_takeBack_X10_takeBack rfl rfl rfl (by decide +kernel) ⟨Nat.le_of_ble_eq_true rfl, Nat.le_of_ble_eq_true rfl⟩) (ci := 8) hc0 rfl rfl rfl hl.1 (Nat.le_of_ble_eq_true rfl) dL_takeBack_4 (c1 := 25) (s1 := 3000) ⟨⟨rfl, rfl⟩, by decide, by decide⟩ ?_ (fun z4 M1 N2 H locs hp3 hV => ?_)
  · rintro E9 M9 N9 H9 locs9 q9 ce9 ⟨kn15, hN6, hf7, hq8⟩ hV hce9 hcv9 hcl9
    rcases hq8 with ⟨c9, ee10, hc11, hc12, hc13⟩ | ⟨c14, ee15, hc16, hc17, hc18⟩
    · subst ee10
      refine vx_catch (own := RL) (name := "java/lang/IndexOutOfBoundsException") S.2.2.2.1 ([] : List ExceptionTableEntry) ⟨0, 9, 12, 25⟩ ([⟨0, 9, 15, 13⟩] : List ExceptionTableEntry) (hxt_.trans rfl) (fun z hz => by cases hz) (by decide) (by decide) (S.2.2.2.2 _ (List.mem_of_getElem? (i := 1) rfl)) (va_Nw.use rfl (hF_.1.1 _ (by decide +kernel))) hce9 hcv9 hcl9 ?_
      refine lv_astore_n (lv' := [(3, .ref q9), (0, .ref c), (1, .int (sI a0)), (2, .ref ou)]) hx_ hb_ dL_takeBack_12 rfl hl (by decide) rfl (fun ls hl => ?_)
      refine si_const S dL_takeBack_13 ?_
      have hc19 : M9 ou = some (sArL G 1 g0) := (hf7 ou (by omega) (by omega) (by omega) (by omega)).trans ho9
      exact xr_i E hQ dL_takeBack_14 ⟨Nat.le_of_ble_eq_true rfl, Nat.le_of_ble_eq_true rfl⟩ hV (⟨_, by omega, fun x q0 q1 q2 q3 q4 => hf7 x (by omega) (by omega) (by omega) (by omega), Or.inl ⟨(c9), rfl, hc11, hc12, hc13, hc19⟩⟩)
    · subst ee15
      refine vx_catch (own := RL) (name := "java/lang/IllegalStateException") S.2.2.2.1 ([⟨0, 9, 12, 25⟩] : List ExceptionTableEntry) ⟨0, 9, 15, 13⟩ ([] : List ExceptionTableEntry) (hxt_.trans rfl) (fun z hz => by rcases List.mem_singleton.mp hz with rfl; exact Or.inr ⟨by decide, _, (S.2.2.2.2 _ (List.mem_of_getElem? (i := 1) rfl)), hF_.1.2 _ (by decide +kernel) _ (by decide +kernel) (by decide)⟩) (by decide) (by decide) (S.2.2.2.2 _ (List.mem_of_getElem? (i := 2) rfl)) (va_Nw.use rfl (hF_.1.1 _ (by decide +kernel))) hce9 hcv9 hcl9 ?_
      refine lv_astore_n (lv' := [(3, .ref q9), (0, .ref c), (1, .int (sI a0)), (2, .ref ou)]) hx_ hb_ dL_takeBack_15 rfl hl (by decide) rfl (fun ls hl => ?_)
      refine si_const S dL_takeBack_16 ?_
      have hc20 : M9 ou = some (sArL G 1 g0) := (hf7 ou (by omega) (by omega) (by omega) (by omega)).trans ho9
      exact xr_i E hQ dL_takeBack_17 ⟨Nat.le_of_ble_eq_true rfl, Nat.le_of_ble_eq_true rfl⟩ hV (⟨_, by omega, fun x q0 q1 q2 q3 q4 => hf7 x (by omega) (by omega) (by omega) (by omega), Or.inr (Or.inl ⟨(c14), rfl, hc16, hc17, hc18, hc20⟩)⟩)
  obtain ⟨kn121, hN22, hf23, hq24⟩ := hp3
  rcases hq24 with ⟨c25, ez26, hc27, hc28, hc29⟩
  · rw [ez26]
    refine sl_i2w S dL_takeBack_7 ?_
    have hc30 : M1 ou = some (sArL G 1 g0) := (hf23 ou (by omega) (by omega) (by omega) (by omega)).trans ho9
    refine sc_last S hK hV hc30 (by omega) dL_takeBack_8 (fun M31 H locs hM31 hV => ?_)
    have hc32 : M31 ou = some (sArL G 1 (iup g0 0 (sW (f 571 + 1)))) := (congrFun hM31 ou).trans (va_up_self M1 ou _)
    refine lv_goto (tgt := 18) hx_ hb_ dL_takeBack_9 (by decide) ?_
    refine si_const S dL_takeBack_18 ?_
    have hc33 : M31 c = some (xO c kn121 (chn ch)) := ((congrFun hM31 c).trans (va_up_ne M1 _ (by omega))).trans hc27
    have hc34 : stC G M31 (c + 1) (tbF f a0) := hc28.fr (fun x q8 q9 => (congrFun hM31 x).trans (va_up_ne M1 _ (by omega)))
    have hc35 : kpC G M31 (c + 31) kb kn121 (chn ch) (fsn ch fs f) := hc29.fr (fun x q8 => (congrFun hM31 x).trans (va_up_ne M1 _ (by omega)))
    exact xr_i E hQ dL_takeBack_19 ⟨Nat.le_of_ble_eq_true rfl, Nat.le_of_ble_eq_true rfl⟩ hV (⟨_, by omega, fun x q0 q1 q2 q3 q4 => ((congrFun hM31 x).trans (va_up_ne M1 _ (by omega))).trans (hf23 x (by omega) (by omega) (by omega) (by omega)), Or.inr (Or.inr (⟨(c25), rfl, hc33, hc34, hc35, hc32⟩))⟩)

abbrev rmL_handOn : Room := { frames := 8, cells := 10, slots := 60, locals := 169 }
set_option maxHeartbeats 4000000 in
set_option maxRecDepth 100000 in
theorem kL_handOn (l_ : Launch) (G : sG) (b_ : Nat) (M : sM) (N : Nat) (ou : Nat) (g0 : Int → Int) (c : Nat) (kn : Int) (ch : Int) (f : sF) (s : Int) (d : Int) (t : Int) (hc0 : M c = some (xO c kn ch)) (hst : stC G M (c + 1) f) (hkn : knoC G M (c + 54)) (ho9 : M ou = some (sArL G 1 g0)) (hlt : l_.stackTraces = false) (hok : sOk f) (hr : sR s ∧ sR d ∧ sR t) (ho1 : c + 60 ≤ ou) : xcI l_ yL_handOn wsL_handOn rmL_handOn G b_ M N [.ref c, .int (sI s), .int (sI d), .int (sI t), .ref ou] (fun z_ M1 N1 => N ≤ N1 ∧ knoC G M1 (c + 54) ∧ (∀ x : Nat, ¬ (c + 54 ≤ x ∧ x < c + 54 + 3) → ¬ (x = ou) → M1 x = M x) ∧ (((¬ (0 ≤ s ∧ s < f 568)) ∧ z_ = 1 ∧ M1 ou = some (sArL G 1 g0)) ∨ (((0 ≤ s ∧ s < f 568) ∧ ¬ (isDt d ∧ 0 ≤ t ∧ t ≤ f 571)) ∧ z_ = 2 ∧ M1 ou = some (sArL G 1 g0)) ∨ (((0 ≤ s ∧ s < f 568) ∧ isDt d ∧ 0 ≤ t ∧ t ≤ f 571) ∧ z_ = 0 ∧ M1 ou = some (sArL G 1 (iup g0 0 (sW (hnd f s (dayI d + 3652) t))))))) (fun _ _ _ => False) := by
  refine yE.ofI (cc := cL_handOn) (nL := 6) (ret := (some .int)) (hh := [(0, 12, 15, 25), (0, 12, 19, 19)]) (by decide) rfl (Nat.le_of_ble_eq_true rfl) ?_
  intro p_ e_ s_ m_ args_ below_ meth_ c_ ls Q hQ E hF_ hxt_ hl
  have E : sE p_ l_ e_ rmL_handOn s_ m_ args_ below_ meth_ c_ cL_handOn 6 wsL_handOn RL "handOn" (some .int) G b_ M N := E
  have S := E.1
  have hx_ := S.1
  have hb_ := S.2.1
  have hK := E.2.2.2.2.1
  have hV := E.2.2.2.2.2.2
  have hl : lv_has ls 6 [(0, .ref c), (1, .int (sI s)), (2, .int (sI d)), (3, .int (sI t)), (4, .ref ou)] := hl
  have inX10_ : ∀ w ∈ wsX100, w ∈ wsL_handOn := fun _ h => List.mem_cons_of_mem _ (List.mem_append_left _ (List.mem_append_left _ (List.mem_append_left _ (List.mem_append_left _ (List.mem_append_left _ (List.mem_append_right _ h))))))
  have inX6_ : ∀ w ∈ wsX60, w ∈ wsL_handOn := fun _ h => List.mem_cons_of_mem _ (List.mem_append_left _ (List.mem_append_left _ (List.mem_append_left _ (List.mem_append_left _ (List.mem_append_right _ h)))))
  have inX8_ : ∀ w ∈ wsX80, w ∈ wsL_handOn := fun _ h => List.mem_cons_of_mem _ (List.mem_append_left _ (List.mem_append_left _ (List.mem_append_left _ (List.mem_append_right _ h))))
  have inX7_ : ∀ w ∈ wsX70, w ∈ wsL_handOn := fun _ h => List.mem_cons_of_mem _ (List.mem_append_left _ (List.mem_append_left _ (List.mem_append_right _ h)))
  have hbN : b_ ≤ N := by have h1 := hV.1.1; have h2 := hV.2.2; omega
  refine lv_aload hx_ hb_ dL_handOn_0 (lv_at hl 4 rfl) ?_
  refine si_const S dL_handOn_2 ?_
  refine lv_aload_n hx_ hb_ dL_handOn_3 rfl (lv_at hl 0 rfl) ?_
  refine lv_iload_n hx_ hb_ dL_handOn_4 rfl (lv_at hl 1 rfl) ?_
  refine lv_iload_n hx_ hb_ dL_handOn_5 rfl (lv_at hl 2 rfl) ?_
  refine lv_iload_n hx_ hb_ dL_handOn_6 rfl (lv_at hl 3 rfl) ?_
  refine yk_Vi E hF_ hV (As := [.int (sI s), .int (sI d), .int (sI t)]) (rest := [.int (sI 0), .ref ou]) (kX10_handOn l_ G b_ M N c kn ch f s d t hc0 hst hkn (hlt) (hok) (hr)) (cwV 3 S.2.2.2.2 gL_handOn_X10_handOn rfl rfl rfl (by decide +kernel) ⟨Nat.le_of_ble_eq_true rfl, Nat.le_of_ble_eq_true rfl⟩) (ci := 8) hc0 rfl rfl rfl hl.1 (Nat.le_of_ble_eq_true rfl) dL_handOn_7 (c1 := 10) (s1 := 60) ⟨⟨rfl, rfl⟩, by decide, by decide⟩ ?_ (fun z4 M1 N2 H locs hp3 hV => ?_)
  · rintro E9 M9 N9 H9 locs9 q9 ce9 ⟨hN5, hc8, hf6, hq7⟩ hV hce9 hcv9 hcl9
    rcases hq7 with ⟨c9, ee10⟩ | ⟨c11, ee12⟩
    · subst ee10
      refine vx_catch (own := RL) (name := "java/lang/IndexOutOfBoundsException") S.2.2.2.1 ([] : List ExceptionTableEntry) ⟨0, 12, 15, 25⟩ ([⟨0, 12, 19, 19⟩] : List ExceptionTableEntry) (hxt_.trans rfl) (fun z hz => by cases hz) (by decide) (by decide) (S.2.2.2.2 _ (List.mem_of_getElem? (i := 1) rfl)) (va_Nw.use rfl (hF_.1.1 _ (by decide +kernel))) hce9 hcv9 hcl9 ?_
      refine lv_astore (lv' := [(5, .ref q9), (0, .ref c), (1, .int (sI s)), (2, .int (sI d)), (3, .int (sI t)), (4, .ref ou)]) hx_ hb_ dL_handOn_15 hl (by decide) rfl (fun ls hl => ?_)
      refine si_const S dL_handOn_17 ?_
      have hc13 : M9 ou = some (sArL G 1 g0) := (hf6 ou (by omega)).trans ho9
      exact xr_i E hQ dL_handOn_18 ⟨Nat.le_of_ble_eq_true rfl, Nat.le_of_ble_eq_true rfl⟩ hV (⟨by omega, hc8, fun x q0 q1 => hf6 x (by omega), Or.inl ⟨(c9), rfl, hc13⟩⟩)
    · subst ee12
      refine vx_catch (own := RL) (name := "java/lang/IllegalArgumentException") S.2.2.2.1 ([⟨0, 12, 15, 25⟩] : List ExceptionTableEntry) ⟨0, 12, 19, 19⟩ ([] : List ExceptionTableEntry) (hxt_.trans rfl) (fun z hz => by rcases List.mem_singleton.mp hz with rfl; exact Or.inr ⟨by decide, _, (S.2.2.2.2 _ (List.mem_of_getElem? (i := 1) rfl)), hF_.1.2 _ (by decide +kernel) _ (by decide +kernel) (by decide)⟩) (by decide) (by decide) (S.2.2.2.2 _ (List.mem_of_getElem? (i := 2) rfl)) (va_Nw.use rfl (hF_.1.1 _ (by decide +kernel))) hce9 hcv9 hcl9 ?_
      refine lv_astore (lv' := [(5, .ref q9), (0, .ref c), (1, .int (sI s)), (2, .int (sI d)), (3, .int (sI t)), (4, .ref ou)]) hx_ hb_ dL_handOn_19 hl (by decide) rfl (fun ls hl => ?_)
      refine si_const S dL_handOn_21 ?_
      have hc14 : M9 ou = some (sArL G 1 g0) := (hf6 ou (by omega)).trans ho9
      exact xr_i E hQ dL_handOn_22 ⟨Nat.le_of_ble_eq_true rfl, Nat.le_of_ble_eq_true rfl⟩ hV (⟨by omega, hc8, fun x q0 q1 => hf6 x (by omega), Or.inr (Or.inl ⟨(c11), rfl, hc14⟩)⟩)
  obtain ⟨hN15, hc16, hf17, hq18⟩ := hp3
  rw [hN15] at hV
  rcases hq18 with ⟨c19, ez20⟩
  · rw [ez20]
    refine sl_i2w S dL_handOn_10 ?_
    have hc21 : M1 ou = some (sArL G 1 g0) := (hf17 ou (by omega)).trans ho9
    refine sc_last S hK hV hc21 (by omega) dL_handOn_11 (fun M22 H locs hM22 hV => ?_)
    have hc23 : M22 ou = some (sArL G 1 (iup g0 0 (sW (hnd f s (dayI d + 3652) t)))) := (congrFun hM22 ou).trans (va_up_self M1 ou _)
    refine lv_goto (tgt := 23) hx_ hb_ dL_handOn_12 (by decide) ?_
    refine si_const S dL_handOn_23 ?_
    have hc24 : knoC G M22 (c + 54) := hc16.fr (fun x q8 q9 => (congrFun hM22 x).trans (va_up_ne M1 _ (by omega)))
    exact xr_i E hQ dL_handOn_24 ⟨Nat.le_of_ble_eq_true rfl, Nat.le_of_ble_eq_true rfl⟩ hV (⟨by omega, hc24, fun x q0 q1 => ((congrFun hM22 x).trans (va_up_ne M1 _ (by omega))).trans (hf17 x (by omega)), Or.inr (Or.inr (⟨(c19), rfl, hc23⟩))⟩)

abbrev rmL_stays : Room := { frames := 8, cells := 10, slots := 60, locals := 144 }
set_option maxHeartbeats 4000000 in
set_option maxRecDepth 100000 in
theorem kL_stays (l_ : Launch) (G : sG) (b_ : Nat) (M : sM) (N : Nat) (ou : Nat) (g0 : Int → Int) (c : Nat) (kn : Int) (ch : Int) (f : sF) (s : Int) (t : Int) (hc0 : M c = some (xO c kn ch)) (hst : stC G M (c + 1) f) (hkn : knoC G M (c + 54)) (ho9 : M ou = some (sArL G 1 g0)) (hlt : l_.stackTraces = false) (hok : sOk f) (hr : sR s ∧ sR t) (ho1 : c + 60 ≤ ou) : xcI l_ yL_stays wsL_stays rmL_stays G b_ M N [.ref c, .int (sI s), .int (sI t), .ref ou] (fun z_ M1 N1 => N ≤ N1 ∧ knoC G M1 (c + 54) ∧ (∀ x : Nat, ¬ (c + 54 ≤ x ∧ x < c + 54 + 3) → ¬ (x = ou) → M1 x = M x) ∧ (((¬ (0 ≤ s ∧ s < f 568)) ∧ z_ = 1 ∧ M1 ou = some (sArL G 1 g0)) ∨ (((0 ≤ s ∧ s < f 568) ∧ ¬ (0 ≤ t ∧ t ≤ f 571)) ∧ z_ = 2 ∧ M1 ou = some (sArL G 1 g0)) ∨ (((0 ≤ s ∧ s < f 568) ∧ 0 ≤ t ∧ t ≤ f 571) ∧ z_ = 0 ∧ M1 ou = some (sArL G 1 (iup g0 0 (sW (segC (fun x => hnd f s x t)))))))) (fun _ _ _ => False) := by
  refine yE.ofI (cc := cL_stays) (nL := 5) (ret := (some .int)) (hh := [(0, 10, 13, 25), (0, 10, 17, 19)]) (by decide) rfl (Nat.le_of_ble_eq_true rfl) ?_
  intro p_ e_ s_ m_ args_ below_ meth_ c_ ls Q hQ E hF_ hxt_ hl
  have E : sE p_ l_ e_ rmL_stays s_ m_ args_ below_ meth_ c_ cL_stays 5 wsL_stays RL "stays" (some .int) G b_ M N := E
  have S := E.1
  have hx_ := S.1
  have hb_ := S.2.1
  have hK := E.2.2.2.2.1
  have hV := E.2.2.2.2.2.2
  have hl : lv_has ls 5 [(0, .ref c), (1, .int (sI s)), (2, .int (sI t)), (3, .ref ou)] := hl
  have inX10_ : ∀ w ∈ wsX100, w ∈ wsL_stays := fun _ h => List.mem_cons_of_mem _ (List.mem_append_left _ (List.mem_append_left _ (List.mem_append_left _ (List.mem_append_left _ (List.mem_append_left _ (List.mem_append_right _ h))))))
  have inX6_ : ∀ w ∈ wsX60, w ∈ wsL_stays := fun _ h => List.mem_cons_of_mem _ (List.mem_append_left _ (List.mem_append_left _ (List.mem_append_left _ (List.mem_append_left _ (List.mem_append_right _ h)))))
  have inX8_ : ∀ w ∈ wsX80, w ∈ wsL_stays := fun _ h => List.mem_cons_of_mem _ (List.mem_append_left _ (List.mem_append_left _ (List.mem_append_left _ (List.mem_append_right _ h))))
  have inX7_ : ∀ w ∈ wsX70, w ∈ wsL_stays := fun _ h => List.mem_cons_of_mem _ (List.mem_append_left _ (List.mem_append_left _ (List.mem_append_right _ h)))
  have hbN : b_ ≤ N := by have h1 := hV.1.1; have h2 := hV.2.2; omega
  refine lv_aload_n hx_ hb_ dL_stays_0 rfl (lv_at hl 3 rfl) ?_
  refine si_const S dL_stays_1 ?_
  refine lv_aload_n hx_ hb_ dL_stays_2 rfl (lv_at hl 0 rfl) ?_
  refine lv_iload_n hx_ hb_ dL_stays_3 rfl (lv_at hl 1 rfl) ?_
  refine lv_iload_n hx_ hb_ dL_stays_4 rfl (lv_at hl 2 rfl) ?_
  refine yk_Vi E hF_ hV (As := [.int (sI s), .int (sI t)]) (rest := [.int (sI 0), .ref ou]) (kX10_stays l_ G b_ M N c kn ch f s t hc0 hst hkn (hlt) (hok) (hr)) (cwV 2 S.2.2.2.2 gL_stays_X10_stays rfl rfl rfl (by decide +kernel) ⟨Nat.le_of_ble_eq_true rfl, Nat.le_of_ble_eq_true rfl⟩) (ci := 8) hc0 rfl rfl rfl hl.1 (Nat.le_of_ble_eq_true rfl) dL_stays_5 (c1 := 10) (s1 := 60) ⟨⟨rfl, rfl⟩, by decide, by decide⟩ ?_ (fun z4 M1 N2 H locs hp3 hV => ?_)
  · rintro E9 M9 N9 H9 locs9 q9 ce9 ⟨hN5, hc8, hf6, hq7⟩ hV hce9 hcv9 hcl9
    rcases hq7 with ⟨c9, ee10⟩ | ⟨c11, ee12⟩
    · subst ee10
      refine vx_catch (own := RL) (name := "java/lang/IndexOutOfBoundsException") S.2.2.2.1 ([] : List ExceptionTableEntry) ⟨0, 10, 13, 25⟩ ([⟨0, 10, 17, 19⟩] : List ExceptionTableEntry) (hxt_.trans rfl) (fun z hz => by cases hz) (by decide) (by decide) (S.2.2.2.2 _ (List.mem_of_getElem? (i := 1) rfl)) (va_Nw.use rfl (hF_.1.1 _ (by decide +kernel))) hce9 hcv9 hcl9 ?_
      refine lv_astore (lv' := [(4, .ref q9), (0, .ref c), (1, .int (sI s)), (2, .int (sI t)), (3, .ref ou)]) hx_ hb_ dL_stays_13 hl (by decide) rfl (fun ls hl => ?_)
      refine si_const S dL_stays_15 ?_
      have hc13 : M9 ou = some (sArL G 1 g0) := (hf6 ou (by omega)).trans ho9
      exact xr_i E hQ dL_stays_16 ⟨Nat.le_of_ble_eq_true rfl, Nat.le_of_ble_eq_true rfl⟩ hV (⟨by omega, hc8, fun x q0 q1 => hf6 x (by omega), Or.inl ⟨(c9), rfl, hc13⟩⟩)
    · subst ee12
      refine vx_catch (own := RL) (name := "java/lang/IllegalArgumentException") S.2.2.2.1 ([⟨0, 10, 13, 25⟩] : List ExceptionTableEntry) ⟨0, 10, 17, 19⟩ ([] : List ExceptionTableEntry) (hxt_.trans rfl) (fun z hz => by rcases List.mem_singleton.mp hz with rfl; exact Or.inr ⟨by decide, _, (S.2.2.2.2 _ (List.mem_of_getElem? (i := 1) rfl)), hF_.1.2 _ (by decide +kernel) _ (by decide +kernel) (by decide)⟩) (by decide) (by decide) (S.2.2.2.2 _ (List.mem_of_getElem? (i := 2) rfl)) (va_Nw.use rfl (hF_.1.1 _ (by decide +kernel))) hce9 hcv9 hcl9 ?_
      refine lv_astore (lv' := [(4, .ref q9), (0, .ref c), (1, .int (sI s)), (2, .int (sI t)), (3, .ref ou)]) hx_ hb_ dL_stays_17 hl (by decide) rfl (fun ls hl => ?_)
      refine si_const S dL_stays_19 ?_
      have hc14 : M9 ou = some (sArL G 1 g0) := (hf6 ou (by omega)).trans ho9
      exact xr_i E hQ dL_stays_20 ⟨Nat.le_of_ble_eq_true rfl, Nat.le_of_ble_eq_true rfl⟩ hV (⟨by omega, hc8, fun x q0 q1 => hf6 x (by omega), Or.inr (Or.inl ⟨(c11), rfl, hc14⟩)⟩)
  obtain ⟨hN15, hc16, hf17, hq18⟩ := hp3
  rw [hN15] at hV
  rcases hq18 with ⟨c19, ez20⟩
  · rw [ez20]
    refine sl_i2w S dL_stays_8 ?_
    have hc21 : M1 ou = some (sArL G 1 g0) := (hf17 ou (by omega)).trans ho9
    refine sc_last S hK hV hc21 (by omega) dL_stays_9 (fun M22 H locs hM22 hV => ?_)
    have hc23 : M22 ou = some (sArL G 1 (iup g0 0 (sW (segC (fun x => hnd f s x t))))) := (congrFun hM22 ou).trans (va_up_self M1 ou _)
    refine lv_goto (tgt := 21) hx_ hb_ dL_stays_10 (by decide) ?_
    refine si_const S dL_stays_21 ?_
    have hc24 : knoC G M22 (c + 54) := hc16.fr (fun x q8 q9 => (congrFun hM22 x).trans (va_up_ne M1 _ (by omega)))
    exact xr_i E hQ dL_stays_22 ⟨Nat.le_of_ble_eq_true rfl, Nat.le_of_ble_eq_true rfl⟩ hV (⟨by omega, hc24, fun x q0 q1 => ((congrFun hM22 x).trans (va_up_ne M1 _ (by omega))).trans (hf17 x (by omega)), Or.inr (Or.inr (⟨(c19), rfl, hc23⟩))⟩)

abbrev rmL_stayAt : Room := { frames := 8, cells := 10, slots := 60, locals := 169 }
set_option maxHeartbeats 4000000 in
set_option maxRecDepth 100000 in
theorem kL_stayAt (l_ : Launch) (G : sG) (b_ : Nat) (M : sM) (N : Nat) (ou : Nat) (g0 : Int → Int) (c : Nat) (kn : Int) (ch : Int) (f : sF) (s : Int) (j : Int) (v : Int) (hc0 : M c = some (xO c kn ch)) (hst : stC G M (c + 1) f) (hkn : knoC G M (c + 54)) (ho9 : M ou = some (sArL G 1 g0)) (hlt : l_.stackTraces = false) (hok : sOk f) (hr : sR s ∧ sR j ∧ sR v) (ho1 : c + 60 ≤ ou) : xcI l_ yL_stayAt wsL_stayAt rmL_stayAt G b_ M N [.ref c, .int (sI s), .int (sI j), .int (sI v), .ref ou] (fun z_ M1 N1 => N ≤ N1 ∧ knoC G M1 (c + 54) ∧ (∀ x : Nat, ¬ (c + 54 ≤ x ∧ x < c + 54 + 3) → ¬ (x = ou) → M1 x = M x) ∧ (((¬ (0 ≤ s ∧ s < f 568)) ∧ z_ = 1 ∧ M1 ou = some (sArL G 1 g0)) ∨ (((0 ≤ s ∧ s < f 568) ∧ ¬ (0 ≤ j ∧ j < segC (fun x => hnd f s x (f 571)))) ∧ z_ = 1 ∧ M1 ou = some (sArL G 1 g0)) ∨ (((0 ≤ s ∧ s < f 568) ∧ (0 ≤ j ∧ j < segC (fun x => hnd f s x (f 571))) ∧ ¬ (0 ≤ v ∧ v ≤ 2)) ∧ z_ = 2 ∧ M1 ou = some (sArL G 1 g0)) ∨ (((0 ≤ s ∧ s < f 568) ∧ (0 ≤ j ∧ j < segC (fun x => hnd f s x (f 571))) ∧ v = 0) ∧ z_ = 0 ∧ M1 ou = some (sArL G 1 (iup g0 0 (sW (hnd f s (segD (fun x => hnd f s x (f 571)) j) (f 571)))))) ∨ (((0 ≤ s ∧ s < f 568) ∧ (0 ≤ j ∧ j < segC (fun x => hnd f s x (f 571))) ∧ v = 1) ∧ z_ = 0 ∧ M1 ou = some (sArL G 1 (iup g0 0 (sW (if j = 0 then -1 else dat (segD (fun x => hnd f s x (f 571)) j)))))) ∨ (((0 ≤ s ∧ s < f 568) ∧ (0 ≤ j ∧ j < segC (fun x => hnd f s x (f 571))) ∧ v = 2) ∧ z_ = 0 ∧ M1 ou = some (sArL G 1 (iup g0 0 (sW (if j = segC (fun x => hnd f s x (f 571)) - 1 then -1 else dat (segD (fun x => hnd f s x (f 571)) (j + 1) - 1)))))))) (fun _ _ _ => False) := by
  refine yE.ofI (cc := cL_stayAt) (nL := 6) (ret := (some .int)) (hh := [(0, 12, 15, 25), (0, 12, 19, 19)]) (by decide) rfl (Nat.le_of_ble_eq_true rfl) ?_
  intro p_ e_ s_ m_ args_ below_ meth_ c_ ls Q hQ E hF_ hxt_ hl
  have E : sE p_ l_ e_ rmL_stayAt s_ m_ args_ below_ meth_ c_ cL_stayAt 6 wsL_stayAt RL "stayAt" (some .int) G b_ M N := E
  have S := E.1
  have hx_ := S.1
  have hb_ := S.2.1
  have hK := E.2.2.2.2.1
  have hV := E.2.2.2.2.2.2
  have hl : lv_has ls 6 [(0, .ref c), (1, .int (sI s)), (2, .int (sI j)), (3, .int (sI v)), (4, .ref ou)] := hl
  have inX10_ : ∀ w ∈ wsX100, w ∈ wsL_stayAt := fun _ h => List.mem_cons_of_mem _ (List.mem_append_left _ (List.mem_append_left _ (List.mem_append_left _ (List.mem_append_left _ (List.mem_append_left _ (List.mem_append_right _ h))))))
  have inX6_ : ∀ w ∈ wsX60, w ∈ wsL_stayAt := fun _ h => List.mem_cons_of_mem _ (List.mem_append_left _ (List.mem_append_left _ (List.mem_append_left _ (List.mem_append_left _ (List.mem_append_right _ h)))))
  have inX8_ : ∀ w ∈ wsX80, w ∈ wsL_stayAt := fun _ h => List.mem_cons_of_mem _ (List.mem_append_left _ (List.mem_append_left _ (List.mem_append_left _ (List.mem_append_right _ h))))
  have inX7_ : ∀ w ∈ wsX70, w ∈ wsL_stayAt := fun _ h => List.mem_cons_of_mem _ (List.mem_append_left _ (List.mem_append_left _ (List.mem_append_right _ h)))
  have hbN : b_ ≤ N := by have h1 := hV.1.1; have h2 := hV.2.2; omega
  refine lv_aload hx_ hb_ dL_stayAt_0 (lv_at hl 4 rfl) ?_
  refine si_const S dL_stayAt_2 ?_
  refine lv_aload_n hx_ hb_ dL_stayAt_3 rfl (lv_at hl 0 rfl) ?_
  refine lv_iload_n hx_ hb_ dL_stayAt_4 rfl (lv_at hl 1 rfl) ?_
  refine lv_iload_n hx_ hb_ dL_stayAt_5 rfl (lv_at hl 2 rfl) ?_
  refine lv_iload_n hx_ hb_ dL_stayAt_6 rfl (lv_at hl 3 rfl) ?_
  refine yk_Vi E hF_ hV (As := [.int (sI s), .int (sI j), .int (sI v)]) (rest := [.int (sI 0), .ref ou]) (kX10_stayAt l_ G b_ M N c kn ch f s j v hc0 hst hkn (hlt) (hok) (hr)) (cwV 3 S.2.2.2.2 gL_stayAt_X10_stayAt rfl rfl rfl (by decide +kernel) ⟨Nat.le_of_ble_eq_true rfl, Nat.le_of_ble_eq_true rfl⟩) (ci := 8) hc0 rfl rfl rfl hl.1 (Nat.le_of_ble_eq_true rfl) dL_stayAt_7 (c1 := 10) (s1 := 60) ⟨⟨rfl, rfl⟩, by decide, by decide⟩ ?_ (fun z4 M1 N2 H locs hp3 hV => ?_)
  · rintro E9 M9 N9 H9 locs9 q9 ce9 ⟨hN5, hc8, hf6, hq7⟩ hV hce9 hcv9 hcl9
    rcases hq7 with ⟨c9, ee10⟩ | ⟨c11, ee12⟩ | ⟨c13, ee14⟩
    · subst ee10
      refine vx_catch (own := RL) (name := "java/lang/IndexOutOfBoundsException") S.2.2.2.1 ([] : List ExceptionTableEntry) ⟨0, 12, 15, 25⟩ ([⟨0, 12, 19, 19⟩] : List ExceptionTableEntry) (hxt_.trans rfl) (fun z hz => by cases hz) (by decide) (by decide) (S.2.2.2.2 _ (List.mem_of_getElem? (i := 1) rfl)) (va_Nw.use rfl (hF_.1.1 _ (by decide +kernel))) hce9 hcv9 hcl9 ?_
      refine lv_astore (lv' := [(5, .ref q9), (0, .ref c), (1, .int (sI s)), (2, .int (sI j)), (3, .int (sI v)), (4, .ref ou)]) hx_ hb_ dL_stayAt_15 hl (by decide) rfl (fun ls hl => ?_)
      refine si_const S dL_stayAt_17 ?_
      have hc15 : M9 ou = some (sArL G 1 g0) := (hf6 ou (by omega)).trans ho9
      exact xr_i E hQ dL_stayAt_18 ⟨Nat.le_of_ble_eq_true rfl, Nat.le_of_ble_eq_true rfl⟩ hV (⟨by omega, hc8, fun x q0 q1 => hf6 x (by omega), Or.inl ⟨(c9), rfl, hc15⟩⟩)
    · subst ee12
      refine vx_catch (own := RL) (name := "java/lang/IndexOutOfBoundsException") S.2.2.2.1 ([] : List ExceptionTableEntry) ⟨0, 12, 15, 25⟩ ([⟨0, 12, 19, 19⟩] : List ExceptionTableEntry) (hxt_.trans rfl) (fun z hz => by cases hz) (by decide) (by decide) (S.2.2.2.2 _ (List.mem_of_getElem? (i := 1) rfl)) (va_Nw.use rfl (hF_.1.1 _ (by decide +kernel))) hce9 hcv9 hcl9 ?_
      refine lv_astore (lv' := [(5, .ref q9), (0, .ref c), (1, .int (sI s)), (2, .int (sI j)), (3, .int (sI v)), (4, .ref ou)]) hx_ hb_ dL_stayAt_15 hl (by decide) rfl (fun ls hl => ?_)
      refine si_const S dL_stayAt_17 ?_
      have hc16 : M9 ou = some (sArL G 1 g0) := (hf6 ou (by omega)).trans ho9
      exact xr_i E hQ dL_stayAt_18 ⟨Nat.le_of_ble_eq_true rfl, Nat.le_of_ble_eq_true rfl⟩ hV (⟨by omega, hc8, fun x q0 q1 => hf6 x (by omega), Or.inr (Or.inl ⟨(c11), rfl, hc16⟩)⟩)
    · subst ee14
      refine vx_catch (own := RL) (name := "java/lang/IllegalArgumentException") S.2.2.2.1 ([⟨0, 12, 15, 25⟩] : List ExceptionTableEntry) ⟨0, 12, 19, 19⟩ ([] : List ExceptionTableEntry) (hxt_.trans rfl) (fun z hz => by rcases List.mem_singleton.mp hz with rfl; exact Or.inr ⟨by decide, _, (S.2.2.2.2 _ (List.mem_of_getElem? (i := 1) rfl)), hF_.1.2 _ (by decide +kernel) _ (by decide +kernel) (by decide)⟩) (by decide) (by decide) (S.2.2.2.2 _ (List.mem_of_getElem? (i := 2) rfl)) (va_Nw.use rfl (hF_.1.1 _ (by decide +kernel))) hce9 hcv9 hcl9 ?_
      refine lv_astore (lv' := [(5, .ref q9), (0, .ref c), (1, .int (sI s)), (2, .int (sI j)), (3, .int (sI v)), (4, .ref ou)]) hx_ hb_ dL_stayAt_19 hl (by decide) rfl (fun ls hl => ?_)
      refine si_const S dL_stayAt_21 ?_
      have hc17 : M9 ou = some (sArL G 1 g0) := (hf6 ou (by omega)).trans ho9
      exact xr_i E hQ dL_stayAt_22 ⟨Nat.le_of_ble_eq_true rfl, Nat.le_of_ble_eq_true rfl⟩ hV (⟨by omega, hc8, fun x q0 q1 => hf6 x (by omega), Or.inr (Or.inr (Or.inl ⟨(c13), rfl, hc17⟩))⟩)
  obtain ⟨hN18, hc19, hf20, hq21⟩ := hp3
  rw [hN18] at hV
  rcases hq21 with ⟨c22, ez23⟩ | ⟨c24, ez25⟩ | ⟨c26, ez27⟩
  · rw [ez23]
    refine sl_i2w S dL_stayAt_10 ?_
    have hc28 : M1 ou = some (sArL G 1 g0) := (hf20 ou (by omega)).trans ho9
    refine sc_last S hK hV hc28 (by omega) dL_stayAt_11 (fun M29 H locs hM29 hV => ?_)
    have hc30 : M29 ou = some (sArL G 1 (iup g0 0 (sW (hnd f s (segD (fun x => hnd f s x (f 571)) j) (f 571))))) := (congrFun hM29 ou).trans (va_up_self M1 ou _)
    refine lv_goto (tgt := 23) hx_ hb_ dL_stayAt_12 (by decide) ?_
    refine si_const S dL_stayAt_23 ?_
    have hc31 : knoC G M29 (c + 54) := hc19.fr (fun x q8 q9 => (congrFun hM29 x).trans (va_up_ne M1 _ (by omega)))
    exact xr_i E hQ dL_stayAt_24 ⟨Nat.le_of_ble_eq_true rfl, Nat.le_of_ble_eq_true rfl⟩ hV (⟨by omega, hc31, fun x q0 q1 => ((congrFun hM29 x).trans (va_up_ne M1 _ (by omega))).trans (hf20 x (by omega)), Or.inr (Or.inr (Or.inr (Or.inl ⟨(c22), rfl, hc30⟩)))⟩)
  · rw [ez25]
    refine sl_i2w S dL_stayAt_10 ?_
    have hc32 : M1 ou = some (sArL G 1 g0) := (hf20 ou (by omega)).trans ho9
    refine sc_last S hK hV hc32 (by omega) dL_stayAt_11 (fun M33 H locs hM33 hV => ?_)
    have hc34 : M33 ou = some (sArL G 1 (iup g0 0 (sW (if j = 0 then -1 else dat (segD (fun x => hnd f s x (f 571)) j))))) := (congrFun hM33 ou).trans (va_up_self M1 ou _)
    refine lv_goto (tgt := 23) hx_ hb_ dL_stayAt_12 (by decide) ?_
    refine si_const S dL_stayAt_23 ?_
    have hc35 : knoC G M33 (c + 54) := hc19.fr (fun x q8 q9 => (congrFun hM33 x).trans (va_up_ne M1 _ (by omega)))
    exact xr_i E hQ dL_stayAt_24 ⟨Nat.le_of_ble_eq_true rfl, Nat.le_of_ble_eq_true rfl⟩ hV (⟨by omega, hc35, fun x q0 q1 => ((congrFun hM33 x).trans (va_up_ne M1 _ (by omega))).trans (hf20 x (by omega)), Or.inr (Or.inr (Or.inr (Or.inr (Or.inl ⟨(c24), rfl, hc34⟩))))⟩)
  · rw [ez27]
    refine sl_i2w S dL_stayAt_10 ?_
    have hc36 : M1 ou = some (sArL G 1 g0) := (hf20 ou (by omega)).trans ho9
    refine sc_last S hK hV hc36 (by omega) dL_stayAt_11 (fun M37 H locs hM37 hV => ?_)
    have hc38 : M37 ou = some (sArL G 1 (iup g0 0 (sW (if j = segC (fun x => hnd f s x (f 571)) - 1 then -1 else dat (segD (fun x => hnd f s x (f 571)) (j + 1) - 1))))) := (congrFun hM37 ou).trans (va_up_self M1 ou _)
    refine lv_goto (tgt := 23) hx_ hb_ dL_stayAt_12 (by decide) ?_
    refine si_const S dL_stayAt_23 ?_
    have hc39 : knoC G M37 (c + 54) := hc19.fr (fun x q8 q9 => (congrFun hM37 x).trans (va_up_ne M1 _ (by omega)))
    exact xr_i E hQ dL_stayAt_24 ⟨Nat.le_of_ble_eq_true rfl, Nat.le_of_ble_eq_true rfl⟩ hV (⟨by omega, hc39, fun x q0 q1 => ((congrFun hM37 x).trans (va_up_ne M1 _ (by omega))).trans (hf20 x (by omega)), Or.inr (Or.inr (Or.inr (Or.inr (Or.inr (⟨(c26), rfl, hc38⟩)))))⟩)
