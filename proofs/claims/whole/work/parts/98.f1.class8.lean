/-! The class, further on. -/
abbrev rmX10_stone : Room := { frames := 6, cells := 25, slots := 3000, locals := 125 }
set_option maxHeartbeats 4000000 in
set_option maxRecDepth 100000 in
theorem kX10_stone (l_ : Launch) (G : sG) (b_ : Nat) (M : sM) (N : Nat) (c : Nat) (kn ch : Int) (f : sF) (kb : Nat) (fs : Int → sF) (tn te : Int) (t : sF) (k z u v : Int) (hc0 : M c = some (xO c kn ch)) (hst : stC G M (c + 1) f) (hkp : kpC G M (c + 31) kb kn ch fs) (ht0 : M (c + 32) = some (sObj 7 [.ref (c + 33), .int (sI tn), .int (sI te)])) (ht1 : M (c + 33) = some (sArr G 300 t)) (hlt : l_.stackTraces = false) (hok : sOk f) (hkb : c + 60 ≤ kb) (hkN : kb ≤ N) (ht : tpOk t tn) (hr : sR k ∧ sR z ∧ sR u ∧ sR v) : xcI l_ yX10_stone wsX10_stone rmX10_stone G b_ M N [.ref c, .int (sI k), .int (sI z), .int (sI u), .int (sI v)] (fun z_ M1 N1 => ∃ kn1 : Int, N ≤ N1 ∧ (∀ x : Nat, ¬ (x = c) → ¬ (x = c + 31) → ¬ (x = c + 32) → ¬ (kb ≤ x) → ¬ (c + 1 ≤ x ∧ x < c + 1 + 15) → M1 x = M x) ∧ (((nuP k z u v ∧ isC t tn ∧ idx (fun q => f q = coA t tn 0) (f 568) = -1 ∧ f 568 < 10) ∧ z_ = f 568 ∧ M1 c = some (xO c kn1 (chn ch)) ∧ stC G M1 (c + 1) (comF f (coA t tn 0) k z u v) ∧ kpC G M1 (c + 31) kb kn1 (chn ch) (fsn ch fs f) ∧ M1 (c + 32) = some (sObj 7 [.ref (c + 33), .int (sI 0), .int (sI (-1))]) ∧ M1 (c + 33) = some (sArr G 300 t)))) (fun E_ M1 N1 => ∃ kn1 : Int, N ≤ N1 ∧ (∀ x : Nat, ¬ (x = c) → ¬ (x = c + 31) → ¬ (x = c + 32) → ¬ (kb ≤ x) → ¬ (c + 1 ≤ x ∧ x < c + 1 + 15) → M1 x = M x) ∧ (((¬ nuP k z u v) ∧ E_ = "java/lang/IllegalArgumentException" ∧ M1 c = some (xO c kn1 ch) ∧ stC G M1 (c + 1) f ∧ kpC G M1 (c + 31) kb kn1 ch fs ∧ M1 (c + 32) = some (sObj 7 [.ref (c + 33), .int (sI 0), .int (sI (-1))]) ∧ M1 (c + 33) = some (sArr G 300 t)) ∨ ((nuP k z u v ∧ ¬ isC t tn) ∧ E_ = "java/lang/IllegalArgumentException" ∧ M1 c = some (xO c kn1 ch) ∧ stC G M1 (c + 1) f ∧ kpC G M1 (c + 31) kb kn1 ch fs ∧ M1 (c + 32) = some (sObj 7 [.ref (c + 33), .int (sI 0), .int (sI (ltc t tn))]) ∧ M1 (c + 33) = some (sArr G 300 t)) ∨ ((nuP k z u v ∧ isC t tn ∧ idx (fun q => f q = coA t tn 0) (f 568) ≠ -1) ∧ E_ = "java/lang/IllegalArgumentException" ∧ M1 c = some (xO c kn1 ch) ∧ stC G M1 (c + 1) f ∧ kpC G M1 (c + 31) kb kn1 ch fs ∧ M1 (c + 32) = some (sObj 7 [.ref (c + 33), .int (sI 0), .int (sI 0)]) ∧ M1 (c + 33) = some (sArr G 300 t)) ∨ ((nuP k z u v ∧ isC t tn ∧ idx (fun q => f q = coA t tn 0) (f 568) = -1 ∧ 10 ≤ f 568) ∧ E_ = "java/lang/IllegalStateException" ∧ M1 c = some (xO c kn1 ch) ∧ stC G M1 (c + 1) f ∧ kpC G M1 (c + 31) kb kn1 ch fs ∧ M1 (c + 32) = some (sObj 7 [.ref (c + 33), .int (sI 0), .int (sI (-1))]) ∧ M1 (c + 33) = some (sArr G 300 t)))) := by
  refine xcE.ofI (cc := cX10_stone) (nL := 8) (ret := (some .int)) (by decide) rfl (Nat.le_of_ble_eq_true rfl) ?_
  intro p_ e_ s_ m_ args_ below_ meth_ c_ ls Q hQ E hF_ hxt_ hl
  have E : sE p_ l_ e_ rmX10_stone s_ m_ args_ below_ meth_ c_ cX10_stone 8 wsX10_stone RX10 "stone" (some .int) G b_ M N := E
  have S := E.1
  have hx_ := S.1
  have hb_ := S.2.1
  have hK := E.2.2.2.2.1
  have hV := E.2.2.2.2.2.2
  have hl : lv_has ls 8 [(0, .ref c), (1, .int (sI k)), (2, .int (sI z)), (3, .int (sI u)), (4, .int (sI v))] := hl
  have inX10_ : ∀ w ∈ wsX100, w ∈ wsX10_stone := fun _ h => List.mem_cons_of_mem _ (List.mem_append_left _ (List.mem_append_left _ (List.mem_append_left _ (List.mem_append_left _ (List.mem_append_left _ (List.mem_append_right _ h))))))
  have inX6_ : ∀ w ∈ wsX60, w ∈ wsX10_stone := fun _ h => List.mem_cons_of_mem _ (List.mem_append_left _ (List.mem_append_left _ (List.mem_append_left _ (List.mem_append_left _ (List.mem_append_right _ h)))))
  have inX9_ : ∀ w ∈ wsX90, w ∈ wsX10_stone := fun _ h => List.mem_cons_of_mem _ (List.mem_append_left _ (List.mem_append_left _ (List.mem_append_left _ (List.mem_append_right _ h))))
  have inX8_ : ∀ w ∈ wsX80, w ∈ wsX10_stone := fun _ h => List.mem_cons_of_mem _ (List.mem_append_left _ (List.mem_append_left _ (List.mem_append_right _ h)))
  have hbN : b_ ≤ N := by have h1 := hV.1.1; have h2 := hV.2.2; omega
  have kn0 := sOk_N hok
  have htn := ht.1
  have htn2 := ht.2.1
  have hlr := ltc_r t tn
  refine si_const S dX10_stone_0 ?_
  refine lv_iload_n hx_ hb_ dX10_stone_1 rfl (lv_at hl 1 rfl) ?_
  refine sk_SP E hV (As := [.int (sI 0), .int (sI k)]) (rest := []) (kX6_isInRange l_ G b_ M N 0 k (by omega) (by omega)) (va_cwS 2 S.2.2.2.2 gX10_stone_X6_isInRange rfl rfl rfl (by decide +kernel) ⟨Nat.le_of_ble_eq_true rfl, Nat.le_of_ble_eq_true rfl⟩) rfl rfl hl.1 (Nat.le_of_ble_eq_true rfl) dX10_stone_2 (c1 := 0) (s1 := 0) ⟨⟨rfl, rfl⟩, by decide, by decide⟩ (fun H locs hV => ?_)
  refine sq_eq (tgt := 37) S dX10_stone_5 (by decide) (fun c1 => ?_) (fun c1 => ?_)
  · unfold irP at c1
    refine si_const S dX10_stone_37 ?_
    refine lv_istore (lv' := [(5, .int (sI 0)), (0, .ref c), (1, .int (sI k)), (2, .int (sI z)), (3, .int (sI u)), (4, .int (sI v))]) hx_ hb_ dX10_stone_38 hl (by decide) rfl (fun ls hl => ?_)
    refine lv_iload hx_ hb_ dX10_stone_40 (lv_at hl 0 rfl) ?_
    refine sz_eq (tgt := 55) S dX10_stone_42 (by decide) (by omega) (fun _ => ?_) (fun c2 => absurd c2 (by omega))
    refine si_const S dX10_stone_55 ?_
    refine lv_istore (lv' := [(6, .int (sI 0)), (5, .int (sI 0)), (0, .ref c), (1, .int (sI k)), (2, .int (sI z)), (3, .int (sI u)), (4, .int (sI v))]) hx_ hb_ dX10_stone_56 hl (by decide) rfl (fun ls hl => ?_)
    refine lv_iload hx_ hb_ dX10_stone_58 (lv_at hl 1 rfl) ?_
    refine sz_eq (tgt := 73) S dX10_stone_60 (by decide) (by omega) (fun _ => ?_) (fun c3 => absurd c3 (by omega))
    refine si_const S dX10_stone_73 ?_
    refine lv_istore (lv' := [(7, .int (sI (-1))), (6, .int (sI 0)), (5, .int (sI 0)), (0, .ref c), (1, .int (sI k)), (2, .int (sI z)), (3, .int (sI u)), (4, .int (sI v))]) hx_ hb_ dX10_stone_74 hl (by decide) rfl (fun ls hl => ?_)
    refine lv_iload hx_ hb_ dX10_stone_76 (lv_at hl 0 rfl) ?_
    refine si_const S dX10_stone_78 ?_
    refine sb_ne (tgt := 103) S dX10_stone_79 (by decide) (by omega) (fun c4 => absurd c4 (by omega)) (fun _ => ?_)
    refine lv_iload hx_ hb_ dX10_stone_82 (lv_at hl 2 rfl) ?_
    refine sz_eq (tgt := 103) S dX10_stone_84 (by decide) (by omega) (fun _ => ?_) (fun c5 => absurd c5 (by omega))
    refine lv_aload_n hx_ hb_ dX10_stone_103 rfl (lv_at hl 3 rfl) ?_
    refine sc_get (ci := 8) (C := RX10) (T := TX10) (n := 11) S hK hV inX10_ hc0 rfl 5 (by decide) (S.2.2.2.2 _ (List.mem_of_getElem? (i := 5) rfl)) rfl rfl dX10_stone_104 ?_
    refine lv_iload hx_ hb_ dX10_stone_107 (lv_at hl 0 rfl) ?_
    refine sk_Vv E hV (As := [.int (sI (-1))]) (rest := []) (kX9_wasRead l_ G b_ M N (c + 32) tn te (-1) ht0) (cwV 1 S.2.2.2.2 gX10_stone_X9_wasRead rfl rfl rfl (by decide +kernel) ⟨Nat.le_of_ble_eq_true rfl, Nat.le_of_ble_eq_true rfl⟩) (ci := 7) ht0 rfl rfl rfl hl.1 (Nat.le_of_ble_eq_true rfl) dX10_stone_109 (c1 := 0) (s1 := 0) ⟨⟨rfl, rfl⟩, by decide, by decide⟩ (fun M6 N7 H locs hp8 hV => ?_)
    obtain ⟨hN10, hc11, hf12⟩ := hp8
    rw [hN10] at hV
    refine lv_iload hx_ hb_ dX10_stone_112 (lv_at hl 2 rfl) ?_
    refine sz_eq (tgt := 123) S dX10_stone_114 (by decide) (by omega) (fun _ => ?_) (fun c13 => absurd c13 (by omega))
    have hc14 : M6 c = some (xO c kn ch) := (hf12 c (by omega)).trans hc0
    have hc15 : stC G M6 (c + 1) f := hst.fr (fun x q8 q9 => hf12 x (by omega))
    have hc16 : kpC G M6 (c + 31) kb kn ch fs := hkp.fr (fun x q8 => hf12 x (by omega))
    have hc17 : M6 (c + 33) = some (sArr G 300 t) := (hf12 (c + 33) (by omega)).trans ht1
    exact xt_S (own := RX10) (rest := []) E hF_ hxt_ hQ hlt (ik := 113) (is := 115) (ic := 117) (cls := "java/lang/IllegalArgumentException") (text := "no such stone can come") (by decide +kernel) xg_IA (List.mem_of_getElem? (i := 1) rfl) (List.mem_of_getElem? (i := 2) rfl) (fun _ h => List.mem_cons_of_mem _ (List.mem_append_left _ (List.mem_append_right _ h))) (List.mem_of_getElem? (i := 1) rfl) hl.1 dX10_stone_123 dX10_stone_126 dX10_stone_127 dX10_stone_129 dX10_stone_132 ⟨Nat.le_of_ble_eq_true rfl, Nat.le_of_ble_eq_true rfl, Nat.le_of_ble_eq_true rfl, Nat.le_of_ble_eq_true rfl⟩ ⟨Nat.le_of_ble_eq_true rfl, Nat.le_of_ble_eq_true rfl⟩ hV (fun N9 h9 => ⟨_, by omega, fun x q0 q1 q2 q3 q4 => hf12 x (by omega), Or.inl ⟨(by unfold nuP; omega), rfl, hc14, hc15, hc16, hc11, hc17⟩⟩)
  · unfold irP at c1
    refine si_const S dX10_stone_8 ?_
    refine lv_iload_n hx_ hb_ dX10_stone_9 rfl (lv_at hl 2 rfl) ?_
    refine sk_SP E hV (As := [.int (sI 1), .int (sI z)]) (rest := []) (kX6_isInRange l_ G b_ M N 1 z (by omega) (by omega)) (va_cwS 2 S.2.2.2.2 gX10_stone_X6_isInRange rfl rfl rfl (by decide +kernel) ⟨Nat.le_of_ble_eq_true rfl, Nat.le_of_ble_eq_true rfl⟩) rfl rfl hl.1 (Nat.le_of_ble_eq_true rfl) dX10_stone_10 (c1 := 0) (s1 := 0) ⟨⟨rfl, rfl⟩, by decide, by decide⟩ (fun H locs hV => ?_)
    refine sq_eq (tgt := 37) S dX10_stone_13 (by decide) (fun c18 => ?_) (fun c18 => ?_)
    · unfold irP at c18
      refine si_const S dX10_stone_37 ?_
      refine lv_istore (lv' := [(5, .int (sI 0)), (0, .ref c), (1, .int (sI k)), (2, .int (sI z)), (3, .int (sI u)), (4, .int (sI v))]) hx_ hb_ dX10_stone_38 hl (by decide) rfl (fun ls hl => ?_)
      refine lv_iload hx_ hb_ dX10_stone_40 (lv_at hl 0 rfl) ?_
      refine sz_eq (tgt := 55) S dX10_stone_42 (by decide) (by omega) (fun _ => ?_) (fun c19 => absurd c19 (by omega))
      refine si_const S dX10_stone_55 ?_
      refine lv_istore (lv' := [(6, .int (sI 0)), (5, .int (sI 0)), (0, .ref c), (1, .int (sI k)), (2, .int (sI z)), (3, .int (sI u)), (4, .int (sI v))]) hx_ hb_ dX10_stone_56 hl (by decide) rfl (fun ls hl => ?_)
      refine lv_iload hx_ hb_ dX10_stone_58 (lv_at hl 1 rfl) ?_
      refine sz_eq (tgt := 73) S dX10_stone_60 (by decide) (by omega) (fun _ => ?_) (fun c20 => absurd c20 (by omega))
      refine si_const S dX10_stone_73 ?_
      refine lv_istore (lv' := [(7, .int (sI (-1))), (6, .int (sI 0)), (5, .int (sI 0)), (0, .ref c), (1, .int (sI k)), (2, .int (sI z)), (3, .int (sI u)), (4, .int (sI v))]) hx_ hb_ dX10_stone_74 hl (by decide) rfl (fun ls hl => ?_)
      refine lv_iload hx_ hb_ dX10_stone_76 (lv_at hl 0 rfl) ?_
      refine si_const S dX10_stone_78 ?_
      refine sb_ne (tgt := 103) S dX10_stone_79 (by decide) (by omega) (fun c21 => absurd c21 (by omega)) (fun _ => ?_)
      refine lv_iload hx_ hb_ dX10_stone_82 (lv_at hl 2 rfl) ?_
      refine sz_eq (tgt := 103) S dX10_stone_84 (by decide) (by omega) (fun _ => ?_) (fun c22 => absurd c22 (by omega))
      refine lv_aload_n hx_ hb_ dX10_stone_103 rfl (lv_at hl 3 rfl) ?_
      refine sc_get (ci := 8) (C := RX10) (T := TX10) (n := 11) S hK hV inX10_ hc0 rfl 5 (by decide) (S.2.2.2.2 _ (List.mem_of_getElem? (i := 5) rfl)) rfl rfl dX10_stone_104 ?_
      refine lv_iload hx_ hb_ dX10_stone_107 (lv_at hl 0 rfl) ?_
      refine sk_Vv E hV (As := [.int (sI (-1))]) (rest := []) (kX9_wasRead l_ G b_ M N (c + 32) tn te (-1) ht0) (cwV 1 S.2.2.2.2 gX10_stone_X9_wasRead rfl rfl rfl (by decide +kernel) ⟨Nat.le_of_ble_eq_true rfl, Nat.le_of_ble_eq_true rfl⟩) (ci := 7) ht0 rfl rfl rfl hl.1 (Nat.le_of_ble_eq_true rfl) dX10_stone_109 (c1 := 0) (s1 := 0) ⟨⟨rfl, rfl⟩, by decide, by decide⟩ (fun M23 N24 H locs hp25 hV => ?_)
      obtain ⟨hN27, hc28, hf29⟩ := hp25
      rw [hN27] at hV
      refine lv_iload hx_ hb_ dX10_stone_112 (lv_at hl 2 rfl) ?_
      refine sz_eq (tgt := 123) S dX10_stone_114 (by decide) (by omega) (fun _ => ?_) (fun c30 => absurd c30 (by omega))
      have hc31 : M23 c = some (xO c kn ch) := (hf29 c (by omega)).trans hc0
      have hc32 : stC G M23 (c + 1) f := hst.fr (fun x q8 q9 => hf29 x (by omega))
      have hc33 : kpC G M23 (c + 31) kb kn ch fs := hkp.fr (fun x q8 => hf29 x (by omega))
      have hc34 : M23 (c + 33) = some (sArr G 300 t) := (hf29 (c + 33) (by omega)).trans ht1
      exact xt_S (own := RX10) (rest := []) E hF_ hxt_ hQ hlt (ik := 113) (is := 115) (ic := 117) (cls := "java/lang/IllegalArgumentException") (text := "no such stone can come") (by decide +kernel) xg_IA (List.mem_of_getElem? (i := 1) rfl) (List.mem_of_getElem? (i := 2) rfl) (fun _ h => List.mem_cons_of_mem _ (List.mem_append_left _ (List.mem_append_right _ h))) (List.mem_of_getElem? (i := 1) rfl) hl.1 dX10_stone_123 dX10_stone_126 dX10_stone_127 dX10_stone_129 dX10_stone_132 ⟨Nat.le_of_ble_eq_true rfl, Nat.le_of_ble_eq_true rfl, Nat.le_of_ble_eq_true rfl, Nat.le_of_ble_eq_true rfl⟩ ⟨Nat.le_of_ble_eq_true rfl, Nat.le_of_ble_eq_true rfl⟩ hV (fun N9 h9 => ⟨_, by omega, fun x q0 q1 q2 q3 q4 => hf29 x (by omega), Or.inl ⟨(by unfold nuP; omega), rfl, hc31, hc32, hc33, hc28, hc34⟩⟩)
    · unfold irP at c18
      refine si_const S dX10_stone_16 ?_
      refine lv_iload_n hx_ hb_ dX10_stone_17 rfl (lv_at hl 3 rfl) ?_
      refine sk_SP E hV (As := [.int (sI 2), .int (sI u)]) (rest := []) (kX6_isInRange l_ G b_ M N 2 u (by omega) (by omega)) (va_cwS 2 S.2.2.2.2 gX10_stone_X6_isInRange rfl rfl rfl (by decide +kernel) ⟨Nat.le_of_ble_eq_true rfl, Nat.le_of_ble_eq_true rfl⟩) rfl rfl hl.1 (Nat.le_of_ble_eq_true rfl) dX10_stone_18 (c1 := 0) (s1 := 0) ⟨⟨rfl, rfl⟩, by decide, by decide⟩ (fun H locs hV => ?_)
      refine sq_eq (tgt := 37) S dX10_stone_21 (by decide) (fun c35 => ?_) (fun c35 => ?_)
      · unfold irP at c35
        refine si_const S dX10_stone_37 ?_
        refine lv_istore (lv' := [(5, .int (sI 0)), (0, .ref c), (1, .int (sI k)), (2, .int (sI z)), (3, .int (sI u)), (4, .int (sI v))]) hx_ hb_ dX10_stone_38 hl (by decide) rfl (fun ls hl => ?_)
        refine lv_iload hx_ hb_ dX10_stone_40 (lv_at hl 0 rfl) ?_
        refine sz_eq (tgt := 55) S dX10_stone_42 (by decide) (by omega) (fun _ => ?_) (fun c36 => absurd c36 (by omega))
        refine si_const S dX10_stone_55 ?_
        refine lv_istore (lv' := [(6, .int (sI 0)), (5, .int (sI 0)), (0, .ref c), (1, .int (sI k)), (2, .int (sI z)), (3, .int (sI u)), (4, .int (sI v))]) hx_ hb_ dX10_stone_56 hl (by decide) rfl (fun ls hl => ?_)
        refine lv_iload hx_ hb_ dX10_stone_58 (lv_at hl 1 rfl) ?_
        refine sz_eq (tgt := 73) S dX10_stone_60 (by decide) (by omega) (fun _ => ?_) (fun c37 => absurd c37 (by omega))
        refine si_const S dX10_stone_73 ?_
        refine lv_istore (lv' := [(7, .int (sI (-1))), (6, .int (sI 0)), (5, .int (sI 0)), (0, .ref c), (1, .int (sI k)), (2, .int (sI z)), (3, .int (sI u)), (4, .int (sI v))]) hx_ hb_ dX10_stone_74 hl (by decide) rfl (fun ls hl => ?_)
        refine lv_iload hx_ hb_ dX10_stone_76 (lv_at hl 0 rfl) ?_
        refine si_const S dX10_stone_78 ?_
        refine sb_ne (tgt := 103) S dX10_stone_79 (by decide) (by omega) (fun c38 => absurd c38 (by omega)) (fun _ => ?_)
        refine lv_iload hx_ hb_ dX10_stone_82 (lv_at hl 2 rfl) ?_
        refine sz_eq (tgt := 103) S dX10_stone_84 (by decide) (by omega) (fun _ => ?_) (fun c39 => absurd c39 (by omega))
        refine lv_aload_n hx_ hb_ dX10_stone_103 rfl (lv_at hl 3 rfl) ?_
        refine sc_get (ci := 8) (C := RX10) (T := TX10) (n := 11) S hK hV inX10_ hc0 rfl 5 (by decide) (S.2.2.2.2 _ (List.mem_of_getElem? (i := 5) rfl)) rfl rfl dX10_stone_104 ?_
        refine lv_iload hx_ hb_ dX10_stone_107 (lv_at hl 0 rfl) ?_
        refine sk_Vv E hV (As := [.int (sI (-1))]) (rest := []) (kX9_wasRead l_ G b_ M N (c + 32) tn te (-1) ht0) (cwV 1 S.2.2.2.2 gX10_stone_X9_wasRead rfl rfl rfl (by decide +kernel) ⟨Nat.le_of_ble_eq_true rfl, Nat.le_of_ble_eq_true rfl⟩) (ci := 7) ht0 rfl rfl rfl hl.1 (Nat.le_of_ble_eq_true rfl) dX10_stone_109 (c1 := 0) (s1 := 0) ⟨⟨rfl, rfl⟩, by decide, by decide⟩ (fun M40 N41 H locs hp42 hV => ?_)
        obtain ⟨hN44, hc45, hf46⟩ := hp42
        rw [hN44] at hV
        refine lv_iload hx_ hb_ dX10_stone_112 (lv_at hl 2 rfl) ?_
        refine sz_eq (tgt := 123) S dX10_stone_114 (by decide) (by omega) (fun _ => ?_) (fun c47 => absurd c47 (by omega))
        have hc48 : M40 c = some (xO c kn ch) := (hf46 c (by omega)).trans hc0
        have hc49 : stC G M40 (c + 1) f := hst.fr (fun x q8 q9 => hf46 x (by omega))
        have hc50 : kpC G M40 (c + 31) kb kn ch fs := hkp.fr (fun x q8 => hf46 x (by omega))
        have hc51 : M40 (c + 33) = some (sArr G 300 t) := (hf46 (c + 33) (by omega)).trans ht1
        exact xt_S (own := RX10) (rest := []) E hF_ hxt_ hQ hlt (ik := 113) (is := 115) (ic := 117) (cls := "java/lang/IllegalArgumentException") (text := "no such stone can come") (by decide +kernel) xg_IA (List.mem_of_getElem? (i := 1) rfl) (List.mem_of_getElem? (i := 2) rfl) (fun _ h => List.mem_cons_of_mem _ (List.mem_append_left _ (List.mem_append_right _ h))) (List.mem_of_getElem? (i := 1) rfl) hl.1 dX10_stone_123 dX10_stone_126 dX10_stone_127 dX10_stone_129 dX10_stone_132 ⟨Nat.le_of_ble_eq_true rfl, Nat.le_of_ble_eq_true rfl, Nat.le_of_ble_eq_true rfl, Nat.le_of_ble_eq_true rfl⟩ ⟨Nat.le_of_ble_eq_true rfl, Nat.le_of_ble_eq_true rfl⟩ hV (fun N9 h9 => ⟨_, by omega, fun x q0 q1 q2 q3 q4 => hf46 x (by omega), Or.inl ⟨(by unfold nuP; omega), rfl, hc48, hc49, hc50, hc45, hc51⟩⟩)
      · unfold irP at c35
        refine si_const S dX10_stone_24 ?_
        refine lv_iload hx_ hb_ dX10_stone_25 (lv_at hl 4 rfl) ?_
        refine sk_SP E hV (As := [.int (sI 3), .int (sI v)]) (rest := []) (kX6_isInRange l_ G b_ M N 3 v (by omega) (by omega)) (va_cwS 2 S.2.2.2.2 gX10_stone_X6_isInRange rfl rfl rfl (by decide +kernel) ⟨Nat.le_of_ble_eq_true rfl, Nat.le_of_ble_eq_true rfl⟩) rfl rfl hl.1 (Nat.le_of_ble_eq_true rfl) dX10_stone_27 (c1 := 0) (s1 := 0) ⟨⟨rfl, rfl⟩, by decide, by decide⟩ (fun H locs hV => ?_)
        refine sq_eq (tgt := 37) S dX10_stone_30 (by decide) (fun c52 => ?_) (fun c52 => ?_)
        · unfold irP at c52
          refine si_const S dX10_stone_37 ?_
          refine lv_istore (lv' := [(5, .int (sI 0)), (0, .ref c), (1, .int (sI k)), (2, .int (sI z)), (3, .int (sI u)), (4, .int (sI v))]) hx_ hb_ dX10_stone_38 hl (by decide) rfl (fun ls hl => ?_)
          refine lv_iload hx_ hb_ dX10_stone_40 (lv_at hl 0 rfl) ?_
          refine sz_eq (tgt := 55) S dX10_stone_42 (by decide) (by omega) (fun _ => ?_) (fun c53 => absurd c53 (by omega))
          refine si_const S dX10_stone_55 ?_
          refine lv_istore (lv' := [(6, .int (sI 0)), (5, .int (sI 0)), (0, .ref c), (1, .int (sI k)), (2, .int (sI z)), (3, .int (sI u)), (4, .int (sI v))]) hx_ hb_ dX10_stone_56 hl (by decide) rfl (fun ls hl => ?_)
          refine lv_iload hx_ hb_ dX10_stone_58 (lv_at hl 1 rfl) ?_
          refine sz_eq (tgt := 73) S dX10_stone_60 (by decide) (by omega) (fun _ => ?_) (fun c54 => absurd c54 (by omega))
          refine si_const S dX10_stone_73 ?_
          refine lv_istore (lv' := [(7, .int (sI (-1))), (6, .int (sI 0)), (5, .int (sI 0)), (0, .ref c), (1, .int (sI k)), (2, .int (sI z)), (3, .int (sI u)), (4, .int (sI v))]) hx_ hb_ dX10_stone_74 hl (by decide) rfl (fun ls hl => ?_)
          refine lv_iload hx_ hb_ dX10_stone_76 (lv_at hl 0 rfl) ?_
          refine si_const S dX10_stone_78 ?_
          refine sb_ne (tgt := 103) S dX10_stone_79 (by decide) (by omega) (fun c55 => absurd c55 (by omega)) (fun _ => ?_)
          refine lv_iload hx_ hb_ dX10_stone_82 (lv_at hl 2 rfl) ?_
          refine sz_eq (tgt := 103) S dX10_stone_84 (by decide) (by omega) (fun _ => ?_) (fun c56 => absurd c56 (by omega))
          refine lv_aload_n hx_ hb_ dX10_stone_103 rfl (lv_at hl 3 rfl) ?_
          refine sc_get (ci := 8) (C := RX10) (T := TX10) (n := 11) S hK hV inX10_ hc0 rfl 5 (by decide) (S.2.2.2.2 _ (List.mem_of_getElem? (i := 5) rfl)) rfl rfl dX10_stone_104 ?_
          refine lv_iload hx_ hb_ dX10_stone_107 (lv_at hl 0 rfl) ?_
          refine sk_Vv E hV (As := [.int (sI (-1))]) (rest := []) (kX9_wasRead l_ G b_ M N (c + 32) tn te (-1) ht0) (cwV 1 S.2.2.2.2 gX10_stone_X9_wasRead rfl rfl rfl (by decide +kernel) ⟨Nat.le_of_ble_eq_true rfl, Nat.le_of_ble_eq_true rfl⟩) (ci := 7) ht0 rfl rfl rfl hl.1 (Nat.le_of_ble_eq_true rfl) dX10_stone_109 (c1 := 0) (s1 := 0) ⟨⟨rfl, rfl⟩, by decide, by decide⟩ (fun M57 N58 H locs hp59 hV => ?_)
          obtain ⟨hN61, hc62, hf63⟩ := hp59
          rw [hN61] at hV
          refine lv_iload hx_ hb_ dX10_stone_112 (lv_at hl 2 rfl) ?_
          refine sz_eq (tgt := 123) S dX10_stone_114 (by decide) (by omega) (fun _ => ?_) (fun c64 => absurd c64 (by omega))
          have hc65 : M57 c = some (xO c kn ch) := (hf63 c (by omega)).trans hc0
          have hc66 : stC G M57 (c + 1) f := hst.fr (fun x q8 q9 => hf63 x (by omega))
          have hc67 : kpC G M57 (c + 31) kb kn ch fs := hkp.fr (fun x q8 => hf63 x (by omega))
          have hc68 : M57 (c + 33) = some (sArr G 300 t) := (hf63 (c + 33) (by omega)).trans ht1
          exact xt_S (own := RX10) (rest := []) E hF_ hxt_ hQ hlt (ik := 113) (is := 115) (ic := 117) (cls := "java/lang/IllegalArgumentException") (text := "no such stone can come") (by decide +kernel) xg_IA (List.mem_of_getElem? (i := 1) rfl) (List.mem_of_getElem? (i := 2) rfl) (fun _ h => List.mem_cons_of_mem _ (List.mem_append_left _ (List.mem_append_right _ h))) (List.mem_of_getElem? (i := 1) rfl) hl.1 dX10_stone_123 dX10_stone_126 dX10_stone_127 dX10_stone_129 dX10_stone_132 ⟨Nat.le_of_ble_eq_true rfl, Nat.le_of_ble_eq_true rfl, Nat.le_of_ble_eq_true rfl, Nat.le_of_ble_eq_true rfl⟩ ⟨Nat.le_of_ble_eq_true rfl, Nat.le_of_ble_eq_true rfl⟩ hV (fun N9 h9 => ⟨_, by omega, fun x q0 q1 q2 q3 q4 => hf63 x (by omega), Or.inl ⟨(by unfold nuP; omega), rfl, hc65, hc66, hc67, hc62, hc68⟩⟩)
        · unfold irP at c52
          refine si_const S dX10_stone_33 ?_
          refine lv_goto (tgt := 38) hx_ hb_ dX10_stone_34 (by decide) ?_
          refine lv_istore (lv' := [(5, .int (sI 1)), (0, .ref c), (1, .int (sI k)), (2, .int (sI z)), (3, .int (sI u)), (4, .int (sI v))]) hx_ hb_ dX10_stone_38 hl (by decide) rfl (fun ls hl => ?_)
          refine lv_iload hx_ hb_ dX10_stone_40 (lv_at hl 0 rfl) ?_
          refine sz_eq (tgt := 55) S dX10_stone_42 (by decide) (by omega) (fun c69 => absurd c69 (by omega)) (fun _ => ?_)
          refine lv_aload_n hx_ hb_ dX10_stone_45 rfl (lv_at hl 1 rfl) ?_
          refine sc_get (ci := 8) (C := RX10) (T := TX10) (n := 11) S hK hV inX10_ hc0 rfl 5 (by decide) (S.2.2.2.2 _ (List.mem_of_getElem? (i := 5) rfl)) rfl rfl dX10_stone_46 ?_
          refine sk_VP E hV (As := []) (rest := []) (kX9_codeOnIt l_ G b_ M N (c + 32) tn te t ht0 ht1 (by omega)) (cwV 0 S.2.2.2.2 gX10_stone_X9_codeOnIt rfl rfl rfl (by decide +kernel) ⟨Nat.le_of_ble_eq_true rfl, Nat.le_of_ble_eq_true rfl⟩) (ci := 7) ht0 rfl rfl rfl hl.1 (Nat.le_of_ble_eq_true rfl) dX10_stone_49 (c1 := 0) (s1 := 0) ⟨⟨rfl, rfl⟩, by decide, by decide⟩ (fun H locs hV => ?_)
          refine lv_goto (tgt := 56) hx_ hb_ dX10_stone_52 (by decide) ?_
          refine lv_istore (lv' := [(6, .int (sI (cfI t tn 0 (min 4 tn)))), (5, .int (sI 1)), (0, .ref c), (1, .int (sI k)), (2, .int (sI z)), (3, .int (sI u)), (4, .int (sI v))]) hx_ hb_ dX10_stone_56 hl (by decide) rfl (fun ls hl => ?_)
          refine lv_iload hx_ hb_ dX10_stone_58 (lv_at hl 1 rfl) ?_
          refine sz_eq (tgt := 73) S dX10_stone_60 (by decide) (by omega) (fun c70 => absurd c70 (by omega)) (fun _ => ?_)
          refine lv_aload_n hx_ hb_ dX10_stone_63 rfl (lv_at hl 2 rfl) ?_
          refine sc_get (ci := 8) (C := RX10) (T := TX10) (n := 11) S hK hV inX10_ hc0 rfl 5 (by decide) (S.2.2.2.2 _ (List.mem_of_getElem? (i := 5) rfl)) rfl rfl dX10_stone_64 ?_
          refine sk_VP E hV (As := []) (rest := []) (kX9_codeError l_ G b_ M N (c + 32) tn te t ht0 ht1 (by omega)) (cwV 0 S.2.2.2.2 gX10_stone_X9_codeError rfl rfl rfl (by decide +kernel) ⟨Nat.le_of_ble_eq_true rfl, Nat.le_of_ble_eq_true rfl⟩) (ci := 7) ht0 rfl rfl rfl hl.1 (Nat.le_of_ble_eq_true rfl) dX10_stone_67 (c1 := 0) (s1 := 0) ⟨⟨rfl, rfl⟩, by decide, by decide⟩ (fun H locs hV => ?_)
          refine lv_goto (tgt := 74) hx_ hb_ dX10_stone_70 (by decide) ?_
          refine lv_istore (lv' := [(7, .int (sI (ceI t tn))), (6, .int (sI (cfI t tn 0 (min 4 tn)))), (5, .int (sI 1)), (0, .ref c), (1, .int (sI k)), (2, .int (sI z)), (3, .int (sI u)), (4, .int (sI v))]) hx_ hb_ dX10_stone_74 hl (by decide) rfl (fun ls hl => ?_)
          refine lv_iload hx_ hb_ dX10_stone_76 (lv_at hl 0 rfl) ?_
          refine si_const S dX10_stone_78 ?_
          have hcer := ce_c t tn
          have hce2 : -1 ≤ ceI t tn ∧ ceI t tn ≤ 4 := by rcases hcer with q | q <;> omega
          clear hcer
          refine sb_ne (tgt := 103) S dX10_stone_79 (by decide) (by omega) (fun c71 => ?_) (fun c71 => ?_)
          · have hisN : ¬ isC t tn ∧ ceI t tn = ltc t tn := by rcases ce_c t tn with q | q; omega; exact q
            refine lv_aload_n hx_ hb_ dX10_stone_103 rfl (lv_at hl 3 rfl) ?_
            refine sc_get (ci := 8) (C := RX10) (T := TX10) (n := 11) S hK hV inX10_ hc0 rfl 5 (by decide) (S.2.2.2.2 _ (List.mem_of_getElem? (i := 5) rfl)) rfl rfl dX10_stone_104 ?_
            refine lv_iload hx_ hb_ dX10_stone_107 (lv_at hl 0 rfl) ?_
            refine sk_Vv E hV (As := [.int (sI (ceI t tn))]) (rest := []) (kX9_wasRead l_ G b_ M N (c + 32) tn te (ceI t tn) ht0) (cwV 1 S.2.2.2.2 gX10_stone_X9_wasRead rfl rfl rfl (by decide +kernel) ⟨Nat.le_of_ble_eq_true rfl, Nat.le_of_ble_eq_true rfl⟩) (ci := 7) ht0 rfl rfl rfl hl.1 (Nat.le_of_ble_eq_true rfl) dX10_stone_109 (c1 := 0) (s1 := 0) ⟨⟨rfl, rfl⟩, by decide, by decide⟩ (fun M72 N73 H locs hp74 hV => ?_)
            obtain ⟨hN76, hc77, hf78⟩ := hp74
            rw [hN76] at hV
            refine lv_iload hx_ hb_ dX10_stone_112 (lv_at hl 2 rfl) ?_
            refine sz_eq (tgt := 123) S dX10_stone_114 (by decide) (by omega) (fun c79 => absurd c79 (by omega)) (fun _ => ?_)
            refine lv_iload hx_ hb_ dX10_stone_117 (lv_at hl 0 rfl) ?_
            refine si_const S dX10_stone_119 ?_
            refine sb_eq (tgt := 133) S dX10_stone_120 (by decide) (by omega) (fun c80 => absurd c80 (by omega)) (fun _ => ?_)
            have hc81 : M72 c = some (xO c kn ch) := (hf78 c (by omega)).trans hc0
            have hc82 : stC G M72 (c + 1) f := hst.fr (fun x q8 q9 => hf78 x (by omega))
            have hc83 : kpC G M72 (c + 31) kb kn ch fs := hkp.fr (fun x q8 => hf78 x (by omega))
            have hc84 : M72 (c + 33) = some (sArr G 300 t) := (hf78 (c + 33) (by omega)).trans ht1
            exact xt_S (own := RX10) (rest := []) E hF_ hxt_ hQ hlt (ik := 113) (is := 115) (ic := 117) (cls := "java/lang/IllegalArgumentException") (text := "no such stone can come") (by decide +kernel) xg_IA (List.mem_of_getElem? (i := 1) rfl) (List.mem_of_getElem? (i := 2) rfl) (fun _ h => List.mem_cons_of_mem _ (List.mem_append_left _ (List.mem_append_right _ h))) (List.mem_of_getElem? (i := 1) rfl) hl.1 dX10_stone_123 dX10_stone_126 dX10_stone_127 dX10_stone_129 dX10_stone_132 ⟨Nat.le_of_ble_eq_true rfl, Nat.le_of_ble_eq_true rfl, Nat.le_of_ble_eq_true rfl, Nat.le_of_ble_eq_true rfl⟩ ⟨Nat.le_of_ble_eq_true rfl, Nat.le_of_ble_eq_true rfl⟩ hV (fun N9 h9 => ⟨_, by omega, fun x q0 q1 q2 q3 q4 => hf78 x (by omega), Or.inr (Or.inl ⟨(⟨by unfold nuP; omega, hisN.1⟩), rfl, hc81, hc82, hc83, by rw [← hisN.2]; exact hc77, hc84⟩)⟩)
          · have hisC : isC t tn := by rcases ce_c t tn with q | q; exact q.1; have := (ltc_r t tn).1; omega
            refine lv_iload hx_ hb_ dX10_stone_82 (lv_at hl 2 rfl) ?_
            refine sz_eq (tgt := 103) S dX10_stone_84 (by decide) (by omega) (fun c85 => absurd c85 (by omega)) (fun _ => ?_)
            have hcc := cf_c (t := t) (n := tn) hisC
            have hce1 : ceI t tn = -1 := by omega
            rw [hcc, hce1] at hl
            have hcA := coA_b t tn 0
            refine lv_aload_n hx_ hb_ dX10_stone_87 rfl (lv_at hl 3 rfl) ?_
            refine sc_get (ci := 8) (C := RX10) (T := TX10) (n := 11) S hK hV inX10_ hc0 rfl 0 (by decide) (S.2.2.2.2 _ (List.mem_of_getElem? (i := 6) rfl)) rfl rfl dX10_stone_88 ?_
            refine lv_iload hx_ hb_ dX10_stone_91 (lv_at hl 1 rfl) ?_
            refine sk_VP E hV (As := [.int (sI (cod (coA t tn 0)))]) (rest := []) (kX6_numberOf l_ G b_ M N (c + 1) f (coA t tn 0) hst (by omega) (by omega)) (cwV 1 S.2.2.2.2 gX10_stone_X6_numberOf rfl rfl rfl (by decide +kernel) ⟨Nat.le_of_ble_eq_true rfl, Nat.le_of_ble_eq_true rfl⟩) (ci := 4) (hst).1 rfl rfl rfl hl.1 (Nat.le_of_ble_eq_true rfl) dX10_stone_93 (c1 := 0) (s1 := 0) ⟨⟨rfl, rfl⟩, by decide, by decide⟩ (fun H locs hV => ?_)
            refine si_const S dX10_stone_96 ?_
            refine sb_eq (tgt := 103) S dX10_stone_97 (by decide) (by have := idx_r (fun q => f q = coA t tn 0) (n := f 568) (by omega); omega) (fun c86 => ?_) (fun c86 => ?_)
            · refine lv_aload_n hx_ hb_ dX10_stone_103 rfl (lv_at hl 3 rfl) ?_
              refine sc_get (ci := 8) (C := RX10) (T := TX10) (n := 11) S hK hV inX10_ hc0 rfl 5 (by decide) (S.2.2.2.2 _ (List.mem_of_getElem? (i := 5) rfl)) rfl rfl dX10_stone_104 ?_
              refine lv_iload hx_ hb_ dX10_stone_107 (lv_at hl 0 rfl) ?_
              refine sk_Vv E hV (As := [.int (sI (-1))]) (rest := []) (kX9_wasRead l_ G b_ M N (c + 32) tn te (-1) ht0) (cwV 1 S.2.2.2.2 gX10_stone_X9_wasRead rfl rfl rfl (by decide +kernel) ⟨Nat.le_of_ble_eq_true rfl, Nat.le_of_ble_eq_true rfl⟩) (ci := 7) ht0 rfl rfl rfl hl.1 (Nat.le_of_ble_eq_true rfl) dX10_stone_109 (c1 := 0) (s1 := 0) ⟨⟨rfl, rfl⟩, by decide, by decide⟩ (fun M87 N88 H locs hp89 hV => ?_)
              obtain ⟨hN91, hc92, hf93⟩ := hp89
              rw [hN91] at hV
              refine lv_iload hx_ hb_ dX10_stone_112 (lv_at hl 2 rfl) ?_
              refine sz_eq (tgt := 123) S dX10_stone_114 (by decide) (by omega) (fun c94 => absurd c94 (by omega)) (fun _ => ?_)
              refine lv_iload hx_ hb_ dX10_stone_117 (lv_at hl 0 rfl) ?_
              refine si_const S dX10_stone_119 ?_
              refine sb_eq (tgt := 133) S dX10_stone_120 (by decide) (by omega) (fun _ => ?_) (fun c95 => absurd c95 (by omega))
              refine lv_aload_n hx_ hb_ dX10_stone_133 rfl (lv_at hl 3 rfl) ?_
              have hc96 : M87 c = some (xO c kn ch) := (hf93 c (by omega)).trans hc0
              refine sc_get (ci := 8) (C := RX10) (T := TX10) (n := 11) S hK hV inX10_ hc96 rfl 0 (by decide) (S.2.2.2.2 _ (List.mem_of_getElem? (i := 6) rfl)) rfl rfl dX10_stone_134 ?_
              have hc97 : stC G M87 (c + 1) f := hst.fr (fun x q8 q9 => hf93 x (by omega))
              refine sc_getN (ci := 4) (C := RX6) (T := TX6) (n := 8) S hK hV inX6_ (hc97).1 rfl 0 (by decide) (E.2.2.2.2.2.1.1.2.1 _ (List.mem_of_getElem? (i := 3) rfl)) rfl rfl dX10_stone_137 ?_
              refine sk_VP E hV (As := []) (rest := []) (kTf l_ G b_ M87 N (c + 2) 7 (f 568) 70 (tvS f) (10 ≤ f 568) ((hc97).2.1) (by omega) (by omega)) (cwV 0 S.2.2.2.2 gX10_stone_X8_isFull rfl rfl rfl (by decide +kernel) ⟨Nat.le_of_ble_eq_true rfl, Nat.le_of_ble_eq_true rfl⟩) (ci := 6) ((hc97).2.1).1 rfl rfl rfl hl.1 (Nat.le_of_ble_eq_true rfl) dX10_stone_140 (c1 := 0) (s1 := 0) ⟨⟨rfl, rfl⟩, by decide, by decide⟩ (fun H locs hV => ?_)
              refine sq_eq (tgt := 156) S dX10_stone_143 (by decide) (fun c98 => ?_) (fun c98 => ?_)
              · refine lv_aload_n hx_ hb_ dX10_stone_156 rfl (lv_at hl 3 rfl) ?_
                have hc99 : kpC G M87 (c + 31) kb kn ch fs := hkp.fr (fun x q8 => hf93 x (by omega))
                refine sk_Vv E hV (As := []) (rest := []) (kX10_keepState l_ G b_ M87 N c kn ch f kb fs hc96 hc97 hc99 (by omega) (by omega) (by omega)) (cwV 0 S.2.2.2.2 gX10_stone_X10_keepState rfl rfl rfl (by decide +kernel) ⟨Nat.le_of_ble_eq_true rfl, Nat.le_of_ble_eq_true rfl⟩) (ci := 8) hc96 rfl rfl rfl hl.1 (Nat.le_of_ble_eq_true rfl) dX10_stone_157 (c1 := 15) (s1 := 2900) ⟨⟨rfl, rfl⟩, by decide, by decide⟩ (fun M100 N101 H locs hp102 hV => ?_)
                obtain ⟨kn1104, hN105, hc106, hc107, hf108⟩ := hp102
                refine lv_aload_n hx_ hb_ dX10_stone_160 rfl (lv_at hl 3 rfl) ?_
                refine sc_get (ci := 8) (C := RX10) (T := TX10) (n := 11) S hK hV inX10_ hc106 rfl 0 (by decide) (S.2.2.2.2 _ (List.mem_of_getElem? (i := 6) rfl)) rfl rfl dX10_stone_161 ?_
                refine lv_iload hx_ hb_ dX10_stone_164 (lv_at hl 1 rfl) ?_
                refine lv_iload_n hx_ hb_ dX10_stone_166 rfl (lv_at hl 4 rfl) ?_
                refine lv_iload_n hx_ hb_ dX10_stone_167 rfl (lv_at hl 5 rfl) ?_
                refine lv_iload_n hx_ hb_ dX10_stone_168 rfl (lv_at hl 6 rfl) ?_
                refine lv_iload hx_ hb_ dX10_stone_169 (lv_at hl 7 rfl) ?_
                have hc109 : stC G M100 (c + 1) f := hc97.fr (fun x q8 q9 => hf108 x (by omega) (by omega) (by omega))
                refine sk_Vi E hV (As := [.int (sI (cod (coA t tn 0))), .int (sI k), .int (sI z), .int (sI u), .int (sI v)]) (rest := []) (kX6_addStone l_ G b_ M100 N101 (c + 1) f (coA t tn 0) k z u v hc109 (by omega) (by omega)) (cwV 5 S.2.2.2.2 gX10_stone_X6_addStone rfl rfl rfl (by decide +kernel) ⟨Nat.le_of_ble_eq_true rfl, Nat.le_of_ble_eq_true rfl⟩) (ci := 4) (hc109).1 rfl rfl rfl hl.1 (Nat.le_of_ble_eq_true rfl) dX10_stone_171 (c1 := 15) (s1 := 2900) ⟨⟨rfl, rfl⟩, by decide, by decide⟩ (fun z113 M110 N111 H locs hp112 hV => ?_)
                obtain ⟨ez114, hN115, hc116, hf117⟩ := hp112
                rw [hN115] at hV
                rw [ez114]
                have hc118 : M110 c = some (xO c kn1104 (chn ch)) := (hf117 c (by omega) (by omega)).trans hc106
                have hc119 : kpC G M110 (c + 31) kb kn1104 (chn ch) (fsn ch fs f) := hc107.fr (fun x q8 => hf117 x (by omega) (by omega))
                have hc120 : M110 (c + 32) = some (sObj 7 [.ref (c + 33), .int (sI 0), .int (sI (-1))]) := ((hf117 (c + 32) (by omega) (by omega)).trans (hf108 (c + 32) (by omega) (by omega) (by omega))).trans hc92
                have hc121 : M110 (c + 33) = some (sArr G 300 t) := (((hf117 (c + 33) (by omega) (by omega)).trans (hf108 (c + 33) (by omega) (by omega) (by omega))).trans (hf93 (c + 33) (by omega))).trans ht1
                exact xr_i E hQ dX10_stone_174 ⟨Nat.le_of_ble_eq_true rfl, Nat.le_of_ble_eq_true rfl⟩ hV (⟨_, by omega, fun x q0 q1 q2 q3 q4 => ((hf117 x (by omega) (by omega)).trans (hf108 x (by omega) (by omega) (by omega))).trans (hf93 x (by omega)), ⟨(⟨by unfold nuP; omega, hisC, by omega, by omega⟩), rfl, hc118, hc116, hc119, hc120, hc121⟩⟩)
              · have hc122 : kpC G M87 (c + 31) kb kn ch fs := hkp.fr (fun x q8 => hf93 x (by omega))
                have hc123 : M87 (c + 33) = some (sArr G 300 t) := (hf93 (c + 33) (by omega)).trans ht1
                exact xt_S (own := RX10) (rest := []) E hF_ hxt_ hQ hlt (ik := 80) (is := 128) (ic := 84) (cls := "java/lang/IllegalStateException") (text := "there are 10 stones") (by decide +kernel) xg_IS (List.mem_of_getElem? (i := 3) rfl) (List.mem_of_getElem? (i := 4) rfl) (fun _ h => List.mem_cons_of_mem _ (List.mem_append_right _ h)) (List.mem_of_getElem? (i := 2) rfl) hl.1 dX10_stone_146 dX10_stone_149 dX10_stone_150 dX10_stone_152 dX10_stone_155 ⟨Nat.le_of_ble_eq_true rfl, Nat.le_of_ble_eq_true rfl, Nat.le_of_ble_eq_true rfl, Nat.le_of_ble_eq_true rfl⟩ ⟨Nat.le_of_ble_eq_true rfl, Nat.le_of_ble_eq_true rfl⟩ hV (fun N9 h9 => ⟨_, by omega, fun x q0 q1 q2 q3 q4 => hf93 x (by omega), Or.inr (Or.inr (Or.inr (⟨(⟨by unfold nuP; omega, hisC, by omega, by omega⟩), rfl, hc96, hc97, hc122, hc92, hc123⟩)))⟩)
            · refine si_const S dX10_stone_100 ?_
              refine lv_istore (lv' := [(7, .int (sI 0)), (6, .int (sI (cod (coA t tn 0)))), (5, .int (sI 1)), (0, .ref c), (1, .int (sI k)), (2, .int (sI z)), (3, .int (sI u)), (4, .int (sI v))]) hx_ hb_ dX10_stone_101 hl (by decide) rfl (fun ls hl => ?_)
              refine lv_aload_n hx_ hb_ dX10_stone_103 rfl (lv_at hl 3 rfl) ?_
              refine sc_get (ci := 8) (C := RX10) (T := TX10) (n := 11) S hK hV inX10_ hc0 rfl 5 (by decide) (S.2.2.2.2 _ (List.mem_of_getElem? (i := 5) rfl)) rfl rfl dX10_stone_104 ?_
              refine lv_iload hx_ hb_ dX10_stone_107 (lv_at hl 0 rfl) ?_
              refine sk_Vv E hV (As := [.int (sI 0)]) (rest := []) (kX9_wasRead l_ G b_ M N (c + 32) tn te 0 ht0) (cwV 1 S.2.2.2.2 gX10_stone_X9_wasRead rfl rfl rfl (by decide +kernel) ⟨Nat.le_of_ble_eq_true rfl, Nat.le_of_ble_eq_true rfl⟩) (ci := 7) ht0 rfl rfl rfl hl.1 (Nat.le_of_ble_eq_true rfl) dX10_stone_109 (c1 := 0) (s1 := 0) ⟨⟨rfl, rfl⟩, by decide, by decide⟩ (fun M124 N125 H locs hp126 hV => ?_)
              obtain ⟨hN128, hc129, hf130⟩ := hp126
              rw [hN128] at hV
              refine lv_iload hx_ hb_ dX10_stone_112 (lv_at hl 2 rfl) ?_
              refine sz_eq (tgt := 123) S dX10_stone_114 (by decide) (by omega) (fun c131 => absurd c131 (by omega)) (fun _ => ?_)
              refine lv_iload hx_ hb_ dX10_stone_117 (lv_at hl 0 rfl) ?_
              refine si_const S dX10_stone_119 ?_
              refine sb_eq (tgt := 133) S dX10_stone_120 (by decide) (by omega) (fun c132 => absurd c132 (by omega)) (fun _ => ?_)
              have hc133 : M124 c = some (xO c kn ch) := (hf130 c (by omega)).trans hc0
              have hc134 : stC G M124 (c + 1) f := hst.fr (fun x q8 q9 => hf130 x (by omega))
              have hc135 : kpC G M124 (c + 31) kb kn ch fs := hkp.fr (fun x q8 => hf130 x (by omega))
              have hc136 : M124 (c + 33) = some (sArr G 300 t) := (hf130 (c + 33) (by omega)).trans ht1
              exact xt_S (own := RX10) (rest := []) E hF_ hxt_ hQ hlt (ik := 113) (is := 115) (ic := 117) (cls := "java/lang/IllegalArgumentException") (text := "no such stone can come") (by decide +kernel) xg_IA (List.mem_of_getElem? (i := 1) rfl) (List.mem_of_getElem? (i := 2) rfl) (fun _ h => List.mem_cons_of_mem _ (List.mem_append_left _ (List.mem_append_right _ h))) (List.mem_of_getElem? (i := 1) rfl) hl.1 dX10_stone_123 dX10_stone_126 dX10_stone_127 dX10_stone_129 dX10_stone_132 ⟨Nat.le_of_ble_eq_true rfl, Nat.le_of_ble_eq_true rfl, Nat.le_of_ble_eq_true rfl, Nat.le_of_ble_eq_true rfl⟩ ⟨Nat.le_of_ble_eq_true rfl, Nat.le_of_ble_eq_true rfl⟩ hV (fun N9 h9 => ⟨_, by omega, fun x q0 q1 q2 q3 q4 => hf130 x (by omega), Or.inr (Or.inr (Or.inl ⟨(⟨by unfold nuP; omega, hisC, by omega⟩), rfl, hc133, hc134, hc135, hc129, hc136⟩))⟩)

