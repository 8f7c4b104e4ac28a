def wyT (f p : sF) (s j o : Int) : Int := if o ≠ s ∧ p o = p s then (if j = 1 then f (20 + o) else f (30 + o)) else 0
def wyP (f p : sF) (s o : Int) : Prop := o ≠ s ∧ p o = p s ∧ tb (f (158 + f (10 + o))) (f (10 + s))
noncomputable def whyM (f p : sF) (s n : Int) : Int := pif (f (150 + p s) < f (20 + s) + isum n (wyT f p s 1)) 1 (pif (f (154 + p s) < f (30 + s) + isum n (wyT f p s 2)) 2 (pif (∃ o, 0 ≤ o ∧ o < n ∧ wyP f p s o) 3 0))
theorem whyM_r (f p : sF) (s n : Int) : 0 ≤ whyM f p s n ∧ whyM f p s n ≤ 3 := by
  unfold whyM
  rcases pif_cases (f (150 + p s) < f (20 + s) + isum n (wyT f p s 1)) 1 (pif (f (154 + p s) < f (30 + s) + isum n (wyT f p s 2)) 2 (pif (∃ o, 0 ≤ o ∧ o < n ∧ wyP f p s o) 3 0)) with ⟨-, e⟩ | ⟨-, e⟩
  · omega
  · rcases pif_cases (f (154 + p s) < f (30 + s) + isum n (wyT f p s 2)) 2 (pif (∃ o, 0 ≤ o ∧ o < n ∧ wyP f p s o) 3 0) with ⟨-, e2⟩ | ⟨-, e2⟩
    · omega
    · rcases pif_cases (∃ o, 0 ≤ o ∧ o < n ∧ wyP f p s o) 3 0 with ⟨-, e3⟩ | ⟨-, e3⟩ <;> omega
theorem whyM_c {f p p2 : sF} {s n : Int} (hs : p s = p2 s) (h : ∀ o, 0 ≤ o → o < n → p o = p2 o) : whyM f p s n = whyM f p2 s n := by
  have h1 : ∀ j, isum n (wyT f p s j) = isum n (wyT f p2 s j) := fun j => isum_c fun k a b => by unfold wyT; rw [hs, h k a b]
  unfold whyM
  rw [h1, h1, hs]
  congr 2
  apply pif_c
  constructor
  · rintro ⟨o, a, b, c, d, e⟩
    exact ⟨o, a, b, c, by rw [← h o a b, ← hs]; exact d, e⟩
  · rintro ⟨o, a, b, c, d, e⟩
    exact ⟨o, a, b, c, by rw [h o a b, hs]; exact d, e⟩
theorem wyT_r {f p : sF} (h : sOk f) (s j o : Int) (a : 0 ≤ o) (b : o < f 568) : 0 ≤ wyT f p s j o ∧ wyT f p s j o ≤ 99 := by
  have := sOk_S h o a b
  unfold wyT
  split
  · split <;> omega
  · omega
theorem wy_r {f p : sF} (h : sOk f) (s j n : Int) (a : 0 ≤ n) (b : n ≤ f 568) : 0 ≤ isum n (wyT f p s j) ∧ isum n (wyT f p s j) ≤ 990 := by
  have := sOk_N h
  exact isum_bn (hi := 99) (N := 10) ⟨a, by omega⟩ (by omega) fun k q r => wyT_r h s j k q (by omega)
/-- what is tried when a stone is laid: the drawers, and its own -/
def pLay (f : sF) (s d : Int) : sF := fun q => if q = s then d else f (50 + q)
noncomputable def whyL (f : sF) (s d : Int) : Int := if d = -1 then 0 else whyM f (pLay f s d) s (f 568)
theorem whyL_r (f : sF) (s d : Int) : 0 ≤ whyL f s d ∧ whyL f s d ≤ 3 := by
  unfold whyL
  split
  · omega
  · exact whyM_r _ _ _ _
noncomputable def layF (f : sF) (s d : Int) : sF := if whyL f s d = 0 then iup f (50 + s) d else f
/-- stones whose drawer is another one as it is tried -/
def ohT (f p : sF) (s : Int) : Int := if f (50 + s) ≠ -1 ∧ f (50 + s) ≠ p s then 1 else 0

abbrev rmX11_lying : Room := { frames := 2, cells := 0, slots := 0, locals := 60 }
set_option maxHeartbeats 4000000 in
set_option maxRecDepth 100000 in
theorem kX11_lying (l_ : Launch) (G : sG) (b_ : Nat) (M : sM) (N : Nat) (m : Nat) (th ch tn ea sn nm wn : Int) (f : sF) (d w : Int) (hm0 : M m = some (mO m th ch tn ea sn nm wn)) (hm1 : M (m + 1) = some (sArr G 574 f)) (hok : sOk f) (hd : sR d ∧ sR w) : cP l_ yX11_lying wsX11_lying rmX11_lying G b_ M N [.ref m, .int (sI d), .int (sI w)] (isum (f 568) (lyT f d w)) := by
  refine sE.ofI (cc := cX11_lying) (nL := 5) (ret := (some .int)) (by decide) rfl (Nat.le_of_ble_eq_true rfl) ?_
  intro p_ e_ s_ m_ args_ below_ meth_ c_ ls Q hQ E hl
  have E : sE p_ l_ e_ rmX11_lying s_ m_ args_ below_ meth_ c_ cX11_lying 5 wsX11_lying RX11 "lying" (some .int) G b_ M N := E
  have S := E.1
  have hx_ := S.1
  have hb_ := S.2.1
  have hK := E.2.2.2.2.1
  have hV := E.2.2.2.2.2.2
  have hl : lv_has ls 5 [(0, .ref m), (1, .int (sI d)), (2, .int (sI w))] := hl
  have inX11_ : ∀ w ∈ wsX110, w ∈ wsX11_lying := fun _ h => List.mem_cons_of_mem _ (List.mem_append_right _ h)
  have kn0 := sOk_N hok
  refine si_const S dX11_lying_0 ?_
  refine lv_istore_n (lv' := [(3, .int (sI 0)), (0, .ref m), (1, .int (sI d)), (2, .int (sI w))]) hx_ hb_ dX11_lying_1 rfl hl (by decide) rfl (fun ls hl => ?_)
  refine si_const S dX11_lying_2 ?_
  refine lv_istore (lv' := [(4, .int (sI 0)), (3, .int (sI 0)), (0, .ref m), (1, .int (sI d)), (2, .int (sI w))]) hx_ hb_ dX11_lying_3 hl (by decide) rfl (fun ls hl => ?_)
  have L5 : ∀ (fuel : Nat) (n : Int) (i : Int)  (H : Heap) (locs : List Loc) (ls : Array Slot), ((f 568 - i).toNat) < fuel → (0 ≤ i ∧ i ≤ f 568) → (n = isum i (lyT f d w)) → sV G b_ M N s_ H locs → lv_has ls 5 [(0, .ref m), (1, .int (sI d)), (2, .int (sI w)), (3, .int (sI n)), (4, .int (sI i))] → W p_ l_ e_ rmX11_lying s_ m_ args_ below_ meth_ c_ H locs 0 0 Q (F0 m_ 5 ls []) := by
    intro fuel
    induction fuel with
    | zero => intro n i H locs ls hmu; exact absurd hmu (Nat.not_lt_zero _)
    | succ fuel ih5 =>
      intro n i H locs ls hmu5 hv5_0 hn  hV hl
      have b1 := ly_r hok d w i (by omega) (by omega)
      refine lv_iload hx_ hb_ dX11_lying_5 (lv_at hl 4 rfl) ?_
      refine lv_aload_n hx_ hb_ dX11_lying_7 rfl (lv_at hl 0 rfl) ?_
      refine sk_VP E hV (As := []) (rest := [.int (sI i)]) (kX11_many l_ G b_ M N m th ch tn ea sn nm wn f hm0 hm1) (cwV 0 S.2.2.2.2 gX11_lying_X11_many rfl rfl rfl (by decide +kernel) ⟨Nat.le_of_ble_eq_true rfl, Nat.le_of_ble_eq_true rfl⟩) (ci := 9) hm0 rfl rfl rfl hl.1 (Nat.le_of_ble_eq_true rfl) dX11_lying_8 (c1 := 0) (s1 := 0) ⟨⟨rfl, rfl⟩, by decide, by decide⟩ (fun H locs hV => ?_)
      refine sb_ge (tgt := 73) S dX11_lying_11 (by decide) (by omega) (fun c1 => ?_) (fun c1 => ?_)
      · refine lv_iload_n hx_ hb_ dX11_lying_73 rfl (lv_at hl 3 rfl) ?_
        exact sr_i E hQ dX11_lying_74 ⟨Nat.le_of_ble_eq_true rfl, Nat.le_of_ble_eq_true rfl⟩ hV (⟨by rw [hn, show i = f 568 by omega], rfl, rfl⟩)
      · refine lv_aload_n hx_ hb_ dX11_lying_14 rfl (lv_at hl 0 rfl) ?_
        refine sc_get (ci := 9) (C := RX11) (T := TX11) (n := 22) S hK hV inX11_ hm0 rfl 1 (by decide) (S.2.2.2.2 _ (List.mem_of_getElem? (i := 1) rfl)) rfl rfl dX11_lying_15 ?_
        refine si_bipush S dX11_lying_18 (by decide) ?_
        refine lv_iload hx_ hb_ dX11_lying_20 (lv_at hl 4 rfl) ?_
        refine si_add S dX11_lying_22 ?_
        refine sc_iald S hK hV hm1 (by omega) dX11_lying_23 ?_
        have kn2 : -1 ≤ f (50 + i) ∧ f (50 + i) ≤ 3 := (sOk_S hok i (by omega) (by omega)).2.2.2.2.2.1
        refine lv_iload_n hx_ hb_ dX11_lying_24 rfl (lv_at hl 1 rfl) ?_
        refine sb_ne (tgt := 67) S dX11_lying_25 (by decide) (by omega) (fun c3 => ?_) (fun c3 => ?_)
        · refine si_inc (lv' := [(4, .int (sI (i + 1))), (0, .ref m), (1, .int (sI d)), (2, .int (sI w)), (3, .int (sI n))]) S dX11_lying_67 hl (k := 4) rfl (by decide) rfl (fun ls hl => ?_)
          refine lv_goto (tgt := 5) hx_ hb_ dX11_lying_70 (by decide) ?_
          exact ih5 n (i + 1) _ _ _ (by omega) (by omega) (by have e := isum_s (lyT f d w) (show 0 ≤ i by omega); have e2 : lyT f d w i = if f (50 + i) = d then (if w = 0 then 1 else if w = 1 then f (20 + i) else f (30 + i)) else 0 := rfl; split at e2 <;> first | omega | (split at e2 <;> first | omega | (split at e2 <;> omega))) hV (lv_sub hl [1, 2, 3, 4, 0] rfl)
        · refine lv_iload_n hx_ hb_ dX11_lying_28 rfl (lv_at hl 3 rfl) ?_
          refine lv_iload_n hx_ hb_ dX11_lying_29 rfl (lv_at hl 2 rfl) ?_
          refine sz_ne (tgt := 37) S dX11_lying_30 (by decide) (by omega) (fun c4 => ?_) (fun c4 => ?_)
          · refine lv_iload_n hx_ hb_ dX11_lying_37 rfl (lv_at hl 2 rfl) ?_
            refine si_const S dX11_lying_38 ?_
            refine sb_ne (tgt := 55) S dX11_lying_39 (by decide) (by omega) (fun c5 => ?_) (fun c5 => ?_)
            · refine lv_aload_n hx_ hb_ dX11_lying_55 rfl (lv_at hl 0 rfl) ?_
              refine sc_get (ci := 9) (C := RX11) (T := TX11) (n := 22) S hK hV inX11_ hm0 rfl 1 (by decide) (S.2.2.2.2 _ (List.mem_of_getElem? (i := 1) rfl)) rfl rfl dX11_lying_56 ?_
              refine si_bipush S dX11_lying_59 (by decide) ?_
              refine lv_iload hx_ hb_ dX11_lying_61 (lv_at hl 4 rfl) ?_
              refine si_add S dX11_lying_63 ?_
              refine sc_iald S hK hV hm1 (by omega) dX11_lying_64 ?_
              have kn6 : 1 ≤ f (30 + i) ∧ f (30 + i) ≤ 99 := (sOk_S hok i (by omega) (by omega)).2.2.2.1
              refine si_add S dX11_lying_65 ?_
              refine lv_istore_n (lv' := [(3, .int (sI (n + (f (30 + i))))), (0, .ref m), (1, .int (sI d)), (2, .int (sI w)), (4, .int (sI i))]) hx_ hb_ dX11_lying_66 rfl hl (by decide) rfl (fun ls hl => ?_)
              refine si_inc (lv' := [(4, .int (sI (i + 1))), (3, .int (sI (n + (f (30 + i))))), (0, .ref m), (1, .int (sI d)), (2, .int (sI w))]) S dX11_lying_67 hl (k := 4) rfl (by decide) rfl (fun ls hl => ?_)
              refine lv_goto (tgt := 5) hx_ hb_ dX11_lying_70 (by decide) ?_
              exact ih5 (n + (f (30 + i))) (i + 1) _ _ _ (by omega) (by omega) (by have e := isum_s (lyT f d w) (show 0 ≤ i by omega); have e2 : lyT f d w i = if f (50 + i) = d then (if w = 0 then 1 else if w = 1 then f (20 + i) else f (30 + i)) else 0 := rfl; split at e2 <;> first | omega | (split at e2 <;> first | omega | (split at e2 <;> omega))) hV (lv_sub hl [2, 3, 4, 1, 0] rfl)
            · refine lv_aload_n hx_ hb_ dX11_lying_42 rfl (lv_at hl 0 rfl) ?_
              refine sc_get (ci := 9) (C := RX11) (T := TX11) (n := 22) S hK hV inX11_ hm0 rfl 1 (by decide) (S.2.2.2.2 _ (List.mem_of_getElem? (i := 1) rfl)) rfl rfl dX11_lying_43 ?_
              refine si_bipush S dX11_lying_46 (by decide) ?_
              refine lv_iload hx_ hb_ dX11_lying_48 (lv_at hl 4 rfl) ?_
              refine si_add S dX11_lying_50 ?_
              refine sc_iald S hK hV hm1 (by omega) dX11_lying_51 ?_
              have kn7 : 1 ≤ f (20 + i) ∧ f (20 + i) ≤ 9 := (sOk_S hok i (by omega) (by omega)).2.2.1
              refine lv_goto (tgt := 65) hx_ hb_ dX11_lying_52 (by decide) ?_
              refine si_add S dX11_lying_65 ?_
              refine lv_istore_n (lv' := [(3, .int (sI (n + (f (20 + i))))), (0, .ref m), (1, .int (sI d)), (2, .int (sI w)), (4, .int (sI i))]) hx_ hb_ dX11_lying_66 rfl hl (by decide) rfl (fun ls hl => ?_)
              refine si_inc (lv' := [(4, .int (sI (i + 1))), (3, .int (sI (n + (f (20 + i))))), (0, .ref m), (1, .int (sI d)), (2, .int (sI w))]) S dX11_lying_67 hl (k := 4) rfl (by decide) rfl (fun ls hl => ?_)
              refine lv_goto (tgt := 5) hx_ hb_ dX11_lying_70 (by decide) ?_
              exact ih5 (n + (f (20 + i))) (i + 1) _ _ _ (by omega) (by omega) (by have e := isum_s (lyT f d w) (show 0 ≤ i by omega); have e2 : lyT f d w i = if f (50 + i) = d then (if w = 0 then 1 else if w = 1 then f (20 + i) else f (30 + i)) else 0 := rfl; split at e2 <;> first | omega | (split at e2 <;> first | omega | (split at e2 <;> omega))) hV (lv_sub hl [2, 3, 4, 1, 0] rfl)
          · refine si_const S dX11_lying_33 ?_
            refine lv_goto (tgt := 65) hx_ hb_ dX11_lying_34 (by decide) ?_
            refine si_add S dX11_lying_65 ?_
            refine lv_istore_n (lv' := [(3, .int (sI (n + 1))), (0, .ref m), (1, .int (sI d)), (2, .int (sI w)), (4, .int (sI i))]) hx_ hb_ dX11_lying_66 rfl hl (by decide) rfl (fun ls hl => ?_)
            refine si_inc (lv' := [(4, .int (sI (i + 1))), (3, .int (sI (n + 1))), (0, .ref m), (1, .int (sI d)), (2, .int (sI w))]) S dX11_lying_67 hl (k := 4) rfl (by decide) rfl (fun ls hl => ?_)
            refine lv_goto (tgt := 5) hx_ hb_ dX11_lying_70 (by decide) ?_
            exact ih5 (n + 1) (i + 1) _ _ _ (by omega) (by omega) (by have e := isum_s (lyT f d w) (show 0 ≤ i by omega); have e2 : lyT f d w i = if f (50 + i) = d then (if w = 0 then 1 else if w = 1 then f (20 + i) else f (30 + i)) else 0 := rfl; split at e2 <;> first | omega | (split at e2 <;> first | omega | (split at e2 <;> omega))) hV (lv_sub hl [2, 3, 4, 1, 0] rfl)
  exact L5 _ 0 0 _ _ _ (Nat.lt_succ_self _) (by omega) (rfl) hV (lv_sub hl [2, 3, 4, 1, 0] rfl)

abbrev rmX11_isDrawer : Room := { frames := 2, cells := 0, slots := 0, locals := 62 }
set_option maxHeartbeats 4000000 in
set_option maxRecDepth 100000 in
theorem kX11_isDrawer (l_ : Launch) (G : sG) (b_ : Nat) (M : sM) (N : Nat) (m : Nat) (d : Int) (hd : sR d) : cP l_ yX11_isDrawer wsX11_isDrawer rmX11_isDrawer G b_ M N [.ref m, .int (sI d)] (bI (0 ≤ d ∧ d ≤ 3)) := by
  refine sE.ofI (cc := cX11_isDrawer) (nL := 2) (ret := (some .boolean)) (by decide) rfl (Nat.le_of_ble_eq_true rfl) ?_
  intro p_ e_ s_ m_ args_ below_ meth_ c_ ls Q hQ E hl
  have E : sE p_ l_ e_ rmX11_isDrawer s_ m_ args_ below_ meth_ c_ cX11_isDrawer 2 wsX11_isDrawer RX11 "isDrawer" (some .boolean) G b_ M N := E
  have S := E.1
  have hx_ := S.1
  have hb_ := S.2.1
  have hK := E.2.2.2.2.1
  have hV := E.2.2.2.2.2.2
  have hl : lv_has ls 2 [(0, .ref m), (1, .int (sI d))] := hl
  refine lv_iload_n hx_ hb_ dX11_isDrawer_0 rfl (lv_at hl 1 rfl) ?_
  refine si_const S dX11_isDrawer_1 ?_
  refine si_const S dX11_isDrawer_2 ?_
  refine sk_SP E hV (As := [.int (sI d), .int (sI 0), .int (sI 3)]) (rest := []) (kX11_in l_ G b_ M N d 0 3 (by omega)) (va_cwS 3 S.2.2.2.2 gX11_isDrawer_X11_in rfl rfl rfl (by decide +kernel) ⟨Nat.le_of_ble_eq_true rfl, Nat.le_of_ble_eq_true rfl⟩) rfl rfl hl.1 (Nat.le_of_ble_eq_true rfl) dX11_isDrawer_3 (c1 := 0) (s1 := 0) ⟨⟨rfl, rfl⟩, by decide, by decide⟩ (fun H locs hV => ?_)
  exact sr_z E hQ bI_or dX11_isDrawer_6 ⟨Nat.le_of_ble_eq_true rfl, Nat.le_of_ble_eq_true rfl⟩ hV (⟨rfl, rfl, rfl⟩)

abbrev rmX11_unscratch : Room := { frames := 2, cells := 0, slots := 0, locals := 62 }
set_option maxHeartbeats 4000000 in
set_option maxRecDepth 100000 in
theorem kX11_unscratch (l_ : Launch) (G : sG) (b_ : Nat) (M : sM) (N : Nat) (m : Nat) (th ch tn ea sn nm wn : Int) (f : sF) (fs : Int → sF) (a : Int) (hm0 : M m = some (mO m th ch tn ea sn nm wn)) (hm1 : M (m + 1) = some (sArr G 574 f)) (hsv : svC G M (m + 2) ch fs) (hok : sOk f) (hch : 0 ≤ ch ∧ ch ≤ 15) (hr : sR a) : cI l_ yX11_unscratch wsX11_unscratch rmX11_unscratch G b_ M N [.ref m, .int (sI a)] (fun z_ M1 N1 => N1 = N ∧ (∀ x : Nat, ¬ (x = m) → ¬ (x = m + 1) → ¬ (x = m + 2) → M1 x = M x) ∧ (((¬ (0 ≤ a ∧ a < f 569)) ∧ z_ = 0 ∧ M1 m = some (mO m 1 ch tn ea sn nm wn) ∧ M1 (m + 1) = some (sArr G 574 f) ∧ svC G M1 (m + 2) ch fs) ∨ ((0 ≤ a ∧ a < f 569) ∧ z_ = f 569 - 1 ∧ M1 m = some (mO m 0 (chn ch) tn ea sn nm wn) ∧ M1 (m + 1) = some (sArr G 574 (usF f a)) ∧ svC G M1 (m + 2) (chn ch) (fsn ch fs f)))) := by
  refine sE.ofI (cc := cX11_unscratch) (nL := 3) (ret := (some .int)) (by decide) rfl (Nat.le_of_ble_eq_true rfl) ?_
  intro p_ e_ s_ m_ args_ below_ meth_ c_ ls Q hQ E hl
  have E : sE p_ l_ e_ rmX11_unscratch s_ m_ args_ below_ meth_ c_ cX11_unscratch 3 wsX11_unscratch RX11 "unscratch" (some .int) G b_ M N := E
  have S := E.1
  have hx_ := S.1
  have hb_ := S.2.1
  have hK := E.2.2.2.2.1
  have hV := E.2.2.2.2.2.2
  have hl : lv_has ls 3 [(0, .ref m), (1, .int (sI a))] := hl
  have inX11_ : ∀ w ∈ wsX110, w ∈ wsX11_unscratch := fun _ h => List.mem_cons_of_mem _ (List.mem_append_right _ h)
  have kn0 := sOk_N hok
  refine lv_aload_n hx_ hb_ dX11_unscratch_0 rfl (lv_at hl 0 rfl) ?_
  refine si_const S dX11_unscratch_1 ?_
  refine sc_put (ci := 9) (C := RX11) (T := TX11) (n := 22) S hK hV inX11_ tyX11_ok nmX11 hm0 rfl 0 (by decide) (S.2.2.2.2 _ (List.mem_of_getElem? (i := 1) rfl)) rfl rfl rfl rfl (Nat.le_of_ble_eq_true rfl) dX11_unscratch_2 (fs1 := [.int (sI 0), .ref (m + 1), .ref (m + 2), .int (sI ch), .ref (m + 3), .int (sI tn), .int (sI ea), .ref (m + 4), .ref (m + 5), .ref (m + 6), .ref (m + 7), .ref (m + 8), .ref (m + 9), .int (sI sn), .ref (m + 10), .ref (m + 11), .ref (m + 12), .ref (m + 13), .int (sI nm), .ref (m + 14), .ref (m + 15), .int (sI wn)]) rfl (fun M1 H locs hM1 hV => ?_)
  have hc2 : M1 m = some (mO m 0 ch tn ea sn nm wn) := (congrFun hM1 m).trans (va_up_self M m _)
  refine lv_aload_n hx_ hb_ dX11_unscratch_5 rfl (lv_at hl 0 rfl) ?_
  refine lv_iload_n hx_ hb_ dX11_unscratch_6 rfl (lv_at hl 1 rfl) ?_
  refine si_const S dX11_unscratch_7 ?_
  refine lv_aload_n hx_ hb_ dX11_unscratch_8 rfl (lv_at hl 0 rfl) ?_
  refine sc_get (ci := 9) (C := RX11) (T := TX11) (n := 22) S hK hV inX11_ hc2 rfl 1 (by decide) (S.2.2.2.2 _ (List.mem_of_getElem? (i := 2) rfl)) rfl rfl dX11_unscratch_9 ?_
  refine si_sipush S dX11_unscratch_12 (by decide) ?_
  have hc3 : M1 (m + 1) = some (sArr G 574 f) := ((congrFun hM1 (m + 1)).trans (va_up_ne M _ (by omega))).trans hm1
  refine sc_iald S hK hV hc3 (by omega) dX11_unscratch_15 ?_
  refine si_const S dX11_unscratch_16 ?_
  refine si_sub S dX11_unscratch_17 ?_
  refine sk_SP E hV (As := [.int (sI a), .int (sI 0), .int (sI ((f 569) - 1))]) (rest := [.ref m]) (kX11_in l_ G b_ M1 N a 0 ((f 569) - 1) (by omega)) (va_cwS 3 S.2.2.2.2 gX11_unscratch_X11_in rfl rfl rfl (by decide +kernel) ⟨Nat.le_of_ble_eq_true rfl, Nat.le_of_ble_eq_true rfl⟩) rfl rfl hl.1 (Nat.le_of_ble_eq_true rfl) dX11_unscratch_18 (c1 := 0) (s1 := 0) ⟨⟨rfl, rfl⟩, by decide, by decide⟩ (fun H locs hV => ?_)
  refine si_const S dX11_unscratch_21 ?_
  refine sk_Vi E hV (As := [.int (sI (bI (0 ≤ a ∧ a ≤ ((f 569) - 1)))), .int (sI 1)]) (rest := []) (kX11_fails l_ G b_ M1 N m ch tn ea sn nm wn 1 (0 ≤ a ∧ a ≤ ((f 569) - 1)) hc2 (by omega)) (cwV 2 S.2.2.2.2 gX11_unscratch_X11_fails rfl rfl rfl (by decide +kernel) ⟨Nat.le_of_ble_eq_true rfl, Nat.le_of_ble_eq_true rfl⟩) (ci := 9) hc2 rfl rfl rfl hl.1 (Nat.le_of_ble_eq_true rfl) dX11_unscratch_22 (c1 := 0) (s1 := 0) ⟨⟨rfl, rfl⟩, by decide, by decide⟩ (fun z7 M4 N5 H locs hp6 hV => ?_)
  obtain ⟨hN8, hf9, hq10⟩ := hp6
  rw [hN8] at hV
  rcases hq10 with ⟨c11, ez12, hc13⟩ | ⟨c14, ez15, hc16⟩
  · rw [ez12]
    refine sz_eq (tgt := 30) S dX11_unscratch_25 (by decide) (by omega) (fun _ => ?_) (fun c17 => absurd c17 (by omega))
    refine lv_aload_n hx_ hb_ dX11_unscratch_30 rfl (lv_at hl 0 rfl) ?_
    have hc18 : M4 (m + 1) = some (sArr G 574 f) := (hf9 (m + 1) (by omega)).trans hc3
    have hc19 : svC G M4 (m + 2) ch fs := hsv.fr (fun x q8 q9 => (hf9 x (by omega)).trans ((congrFun hM1 x).trans (va_up_ne M _ (by omega))))
    refine sk_Vv E hV (As := []) (rest := []) (kX11_keeps l_ G b_ M4 N m 0 ch tn ea sn nm wn f fs hc13 hc18 hc19 (by omega)) (cwV 0 S.2.2.2.2 gX11_unscratch_X11_keeps rfl rfl rfl (by decide +kernel) ⟨Nat.le_of_ble_eq_true rfl, Nat.le_of_ble_eq_true rfl⟩) (ci := 9) hc13 rfl rfl rfl hl.1 (Nat.le_of_ble_eq_true rfl) dX11_unscratch_31 (c1 := 0) (s1 := 0) ⟨⟨rfl, rfl⟩, by decide, by decide⟩ (fun M20 N21 H locs hp22 hV => ?_)
    obtain ⟨hN24, hc25, hc26, hf27⟩ := hp22
    rw [hN24] at hV
    refine lv_aload_n hx_ hb_ dX11_unscratch_34 rfl (lv_at hl 0 rfl) ?_
    refine sc_get (ci := 9) (C := RX11) (T := TX11) (n := 22) S hK hV inX11_ hc25 rfl 1 (by decide) (S.2.2.2.2 _ (List.mem_of_getElem? (i := 2) rfl)) rfl rfl dX11_unscratch_35 ?_
    refine si_sipush S dX11_unscratch_38 (by decide) ?_
    refine lv_dup2_11 hx_ hb_ dX11_unscratch_41 rfl rfl ?_
    have hc28 : M20 (m + 1) = some (sArr G 574 f) := (hf27 (m + 1) (by omega) (by omega)).trans hc18
    refine sc_iald S hK hV hc28 (by omega) dX11_unscratch_42 ?_
    refine si_const S dX11_unscratch_43 ?_
    refine si_sub S dX11_unscratch_44 ?_
    refine sc_iast S hK hV hc28 (by omega) dX11_unscratch_45 (fun M29 H locs hM29 hV => ?_)
    have hc30 : M29 (m + 1) = some (sArr G 574 (iup f 569 ((f 569) - 1))) := (congrFun hM29 (m + 1)).trans (va_up_self M20 (m + 1) _)
    refine lv_iload_n hx_ hb_ dX11_unscratch_46 rfl (lv_at hl 1 rfl) ?_
    refine lv_istore_n (lv' := [(2, .int (sI a)), (0, .ref m), (1, .int (sI a))]) hx_ hb_ dX11_unscratch_47 rfl hl (by decide) rfl (fun ls hl => ?_)
    have L48 : ∀ (fuel : Nat) (k : Int) (g2 : Int → Int) (Ml48 : sM) (H : Heap) (locs : List Loc) (ls : Array Slot), ((f 569 - 1 - k).toNat) < fuel → (a ≤ k ∧ k ≤ f 569 - 1) → (g2 = usK f a k) → (Ml48 (m + 1) = some (sArr G 574 g2)) → (∀ x : Nat, ¬ (x = m + 1) → Ml48 x = M29 x) → sV G b_ Ml48 N s_ H locs → lv_has ls 3 [(0, .ref m), (2, .int (sI k))] → W p_ l_ e_ rmX11_unscratch s_ m_ args_ below_ meth_ c_ H locs 0 0 Q (F0 m_ 48 ls []) := by
      intro fuel
      induction fuel with
      | zero => intro k g2 Ml48 H locs ls hmu; exact absurd hmu (Nat.not_lt_zero _)
      | succ fuel ih48 =>
        intro k g2 Ml48 H locs ls hmu48 hv48_0 hg hm48_0 hfr48 hV hl
        refine lv_iload_n hx_ hb_ dX11_unscratch_48 rfl (lv_at hl 1 rfl) ?_
        refine lv_aload_n hx_ hb_ dX11_unscratch_49 rfl (lv_at hl 0 rfl) ?_
        have hc31 : Ml48 m = some (mO m 0 (chn ch) tn ea sn nm wn) := ((hfr48 m (by omega)).trans ((congrFun hM29 m).trans (va_up_ne M20 _ (by omega)))).trans hc25
        refine sc_get (ci := 9) (C := RX11) (T := TX11) (n := 22) S hK hV inX11_ hc31 rfl 1 (by decide) (S.2.2.2.2 _ (List.mem_of_getElem? (i := 2) rfl)) rfl rfl dX11_unscratch_50 ?_
        refine si_sipush S dX11_unscratch_53 (by decide) ?_
        refine sc_iald S hK hV hm48_0 (by omega) dX11_unscratch_56 ?_
        rw [show g2 569 = f 569 - 1 from by rw [hg]; unfold usK; rw [if_neg (by omega), if_neg (by omega), if_pos rfl]]
        refine sb_ge (tgt := 106) S dX11_unscratch_57 (by decide) (by omega) (fun c32 => ?_) (fun c32 => ?_)
        · refine lv_aload_n hx_ hb_ dX11_unscratch_106 rfl (lv_at hl 0 rfl) ?_
          refine sc_get (ci := 9) (C := RX11) (T := TX11) (n := 22) S hK hV inX11_ hc31 rfl 1 (by decide) (S.2.2.2.2 _ (List.mem_of_getElem? (i := 2) rfl)) rfl rfl dX11_unscratch_107 ?_
          refine si_sipush S dX11_unscratch_110 (by decide) ?_
          refine sc_iald S hK hV hm48_0 (by omega) dX11_unscratch_113 ?_
          rw [show g2 569 = f 569 - 1 from by rw [hg]; unfold usK; rw [if_neg (by omega), if_neg (by omega), if_pos rfl]]
          have hc33 : svC G Ml48 (m + 2) (chn ch) (fsn ch fs f) := hc26.fr (fun x q8 q9 => (hfr48 x (by omega)).trans ((congrFun hM29 x).trans (va_up_ne M20 _ (by omega))))
          exact sr_i E hQ dX11_unscratch_114 ⟨Nat.le_of_ble_eq_true rfl, Nat.le_of_ble_eq_true rfl⟩ hV (⟨rfl, fun x q0 q1 q2 => ((((hfr48 x (by omega)).trans ((congrFun hM29 x).trans (va_up_ne M20 _ (by omega)))).trans (hf27 x (by omega) (by omega))).trans (hf9 x (by omega))).trans ((congrFun hM1 x).trans (va_up_ne M _ (by omega))), Or.inr (⟨(by omega), rfl, hc31, by rw [hg, show k = f 569 - 1 by omega] at hm48_0; exact hm48_0, hc33⟩)⟩)
        · refine lv_aload_n hx_ hb_ dX11_unscratch_60 rfl (lv_at hl 0 rfl) ?_
          refine sc_get (ci := 9) (C := RX11) (T := TX11) (n := 22) S hK hV inX11_ hc31 rfl 1 (by decide) (S.2.2.2.2 _ (List.mem_of_getElem? (i := 2) rfl)) rfl rfl dX11_unscratch_61 ?_
          refine si_bipush S dX11_unscratch_64 (by decide) ?_
          refine lv_iload_n hx_ hb_ dX11_unscratch_66 rfl (lv_at hl 1 rfl) ?_
          refine si_add S dX11_unscratch_67 ?_
          refine lv_aload_n hx_ hb_ dX11_unscratch_68 rfl (lv_at hl 0 rfl) ?_
          refine sc_get (ci := 9) (C := RX11) (T := TX11) (n := 22) S hK hV inX11_ hc31 rfl 1 (by decide) (S.2.2.2.2 _ (List.mem_of_getElem? (i := 2) rfl)) rfl rfl dX11_unscratch_69 ?_
          refine si_bipush S dX11_unscratch_72 (by decide) ?_
          refine lv_iload_n hx_ hb_ dX11_unscratch_74 rfl (lv_at hl 1 rfl) ?_
          refine si_add S dX11_unscratch_75 ?_
          refine si_const S dX11_unscratch_76 ?_
          refine si_add S dX11_unscratch_77 ?_
          refine sc_iald S hK hV hm48_0 (by omega) dX11_unscratch_78 ?_
          rw [show g2 ((70 + k) + 1) = f (70 + k + 1) from by rw [hg]; exact (usK_v f a k (by omega)).1]
          refine sc_iast S hK hV hm48_0 (by omega) dX11_unscratch_79 (fun M34 H locs hM34 hV => ?_)
          have hc35 : M34 (m + 1) = some (sArr G 574 (iup g2 (70 + k) (f (70 + k + 1)))) := (congrFun hM34 (m + 1)).trans (va_up_self Ml48 (m + 1) _)
          refine lv_aload_n hx_ hb_ dX11_unscratch_80 rfl (lv_at hl 0 rfl) ?_
          have hc36 : M34 m = some (mO m 0 (chn ch) tn ea sn nm wn) := ((congrFun hM34 m).trans (va_up_ne Ml48 _ (by omega))).trans hc31
          refine sc_get (ci := 9) (C := RX11) (T := TX11) (n := 22) S hK hV inX11_ hc36 rfl 1 (by decide) (S.2.2.2.2 _ (List.mem_of_getElem? (i := 2) rfl)) rfl rfl dX11_unscratch_81 ?_
          refine si_bipush S dX11_unscratch_84 (by decide) ?_
          refine lv_iload_n hx_ hb_ dX11_unscratch_86 rfl (lv_at hl 1 rfl) ?_
          refine si_add S dX11_unscratch_87 ?_
          refine lv_aload_n hx_ hb_ dX11_unscratch_88 rfl (lv_at hl 0 rfl) ?_
          refine sc_get (ci := 9) (C := RX11) (T := TX11) (n := 22) S hK hV inX11_ hc36 rfl 1 (by decide) (S.2.2.2.2 _ (List.mem_of_getElem? (i := 2) rfl)) rfl rfl dX11_unscratch_89 ?_
          refine si_bipush S dX11_unscratch_92 (by decide) ?_
          refine lv_iload_n hx_ hb_ dX11_unscratch_94 rfl (lv_at hl 1 rfl) ?_
          refine si_add S dX11_unscratch_95 ?_
          refine si_const S dX11_unscratch_96 ?_
          refine si_add S dX11_unscratch_97 ?_
          refine sc_iald S hK hV hc35 (by omega) dX11_unscratch_98 ?_
          rw [show (iup g2 (70 + k) (f (70 + k + 1))) ((110 + k) + 1) = f (110 + k + 1) from by rw [hg]; unfold iup; rw [if_neg (by omega)]; exact (usK_v f a k (by omega)).2.1]
          refine sc_iast S hK hV hc35 (by omega) dX11_unscratch_99 (fun M37 H locs hM37 hV => ?_)
          have hc38 : M37 (m + 1) = some (sArr G 574 (iup (iup g2 (70 + k) (f (70 + k + 1))) (110 + k) (f (110 + k + 1)))) := (congrFun hM37 (m + 1)).trans (va_up_self M34 (m + 1) _)
          refine si_inc (lv' := [(2, .int (sI (k + 1))), (0, .ref m)]) S dX11_unscratch_100 hl (k := 1) rfl (by decide) rfl (fun ls hl => ?_)
          refine lv_goto (tgt := 48) hx_ hb_ dX11_unscratch_103 (by decide) ?_
          exact ih48 (k + 1) (iup (iup g2 (70 + k) (f (70 + k + 1))) (110 + k) (f (110 + k + 1))) M37 _ _ _ (by omega) (by omega) (by rw [hg, usK_s f a k (by omega)]) hc38 (fun x q0 => (((congrFun hM37 x).trans (va_up_ne M34 _ (by omega))).trans ((congrFun hM34 x).trans (va_up_ne Ml48 _ (by omega)))).trans (hfr48 x (by omega))) hV (lv_sub hl [1, 0] rfl)
    exact L48 _ a (iup f 569 ((f 569) - 1)) M29 _ _ _ (Nat.lt_succ_self _) (by omega) (usK_0 f a) hc30 (fun x q0 => rfl) hV (lv_sub hl [1, 0] rfl)
  · rw [ez15]
    refine sz_eq (tgt := 30) S dX11_unscratch_25 (by decide) (by omega) (fun c39 => absurd c39 (by omega)) (fun _ => ?_)
    refine si_const S dX11_unscratch_28 ?_
    have hc40 : M4 (m + 1) = some (sArr G 574 f) := (hf9 (m + 1) (by omega)).trans hc3
    have hc41 : svC G M4 (m + 2) ch fs := hsv.fr (fun x q8 q9 => (hf9 x (by omega)).trans ((congrFun hM1 x).trans (va_up_ne M _ (by omega))))
    exact sr_i E hQ dX11_unscratch_29 ⟨Nat.le_of_ble_eq_true rfl, Nat.le_of_ble_eq_true rfl⟩ hV (⟨rfl, fun x q0 q1 q2 => (hf9 x (by omega)).trans ((congrFun hM1 x).trans (va_up_ne M _ (by omega))), Or.inl ⟨(by omega), rfl, hc16, hc40, hc41⟩⟩)

abbrev rmX11_setDrawer : Room := { frames := 3, cells := 0, slots := 0, locals := 84 }
set_option maxHeartbeats 4000000 in
set_option maxRecDepth 100000 in
theorem kX11_setDrawer (l_ : Launch) (G : sG) (b_ : Nat) (M : sM) (N : Nat) (m : Nat) (th ch tn ea sn nm wn : Int) (f : sF) (fs : Int → sF) (d z w : Int) (hm0 : M m = some (mO m th ch tn ea sn nm wn)) (hm1 : M (m + 1) = some (sArr G 574 f)) (hsv : svC G M (m + 2) ch fs) (hok : sOk f) (hch : 0 ≤ ch ∧ ch ≤ 15) (hr : sR d ∧ sR z ∧ sR w) : cI l_ yX11_setDrawer wsX11_setDrawer rmX11_setDrawer G b_ M N [.ref m, .int (sI d), .int (sI z), .int (sI w)] (fun z_ M1 N1 => N1 = N ∧ (∀ x : Nat, ¬ (x = m) → ¬ (x = m + 1) → ¬ (x = m + 2) → M1 x = M x) ∧ (((¬ ((0 ≤ d ∧ d ≤ 3) ∧ (0 ≤ z ∧ z ≤ 99) ∧ (0 ≤ w ∧ w ≤ 999))) ∧ z_ = 0 ∧ M1 m = some (mO m 1 ch tn ea sn nm wn) ∧ M1 (m + 1) = some (sArr G 574 f) ∧ svC G M1 (m + 2) ch fs) ∨ ((((0 ≤ d ∧ d ≤ 3) ∧ (0 ≤ z ∧ z ≤ 99) ∧ (0 ≤ w ∧ w ≤ 999)) ∧ ¬ (isum (f 568) (lyT f d 1) ≤ z ∧ isum (f 568) (lyT f d 2) ≤ w)) ∧ z_ = 0 ∧ M1 m = some (mO m 2 ch tn ea sn nm wn) ∧ M1 (m + 1) = some (sArr G 574 f) ∧ svC G M1 (m + 2) ch fs) ∨ ((((0 ≤ d ∧ d ≤ 3) ∧ (0 ≤ z ∧ z ≤ 99) ∧ (0 ≤ w ∧ w ≤ 999)) ∧ isum (f 568) (lyT f d 1) ≤ z ∧ isum (f 568) (lyT f d 2) ≤ w) ∧ z_ = f (150 + d) ∧ M1 m = some (mO m 0 (chn ch) tn ea sn nm wn) ∧ M1 (m + 1) = some (sArr G 574 (sdF f d z w)) ∧ svC G M1 (m + 2) (chn ch) (fsn ch fs f)))) := by
  refine sE.ofI (cc := cX11_setDrawer) (nL := 5) (ret := (some .int)) (by decide) rfl (Nat.le_of_ble_eq_true rfl) ?_
  intro p_ e_ s_ m_ args_ below_ meth_ c_ ls Q hQ E hl
  have E : sE p_ l_ e_ rmX11_setDrawer s_ m_ args_ below_ meth_ c_ cX11_setDrawer 5 wsX11_setDrawer RX11 "setDrawer" (some .int) G b_ M N := E
  have S := E.1
  have hx_ := S.1
  have hb_ := S.2.1
  have hK := E.2.2.2.2.1
  have hV := E.2.2.2.2.2.2
  have hl : lv_has ls 5 [(0, .ref m), (1, .int (sI d)), (2, .int (sI z)), (3, .int (sI w))] := hl
  have inX11_ : ∀ w ∈ wsX110, w ∈ wsX11_setDrawer := fun _ h => List.mem_cons_of_mem _ (List.mem_append_right _ h)
  have kn0 := sOk_N hok
  have b1 := ly_r hok d 1 (f 568) (by omega) (by omega)
  have b2 := ly_r hok d 2 (f 568) (by omega) (by omega)
  refine lv_aload_n hx_ hb_ dX11_setDrawer_0 rfl (lv_at hl 0 rfl) ?_
  refine si_const S dX11_setDrawer_1 ?_
  refine sc_put (ci := 9) (C := RX11) (T := TX11) (n := 22) S hK hV inX11_ tyX11_ok nmX11 hm0 rfl 0 (by decide) (S.2.2.2.2 _ (List.mem_of_getElem? (i := 1) rfl)) rfl rfl rfl rfl (Nat.le_of_ble_eq_true rfl) dX11_setDrawer_2 (fs1 := [.int (sI 0), .ref (m + 1), .ref (m + 2), .int (sI ch), .ref (m + 3), .int (sI tn), .int (sI ea), .ref (m + 4), .ref (m + 5), .ref (m + 6), .ref (m + 7), .ref (m + 8), .ref (m + 9), .int (sI sn), .ref (m + 10), .ref (m + 11), .ref (m + 12), .ref (m + 13), .int (sI nm), .ref (m + 14), .ref (m + 15), .int (sI wn)]) rfl (fun M1 H locs hM1 hV => ?_)
  have hc2 : M1 m = some (mO m 0 ch tn ea sn nm wn) := (congrFun hM1 m).trans (va_up_self M m _)
  refine lv_aload_n hx_ hb_ dX11_setDrawer_5 rfl (lv_at hl 0 rfl) ?_
  refine lv_aload_n hx_ hb_ dX11_setDrawer_6 rfl (lv_at hl 0 rfl) ?_
  refine lv_iload_n hx_ hb_ dX11_setDrawer_7 rfl (lv_at hl 1 rfl) ?_
  refine sk_VP E hV (As := [.int (sI d)]) (rest := [.ref m]) (kX11_isDrawer l_ G b_ M1 N m d (by omega)) (cwV 1 S.2.2.2.2 gX11_setDrawer_X11_isDrawer rfl rfl rfl (by decide +kernel) ⟨Nat.le_of_ble_eq_true rfl, Nat.le_of_ble_eq_true rfl⟩) (ci := 9) hc2 rfl rfl rfl hl.1 (Nat.le_of_ble_eq_true rfl) dX11_setDrawer_8 (c1 := 0) (s1 := 0) ⟨⟨rfl, rfl⟩, by decide, by decide⟩ (fun H locs hV => ?_)
  refine sq_eq (tgt := 39) S dX11_setDrawer_11 (by decide) (fun c3 => ?_) (fun c3 => ?_)
  · refine si_const S dX11_setDrawer_39 ?_
    refine si_const S dX11_setDrawer_40 ?_
    refine sk_Vi E hV (As := [.int (sI 0), .int (sI 1)]) (rest := []) (kX11_fails0 l_ G b_ M1 N m ch tn ea sn nm wn 1 hc2 (by omega)) (cwV 2 S.2.2.2.2 gX11_setDrawer_X11_fails rfl rfl rfl (by decide +kernel) ⟨Nat.le_of_ble_eq_true rfl, Nat.le_of_ble_eq_true rfl⟩) (ci := 9) hc2 rfl rfl rfl hl.1 (Nat.le_of_ble_eq_true rfl) dX11_setDrawer_41 (c1 := 0) (s1 := 0) ⟨⟨rfl, rfl⟩, by decide, by decide⟩ (fun z7 M4 N5 H locs hp6 hV => ?_)
    obtain ⟨ez8, hN9, hc10, hf11⟩ := hp6
    rw [hN9] at hV
    rw [ez8]
    refine sz_eq (tgt := 49) S dX11_setDrawer_44 (by decide) (by omega) (fun c12 => absurd c12 (by omega)) (fun _ => ?_)
    refine si_const S dX11_setDrawer_47 ?_
    have hc13 : M4 (m + 1) = some (sArr G 574 f) := ((hf11 (m + 1) (by omega)).trans ((congrFun hM1 (m + 1)).trans (va_up_ne M _ (by omega)))).trans hm1
    have hc14 : svC G M4 (m + 2) ch fs := hsv.fr (fun x q8 q9 => (hf11 x (by omega)).trans ((congrFun hM1 x).trans (va_up_ne M _ (by omega))))
    exact sr_i E hQ dX11_setDrawer_48 ⟨Nat.le_of_ble_eq_true rfl, Nat.le_of_ble_eq_true rfl⟩ hV (⟨rfl, fun x q0 q1 q2 => (hf11 x (by omega)).trans ((congrFun hM1 x).trans (va_up_ne M _ (by omega))), Or.inl ⟨(by omega), rfl, hc10, hc13, hc14⟩⟩)
  · refine lv_iload_n hx_ hb_ dX11_setDrawer_14 rfl (lv_at hl 2 rfl) ?_
    refine si_const S dX11_setDrawer_15 ?_
    refine si_bipush S dX11_setDrawer_16 (by decide) ?_
    refine sk_SP E hV (As := [.int (sI z), .int (sI 0), .int (sI 99)]) (rest := [.ref m]) (kX11_in l_ G b_ M1 N z 0 99 (by omega)) (va_cwS 3 S.2.2.2.2 gX11_setDrawer_X11_in rfl rfl rfl (by decide +kernel) ⟨Nat.le_of_ble_eq_true rfl, Nat.le_of_ble_eq_true rfl⟩) rfl rfl hl.1 (Nat.le_of_ble_eq_true rfl) dX11_setDrawer_18 (c1 := 0) (s1 := 0) ⟨⟨rfl, rfl⟩, by decide, by decide⟩ (fun H locs hV => ?_)
    refine sq_eq (tgt := 39) S dX11_setDrawer_21 (by decide) (fun c15 => ?_) (fun c15 => ?_)
    · refine si_const S dX11_setDrawer_39 ?_
      refine si_const S dX11_setDrawer_40 ?_
      refine sk_Vi E hV (As := [.int (sI 0), .int (sI 1)]) (rest := []) (kX11_fails0 l_ G b_ M1 N m ch tn ea sn nm wn 1 hc2 (by omega)) (cwV 2 S.2.2.2.2 gX11_setDrawer_X11_fails rfl rfl rfl (by decide +kernel) ⟨Nat.le_of_ble_eq_true rfl, Nat.le_of_ble_eq_true rfl⟩) (ci := 9) hc2 rfl rfl rfl hl.1 (Nat.le_of_ble_eq_true rfl) dX11_setDrawer_41 (c1 := 0) (s1 := 0) ⟨⟨rfl, rfl⟩, by decide, by decide⟩ (fun z19 M16 N17 H locs hp18 hV => ?_)
      obtain ⟨ez20, hN21, hc22, hf23⟩ := hp18
      rw [hN21] at hV
      rw [ez20]
      refine sz_eq (tgt := 49) S dX11_setDrawer_44 (by decide) (by omega) (fun c24 => absurd c24 (by omega)) (fun _ => ?_)
      refine si_const S dX11_setDrawer_47 ?_
      have hc25 : M16 (m + 1) = some (sArr G 574 f) := ((hf23 (m + 1) (by omega)).trans ((congrFun hM1 (m + 1)).trans (va_up_ne M _ (by omega)))).trans hm1
      have hc26 : svC G M16 (m + 2) ch fs := hsv.fr (fun x q8 q9 => (hf23 x (by omega)).trans ((congrFun hM1 x).trans (va_up_ne M _ (by omega))))
      exact sr_i E hQ dX11_setDrawer_48 ⟨Nat.le_of_ble_eq_true rfl, Nat.le_of_ble_eq_true rfl⟩ hV (⟨rfl, fun x q0 q1 q2 => (hf23 x (by omega)).trans ((congrFun hM1 x).trans (va_up_ne M _ (by omega))), Or.inl ⟨(by omega), rfl, hc22, hc25, hc26⟩⟩)
    · refine lv_iload_n hx_ hb_ dX11_setDrawer_24 rfl (lv_at hl 3 rfl) ?_
      refine si_const S dX11_setDrawer_25 ?_
      refine si_sipush S dX11_setDrawer_26 (by decide) ?_
      refine sk_SP E hV (As := [.int (sI w), .int (sI 0), .int (sI 999)]) (rest := [.ref m]) (kX11_in l_ G b_ M1 N w 0 999 (by omega)) (va_cwS 3 S.2.2.2.2 gX11_setDrawer_X11_in rfl rfl rfl (by decide +kernel) ⟨Nat.le_of_ble_eq_true rfl, Nat.le_of_ble_eq_true rfl⟩) rfl rfl hl.1 (Nat.le_of_ble_eq_true rfl) dX11_setDrawer_29 (c1 := 0) (s1 := 0) ⟨⟨rfl, rfl⟩, by decide, by decide⟩ (fun H locs hV => ?_)
      refine sq_eq (tgt := 39) S dX11_setDrawer_32 (by decide) (fun c27 => ?_) (fun c27 => ?_)
      · refine si_const S dX11_setDrawer_39 ?_
        refine si_const S dX11_setDrawer_40 ?_
        refine sk_Vi E hV (As := [.int (sI 0), .int (sI 1)]) (rest := []) (kX11_fails0 l_ G b_ M1 N m ch tn ea sn nm wn 1 hc2 (by omega)) (cwV 2 S.2.2.2.2 gX11_setDrawer_X11_fails rfl rfl rfl (by decide +kernel) ⟨Nat.le_of_ble_eq_true rfl, Nat.le_of_ble_eq_true rfl⟩) (ci := 9) hc2 rfl rfl rfl hl.1 (Nat.le_of_ble_eq_true rfl) dX11_setDrawer_41 (c1 := 0) (s1 := 0) ⟨⟨rfl, rfl⟩, by decide, by decide⟩ (fun z31 M28 N29 H locs hp30 hV => ?_)
        obtain ⟨ez32, hN33, hc34, hf35⟩ := hp30
        rw [hN33] at hV
        rw [ez32]
        refine sz_eq (tgt := 49) S dX11_setDrawer_44 (by decide) (by omega) (fun c36 => absurd c36 (by omega)) (fun _ => ?_)
        refine si_const S dX11_setDrawer_47 ?_
        have hc37 : M28 (m + 1) = some (sArr G 574 f) := ((hf35 (m + 1) (by omega)).trans ((congrFun hM1 (m + 1)).trans (va_up_ne M _ (by omega)))).trans hm1
        have hc38 : svC G M28 (m + 2) ch fs := hsv.fr (fun x q8 q9 => (hf35 x (by omega)).trans ((congrFun hM1 x).trans (va_up_ne M _ (by omega))))
        exact sr_i E hQ dX11_setDrawer_48 ⟨Nat.le_of_ble_eq_true rfl, Nat.le_of_ble_eq_true rfl⟩ hV (⟨rfl, fun x q0 q1 q2 => (hf35 x (by omega)).trans ((congrFun hM1 x).trans (va_up_ne M _ (by omega))), Or.inl ⟨(by omega), rfl, hc34, hc37, hc38⟩⟩)
      · refine si_const S dX11_setDrawer_35 ?_
        refine lv_goto (tgt := 40) hx_ hb_ dX11_setDrawer_36 (by decide) ?_
        refine si_const S dX11_setDrawer_40 ?_
        refine sk_Vi E hV (As := [.int (sI 1), .int (sI 1)]) (rest := []) (kX11_fails1 l_ G b_ M1 N m ch tn ea sn nm wn 1 hc2 (by omega)) (cwV 2 S.2.2.2.2 gX11_setDrawer_X11_fails rfl rfl rfl (by decide +kernel) ⟨Nat.le_of_ble_eq_true rfl, Nat.le_of_ble_eq_true rfl⟩) (ci := 9) hc2 rfl rfl rfl hl.1 (Nat.le_of_ble_eq_true rfl) dX11_setDrawer_41 (c1 := 0) (s1 := 0) ⟨⟨rfl, rfl⟩, by decide, by decide⟩ (fun z42 M39 N40 H locs hp41 hV => ?_)
        obtain ⟨ez43, hN44, hc45, hf46⟩ := hp41
        rw [hN44] at hV
        rw [ez43]
        refine sz_eq (tgt := 49) S dX11_setDrawer_44 (by decide) (by omega) (fun _ => ?_) (fun c47 => absurd c47 (by omega))
        refine lv_aload_n hx_ hb_ dX11_setDrawer_49 rfl (lv_at hl 0 rfl) ?_
        refine lv_aload_n hx_ hb_ dX11_setDrawer_50 rfl (lv_at hl 0 rfl) ?_
        refine lv_iload_n hx_ hb_ dX11_setDrawer_51 rfl (lv_at hl 1 rfl) ?_
        refine si_const S dX11_setDrawer_52 ?_
        have hc48 : M39 (m + 1) = some (sArr G 574 f) := ((hf46 (m + 1) (by omega)).trans ((congrFun hM1 (m + 1)).trans (va_up_ne M _ (by omega)))).trans hm1
        refine sk_VP E hV (As := [.int (sI d), .int (sI 1)]) (rest := [.ref m]) (kX11_lying l_ G b_ M39 N m 0 ch tn ea sn nm wn f d 1 hc45 hc48 (by omega) (by omega)) (cwV 2 S.2.2.2.2 gX11_setDrawer_X11_lying rfl rfl rfl (by decide +kernel) ⟨Nat.le_of_ble_eq_true rfl, Nat.le_of_ble_eq_true rfl⟩) (ci := 9) hc45 rfl rfl rfl hl.1 (Nat.le_of_ble_eq_true rfl) dX11_setDrawer_53 (c1 := 0) (s1 := 0) ⟨⟨rfl, rfl⟩, by decide, by decide⟩ (fun H locs hV => ?_)
        refine lv_iload_n hx_ hb_ dX11_setDrawer_56 rfl (lv_at hl 2 rfl) ?_
        refine sb_gt (tgt := 74) S dX11_setDrawer_57 (by decide) (by omega) (fun c49 => ?_) (fun c49 => ?_)
        · refine si_const S dX11_setDrawer_74 ?_
          refine si_const S dX11_setDrawer_75 ?_
          refine sk_Vi E hV (As := [.int (sI 0), .int (sI 2)]) (rest := []) (kX11_fails0 l_ G b_ M39 N m ch tn ea sn nm wn 2 hc45 (by omega)) (cwV 2 S.2.2.2.2 gX11_setDrawer_X11_fails rfl rfl rfl (by decide +kernel) ⟨Nat.le_of_ble_eq_true rfl, Nat.le_of_ble_eq_true rfl⟩) (ci := 9) hc45 rfl rfl rfl hl.1 (Nat.le_of_ble_eq_true rfl) dX11_setDrawer_76 (c1 := 0) (s1 := 0) ⟨⟨rfl, rfl⟩, by decide, by decide⟩ (fun z53 M50 N51 H locs hp52 hV => ?_)
          obtain ⟨ez54, hN55, hc56, hf57⟩ := hp52
          rw [hN55] at hV
          rw [ez54]
          refine sz_eq (tgt := 84) S dX11_setDrawer_79 (by decide) (by omega) (fun c58 => absurd c58 (by omega)) (fun _ => ?_)
          refine si_const S dX11_setDrawer_82 ?_
          have hc59 : M50 (m + 1) = some (sArr G 574 f) := (hf57 (m + 1) (by omega)).trans hc48
          have hc60 : svC G M50 (m + 2) ch fs := hsv.fr (fun x q8 q9 => ((hf57 x (by omega)).trans (hf46 x (by omega))).trans ((congrFun hM1 x).trans (va_up_ne M _ (by omega))))
          exact sr_i E hQ dX11_setDrawer_83 ⟨Nat.le_of_ble_eq_true rfl, Nat.le_of_ble_eq_true rfl⟩ hV (⟨rfl, fun x q0 q1 q2 => ((hf57 x (by omega)).trans (hf46 x (by omega))).trans ((congrFun hM1 x).trans (va_up_ne M _ (by omega))), Or.inr (Or.inl ⟨(by omega), rfl, hc56, hc59, hc60⟩)⟩)
        · refine lv_aload_n hx_ hb_ dX11_setDrawer_60 rfl (lv_at hl 0 rfl) ?_
          refine lv_iload_n hx_ hb_ dX11_setDrawer_61 rfl (lv_at hl 1 rfl) ?_
          refine si_const S dX11_setDrawer_62 ?_
          refine sk_VP E hV (As := [.int (sI d), .int (sI 2)]) (rest := [.ref m]) (kX11_lying l_ G b_ M39 N m 0 ch tn ea sn nm wn f d 2 hc45 hc48 (by omega) (by omega)) (cwV 2 S.2.2.2.2 gX11_setDrawer_X11_lying rfl rfl rfl (by decide +kernel) ⟨Nat.le_of_ble_eq_true rfl, Nat.le_of_ble_eq_true rfl⟩) (ci := 9) hc45 rfl rfl rfl hl.1 (Nat.le_of_ble_eq_true rfl) dX11_setDrawer_63 (c1 := 0) (s1 := 0) ⟨⟨rfl, rfl⟩, by decide, by decide⟩ (fun H locs hV => ?_)
          refine lv_iload_n hx_ hb_ dX11_setDrawer_66 rfl (lv_at hl 3 rfl) ?_
          refine sb_gt (tgt := 74) S dX11_setDrawer_67 (by decide) (by omega) (fun c61 => ?_) (fun c61 => ?_)
          · refine si_const S dX11_setDrawer_74 ?_
            refine si_const S dX11_setDrawer_75 ?_
            refine sk_Vi E hV (As := [.int (sI 0), .int (sI 2)]) (rest := []) (kX11_fails0 l_ G b_ M39 N m ch tn ea sn nm wn 2 hc45 (by omega)) (cwV 2 S.2.2.2.2 gX11_setDrawer_X11_fails rfl rfl rfl (by decide +kernel) ⟨Nat.le_of_ble_eq_true rfl, Nat.le_of_ble_eq_true rfl⟩) (ci := 9) hc45 rfl rfl rfl hl.1 (Nat.le_of_ble_eq_true rfl) dX11_setDrawer_76 (c1 := 0) (s1 := 0) ⟨⟨rfl, rfl⟩, by decide, by decide⟩ (fun z65 M62 N63 H locs hp64 hV => ?_)
            obtain ⟨ez66, hN67, hc68, hf69⟩ := hp64
            rw [hN67] at hV
            rw [ez66]
            refine sz_eq (tgt := 84) S dX11_setDrawer_79 (by decide) (by omega) (fun c70 => absurd c70 (by omega)) (fun _ => ?_)
            refine si_const S dX11_setDrawer_82 ?_
            have hc71 : M62 (m + 1) = some (sArr G 574 f) := (hf69 (m + 1) (by omega)).trans hc48
            have hc72 : svC G M62 (m + 2) ch fs := hsv.fr (fun x q8 q9 => ((hf69 x (by omega)).trans (hf46 x (by omega))).trans ((congrFun hM1 x).trans (va_up_ne M _ (by omega))))
            exact sr_i E hQ dX11_setDrawer_83 ⟨Nat.le_of_ble_eq_true rfl, Nat.le_of_ble_eq_true rfl⟩ hV (⟨rfl, fun x q0 q1 q2 => ((hf69 x (by omega)).trans (hf46 x (by omega))).trans ((congrFun hM1 x).trans (va_up_ne M _ (by omega))), Or.inr (Or.inl ⟨(by omega), rfl, hc68, hc71, hc72⟩)⟩)
          · refine si_const S dX11_setDrawer_70 ?_
            refine lv_goto (tgt := 75) hx_ hb_ dX11_setDrawer_71 (by decide) ?_
            refine si_const S dX11_setDrawer_75 ?_
            refine sk_Vi E hV (As := [.int (sI 1), .int (sI 2)]) (rest := []) (kX11_fails1 l_ G b_ M39 N m ch tn ea sn nm wn 2 hc45 (by omega)) (cwV 2 S.2.2.2.2 gX11_setDrawer_X11_fails rfl rfl rfl (by decide +kernel) ⟨Nat.le_of_ble_eq_true rfl, Nat.le_of_ble_eq_true rfl⟩) (ci := 9) hc45 rfl rfl rfl hl.1 (Nat.le_of_ble_eq_true rfl) dX11_setDrawer_76 (c1 := 0) (s1 := 0) ⟨⟨rfl, rfl⟩, by decide, by decide⟩ (fun z76 M73 N74 H locs hp75 hV => ?_)
            obtain ⟨ez77, hN78, hc79, hf80⟩ := hp75
            rw [hN78] at hV
            rw [ez77]
            refine sz_eq (tgt := 84) S dX11_setDrawer_79 (by decide) (by omega) (fun _ => ?_) (fun c81 => absurd c81 (by omega))
            refine lv_aload_n hx_ hb_ dX11_setDrawer_84 rfl (lv_at hl 0 rfl) ?_
            have hc82 : M73 (m + 1) = some (sArr G 574 f) := (hf80 (m + 1) (by omega)).trans hc48
            have hc83 : svC G M73 (m + 2) ch fs := hsv.fr (fun x q8 q9 => ((hf80 x (by omega)).trans (hf46 x (by omega))).trans ((congrFun hM1 x).trans (va_up_ne M _ (by omega))))
            refine sk_Vv E hV (As := []) (rest := []) (kX11_keeps l_ G b_ M73 N m 0 ch tn ea sn nm wn f fs hc79 hc82 hc83 (by omega)) (cwV 0 S.2.2.2.2 gX11_setDrawer_X11_keeps rfl rfl rfl (by decide +kernel) ⟨Nat.le_of_ble_eq_true rfl, Nat.le_of_ble_eq_true rfl⟩) (ci := 9) hc79 rfl rfl rfl hl.1 (Nat.le_of_ble_eq_true rfl) dX11_setDrawer_85 (c1 := 0) (s1 := 0) ⟨⟨rfl, rfl⟩, by decide, by decide⟩ (fun M84 N85 H locs hp86 hV => ?_)
            obtain ⟨hN88, hc89, hc90, hf91⟩ := hp86
            rw [hN88] at hV
            refine lv_aload_n hx_ hb_ dX11_setDrawer_88 rfl (lv_at hl 0 rfl) ?_
            refine sc_get (ci := 9) (C := RX11) (T := TX11) (n := 22) S hK hV inX11_ hc89 rfl 1 (by decide) (S.2.2.2.2 _ (List.mem_of_getElem? (i := 2) rfl)) rfl rfl dX11_setDrawer_89 ?_
            refine si_sipush S dX11_setDrawer_92 (by decide) ?_
            refine lv_iload_n hx_ hb_ dX11_setDrawer_95 rfl (lv_at hl 1 rfl) ?_
            refine si_add S dX11_setDrawer_96 ?_
            have hc92 : M84 (m + 1) = some (sArr G 574 f) := (hf91 (m + 1) (by omega) (by omega)).trans hc82
            refine sc_iald S hK hV hc92 (by omega) dX11_setDrawer_97 ?_
            have kn93 : 0 ≤ f (150 + d) ∧ f (150 + d) ≤ 99 := (sOk_D hok d (by omega) (by omega)).1
            refine lv_istore (lv' := [(4, .int (sI (f (150 + d)))), (0, .ref m), (1, .int (sI d)), (2, .int (sI z)), (3, .int (sI w))]) hx_ hb_ dX11_setDrawer_98 hl (by decide) rfl (fun ls hl => ?_)
            refine lv_aload_n hx_ hb_ dX11_setDrawer_100 rfl (lv_at hl 1 rfl) ?_
            refine sc_get (ci := 9) (C := RX11) (T := TX11) (n := 22) S hK hV inX11_ hc89 rfl 1 (by decide) (S.2.2.2.2 _ (List.mem_of_getElem? (i := 2) rfl)) rfl rfl dX11_setDrawer_101 ?_
            refine si_sipush S dX11_setDrawer_104 (by decide) ?_
            refine lv_iload_n hx_ hb_ dX11_setDrawer_107 rfl (lv_at hl 2 rfl) ?_
            refine si_add S dX11_setDrawer_108 ?_
            refine lv_iload_n hx_ hb_ dX11_setDrawer_109 rfl (lv_at hl 3 rfl) ?_
            refine sc_iast S hK hV hc92 (by omega) dX11_setDrawer_110 (fun M94 H locs hM94 hV => ?_)
            have hc95 : M94 (m + 1) = some (sArr G 574 (iup f (150 + d) z)) := (congrFun hM94 (m + 1)).trans (va_up_self M84 (m + 1) _)
            refine lv_aload_n hx_ hb_ dX11_setDrawer_111 rfl (lv_at hl 1 rfl) ?_
            have hc96 : M94 m = some (mO m 0 (chn ch) tn ea sn nm wn) := ((congrFun hM94 m).trans (va_up_ne M84 _ (by omega))).trans hc89
            refine sc_get (ci := 9) (C := RX11) (T := TX11) (n := 22) S hK hV inX11_ hc96 rfl 1 (by decide) (S.2.2.2.2 _ (List.mem_of_getElem? (i := 2) rfl)) rfl rfl dX11_setDrawer_112 ?_
            refine si_sipush S dX11_setDrawer_115 (by decide) ?_
            refine lv_iload_n hx_ hb_ dX11_setDrawer_118 rfl (lv_at hl 2 rfl) ?_
            refine si_add S dX11_setDrawer_119 ?_
            refine lv_iload_n hx_ hb_ dX11_setDrawer_120 rfl (lv_at hl 4 rfl) ?_
            refine sc_iast S hK hV hc95 (by omega) dX11_setDrawer_121 (fun M97 H locs hM97 hV => ?_)
            have hc98 : M97 (m + 1) = some (sArr G 574 (iup (iup f (150 + d) z) (154 + d) w)) := (congrFun hM97 (m + 1)).trans (va_up_self M94 (m + 1) _)
            refine lv_iload hx_ hb_ dX11_setDrawer_122 (lv_at hl 0 rfl) ?_
            have hc99 : M97 m = some (mO m 0 (chn ch) tn ea sn nm wn) := ((congrFun hM97 m).trans (va_up_ne M94 _ (by omega))).trans hc96
            have hc100 : svC G M97 (m + 2) (chn ch) (fsn ch fs f) := hc90.fr (fun x q8 q9 => ((congrFun hM97 x).trans (va_up_ne M94 _ (by omega))).trans ((congrFun hM94 x).trans (va_up_ne M84 _ (by omega))))
            exact sr_i E hQ dX11_setDrawer_124 ⟨Nat.le_of_ble_eq_true rfl, Nat.le_of_ble_eq_true rfl⟩ hV (⟨rfl, fun x q0 q1 q2 => ((((((congrFun hM97 x).trans (va_up_ne M94 _ (by omega))).trans ((congrFun hM94 x).trans (va_up_ne M84 _ (by omega)))).trans (hf91 x (by omega) (by omega))).trans (hf80 x (by omega))).trans (hf46 x (by omega))).trans ((congrFun hM1 x).trans (va_up_ne M _ (by omega))), Or.inr (Or.inr (⟨(by omega), rfl, hc99, hc98, hc100⟩))⟩)

abbrev rmX11_doLie : Room := { frames := 2, cells := 0, slots := 0, locals := 60 }
set_option maxHeartbeats 4000000 in
set_option maxRecDepth 100000 in
theorem kX11_doLie (l_ : Launch) (G : sG) (b_ : Nat) (M : sM) (N : Nat) (m : Nat) (th ch tn ea sn nm wn : Int) (f : sF) (p q : Int) (hm0 : M m = some (mO m th ch tn ea sn nm wn)) (hm1 : M (m + 1) = some (sArr G 574 f)) (hok : sOk f) (hp : sR p ∧ sR q) : cP l_ yX11_doLie wsX11_doLie rmX11_doLie G b_ M N [.ref m, .int (sI p), .int (sI q)] (bI (lieP f p q)) := by
  refine sE.ofI (cc := cX11_doLie) (nL := 5) (ret := (some .boolean)) (by decide) rfl (Nat.le_of_ble_eq_true rfl) ?_
  intro p_ e_ s_ m_ args_ below_ meth_ c_ ls Q hQ E hl
  have E : sE p_ l_ e_ rmX11_doLie s_ m_ args_ below_ meth_ c_ cX11_doLie 5 wsX11_doLie RX11 "doLie" (some .boolean) G b_ M N := E
  have S := E.1
  have hx_ := S.1
  have hb_ := S.2.1
  have hK := E.2.2.2.2.1
  have hV := E.2.2.2.2.2.2
  have hl : lv_has ls 5 [(0, .ref m), (1, .int (sI p)), (2, .int (sI q))] := hl
  have inX11_ : ∀ w ∈ wsX110, w ∈ wsX11_doLie := fun _ h => List.mem_cons_of_mem _ (List.mem_append_right _ h)
  have kn0 := sOk_N hok
  refine si_const S dX11_doLie_0 ?_
  refine lv_istore_n (lv' := [(3, .int (sI 0)), (0, .ref m), (1, .int (sI p)), (2, .int (sI q))]) hx_ hb_ dX11_doLie_1 rfl hl (by decide) rfl (fun ls hl => ?_)
  have L2 : ∀ (fuel : Nat) (i : Int)  (H : Heap) (locs : List Loc) (ls : Array Slot), ((f 568 - i).toNat) < fuel → (0 ≤ i ∧ i ≤ f 568) → (∀ k, 0 ≤ k → k < i → ¬ ∃ o, (0 ≤ o ∧ o < f 568) ∧ inO f k o ∧ f (10 + k) = p ∧ f (10 + o) = q) → sV G b_ M N s_ H locs → lv_has ls 5 [(0, .ref m), (1, .int (sI p)), (2, .int (sI q)), (3, .int (sI i))] → W p_ l_ e_ rmX11_doLie s_ m_ args_ below_ meth_ c_ H locs 0 0 Q (F0 m_ 2 ls []) := by
    intro fuel
    induction fuel with
    | zero => intro i H locs ls hmu; exact absurd hmu (Nat.not_lt_zero _)
    | succ fuel ih2 =>
      intro i H locs ls hmu2 hv2_0 hn  hV hl
      refine lv_iload_n hx_ hb_ dX11_doLie_2 rfl (lv_at hl 3 rfl) ?_
      refine lv_aload_n hx_ hb_ dX11_doLie_3 rfl (lv_at hl 0 rfl) ?_
      refine sk_VP E hV (As := []) (rest := [.int (sI i)]) (kX11_many l_ G b_ M N m th ch tn ea sn nm wn f hm0 hm1) (cwV 0 S.2.2.2.2 gX11_doLie_X11_many rfl rfl rfl (by decide +kernel) ⟨Nat.le_of_ble_eq_true rfl, Nat.le_of_ble_eq_true rfl⟩) (ci := 9) hm0 rfl rfl rfl hl.1 (Nat.le_of_ble_eq_true rfl) dX11_doLie_4 (c1 := 0) (s1 := 0) ⟨⟨rfl, rfl⟩, by decide, by decide⟩ (fun H locs hV => ?_)
      refine sb_ge (tgt := 104) S dX11_doLie_7 (by decide) (by omega) (fun c1 => ?_) (fun c1 => ?_)
      · refine si_const S dX11_doLie_104 ?_
        exact sr_z E hQ (Or.inl rfl) dX11_doLie_105 ⟨Nat.le_of_ble_eq_true rfl, Nat.le_of_ble_eq_true rfl⟩ hV (⟨(bI_f (fun h => by obtain ⟨s1, o1, h1, h2, h3, h4⟩ := h; exact hn s1 h1.1 (by omega) ⟨o1, ⟨by omega, by omega⟩, h2, h3, h4⟩)).symm, rfl, rfl⟩)
      · refine si_const S dX11_doLie_10 ?_
        refine lv_istore (lv' := [(4, .int (sI 0)), (0, .ref m), (1, .int (sI p)), (2, .int (sI q)), (3, .int (sI i))]) hx_ hb_ dX11_doLie_11 hl (by decide) rfl (fun ls hl => ?_)
        have L13 : ∀ (fuel : Nat) (j : Int)  (H : Heap) (locs : List Loc) (ls : Array Slot), ((f 568 - j).toNat) < fuel → (0 ≤ j ∧ j ≤ f 568) → (∀ k, 0 ≤ k → k < j → ¬ (inO f i k ∧ f (10 + i) = p ∧ f (10 + k) = q)) → sV G b_ M N s_ H locs → lv_has ls 5 [(0, .ref m), (1, .int (sI p)), (2, .int (sI q)), (3, .int (sI i)), (4, .int (sI j))] → W p_ l_ e_ rmX11_doLie s_ m_ args_ below_ meth_ c_ H locs 0 0 Q (F0 m_ 13 ls []) := by
          intro fuel
          induction fuel with
          | zero => intro j H locs ls hmu; exact absurd hmu (Nat.not_lt_zero _)
          | succ fuel ih13 =>
            intro j H locs ls hmu13 hv13_0 hn2  hV hl
            refine lv_iload hx_ hb_ dX11_doLie_13 (lv_at hl 4 rfl) ?_
            refine lv_aload_n hx_ hb_ dX11_doLie_15 rfl (lv_at hl 0 rfl) ?_
            refine sk_VP E hV (As := []) (rest := [.int (sI j)]) (kX11_many l_ G b_ M N m th ch tn ea sn nm wn f hm0 hm1) (cwV 0 S.2.2.2.2 gX11_doLie_X11_many rfl rfl rfl (by decide +kernel) ⟨Nat.le_of_ble_eq_true rfl, Nat.le_of_ble_eq_true rfl⟩) (ci := 9) hm0 rfl rfl rfl hl.1 (Nat.le_of_ble_eq_true rfl) dX11_doLie_16 (c1 := 0) (s1 := 0) ⟨⟨rfl, rfl⟩, by decide, by decide⟩ (fun H locs hV => ?_)
            refine sb_ge (tgt := 98) S dX11_doLie_19 (by decide) (by omega) (fun c2 => ?_) (fun c2 => ?_)
            · refine si_inc (lv' := [(3, .int (sI (i + 1))), (0, .ref m), (1, .int (sI p)), (2, .int (sI q)), (4, .int (sI j))]) S dX11_doLie_98 hl (k := 3) rfl (by decide) rfl (fun ls hl => ?_)
              refine lv_goto (tgt := 2) hx_ hb_ dX11_doLie_101 (by decide) ?_
              exact ih2 (i + 1) _ _ _ (by omega) (by omega) (idx_st hn (fun h => by obtain ⟨o, h1, h2⟩ := h; exact hn2 o h1.1 (by omega) h2)) hV (lv_sub hl [1, 2, 3, 0] rfl)
            · refine lv_iload_n hx_ hb_ dX11_doLie_22 rfl (lv_at hl 3 rfl) ?_
              refine lv_iload hx_ hb_ dX11_doLie_23 (lv_at hl 4 rfl) ?_
              refine sb_eq (tgt := 92) S dX11_doLie_25 (by decide) (by omega) (fun c3 => ?_) (fun c3 => ?_)
              · refine si_inc (lv' := [(4, .int (sI (j + 1))), (0, .ref m), (1, .int (sI p)), (2, .int (sI q)), (3, .int (sI i))]) S dX11_doLie_92 hl (k := 4) rfl (by decide) rfl (fun ls hl => ?_)
                refine lv_goto (tgt := 13) hx_ hb_ dX11_doLie_95 (by decide) ?_
                exact ih13 (j + 1) _ _ _ (by omega) (by omega) (idx_st hn2 (fun h => by obtain ⟨⟨h1, h1b, h1c⟩, h2, h3⟩ := h; omega)) hV (lv_sub hl [1, 2, 3, 4, 0] rfl)
              · refine lv_aload_n hx_ hb_ dX11_doLie_28 rfl (lv_at hl 0 rfl) ?_
                refine sc_get (ci := 9) (C := RX11) (T := TX11) (n := 22) S hK hV inX11_ hm0 rfl 1 (by decide) (S.2.2.2.2 _ (List.mem_of_getElem? (i := 1) rfl)) rfl rfl dX11_doLie_29 ?_
                refine si_bipush S dX11_doLie_32 (by decide) ?_
                refine lv_iload_n hx_ hb_ dX11_doLie_34 rfl (lv_at hl 3 rfl) ?_
                refine si_add S dX11_doLie_35 ?_
                refine sc_iald S hK hV hm1 (by omega) dX11_doLie_36 ?_
                have kn4 : -1 ≤ f (50 + i) ∧ f (50 + i) ≤ 3 := (sOk_S hok i (by omega) (by omega)).2.2.2.2.2.1
                refine si_const S dX11_doLie_37 ?_
                refine sb_eq (tgt := 92) S dX11_doLie_38 (by decide) (by omega) (fun c5 => ?_) (fun c5 => ?_)
                · refine si_inc (lv' := [(4, .int (sI (j + 1))), (0, .ref m), (1, .int (sI p)), (2, .int (sI q)), (3, .int (sI i))]) S dX11_doLie_92 hl (k := 4) rfl (by decide) rfl (fun ls hl => ?_)
                  refine lv_goto (tgt := 13) hx_ hb_ dX11_doLie_95 (by decide) ?_
                  exact ih13 (j + 1) _ _ _ (by omega) (by omega) (idx_st hn2 (fun h => by obtain ⟨⟨h1, h1b, h1c⟩, h2, h3⟩ := h; omega)) hV (lv_sub hl [1, 2, 3, 4, 0] rfl)
                · refine lv_aload_n hx_ hb_ dX11_doLie_41 rfl (lv_at hl 0 rfl) ?_
                  refine sc_get (ci := 9) (C := RX11) (T := TX11) (n := 22) S hK hV inX11_ hm0 rfl 1 (by decide) (S.2.2.2.2 _ (List.mem_of_getElem? (i := 1) rfl)) rfl rfl dX11_doLie_42 ?_
                  refine si_bipush S dX11_doLie_45 (by decide) ?_
                  refine lv_iload_n hx_ hb_ dX11_doLie_47 rfl (lv_at hl 3 rfl) ?_
                  refine si_add S dX11_doLie_48 ?_
                  refine sc_iald S hK hV hm1 (by omega) dX11_doLie_49 ?_
                  have kn6 : -1 ≤ f (50 + i) ∧ f (50 + i) ≤ 3 := (sOk_S hok i (by omega) (by omega)).2.2.2.2.2.1
                  refine lv_aload_n hx_ hb_ dX11_doLie_50 rfl (lv_at hl 0 rfl) ?_
                  refine sc_get (ci := 9) (C := RX11) (T := TX11) (n := 22) S hK hV inX11_ hm0 rfl 1 (by decide) (S.2.2.2.2 _ (List.mem_of_getElem? (i := 1) rfl)) rfl rfl dX11_doLie_51 ?_
                  refine si_bipush S dX11_doLie_54 (by decide) ?_
                  refine lv_iload hx_ hb_ dX11_doLie_56 (lv_at hl 4 rfl) ?_
                  refine si_add S dX11_doLie_58 ?_
                  refine sc_iald S hK hV hm1 (by omega) dX11_doLie_59 ?_
                  have kn7 : -1 ≤ f (50 + j) ∧ f (50 + j) ≤ 3 := (sOk_S hok j (by omega) (by omega)).2.2.2.2.2.1
                  refine sb_ne (tgt := 92) S dX11_doLie_60 (by decide) (by omega) (fun c8 => ?_) (fun c8 => ?_)
                  · refine si_inc (lv' := [(4, .int (sI (j + 1))), (0, .ref m), (1, .int (sI p)), (2, .int (sI q)), (3, .int (sI i))]) S dX11_doLie_92 hl (k := 4) rfl (by decide) rfl (fun ls hl => ?_)
                    refine lv_goto (tgt := 13) hx_ hb_ dX11_doLie_95 (by decide) ?_
                    exact ih13 (j + 1) _ _ _ (by omega) (by omega) (idx_st hn2 (fun h => by obtain ⟨⟨h1, h1b, h1c⟩, h2, h3⟩ := h; omega)) hV (lv_sub hl [1, 2, 3, 4, 0] rfl)
                  · refine lv_aload_n hx_ hb_ dX11_doLie_63 rfl (lv_at hl 0 rfl) ?_
                    refine sc_get (ci := 9) (C := RX11) (T := TX11) (n := 22) S hK hV inX11_ hm0 rfl 1 (by decide) (S.2.2.2.2 _ (List.mem_of_getElem? (i := 1) rfl)) rfl rfl dX11_doLie_64 ?_
                    refine si_bipush S dX11_doLie_67 (by decide) ?_
                    refine lv_iload_n hx_ hb_ dX11_doLie_69 rfl (lv_at hl 3 rfl) ?_
                    refine si_add S dX11_doLie_70 ?_
                    refine sc_iald S hK hV hm1 (by omega) dX11_doLie_71 ?_
                    have kn9 : 0 ≤ f (10 + i) ∧ f (10 + i) ≤ 5 := (sOk_S hok i (by omega) (by omega)).2.1
                    refine lv_iload_n hx_ hb_ dX11_doLie_72 rfl (lv_at hl 1 rfl) ?_
                    refine sb_ne (tgt := 92) S dX11_doLie_73 (by decide) (by omega) (fun c10 => ?_) (fun c10 => ?_)
                    · refine si_inc (lv' := [(4, .int (sI (j + 1))), (0, .ref m), (1, .int (sI p)), (2, .int (sI q)), (3, .int (sI i))]) S dX11_doLie_92 hl (k := 4) rfl (by decide) rfl (fun ls hl => ?_)
                      refine lv_goto (tgt := 13) hx_ hb_ dX11_doLie_95 (by decide) ?_
                      exact ih13 (j + 1) _ _ _ (by omega) (by omega) (idx_st hn2 (fun h => by obtain ⟨⟨h1, h1b, h1c⟩, h2, h3⟩ := h; omega)) hV (lv_sub hl [1, 2, 3, 4, 0] rfl)
                    · refine lv_aload_n hx_ hb_ dX11_doLie_76 rfl (lv_at hl 0 rfl) ?_
                      refine sc_get (ci := 9) (C := RX11) (T := TX11) (n := 22) S hK hV inX11_ hm0 rfl 1 (by decide) (S.2.2.2.2 _ (List.mem_of_getElem? (i := 1) rfl)) rfl rfl dX11_doLie_77 ?_
                      refine si_bipush S dX11_doLie_80 (by decide) ?_
                      refine lv_iload hx_ hb_ dX11_doLie_82 (lv_at hl 4 rfl) ?_
                      refine si_add S dX11_doLie_84 ?_
                      refine sc_iald S hK hV hm1 (by omega) dX11_doLie_85 ?_
                      have kn11 : 0 ≤ f (10 + j) ∧ f (10 + j) ≤ 5 := (sOk_S hok j (by omega) (by omega)).2.1
                      refine lv_iload_n hx_ hb_ dX11_doLie_86 rfl (lv_at hl 2 rfl) ?_
                      refine sb_ne (tgt := 92) S dX11_doLie_87 (by decide) (by omega) (fun c12 => ?_) (fun c12 => ?_)
                      · refine si_inc (lv' := [(4, .int (sI (j + 1))), (0, .ref m), (1, .int (sI p)), (2, .int (sI q)), (3, .int (sI i))]) S dX11_doLie_92 hl (k := 4) rfl (by decide) rfl (fun ls hl => ?_)
                        refine lv_goto (tgt := 13) hx_ hb_ dX11_doLie_95 (by decide) ?_
                        exact ih13 (j + 1) _ _ _ (by omega) (by omega) (idx_st hn2 (fun h => by obtain ⟨⟨h1, h1b, h1c⟩, h2, h3⟩ := h; omega)) hV (lv_sub hl [1, 2, 3, 4, 0] rfl)
                      · refine si_const S dX11_doLie_90 ?_
                        exact sr_z E hQ (Or.inr rfl) dX11_doLie_91 ⟨Nat.le_of_ble_eq_true rfl, Nat.le_of_ble_eq_true rfl⟩ hV (⟨(bI_t ⟨i, j, ⟨by omega, by omega, by omega, by omega⟩, ⟨by omega, by omega, by omega⟩, by omega, by omega⟩).symm, rfl, rfl⟩)
        exact L13 _ 0 _ _ _ (Nat.lt_succ_self _) (by omega) (fun k a b => by omega) hV (lv_sub hl [1, 2, 3, 4, 0] rfl)
  exact L2 _ 0 _ _ _ (Nat.lt_succ_self _) (by omega) (fun k a b => by omega) hV (lv_sub hl [1, 2, 3, 0] rfl)

abbrev rmX11_areParted : Room := { frames := 1, cells := 0, slots := 0, locals := 40 }
set_option maxHeartbeats 4000000 in
set_option maxRecDepth 100000 in
theorem kX11_areParted (l_ : Launch) (G : sG) (b_ : Nat) (M : sM) (N : Nat) (m : Nat) (th ch tn ea sn nm wn : Int) (f : sF) (i j : Int) (hm0 : M m = some (mO m th ch tn ea sn nm wn)) (hm1 : M (m + 1) = some (sArr G 574 f)) (hok : sOk f) (hi : 0 ≤ i ∧ i < 6 ∧ 0 ≤ j ∧ j < 6) : cP l_ yX11_areParted wsX11_areParted rmX11_areParted G b_ M N [.ref m, .int (sI i), .int (sI j)] (bI (tb (f (158 + i)) j)) := by
  refine sE.ofI (cc := cX11_areParted) (nL := 3) (ret := (some .boolean)) (by decide) rfl (Nat.le_of_ble_eq_true rfl) ?_
  intro p_ e_ s_ m_ args_ below_ meth_ c_ ls Q hQ E hl
  have E : sE p_ l_ e_ rmX11_areParted s_ m_ args_ below_ meth_ c_ cX11_areParted 3 wsX11_areParted RX11 "areParted" (some .boolean) G b_ M N := E
  have S := E.1
  have hx_ := S.1
  have hb_ := S.2.1
  have hK := E.2.2.2.2.1
  have hV := E.2.2.2.2.2.2
  have hl : lv_has ls 3 [(0, .ref m), (1, .int (sI i)), (2, .int (sI j))] := hl
  have inX11_ : ∀ w ∈ wsX110, w ∈ wsX11_areParted := fun _ h => List.mem_cons_of_mem _ (List.mem_append_right _ h)
  have hpk := sOk_P hok i (by omega) (by omega)
  refine lv_aload_n hx_ hb_ dX11_areParted_0 rfl (lv_at hl 0 rfl) ?_
  refine sc_get (ci := 9) (C := RX11) (T := TX11) (n := 22) S hK hV inX11_ hm0 rfl 1 (by decide) (S.2.2.2.2 _ (List.mem_of_getElem? (i := 1) rfl)) rfl rfl dX11_areParted_1 ?_
  refine si_sipush S dX11_areParted_4 (by decide) ?_
  refine lv_iload_n hx_ hb_ dX11_areParted_7 rfl (lv_at hl 1 rfl) ?_
  refine si_add S dX11_areParted_8 ?_
  refine sc_iald S hK hV hm1 (by omega) dX11_areParted_9 ?_
  have kn1 : 0 ≤ f (158 + i) ∧ f (158 + i) ≤ 63 := (sOk_P hok i (by omega) (by omega))
  refine lv_iload_n hx_ hb_ dX11_areParted_10 rfl (lv_at hl 2 rfl) ?_
  refine si_shr S dX11_areParted_11 ?_
  refine si_const S dX11_areParted_12 ?_
  refine si_and S dX11_areParted_13 ?_
  refine si_const S dX11_areParted_14 ?_
  rw [ibit (m := (f (158 + i))) (k := j) (by omega) (by omega)]
  refine sb_ne (tgt := 22) S dX11_areParted_15 (by decide) (by have := bI_r (c := tb (f (158 + i)) j); omega) (fun h15 => ?_) (fun h15 => ?_)
  · refine si_const S dX11_areParted_22 ?_
    exact sr_z E hQ (Or.inl rfl) dX11_areParted_23 ⟨Nat.le_of_ble_eq_true rfl, Nat.le_of_ble_eq_true rfl⟩ hV (⟨(bI_f (by first | exact bI_1.mp h15 | exact fun q => h15 (bI_1.mpr q))).symm, rfl, rfl⟩)
  · refine si_const S dX11_areParted_18 ?_
    refine lv_goto (tgt := 23) hx_ hb_ dX11_areParted_19 (by decide) ?_
    exact sr_z E hQ (Or.inr rfl) dX11_areParted_23 ⟨Nat.le_of_ble_eq_true rfl, Nat.le_of_ble_eq_true rfl⟩ hV (⟨(bI_t (by first | exact bI_1.mp h15 | exact fun q => h15 (bI_1.mpr q))).symm, rfl, rfl⟩)

abbrev rmX11_part : Room := { frames := 3, cells := 0, slots := 0, locals := 84 }
set_option maxHeartbeats 4000000 in
set_option maxRecDepth 100000 in
theorem kX11_part (l_ : Launch) (G : sG) (b_ : Nat) (M : sM) (N : Nat) (m : Nat) (th ch tn ea sn nm wn : Int) (f : sF) (fs : Int → sF) (p q : Int) (B : Prop) (hm0 : M m = some (mO m th ch tn ea sn nm wn)) (hm1 : M (m + 1) = some (sArr G 574 f)) (hsv : svC G M (m + 2) ch fs) (hok : sOk f) (hch : 0 ≤ ch ∧ ch ≤ 15) (hr : sR p ∧ sR q) : cI l_ yX11_part wsX11_part rmX11_part G b_ M N [.ref m, .int (sI p), .int (sI q), .int (sI (bI B))] (fun z_ M1 N1 => N1 = N ∧ (∀ x : Nat, ¬ (x = m) → ¬ (x = m + 1) → ¬ (x = m + 2) → M1 x = M x) ∧ (((¬ ((0 ≤ p ∧ p ≤ 5) ∧ (0 ≤ q ∧ q ≤ 5))) ∧ z_ = 0 ∧ M1 m = some (mO m 1 ch tn ea sn nm wn) ∧ M1 (m + 1) = some (sArr G 574 f) ∧ svC G M1 (m + 2) ch fs) ∨ ((((0 ≤ p ∧ p ≤ 5) ∧ (0 ≤ q ∧ q ≤ 5)) ∧ B ∧ lieP f p q) ∧ z_ = 0 ∧ M1 m = some (mO m 2 ch tn ea sn nm wn) ∧ M1 (m + 1) = some (sArr G 574 f) ∧ svC G M1 (m + 2) ch fs) ∨ ((((0 ≤ p ∧ p ≤ 5) ∧ (0 ≤ q ∧ q ≤ 5)) ∧ ¬ (B ∧ lieP f p q)) ∧ z_ = bI (tb (f (158 + p)) q) ∧ M1 m = some (mO m 0 (chn ch) tn ea sn nm wn) ∧ M1 (m + 1) = some (sArr G 574 (prF f B p q)) ∧ svC G M1 (m + 2) (chn ch) (fsn ch fs f)))) := by
  refine sE.ofI (cc := cX11_part) (nL := 5) (ret := (some .boolean)) (by decide) rfl (Nat.le_of_ble_eq_true rfl) ?_
  intro p_ e_ s_ m_ args_ below_ meth_ c_ ls Q hQ E hl
  have E : sE p_ l_ e_ rmX11_part s_ m_ args_ below_ meth_ c_ cX11_part 5 wsX11_part RX11 "part" (some .boolean) G b_ M N := E
  have S := E.1
  have hx_ := S.1
  have hb_ := S.2.1
  have hK := E.2.2.2.2.1
  have hV := E.2.2.2.2.2.2
  have hl : lv_has ls 5 [(0, .ref m), (1, .int (sI p)), (2, .int (sI q)), (3, .int (sI (bI B)))] := hl
  have inX11_ : ∀ w ∈ wsX110, w ∈ wsX11_part := fun _ h => List.mem_cons_of_mem _ (List.mem_append_right _ h)
  have kn0 := sOk_N hok
  refine lv_aload_n hx_ hb_ dX11_part_0 rfl (lv_at hl 0 rfl) ?_
  refine si_const S dX11_part_1 ?_
  refine sc_put (ci := 9) (C := RX11) (T := TX11) (n := 22) S hK hV inX11_ tyX11_ok nmX11 hm0 rfl 0 (by decide) (S.2.2.2.2 _ (List.mem_of_getElem? (i := 1) rfl)) rfl rfl rfl rfl (Nat.le_of_ble_eq_true rfl) dX11_part_2 (fs1 := [.int (sI 0), .ref (m + 1), .ref (m + 2), .int (sI ch), .ref (m + 3), .int (sI tn), .int (sI ea), .ref (m + 4), .ref (m + 5), .ref (m + 6), .ref (m + 7), .ref (m + 8), .ref (m + 9), .int (sI sn), .ref (m + 10), .ref (m + 11), .ref (m + 12), .ref (m + 13), .int (sI nm), .ref (m + 14), .ref (m + 15), .int (sI wn)]) rfl (fun M1 H locs hM1 hV => ?_)
  have hc2 : M1 m = some (mO m 0 ch tn ea sn nm wn) := (congrFun hM1 m).trans (va_up_self M m _)
  refine lv_aload_n hx_ hb_ dX11_part_5 rfl (lv_at hl 0 rfl) ?_
  refine lv_iload_n hx_ hb_ dX11_part_6 rfl (lv_at hl 1 rfl) ?_
  refine si_const S dX11_part_7 ?_
  refine si_const S dX11_part_8 ?_
  refine sk_SP E hV (As := [.int (sI p), .int (sI 0), .int (sI 5)]) (rest := [.ref m]) (kX11_in l_ G b_ M1 N p 0 5 (by omega)) (va_cwS 3 S.2.2.2.2 gX11_part_X11_in rfl rfl rfl (by decide +kernel) ⟨Nat.le_of_ble_eq_true rfl, Nat.le_of_ble_eq_true rfl⟩) rfl rfl hl.1 (Nat.le_of_ble_eq_true rfl) dX11_part_9 (c1 := 0) (s1 := 0) ⟨⟨rfl, rfl⟩, by decide, by decide⟩ (fun H locs hV => ?_)
  refine sq_eq (tgt := 28) S dX11_part_12 (by decide) (fun c3 => ?_) (fun c3 => ?_)
  · refine si_const S dX11_part_28 ?_
    refine si_const S dX11_part_29 ?_
    refine sk_Vi E hV (As := [.int (sI 0), .int (sI 1)]) (rest := []) (kX11_fails0 l_ G b_ M1 N m ch tn ea sn nm wn 1 hc2 (by omega)) (cwV 2 S.2.2.2.2 gX11_part_X11_fails rfl rfl rfl (by decide +kernel) ⟨Nat.le_of_ble_eq_true rfl, Nat.le_of_ble_eq_true rfl⟩) (ci := 9) hc2 rfl rfl rfl hl.1 (Nat.le_of_ble_eq_true rfl) dX11_part_30 (c1 := 0) (s1 := 0) ⟨⟨rfl, rfl⟩, by decide, by decide⟩ (fun z7 M4 N5 H locs hp6 hV => ?_)
    obtain ⟨ez8, hN9, hc10, hf11⟩ := hp6
    rw [hN9] at hV
    rw [ez8]
    refine sz_ne (tgt := 62) S dX11_part_33 (by decide) (by omega) (fun _ => ?_) (fun c12 => absurd c12 (by omega))
    refine si_const S dX11_part_62 ?_
    have hc13 : M4 (m + 1) = some (sArr G 574 f) := ((hf11 (m + 1) (by omega)).trans ((congrFun hM1 (m + 1)).trans (va_up_ne M _ (by omega)))).trans hm1
    have hc14 : svC G M4 (m + 2) ch fs := hsv.fr (fun x q8 q9 => (hf11 x (by omega)).trans ((congrFun hM1 x).trans (va_up_ne M _ (by omega))))
    exact sr_z E hQ (Or.inl rfl) dX11_part_63 ⟨Nat.le_of_ble_eq_true rfl, Nat.le_of_ble_eq_true rfl⟩ hV (⟨rfl, fun x q0 q1 q2 => (hf11 x (by omega)).trans ((congrFun hM1 x).trans (va_up_ne M _ (by omega))), Or.inl ⟨(by omega), rfl, hc10, hc13, hc14⟩⟩)
  · refine lv_iload_n hx_ hb_ dX11_part_15 rfl (lv_at hl 2 rfl) ?_
    refine si_const S dX11_part_16 ?_
    refine si_const S dX11_part_17 ?_
    refine sk_SP E hV (As := [.int (sI q), .int (sI 0), .int (sI 5)]) (rest := [.ref m]) (kX11_in l_ G b_ M1 N q 0 5 (by omega)) (va_cwS 3 S.2.2.2.2 gX11_part_X11_in rfl rfl rfl (by decide +kernel) ⟨Nat.le_of_ble_eq_true rfl, Nat.le_of_ble_eq_true rfl⟩) rfl rfl hl.1 (Nat.le_of_ble_eq_true rfl) dX11_part_18 (c1 := 0) (s1 := 0) ⟨⟨rfl, rfl⟩, by decide, by decide⟩ (fun H locs hV => ?_)
    refine sq_eq (tgt := 28) S dX11_part_21 (by decide) (fun c15 => ?_) (fun c15 => ?_)
    · refine si_const S dX11_part_28 ?_
      refine si_const S dX11_part_29 ?_
      refine sk_Vi E hV (As := [.int (sI 0), .int (sI 1)]) (rest := []) (kX11_fails0 l_ G b_ M1 N m ch tn ea sn nm wn 1 hc2 (by omega)) (cwV 2 S.2.2.2.2 gX11_part_X11_fails rfl rfl rfl (by decide +kernel) ⟨Nat.le_of_ble_eq_true rfl, Nat.le_of_ble_eq_true rfl⟩) (ci := 9) hc2 rfl rfl rfl hl.1 (Nat.le_of_ble_eq_true rfl) dX11_part_30 (c1 := 0) (s1 := 0) ⟨⟨rfl, rfl⟩, by decide, by decide⟩ (fun z19 M16 N17 H locs hp18 hV => ?_)
      obtain ⟨ez20, hN21, hc22, hf23⟩ := hp18
      rw [hN21] at hV
      rw [ez20]
      refine sz_ne (tgt := 62) S dX11_part_33 (by decide) (by omega) (fun _ => ?_) (fun c24 => absurd c24 (by omega))
      refine si_const S dX11_part_62 ?_
      have hc25 : M16 (m + 1) = some (sArr G 574 f) := ((hf23 (m + 1) (by omega)).trans ((congrFun hM1 (m + 1)).trans (va_up_ne M _ (by omega)))).trans hm1
      have hc26 : svC G M16 (m + 2) ch fs := hsv.fr (fun x q8 q9 => (hf23 x (by omega)).trans ((congrFun hM1 x).trans (va_up_ne M _ (by omega))))
      exact sr_z E hQ (Or.inl rfl) dX11_part_63 ⟨Nat.le_of_ble_eq_true rfl, Nat.le_of_ble_eq_true rfl⟩ hV (⟨rfl, fun x q0 q1 q2 => (hf23 x (by omega)).trans ((congrFun hM1 x).trans (va_up_ne M _ (by omega))), Or.inl ⟨(by omega), rfl, hc22, hc25, hc26⟩⟩)
    · refine si_const S dX11_part_24 ?_
      refine lv_goto (tgt := 29) hx_ hb_ dX11_part_25 (by decide) ?_
      refine si_const S dX11_part_29 ?_
      refine sk_Vi E hV (As := [.int (sI 1), .int (sI 1)]) (rest := []) (kX11_fails1 l_ G b_ M1 N m ch tn ea sn nm wn 1 hc2 (by omega)) (cwV 2 S.2.2.2.2 gX11_part_X11_fails rfl rfl rfl (by decide +kernel) ⟨Nat.le_of_ble_eq_true rfl, Nat.le_of_ble_eq_true rfl⟩) (ci := 9) hc2 rfl rfl rfl hl.1 (Nat.le_of_ble_eq_true rfl) dX11_part_30 (c1 := 0) (s1 := 0) ⟨⟨rfl, rfl⟩, by decide, by decide⟩ (fun z30 M27 N28 H locs hp29 hV => ?_)
      obtain ⟨ez31, hN32, hc33, hf34⟩ := hp29
      rw [hN32] at hV
      rw [ez31]
      refine sz_ne (tgt := 62) S dX11_part_33 (by decide) (by omega) (fun c35 => absurd c35 (by omega)) (fun _ => ?_)
      refine lv_aload_n hx_ hb_ dX11_part_36 rfl (lv_at hl 0 rfl) ?_
      refine lv_iload_n hx_ hb_ dX11_part_37 rfl (lv_at hl 3 rfl) ?_
      refine sq_eq (tgt := 50) S dX11_part_38 (by decide) (fun hB0 => ?_) (fun hB0 => ?_)
      · refine si_const S dX11_part_50 ?_
        refine lv_goto (tgt := 55) hx_ hb_ dX11_part_51 (by decide) ?_
        refine si_const S dX11_part_55 ?_
        refine sk_Vi E hV (As := [.int (sI 1), .int (sI 2)]) (rest := []) (kX11_fails1 l_ G b_ M27 N m ch tn ea sn nm wn 2 hc33 (by omega)) (cwV 2 S.2.2.2.2 gX11_part_X11_fails rfl rfl rfl (by decide +kernel) ⟨Nat.le_of_ble_eq_true rfl, Nat.le_of_ble_eq_true rfl⟩) (ci := 9) hc33 rfl rfl rfl hl.1 (Nat.le_of_ble_eq_true rfl) dX11_part_56 (c1 := 0) (s1 := 0) ⟨⟨rfl, rfl⟩, by decide, by decide⟩ (fun z39 M36 N37 H locs hp38 hV => ?_)
        obtain ⟨ez40, hN41, hc42, hf43⟩ := hp38
        rw [hN41] at hV
        rw [ez40]
        refine sz_eq (tgt := 64) S dX11_part_59 (by decide) (by omega) (fun _ => ?_) (fun c44 => absurd c44 (by omega))
        refine lv_aload_n hx_ hb_ dX11_part_64 rfl (lv_at hl 0 rfl) ?_
        have hc45 : M36 (m + 1) = some (sArr G 574 f) := (((hf43 (m + 1) (by omega)).trans (hf34 (m + 1) (by omega))).trans ((congrFun hM1 (m + 1)).trans (va_up_ne M _ (by omega)))).trans hm1
        have hc46 : svC G M36 (m + 2) ch fs := hsv.fr (fun x q8 q9 => ((hf43 x (by omega)).trans (hf34 x (by omega))).trans ((congrFun hM1 x).trans (va_up_ne M _ (by omega))))
        refine sk_Vv E hV (As := []) (rest := []) (kX11_keeps l_ G b_ M36 N m 0 ch tn ea sn nm wn f fs hc42 hc45 hc46 (by omega)) (cwV 0 S.2.2.2.2 gX11_part_X11_keeps rfl rfl rfl (by decide +kernel) ⟨Nat.le_of_ble_eq_true rfl, Nat.le_of_ble_eq_true rfl⟩) (ci := 9) hc42 rfl rfl rfl hl.1 (Nat.le_of_ble_eq_true rfl) dX11_part_65 (c1 := 0) (s1 := 0) ⟨⟨rfl, rfl⟩, by decide, by decide⟩ (fun M47 N48 H locs hp49 hV => ?_)
        obtain ⟨hN51, hc52, hc53, hf54⟩ := hp49
        rw [hN51] at hV
        refine lv_aload_n hx_ hb_ dX11_part_68 rfl (lv_at hl 0 rfl) ?_
        refine lv_iload_n hx_ hb_ dX11_part_69 rfl (lv_at hl 1 rfl) ?_
        refine lv_iload_n hx_ hb_ dX11_part_70 rfl (lv_at hl 2 rfl) ?_
        have hc55 : M47 (m + 1) = some (sArr G 574 f) := (hf54 (m + 1) (by omega) (by omega)).trans hc45
        refine sk_VP E hV (As := [.int (sI p), .int (sI q)]) (rest := []) (kX11_areParted l_ G b_ M47 N m 0 (chn ch) tn ea sn nm wn f p q hc52 hc55 (by omega) (by omega)) (cwV 2 S.2.2.2.2 gX11_part_X11_areParted rfl rfl rfl (by decide +kernel) ⟨Nat.le_of_ble_eq_true rfl, Nat.le_of_ble_eq_true rfl⟩) (ci := 9) hc52 rfl rfl rfl hl.1 (Nat.le_of_ble_eq_true rfl) dX11_part_71 (c1 := 0) (s1 := 0) ⟨⟨rfl, rfl⟩, by decide, by decide⟩ (fun H locs hV => ?_)
        refine lv_istore (lv' := [(4, .int (sI (bI (tb (f (158 + p)) q)))), (0, .ref m), (1, .int (sI p)), (2, .int (sI q)), (3, .int (sI (bI B)))]) hx_ hb_ dX11_part_74 hl (by decide) rfl (fun ls hl => ?_)
        refine lv_aload_n hx_ hb_ dX11_part_76 rfl (lv_at hl 1 rfl) ?_
        refine sc_get (ci := 9) (C := RX11) (T := TX11) (n := 22) S hK hV inX11_ hc52 rfl 1 (by decide) (S.2.2.2.2 _ (List.mem_of_getElem? (i := 2) rfl)) rfl rfl dX11_part_77 ?_
        refine si_sipush S dX11_part_80 (by decide) ?_
        refine lv_iload_n hx_ hb_ dX11_part_83 rfl (lv_at hl 2 rfl) ?_
        refine si_add S dX11_part_84 ?_
        refine lv_iload_n hx_ hb_ dX11_part_85 rfl (lv_at hl 4 rfl) ?_
        refine sq_eq (tgt := 106) S dX11_part_86 (by decide) (fun hB => ?_) (fun hB => ?_)
        · refine lv_aload_n hx_ hb_ dX11_part_106 rfl (lv_at hl 1 rfl) ?_
          refine sc_get (ci := 9) (C := RX11) (T := TX11) (n := 22) S hK hV inX11_ hc52 rfl 1 (by decide) (S.2.2.2.2 _ (List.mem_of_getElem? (i := 2) rfl)) rfl rfl dX11_part_107 ?_
          refine si_sipush S dX11_part_110 (by decide) ?_
          refine lv_iload_n hx_ hb_ dX11_part_113 rfl (lv_at hl 2 rfl) ?_
          refine si_add S dX11_part_114 ?_
          refine sc_iald S hK hV hc55 (by omega) dX11_part_115 ?_
          have kn56 : 0 ≤ f (158 + p) ∧ f (158 + p) ≤ 63 := (sOk_P hok p (by omega) (by omega))
          refine si_const S dX11_part_116 ?_
          refine lv_iload_n hx_ hb_ dX11_part_117 rfl (lv_at hl 3 rfl) ?_
          refine si_shl S dX11_part_118 ?_
          refine si_const S dX11_part_119 ?_
          refine si_xor S dX11_part_120 ?_
          refine si_and S dX11_part_121 ?_
          refine sc_iast S hK hV hc55 (by omega) dX11_part_122 (fun M57 H locs hM57 hV => ?_)
          have hc58 : M57 (m + 1) = some (sArr G 574 (iup f (158 + p) (iand (f (158 + p)) (ixor (ishl 1 q) (-1))))) := (congrFun hM57 (m + 1)).trans (va_up_self M47 (m + 1) _)
          refine lv_aload_n hx_ hb_ dX11_part_123 rfl (lv_at hl 1 rfl) ?_
          have hc59 : M57 m = some (mO m 0 (chn ch) tn ea sn nm wn) := ((congrFun hM57 m).trans (va_up_ne M47 _ (by omega))).trans hc52
          refine sc_get (ci := 9) (C := RX11) (T := TX11) (n := 22) S hK hV inX11_ hc59 rfl 1 (by decide) (S.2.2.2.2 _ (List.mem_of_getElem? (i := 2) rfl)) rfl rfl dX11_part_124 ?_
          refine si_sipush S dX11_part_127 (by decide) ?_
          refine lv_iload_n hx_ hb_ dX11_part_130 rfl (lv_at hl 3 rfl) ?_
          refine si_add S dX11_part_131 ?_
          refine lv_iload_n hx_ hb_ dX11_part_132 rfl (lv_at hl 4 rfl) ?_
          refine sq_eq (tgt := 153) S dX11_part_133 (by decide) (fun _ => ?_) (fun c60 => absurd c60 (by exact hB))
          refine lv_aload_n hx_ hb_ dX11_part_153 rfl (lv_at hl 1 rfl) ?_
          refine sc_get (ci := 9) (C := RX11) (T := TX11) (n := 22) S hK hV inX11_ hc59 rfl 1 (by decide) (S.2.2.2.2 _ (List.mem_of_getElem? (i := 2) rfl)) rfl rfl dX11_part_154 ?_
          refine si_sipush S dX11_part_157 (by decide) ?_
          refine lv_iload_n hx_ hb_ dX11_part_160 rfl (lv_at hl 3 rfl) ?_
          refine si_add S dX11_part_161 ?_
          refine sc_iald S hK hV hc58 (by omega) dX11_part_162 ?_
          refine si_const S dX11_part_163 ?_
          refine lv_iload_n hx_ hb_ dX11_part_164 rfl (lv_at hl 2 rfl) ?_
          refine si_shl S dX11_part_165 ?_
          refine si_const S dX11_part_166 ?_
          refine si_xor S dX11_part_167 ?_
          refine si_and S dX11_part_168 ?_
          refine sc_iast S hK hV hc58 (by omega) dX11_part_169 (fun M61 H locs hM61 hV => ?_)
          have hc62 : M61 (m + 1) = some (sArr G 574 (iup (iup f (158 + p) (iand (f (158 + p)) (ixor (ishl 1 q) (-1)))) (158 + q) (iand ((iup f (158 + p) (iand (f (158 + p)) (ixor (ishl 1 q) (-1)))) (158 + q)) (ixor (ishl 1 p) (-1))))) := (congrFun hM61 (m + 1)).trans (va_up_self M57 (m + 1) _)
          refine lv_iload hx_ hb_ dX11_part_170 (lv_at hl 0 rfl) ?_
          have hc63 : M61 m = some (mO m 0 (chn ch) tn ea sn nm wn) := ((congrFun hM61 m).trans (va_up_ne M57 _ (by omega))).trans hc59
          have hc64 : svC G M61 (m + 2) (chn ch) (fsn ch fs f) := hc53.fr (fun x q8 q9 => ((congrFun hM61 x).trans (va_up_ne M57 _ (by omega))).trans ((congrFun hM57 x).trans (va_up_ne M47 _ (by omega))))
          exact sr_z E hQ bI_or dX11_part_172 ⟨Nat.le_of_ble_eq_true rfl, Nat.le_of_ble_eq_true rfl⟩ hV (⟨rfl, fun x q0 q1 q2 => ((((((congrFun hM61 x).trans (va_up_ne M57 _ (by omega))).trans ((congrFun hM57 x).trans (va_up_ne M47 _ (by omega)))).trans (hf54 x (by omega) (by omega))).trans (hf43 x (by omega))).trans (hf34 x (by omega))).trans ((congrFun hM1 x).trans (va_up_ne M _ (by omega))), Or.inr (Or.inr (⟨(⟨by omega, fun h => by first | exact hB0 h.1 | exact hL h.2⟩), rfl, hc63, by unfold prF prB; rw [pif_f hB, pif_f hB]; exact hc62, hc64⟩))⟩)
        · refine lv_aload_n hx_ hb_ dX11_part_89 rfl (lv_at hl 1 rfl) ?_
          refine sc_get (ci := 9) (C := RX11) (T := TX11) (n := 22) S hK hV inX11_ hc52 rfl 1 (by decide) (S.2.2.2.2 _ (List.mem_of_getElem? (i := 2) rfl)) rfl rfl dX11_part_90 ?_
          refine si_sipush S dX11_part_93 (by decide) ?_
          refine lv_iload_n hx_ hb_ dX11_part_96 rfl (lv_at hl 2 rfl) ?_
          refine si_add S dX11_part_97 ?_
          refine sc_iald S hK hV hc55 (by omega) dX11_part_98 ?_
          have kn65 : 0 ≤ f (158 + p) ∧ f (158 + p) ≤ 63 := (sOk_P hok p (by omega) (by omega))
          refine si_const S dX11_part_99 ?_
          refine lv_iload_n hx_ hb_ dX11_part_100 rfl (lv_at hl 3 rfl) ?_
          refine si_shl S dX11_part_101 ?_
          refine si_or S dX11_part_102 ?_
          refine lv_goto (tgt := 122) hx_ hb_ dX11_part_103 (by decide) ?_
          refine sc_iast S hK hV hc55 (by omega) dX11_part_122 (fun M66 H locs hM66 hV => ?_)
          have hc67 : M66 (m + 1) = some (sArr G 574 (iup f (158 + p) (ior (f (158 + p)) (ishl 1 q)))) := (congrFun hM66 (m + 1)).trans (va_up_self M47 (m + 1) _)
          refine lv_aload_n hx_ hb_ dX11_part_123 rfl (lv_at hl 1 rfl) ?_
          have hc68 : M66 m = some (mO m 0 (chn ch) tn ea sn nm wn) := ((congrFun hM66 m).trans (va_up_ne M47 _ (by omega))).trans hc52
          refine sc_get (ci := 9) (C := RX11) (T := TX11) (n := 22) S hK hV inX11_ hc68 rfl 1 (by decide) (S.2.2.2.2 _ (List.mem_of_getElem? (i := 2) rfl)) rfl rfl dX11_part_124 ?_
          refine si_sipush S dX11_part_127 (by decide) ?_
          refine lv_iload_n hx_ hb_ dX11_part_130 rfl (lv_at hl 3 rfl) ?_
          refine si_add S dX11_part_131 ?_
          refine lv_iload_n hx_ hb_ dX11_part_132 rfl (lv_at hl 4 rfl) ?_
          refine sq_eq (tgt := 153) S dX11_part_133 (by decide) (fun c69 => absurd c69 (by exact fun q => q hB)) (fun _ => ?_)
          refine lv_aload_n hx_ hb_ dX11_part_136 rfl (lv_at hl 1 rfl) ?_
          refine sc_get (ci := 9) (C := RX11) (T := TX11) (n := 22) S hK hV inX11_ hc68 rfl 1 (by decide) (S.2.2.2.2 _ (List.mem_of_getElem? (i := 2) rfl)) rfl rfl dX11_part_137 ?_
          refine si_sipush S dX11_part_140 (by decide) ?_
          refine lv_iload_n hx_ hb_ dX11_part_143 rfl (lv_at hl 3 rfl) ?_
          refine si_add S dX11_part_144 ?_
          refine sc_iald S hK hV hc67 (by omega) dX11_part_145 ?_
          refine si_const S dX11_part_146 ?_
          refine lv_iload_n hx_ hb_ dX11_part_147 rfl (lv_at hl 2 rfl) ?_
          refine si_shl S dX11_part_148 ?_
          refine si_or S dX11_part_149 ?_
          refine lv_goto (tgt := 169) hx_ hb_ dX11_part_150 (by decide) ?_
          refine sc_iast S hK hV hc67 (by omega) dX11_part_169 (fun M70 H locs hM70 hV => ?_)
          have hc71 : M70 (m + 1) = some (sArr G 574 (iup (iup f (158 + p) (ior (f (158 + p)) (ishl 1 q))) (158 + q) (ior ((iup f (158 + p) (ior (f (158 + p)) (ishl 1 q))) (158 + q)) (ishl 1 p)))) := (congrFun hM70 (m + 1)).trans (va_up_self M66 (m + 1) _)
          refine lv_iload hx_ hb_ dX11_part_170 (lv_at hl 0 rfl) ?_
          have hc72 : M70 m = some (mO m 0 (chn ch) tn ea sn nm wn) := ((congrFun hM70 m).trans (va_up_ne M66 _ (by omega))).trans hc68
          have hc73 : svC G M70 (m + 2) (chn ch) (fsn ch fs f) := hc53.fr (fun x q8 q9 => ((congrFun hM70 x).trans (va_up_ne M66 _ (by omega))).trans ((congrFun hM66 x).trans (va_up_ne M47 _ (by omega))))
          exact sr_z E hQ bI_or dX11_part_172 ⟨Nat.le_of_ble_eq_true rfl, Nat.le_of_ble_eq_true rfl⟩ hV (⟨rfl, fun x q0 q1 q2 => ((((((congrFun hM70 x).trans (va_up_ne M66 _ (by omega))).trans ((congrFun hM66 x).trans (va_up_ne M47 _ (by omega)))).trans (hf54 x (by omega) (by omega))).trans (hf43 x (by omega))).trans (hf34 x (by omega))).trans ((congrFun hM1 x).trans (va_up_ne M _ (by omega))), Or.inr (Or.inr (⟨(⟨by omega, fun h => by first | exact hB0 h.1 | exact hL h.2⟩), rfl, hc72, by unfold prF prB; rw [pif_t hB, pif_t hB]; exact hc71, hc73⟩))⟩)
      · refine lv_aload_n hx_ hb_ dX11_part_41 rfl (lv_at hl 0 rfl) ?_
        refine lv_iload_n hx_ hb_ dX11_part_42 rfl (lv_at hl 1 rfl) ?_
        refine lv_iload_n hx_ hb_ dX11_part_43 rfl (lv_at hl 2 rfl) ?_
        have hc74 : M27 (m + 1) = some (sArr G 574 f) := ((hf34 (m + 1) (by omega)).trans ((congrFun hM1 (m + 1)).trans (va_up_ne M _ (by omega)))).trans hm1
        refine sk_VP E hV (As := [.int (sI p), .int (sI q)]) (rest := [.ref m]) (kX11_doLie l_ G b_ M27 N m 0 ch tn ea sn nm wn f p q hc33 hc74 (by omega) (by omega)) (cwV 2 S.2.2.2.2 gX11_part_X11_doLie rfl rfl rfl (by decide +kernel) ⟨Nat.le_of_ble_eq_true rfl, Nat.le_of_ble_eq_true rfl⟩) (ci := 9) hc33 rfl rfl rfl hl.1 (Nat.le_of_ble_eq_true rfl) dX11_part_44 (c1 := 0) (s1 := 0) ⟨⟨rfl, rfl⟩, by decide, by decide⟩ (fun H locs hV => ?_)
        refine sq_ne (tgt := 54) S dX11_part_47 (by decide) (fun hL => ?_) (fun hL => ?_)
        · refine si_const S dX11_part_54 ?_
          refine si_const S dX11_part_55 ?_
          refine sk_Vi E hV (As := [.int (sI 0), .int (sI 2)]) (rest := []) (kX11_fails0 l_ G b_ M27 N m ch tn ea sn nm wn 2 hc33 (by omega)) (cwV 2 S.2.2.2.2 gX11_part_X11_fails rfl rfl rfl (by decide +kernel) ⟨Nat.le_of_ble_eq_true rfl, Nat.le_of_ble_eq_true rfl⟩) (ci := 9) hc33 rfl rfl rfl hl.1 (Nat.le_of_ble_eq_true rfl) dX11_part_56 (c1 := 0) (s1 := 0) ⟨⟨rfl, rfl⟩, by decide, by decide⟩ (fun z78 M75 N76 H locs hp77 hV => ?_)
          obtain ⟨ez79, hN80, hc81, hf82⟩ := hp77
          rw [hN80] at hV
          rw [ez79]
          refine sz_eq (tgt := 64) S dX11_part_59 (by decide) (by omega) (fun c83 => absurd c83 (by omega)) (fun _ => ?_)
          refine si_const S dX11_part_62 ?_
          have hc84 : M75 (m + 1) = some (sArr G 574 f) := (hf82 (m + 1) (by omega)).trans hc74
          have hc85 : svC G M75 (m + 2) ch fs := hsv.fr (fun x q8 q9 => ((hf82 x (by omega)).trans (hf34 x (by omega))).trans ((congrFun hM1 x).trans (va_up_ne M _ (by omega))))
          exact sr_z E hQ (Or.inl rfl) dX11_part_63 ⟨Nat.le_of_ble_eq_true rfl, Nat.le_of_ble_eq_true rfl⟩ hV (⟨rfl, fun x q0 q1 q2 => ((hf82 x (by omega)).trans (hf34 x (by omega))).trans ((congrFun hM1 x).trans (va_up_ne M _ (by omega))), Or.inr (Or.inl ⟨(⟨by omega, by assumption, by assumption⟩), rfl, hc81, hc84, hc85⟩)⟩)
        · refine si_const S dX11_part_50 ?_
          refine lv_goto (tgt := 55) hx_ hb_ dX11_part_51 (by decide) ?_
          refine si_const S dX11_part_55 ?_
          refine sk_Vi E hV (As := [.int (sI 1), .int (sI 2)]) (rest := []) (kX11_fails1 l_ G b_ M27 N m ch tn ea sn nm wn 2 hc33 (by omega)) (cwV 2 S.2.2.2.2 gX11_part_X11_fails rfl rfl rfl (by decide +kernel) ⟨Nat.le_of_ble_eq_true rfl, Nat.le_of_ble_eq_true rfl⟩) (ci := 9) hc33 rfl rfl rfl hl.1 (Nat.le_of_ble_eq_true rfl) dX11_part_56 (c1 := 0) (s1 := 0) ⟨⟨rfl, rfl⟩, by decide, by decide⟩ (fun z89 M86 N87 H locs hp88 hV => ?_)
          obtain ⟨ez90, hN91, hc92, hf93⟩ := hp88
          rw [hN91] at hV
          rw [ez90]
          refine sz_eq (tgt := 64) S dX11_part_59 (by decide) (by omega) (fun _ => ?_) (fun c94 => absurd c94 (by omega))
          refine lv_aload_n hx_ hb_ dX11_part_64 rfl (lv_at hl 0 rfl) ?_
          have hc95 : M86 (m + 1) = some (sArr G 574 f) := (hf93 (m + 1) (by omega)).trans hc74
          have hc96 : svC G M86 (m + 2) ch fs := hsv.fr (fun x q8 q9 => ((hf93 x (by omega)).trans (hf34 x (by omega))).trans ((congrFun hM1 x).trans (va_up_ne M _ (by omega))))
          refine sk_Vv E hV (As := []) (rest := []) (kX11_keeps l_ G b_ M86 N m 0 ch tn ea sn nm wn f fs hc92 hc95 hc96 (by omega)) (cwV 0 S.2.2.2.2 gX11_part_X11_keeps rfl rfl rfl (by decide +kernel) ⟨Nat.le_of_ble_eq_true rfl, Nat.le_of_ble_eq_true rfl⟩) (ci := 9) hc92 rfl rfl rfl hl.1 (Nat.le_of_ble_eq_true rfl) dX11_part_65 (c1 := 0) (s1 := 0) ⟨⟨rfl, rfl⟩, by decide, by decide⟩ (fun M97 N98 H locs hp99 hV => ?_)
          obtain ⟨hN101, hc102, hc103, hf104⟩ := hp99
          rw [hN101] at hV
          refine lv_aload_n hx_ hb_ dX11_part_68 rfl (lv_at hl 0 rfl) ?_
          refine lv_iload_n hx_ hb_ dX11_part_69 rfl (lv_at hl 1 rfl) ?_
          refine lv_iload_n hx_ hb_ dX11_part_70 rfl (lv_at hl 2 rfl) ?_
          have hc105 : M97 (m + 1) = some (sArr G 574 f) := (hf104 (m + 1) (by omega) (by omega)).trans hc95
          refine sk_VP E hV (As := [.int (sI p), .int (sI q)]) (rest := []) (kX11_areParted l_ G b_ M97 N m 0 (chn ch) tn ea sn nm wn f p q hc102 hc105 (by omega) (by omega)) (cwV 2 S.2.2.2.2 gX11_part_X11_areParted rfl rfl rfl (by decide +kernel) ⟨Nat.le_of_ble_eq_true rfl, Nat.le_of_ble_eq_true rfl⟩) (ci := 9) hc102 rfl rfl rfl hl.1 (Nat.le_of_ble_eq_true rfl) dX11_part_71 (c1 := 0) (s1 := 0) ⟨⟨rfl, rfl⟩, by decide, by decide⟩ (fun H locs hV => ?_)
          refine lv_istore (lv' := [(4, .int (sI (bI (tb (f (158 + p)) q)))), (0, .ref m), (1, .int (sI p)), (2, .int (sI q)), (3, .int (sI (bI B)))]) hx_ hb_ dX11_part_74 hl (by decide) rfl (fun ls hl => ?_)
          refine lv_aload_n hx_ hb_ dX11_part_76 rfl (lv_at hl 1 rfl) ?_
          refine sc_get (ci := 9) (C := RX11) (T := TX11) (n := 22) S hK hV inX11_ hc102 rfl 1 (by decide) (S.2.2.2.2 _ (List.mem_of_getElem? (i := 2) rfl)) rfl rfl dX11_part_77 ?_
          refine si_sipush S dX11_part_80 (by decide) ?_
          refine lv_iload_n hx_ hb_ dX11_part_83 rfl (lv_at hl 2 rfl) ?_
          refine si_add S dX11_part_84 ?_
          refine lv_iload_n hx_ hb_ dX11_part_85 rfl (lv_at hl 4 rfl) ?_
          refine sq_eq (tgt := 106) S dX11_part_86 (by decide) (fun hB => ?_) (fun hB => ?_)
          · refine lv_aload_n hx_ hb_ dX11_part_106 rfl (lv_at hl 1 rfl) ?_
            refine sc_get (ci := 9) (C := RX11) (T := TX11) (n := 22) S hK hV inX11_ hc102 rfl 1 (by decide) (S.2.2.2.2 _ (List.mem_of_getElem? (i := 2) rfl)) rfl rfl dX11_part_107 ?_
            refine si_sipush S dX11_part_110 (by decide) ?_
            refine lv_iload_n hx_ hb_ dX11_part_113 rfl (lv_at hl 2 rfl) ?_
            refine si_add S dX11_part_114 ?_
            refine sc_iald S hK hV hc105 (by omega) dX11_part_115 ?_
            have kn106 : 0 ≤ f (158 + p) ∧ f (158 + p) ≤ 63 := (sOk_P hok p (by omega) (by omega))
            refine si_const S dX11_part_116 ?_
            refine lv_iload_n hx_ hb_ dX11_part_117 rfl (lv_at hl 3 rfl) ?_
            refine si_shl S dX11_part_118 ?_
            refine si_const S dX11_part_119 ?_
            refine si_xor S dX11_part_120 ?_
            refine si_and S dX11_part_121 ?_
            refine sc_iast S hK hV hc105 (by omega) dX11_part_122 (fun M107 H locs hM107 hV => ?_)
            have hc108 : M107 (m + 1) = some (sArr G 574 (iup f (158 + p) (iand (f (158 + p)) (ixor (ishl 1 q) (-1))))) := (congrFun hM107 (m + 1)).trans (va_up_self M97 (m + 1) _)
            refine lv_aload_n hx_ hb_ dX11_part_123 rfl (lv_at hl 1 rfl) ?_
            have hc109 : M107 m = some (mO m 0 (chn ch) tn ea sn nm wn) := ((congrFun hM107 m).trans (va_up_ne M97 _ (by omega))).trans hc102
            refine sc_get (ci := 9) (C := RX11) (T := TX11) (n := 22) S hK hV inX11_ hc109 rfl 1 (by decide) (S.2.2.2.2 _ (List.mem_of_getElem? (i := 2) rfl)) rfl rfl dX11_part_124 ?_
            refine si_sipush S dX11_part_127 (by decide) ?_
            refine lv_iload_n hx_ hb_ dX11_part_130 rfl (lv_at hl 3 rfl) ?_
            refine si_add S dX11_part_131 ?_
            refine lv_iload_n hx_ hb_ dX11_part_132 rfl (lv_at hl 4 rfl) ?_
            refine sq_eq (tgt := 153) S dX11_part_133 (by decide) (fun _ => ?_) (fun c110 => absurd c110 (by exact hB))
            refine lv_aload_n hx_ hb_ dX11_part_153 rfl (lv_at hl 1 rfl) ?_
            refine sc_get (ci := 9) (C := RX11) (T := TX11) (n := 22) S hK hV inX11_ hc109 rfl 1 (by decide) (S.2.2.2.2 _ (List.mem_of_getElem? (i := 2) rfl)) rfl rfl dX11_part_154 ?_
            refine si_sipush S dX11_part_157 (by decide) ?_
            refine lv_iload_n hx_ hb_ dX11_part_160 rfl (lv_at hl 3 rfl) ?_
            refine si_add S dX11_part_161 ?_
            refine sc_iald S hK hV hc108 (by omega) dX11_part_162 ?_
            refine si_const S dX11_part_163 ?_
            refine lv_iload_n hx_ hb_ dX11_part_164 rfl (lv_at hl 2 rfl) ?_
            refine si_shl S dX11_part_165 ?_
            refine si_const S dX11_part_166 ?_
            refine si_xor S dX11_part_167 ?_
            refine si_and S dX11_part_168 ?_
            refine sc_iast S hK hV hc108 (by omega) dX11_part_169 (fun M111 H locs hM111 hV => ?_)
            have hc112 : M111 (m + 1) = some (sArr G 574 (iup (iup f (158 + p) (iand (f (158 + p)) (ixor (ishl 1 q) (-1)))) (158 + q) (iand ((iup f (158 + p) (iand (f (158 + p)) (ixor (ishl 1 q) (-1)))) (158 + q)) (ixor (ishl 1 p) (-1))))) := (congrFun hM111 (m + 1)).trans (va_up_self M107 (m + 1) _)
            refine lv_iload hx_ hb_ dX11_part_170 (lv_at hl 0 rfl) ?_
            have hc113 : M111 m = some (mO m 0 (chn ch) tn ea sn nm wn) := ((congrFun hM111 m).trans (va_up_ne M107 _ (by omega))).trans hc109
            have hc114 : svC G M111 (m + 2) (chn ch) (fsn ch fs f) := hc103.fr (fun x q8 q9 => ((congrFun hM111 x).trans (va_up_ne M107 _ (by omega))).trans ((congrFun hM107 x).trans (va_up_ne M97 _ (by omega))))
            exact sr_z E hQ bI_or dX11_part_172 ⟨Nat.le_of_ble_eq_true rfl, Nat.le_of_ble_eq_true rfl⟩ hV (⟨rfl, fun x q0 q1 q2 => ((((((congrFun hM111 x).trans (va_up_ne M107 _ (by omega))).trans ((congrFun hM107 x).trans (va_up_ne M97 _ (by omega)))).trans (hf104 x (by omega) (by omega))).trans (hf93 x (by omega))).trans (hf34 x (by omega))).trans ((congrFun hM1 x).trans (va_up_ne M _ (by omega))), Or.inr (Or.inr (⟨(⟨by omega, fun h => by first | exact hB0 h.1 | exact hL h.2⟩), rfl, hc113, by unfold prF prB; rw [pif_f hB, pif_f hB]; exact hc112, hc114⟩))⟩)
          · refine lv_aload_n hx_ hb_ dX11_part_89 rfl (lv_at hl 1 rfl) ?_
            refine sc_get (ci := 9) (C := RX11) (T := TX11) (n := 22) S hK hV inX11_ hc102 rfl 1 (by decide) (S.2.2.2.2 _ (List.mem_of_getElem? (i := 2) rfl)) rfl rfl dX11_part_90 ?_
            refine si_sipush S dX11_part_93 (by decide) ?_
            refine lv_iload_n hx_ hb_ dX11_part_96 rfl (lv_at hl 2 rfl) ?_
            refine si_add S dX11_part_97 ?_
            refine sc_iald S hK hV hc105 (by omega) dX11_part_98 ?_
            have kn115 : 0 ≤ f (158 + p) ∧ f (158 + p) ≤ 63 := (sOk_P hok p (by omega) (by omega))
            refine si_const S dX11_part_99 ?_
            refine lv_iload_n hx_ hb_ dX11_part_100 rfl (lv_at hl 3 rfl) ?_
            refine si_shl S dX11_part_101 ?_
            refine si_or S dX11_part_102 ?_
            refine lv_goto (tgt := 122) hx_ hb_ dX11_part_103 (by decide) ?_
            refine sc_iast S hK hV hc105 (by omega) dX11_part_122 (fun M116 H locs hM116 hV => ?_)
            have hc117 : M116 (m + 1) = some (sArr G 574 (iup f (158 + p) (ior (f (158 + p)) (ishl 1 q)))) := (congrFun hM116 (m + 1)).trans (va_up_self M97 (m + 1) _)
            refine lv_aload_n hx_ hb_ dX11_part_123 rfl (lv_at hl 1 rfl) ?_
            have hc118 : M116 m = some (mO m 0 (chn ch) tn ea sn nm wn) := ((congrFun hM116 m).trans (va_up_ne M97 _ (by omega))).trans hc102
            refine sc_get (ci := 9) (C := RX11) (T := TX11) (n := 22) S hK hV inX11_ hc118 rfl 1 (by decide) (S.2.2.2.2 _ (List.mem_of_getElem? (i := 2) rfl)) rfl rfl dX11_part_124 ?_
            refine si_sipush S dX11_part_127 (by decide) ?_
            refine lv_iload_n hx_ hb_ dX11_part_130 rfl (lv_at hl 3 rfl) ?_
            refine si_add S dX11_part_131 ?_
            refine lv_iload_n hx_ hb_ dX11_part_132 rfl (lv_at hl 4 rfl) ?_
            refine sq_eq (tgt := 153) S dX11_part_133 (by decide) (fun c119 => absurd c119 (by exact fun q => q hB)) (fun _ => ?_)
            refine lv_aload_n hx_ hb_ dX11_part_136 rfl (lv_at hl 1 rfl) ?_
            refine sc_get (ci := 9) (C := RX11) (T := TX11) (n := 22) S hK hV inX11_ hc118 rfl 1 (by decide) (S.2.2.2.2 _ (List.mem_of_getElem? (i := 2) rfl)) rfl rfl dX11_part_137 ?_
            refine si_sipush S dX11_part_140 (by decide) ?_
            refine lv_iload_n hx_ hb_ dX11_part_143 rfl (lv_at hl 3 rfl) ?_
            refine si_add S dX11_part_144 ?_
            refine sc_iald S hK hV hc117 (by omega) dX11_part_145 ?_
            refine si_const S dX11_part_146 ?_
            refine lv_iload_n hx_ hb_ dX11_part_147 rfl (lv_at hl 2 rfl) ?_
            refine si_shl S dX11_part_148 ?_
            refine si_or S dX11_part_149 ?_
            refine lv_goto (tgt := 169) hx_ hb_ dX11_part_150 (by decide) ?_
            refine sc_iast S hK hV hc117 (by omega) dX11_part_169 (fun M120 H locs hM120 hV => ?_)
            have hc121 : M120 (m + 1) = some (sArr G 574 (iup (iup f (158 + p) (ior (f (158 + p)) (ishl 1 q))) (158 + q) (ior ((iup f (158 + p) (ior (f (158 + p)) (ishl 1 q))) (158 + q)) (ishl 1 p)))) := (congrFun hM120 (m + 1)).trans (va_up_self M116 (m + 1) _)
            refine lv_iload hx_ hb_ dX11_part_170 (lv_at hl 0 rfl) ?_
            have hc122 : M120 m = some (mO m 0 (chn ch) tn ea sn nm wn) := ((congrFun hM120 m).trans (va_up_ne M116 _ (by omega))).trans hc118
            have hc123 : svC G M120 (m + 2) (chn ch) (fsn ch fs f) := hc103.fr (fun x q8 q9 => ((congrFun hM120 x).trans (va_up_ne M116 _ (by omega))).trans ((congrFun hM116 x).trans (va_up_ne M97 _ (by omega))))
            exact sr_z E hQ bI_or dX11_part_172 ⟨Nat.le_of_ble_eq_true rfl, Nat.le_of_ble_eq_true rfl⟩ hV (⟨rfl, fun x q0 q1 q2 => ((((((congrFun hM120 x).trans (va_up_ne M116 _ (by omega))).trans ((congrFun hM116 x).trans (va_up_ne M97 _ (by omega)))).trans (hf104 x (by omega) (by omega))).trans (hf93 x (by omega))).trans (hf34 x (by omega))).trans ((congrFun hM1 x).trans (va_up_ne M _ (by omega))), Or.inr (Or.inr (⟨(⟨by omega, fun h => by first | exact hB0 h.1 | exact hL h.2⟩), rfl, hc122, by unfold prF prB; rw [pif_t hB, pif_t hB]; exact hc121, hc123⟩))⟩)

abbrev rmX11_lies : Room := { frames := 3, cells := 0, slots := 0, locals := 84 }
set_option maxHeartbeats 4000000 in
set_option maxRecDepth 100000 in
theorem kX11_lies (l_ : Launch) (G : sG) (b_ : Nat) (M : sM) (N : Nat) (m : Nat) (th ch tn ea sn nm wn : Int) (f : sF) (d w : Int) (hm0 : M m = some (mO m th ch tn ea sn nm wn)) (hm1 : M (m + 1) = some (sArr G 574 f)) (hok : sOk f) (hr : sR d ∧ sR w) : cI l_ yX11_lies wsX11_lies rmX11_lies G b_ M N [.ref m, .int (sI d), .int (sI w)] (fun z_ M1 N1 => N1 = N ∧ (∀ x : Nat, ¬ (x = m) → M1 x = M x) ∧ (((¬ ((0 ≤ d ∧ d ≤ 3) ∧ (0 ≤ w ∧ w ≤ 2))) ∧ z_ = 0 ∧ M1 m = some (mO m 1 ch tn ea sn nm wn)) ∨ (((0 ≤ d ∧ d ≤ 3) ∧ (0 ≤ w ∧ w ≤ 2)) ∧ z_ = isum (f 568) (lyT f d w) ∧ M1 m = some (mO m 0 ch tn ea sn nm wn)))) := by
  refine sE.ofI (cc := cX11_lies) (nL := 3) (ret := (some .int)) (by decide) rfl (Nat.le_of_ble_eq_true rfl) ?_
  intro p_ e_ s_ m_ args_ below_ meth_ c_ ls Q hQ E hl
  have E : sE p_ l_ e_ rmX11_lies s_ m_ args_ below_ meth_ c_ cX11_lies 3 wsX11_lies RX11 "lies" (some .int) G b_ M N := E
  have S := E.1
  have hx_ := S.1
  have hb_ := S.2.1
  have hK := E.2.2.2.2.1
  have hV := E.2.2.2.2.2.2
  have hl : lv_has ls 3 [(0, .ref m), (1, .int (sI d)), (2, .int (sI w))] := hl
  have inX11_ : ∀ w ∈ wsX110, w ∈ wsX11_lies := fun _ h => List.mem_cons_of_mem _ (List.mem_append_right _ h)
  have kn0 := sOk_N hok
  refine lv_aload_n hx_ hb_ dX11_lies_0 rfl (lv_at hl 0 rfl) ?_
  refine si_const S dX11_lies_1 ?_
  refine sc_put (ci := 9) (C := RX11) (T := TX11) (n := 22) S hK hV inX11_ tyX11_ok nmX11 hm0 rfl 0 (by decide) (S.2.2.2.2 _ (List.mem_of_getElem? (i := 1) rfl)) rfl rfl rfl rfl (Nat.le_of_ble_eq_true rfl) dX11_lies_2 (fs1 := [.int (sI 0), .ref (m + 1), .ref (m + 2), .int (sI ch), .ref (m + 3), .int (sI tn), .int (sI ea), .ref (m + 4), .ref (m + 5), .ref (m + 6), .ref (m + 7), .ref (m + 8), .ref (m + 9), .int (sI sn), .ref (m + 10), .ref (m + 11), .ref (m + 12), .ref (m + 13), .int (sI nm), .ref (m + 14), .ref (m + 15), .int (sI wn)]) rfl (fun M1 H locs hM1 hV => ?_)
  have hc2 : M1 m = some (mO m 0 ch tn ea sn nm wn) := (congrFun hM1 m).trans (va_up_self M m _)
  refine lv_aload_n hx_ hb_ dX11_lies_5 rfl (lv_at hl 0 rfl) ?_
  refine lv_aload_n hx_ hb_ dX11_lies_6 rfl (lv_at hl 0 rfl) ?_
  refine lv_iload_n hx_ hb_ dX11_lies_7 rfl (lv_at hl 1 rfl) ?_
  refine sk_VP E hV (As := [.int (sI d)]) (rest := [.ref m]) (kX11_isDrawer l_ G b_ M1 N m d (by omega)) (cwV 1 S.2.2.2.2 gX11_lies_X11_isDrawer rfl rfl rfl (by decide +kernel) ⟨Nat.le_of_ble_eq_true rfl, Nat.le_of_ble_eq_true rfl⟩) (ci := 9) hc2 rfl rfl rfl hl.1 (Nat.le_of_ble_eq_true rfl) dX11_lies_8 (c1 := 0) (s1 := 0) ⟨⟨rfl, rfl⟩, by decide, by decide⟩ (fun H locs hV => ?_)
  refine sq_eq (tgt := 27) S dX11_lies_11 (by decide) (fun c3 => ?_) (fun c3 => ?_)
  · refine si_const S dX11_lies_27 ?_
    refine si_const S dX11_lies_28 ?_
    refine sk_Vi E hV (As := [.int (sI 0), .int (sI 1)]) (rest := []) (kX11_fails0 l_ G b_ M1 N m ch tn ea sn nm wn 1 hc2 (by omega)) (cwV 2 S.2.2.2.2 gX11_lies_X11_fails rfl rfl rfl (by decide +kernel) ⟨Nat.le_of_ble_eq_true rfl, Nat.le_of_ble_eq_true rfl⟩) (ci := 9) hc2 rfl rfl rfl hl.1 (Nat.le_of_ble_eq_true rfl) dX11_lies_29 (c1 := 0) (s1 := 0) ⟨⟨rfl, rfl⟩, by decide, by decide⟩ (fun z7 M4 N5 H locs hp6 hV => ?_)
    obtain ⟨ez8, hN9, hc10, hf11⟩ := hp6
    rw [hN9] at hV
    rw [ez8]
    refine sz_eq (tgt := 39) S dX11_lies_32 (by decide) (by omega) (fun c12 => absurd c12 (by omega)) (fun _ => ?_)
    refine si_const S dX11_lies_35 ?_
    refine lv_goto (tgt := 45) hx_ hb_ dX11_lies_36 (by decide) ?_
    exact sr_i E hQ dX11_lies_45 ⟨Nat.le_of_ble_eq_true rfl, Nat.le_of_ble_eq_true rfl⟩ hV (⟨rfl, fun x q0 => (hf11 x (by omega)).trans ((congrFun hM1 x).trans (va_up_ne M _ (by omega))), Or.inl ⟨(by omega), rfl, hc10⟩⟩)
  · refine lv_iload_n hx_ hb_ dX11_lies_14 rfl (lv_at hl 2 rfl) ?_
    refine si_const S dX11_lies_15 ?_
    refine si_const S dX11_lies_16 ?_
    refine sk_SP E hV (As := [.int (sI w), .int (sI 0), .int (sI 2)]) (rest := [.ref m]) (kX11_in l_ G b_ M1 N w 0 2 (by omega)) (va_cwS 3 S.2.2.2.2 gX11_lies_X11_in rfl rfl rfl (by decide +kernel) ⟨Nat.le_of_ble_eq_true rfl, Nat.le_of_ble_eq_true rfl⟩) rfl rfl hl.1 (Nat.le_of_ble_eq_true rfl) dX11_lies_17 (c1 := 0) (s1 := 0) ⟨⟨rfl, rfl⟩, by decide, by decide⟩ (fun H locs hV => ?_)
    refine sq_eq (tgt := 27) S dX11_lies_20 (by decide) (fun c13 => ?_) (fun c13 => ?_)
    · refine si_const S dX11_lies_27 ?_
      refine si_const S dX11_lies_28 ?_
      refine sk_Vi E hV (As := [.int (sI 0), .int (sI 1)]) (rest := []) (kX11_fails0 l_ G b_ M1 N m ch tn ea sn nm wn 1 hc2 (by omega)) (cwV 2 S.2.2.2.2 gX11_lies_X11_fails rfl rfl rfl (by decide +kernel) ⟨Nat.le_of_ble_eq_true rfl, Nat.le_of_ble_eq_true rfl⟩) (ci := 9) hc2 rfl rfl rfl hl.1 (Nat.le_of_ble_eq_true rfl) dX11_lies_29 (c1 := 0) (s1 := 0) ⟨⟨rfl, rfl⟩, by decide, by decide⟩ (fun z17 M14 N15 H locs hp16 hV => ?_)
      obtain ⟨ez18, hN19, hc20, hf21⟩ := hp16
      rw [hN19] at hV
      rw [ez18]
      refine sz_eq (tgt := 39) S dX11_lies_32 (by decide) (by omega) (fun c22 => absurd c22 (by omega)) (fun _ => ?_)
      refine si_const S dX11_lies_35 ?_
      refine lv_goto (tgt := 45) hx_ hb_ dX11_lies_36 (by decide) ?_
      exact sr_i E hQ dX11_lies_45 ⟨Nat.le_of_ble_eq_true rfl, Nat.le_of_ble_eq_true rfl⟩ hV (⟨rfl, fun x q0 => (hf21 x (by omega)).trans ((congrFun hM1 x).trans (va_up_ne M _ (by omega))), Or.inl ⟨(by omega), rfl, hc20⟩⟩)
    · refine si_const S dX11_lies_23 ?_
      refine lv_goto (tgt := 28) hx_ hb_ dX11_lies_24 (by decide) ?_
      refine si_const S dX11_lies_28 ?_
      refine sk_Vi E hV (As := [.int (sI 1), .int (sI 1)]) (rest := []) (kX11_fails1 l_ G b_ M1 N m ch tn ea sn nm wn 1 hc2 (by omega)) (cwV 2 S.2.2.2.2 gX11_lies_X11_fails rfl rfl rfl (by decide +kernel) ⟨Nat.le_of_ble_eq_true rfl, Nat.le_of_ble_eq_true rfl⟩) (ci := 9) hc2 rfl rfl rfl hl.1 (Nat.le_of_ble_eq_true rfl) dX11_lies_29 (c1 := 0) (s1 := 0) ⟨⟨rfl, rfl⟩, by decide, by decide⟩ (fun z26 M23 N24 H locs hp25 hV => ?_)
      obtain ⟨ez27, hN28, hc29, hf30⟩ := hp25
      rw [hN28] at hV
      rw [ez27]
      refine sz_eq (tgt := 39) S dX11_lies_32 (by decide) (by omega) (fun _ => ?_) (fun c31 => absurd c31 (by omega))
      refine lv_aload_n hx_ hb_ dX11_lies_39 rfl (lv_at hl 0 rfl) ?_
      refine lv_iload_n hx_ hb_ dX11_lies_40 rfl (lv_at hl 1 rfl) ?_
      refine lv_iload_n hx_ hb_ dX11_lies_41 rfl (lv_at hl 2 rfl) ?_
      have hc32 : M23 (m + 1) = some (sArr G 574 f) := ((hf30 (m + 1) (by omega)).trans ((congrFun hM1 (m + 1)).trans (va_up_ne M _ (by omega)))).trans hm1
      refine sk_VP E hV (As := [.int (sI d), .int (sI w)]) (rest := []) (kX11_lying l_ G b_ M23 N m 0 ch tn ea sn nm wn f d w hc29 hc32 (by omega) (by omega)) (cwV 2 S.2.2.2.2 gX11_lies_X11_lying rfl rfl rfl (by decide +kernel) ⟨Nat.le_of_ble_eq_true rfl, Nat.le_of_ble_eq_true rfl⟩) (ci := 9) hc29 rfl rfl rfl hl.1 (Nat.le_of_ble_eq_true rfl) dX11_lies_42 (c1 := 0) (s1 := 0) ⟨⟨rfl, rfl⟩, by decide, by decide⟩ (fun H locs hV => ?_)
      exact sr_i E hQ dX11_lies_45 ⟨Nat.le_of_ble_eq_true rfl, Nat.le_of_ble_eq_true rfl⟩ hV (⟨rfl, fun x q0 => (hf30 x (by omega)).trans ((congrFun hM1 x).trans (va_up_ne M _ (by omega))), Or.inr (⟨(by omega), rfl, hc29⟩)⟩)
