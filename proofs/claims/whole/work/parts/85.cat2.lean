/-! The class's Catalogue: entries. -/
/-- a row more, where there is room for one -/
def tvY (tv : Int → Int → Int) (r : Int) : Int → Int → Int := fun i j => if r ≤ 32 ∧ i = r then 0 else tv i j
def dfP (j tk tv ne : Int) (et : Int → Int → Int) : Prop := (j = 0 ∧ tk = 1 ∧ ¬ ∃ o, 0 ≤ o ∧ o < ne ∧ et o 4 = tv) ∨ (j = 5 ∧ tk = 3) ∨ ((1 ≤ j ∧ j ≤ 4) ∧ tk = 2 ∧ irP (j - 1) tv)
def rbQ (tv : Int → Int → Int) (r y k z : Int) : Prop := (z = -1 ∧ ∀ o, 0 ≤ o → o < k → ¬ y < tv o 4) ∨ ((0 ≤ z ∧ z < k) ∧ y < tv z 4 ∧ ∀ o, 0 ≤ o → o < k → y < tv o 4 → tv z 4 ≤ tv o 4)
theorem rb_k {tv : Int → Int → Int} {r y k z : Int} (h : rbQ tv r y k z) (hn : ¬ (y < tv k 4 ∧ (z = -1 ∨ tv k 4 < tv z 4))) : rbQ tv r y (k + 1) z := by
  rcases h with ⟨e, h⟩ | ⟨h1, h2, h3⟩
  · refine Or.inl ⟨e, fun o a b c => ?_⟩
    by_cases q : o = k
    · rw [q] at c; exact hn ⟨c, Or.inl e⟩
    · exact h o a (by omega) c
  · refine Or.inr ⟨by omega, h2, fun o a b c => ?_⟩
    by_cases q : o = k
    · rw [q] at c ⊢; exact Int.not_lt.mp fun w => hn ⟨c, Or.inr w⟩
    · exact h3 o a (by omega) c
theorem rb_t {tv : Int → Int → Int} {r y k z : Int} (hk : 0 ≤ k) (h : rbQ tv r y k z) (h1 : y < tv k 4) (h2 : z = -1 ∨ tv k 4 < tv z 4) : rbQ tv r y (k + 1) k := by
  refine Or.inr ⟨by omega, h1, fun o a b c => ?_⟩
  by_cases q : o = k
  · rw [q]; exact Int.le_refl _
  · rcases h with ⟨e, h⟩ | ⟨h3, h4, h5⟩
    · exact absurd c (h o a (by omega))
    · have := h5 o a (by omega) c
      omega

set_option maxHeartbeats 4000000 in
set_option maxRecDepth 100000 in
theorem kTa0 (l_ : Launch) (G : sG) (b_ : Nat) (M : sM) (N : Nat) (t : Nat) (n : Nat) (g : sF) (c r : Int) (h0 : M t = some (sObj 6 [.int (sI c), .ref (t + 1), .int (sI r)])) (h1 : M (t + 1) = some (sArr G n g)) (hr : 0 ≤ r ∧ r ≤ 100000 ∧ 1 ≤ c ∧ c ≤ 100 ∧ 0 ≤ (r + 1) * c ∧ (r + 1) * c ≤ 200000 ∧ (n : Int) < (r + 1) * c ∧ (n : Int) ≤ 100000) : cP l_ yX8_add wsX8_add rmX8_add G b_ M N [.ref t] (-1) := by
  refine sE.ofI (cc := cX8_add) (nL := 2) (ret := (some .int)) (by decide) rfl (Nat.le_of_ble_eq_true rfl) ?_
  intro p_ e_ s_ m_ args_ below_ meth_ c_ ls Q hQ E hl
  have E : sE p_ l_ e_ rmX8_add s_ m_ args_ below_ meth_ c_ cX8_add 2 wsX8_add RX8 "add" (some .int) G b_ M N := E
  have S := E.1
  have hx_ := S.1
  have hb_ := S.2.1
  have hK := E.2.2.2.2.1
  have hV := E.2.2.2.2.2.2
  have hl : lv_has ls 2 [(0, .ref t)] := hl
  have inX8_ : ∀ w ∈ wsX80, w ∈ wsX8_add := fun _ h => List.mem_cons_of_mem _ (List.mem_append_right _ h)
  refine lv_aload_n hx_ hb_ dX8_add_0 rfl (lv_at hl 0 rfl) ?_
  refine sk_VP E hV (As := []) (rest := []) (kX8_isFull l_ G b_ M N t c r n g h0 h1 (by omega)) (cwV 0 S.2.2.2.2 gX8_add_X8_isFull rfl rfl rfl (by decide +kernel) ⟨Nat.le_of_ble_eq_true rfl, Nat.le_of_ble_eq_true rfl⟩) (ci := 6) h0 rfl rfl rfl hl.1 (Nat.le_of_ble_eq_true rfl) dX8_add_1 (c1 := 0) (s1 := 0) ⟨⟨rfl, rfl⟩, by decide, by decide⟩ (fun H locs hV => ?_)
  refine sq_eq (tgt := 9) S dX8_add_4 (by decide) (fun c1 => absurd c1 (by omega)) (fun _ => ?_)
  refine si_const S dX8_add_7 ?_
  exact sr_i E hQ dX8_add_8 ⟨Nat.le_of_ble_eq_true rfl, Nat.le_of_ble_eq_true rfl⟩ hV (⟨rfl, rfl, rfl⟩)

set_option maxHeartbeats 1000000 in
theorem kTa9 (l_ : Launch) (G : sG) (b_ : Nat) (M : sM) (N : Nat) (t : Nat) (r : Int) (tv : Int → Int → Int) (ht : stK G M t 5 r 165 tv) (hr : 0 ≤ r ∧ r ≤ 33) : cI l_ yX8_add wsX8_add rmX8_add G b_ M N [.ref t] (fun z_ M1 N1 => z_ = (if r ≤ 32 then r else -1) ∧ N1 = N ∧ stK G M1 t 5 (min 33 (r + 1)) 165 (tvY tv r) ∧ (∀ x : Nat, ¬ (x = t) → ¬ (x = t + 1) → M1 x = M x)) := by
  by_cases q : r ≤ 32
  · refine cI.mono (kTa l_ G b_ M N t 5 r 165 tv ht (by omega)) ?_
    rintro z M1 N1 ⟨e0, e1, e2, e3⟩
    refine ⟨by rw [if_pos q]; exact e0, e1, ?_, e3⟩
    rw [show min 33 (r + 1) = r + 1 by omega, show tvY tv r = tvZ tv r by funext i j; unfold tvY tvZ; by_cases e : i = r; (rw [if_pos ⟨q, e⟩, if_pos e]); (rw [if_neg (fun w => e w.2), if_neg e])]
    exact e2
  · have ht2 := ht
    obtain ⟨h1, g, h2, h3⟩ := ht2
    refine cI.mono (kTa0 l_ G b_ M N t 165 g 5 r h1 h2 (by omega)) ?_
    rintro z M1 N1 ⟨e0, e1, e2⟩
    subst e1
    refine ⟨by rw [if_neg q]; exact e0, e2, ?_, fun _ _ _ => rfl⟩
    rw [show min 33 (r + 1) = r by omega, show tvY tv r = tv by funext i j; unfold tvY; rw [if_neg (fun w => q w.1)]]
    exact ht

abbrev rmX1_doesFit : Room := { frames := 3, cells := 0, slots := 0, locals := 85 }
set_option maxHeartbeats 4000000 in
set_option maxRecDepth 100000 in
theorem kX1_doesFit (l_ : Launch) (G : sG) (b_ : Nat) (M : sM) (N : Nat) (q : Nat) (wc tk ts te tv ne : Int) (et : Int → Int → Int) (j : Int) (hq0 : M q = some (sObj 0 [.ref (q + 1), .ref (q + 3), .int (sI wc), .int (sI tk), .int (sI ts), .int (sI te), .int (sI tv)])) (hu : stK G M (q + 1) 5 ne 165 et) (hj : 0 ≤ j ∧ j ≤ 5 ∧ sR tk) (hv : tk = 1 ∨ tk = 2 → sR tv) (hn : 0 ≤ ne ∧ ne ≤ 33) (he : ∀ o, 0 ≤ o → o < ne → sR (et o 4)) : cP l_ yX1_doesFit wsX1_doesFit rmX1_doesFit G b_ M N [.ref q, .int (sI j)] (bI (dfP j tk tv ne et)) := by
  refine sE.ofI (cc := cX1_doesFit) (nL := 2) (ret := (some .boolean)) (by decide) rfl (Nat.le_of_ble_eq_true rfl) ?_
  intro p_ e_ s_ m_ args_ below_ meth_ c_ ls Q hQ E hl
  have E : sE p_ l_ e_ rmX1_doesFit s_ m_ args_ below_ meth_ c_ cX1_doesFit 2 wsX1_doesFit RX1 "doesFit" (some .boolean) G b_ M N := E
  have S := E.1
  have hx_ := S.1
  have hb_ := S.2.1
  have hK := E.2.2.2.2.1
  have hV := E.2.2.2.2.2.2
  have hl : lv_has ls 2 [(0, .ref q), (1, .int (sI j))] := hl
  have inX1_ : ∀ w ∈ wsX10, w ∈ wsX1_doesFit := fun _ h => List.mem_cons_of_mem _ (List.mem_append_left _ (List.mem_append_right _ h))
  have inX8_ : ∀ w ∈ wsX80, w ∈ wsX1_doesFit := fun _ h => List.mem_cons_of_mem _ (List.mem_append_right _ h)
  refine lv_iload_n hx_ hb_ dX1_doesFit_0 rfl (lv_at hl 1 rfl) ?_
  refine sz_ne (tgt := 29) S dX1_doesFit_1 (by decide) (by omega) (fun c1 => ?_) (fun c1 => ?_)
  · refine lv_iload_n hx_ hb_ dX1_doesFit_29 rfl (lv_at hl 1 rfl) ?_
    refine si_const S dX1_doesFit_30 ?_
    refine sb_ne (tgt := 48) S dX1_doesFit_31 (by decide) (by omega) (fun c2 => ?_) (fun c2 => ?_)
    · refine lv_aload_n hx_ hb_ dX1_doesFit_48 rfl (lv_at hl 0 rfl) ?_
      refine sc_get (ci := 0) (C := RX1) (T := TX1) (n := 7) S hK hV inX1_ hq0 rfl 3 (by decide) (S.2.2.2.2 _ (List.mem_of_getElem? (i := 1) rfl)) rfl rfl dX1_doesFit_49 ?_
      refine si_const S dX1_doesFit_52 ?_
      refine sb_ne (tgt := 73) S dX1_doesFit_53 (by decide) (by omega) (fun c3 => ?_) (fun c3 => ?_)
      · refine si_const S dX1_doesFit_73 ?_
        exact sr_z E hQ (Or.inl rfl) dX1_doesFit_74 ⟨Nat.le_of_ble_eq_true rfl, Nat.le_of_ble_eq_true rfl⟩ hV (⟨(bI_f (fun r => by rcases r with ⟨r1, r2, r3⟩ | ⟨r1, r2⟩ | ⟨r1, r2, r3⟩; (first | omega | omega); omega; (first | omega | omega))).symm, rfl, rfl⟩)
      · refine lv_iload_n hx_ hb_ dX1_doesFit_56 rfl (lv_at hl 1 rfl) ?_
        refine si_const S dX1_doesFit_57 ?_
        refine si_sub S dX1_doesFit_58 ?_
        refine lv_aload_n hx_ hb_ dX1_doesFit_59 rfl (lv_at hl 0 rfl) ?_
        refine sc_get (ci := 0) (C := RX1) (T := TX1) (n := 7) S hK hV inX1_ hq0 rfl 6 (by decide) (S.2.2.2.2 _ (List.mem_of_getElem? (i := 2) rfl)) rfl rfl dX1_doesFit_60 ?_
        refine sk_SP E hV (As := [.int (sI (j - 1)), .int (sI tv)]) (rest := []) (kX6_isInRange l_ G b_ M N (j - 1) tv (by omega) (hv (by omega))) (va_cwS 2 S.2.2.2.2 gX1_doesFit_X6_isInRange rfl rfl rfl (by decide +kernel) ⟨Nat.le_of_ble_eq_true rfl, Nat.le_of_ble_eq_true rfl⟩) rfl rfl hl.1 (Nat.le_of_ble_eq_true rfl) dX1_doesFit_63 (c1 := 0) (s1 := 0) ⟨⟨rfl, rfl⟩, by decide, by decide⟩ (fun H locs hV => ?_)
        refine sq_eq (tgt := 73) S dX1_doesFit_66 (by decide) (fun h66 => ?_) (fun h66 => ?_)
        · refine si_const S dX1_doesFit_73 ?_
          exact sr_z E hQ (Or.inl rfl) dX1_doesFit_74 ⟨Nat.le_of_ble_eq_true rfl, Nat.le_of_ble_eq_true rfl⟩ hV (⟨(bI_f (fun r => by rcases r with ⟨r1, r2, r3⟩ | ⟨r1, r2⟩ | ⟨r1, r2, r3⟩; (first | omega | omega); omega; (first | omega | exact h66 r3))).symm, rfl, rfl⟩)
        · refine si_const S dX1_doesFit_69 ?_
          refine lv_goto (tgt := 74) hx_ hb_ dX1_doesFit_70 (by decide) ?_
          exact sr_z E hQ (Or.inr rfl) dX1_doesFit_74 ⟨Nat.le_of_ble_eq_true rfl, Nat.le_of_ble_eq_true rfl⟩ hV (⟨(bI_t (Or.inr (Or.inr ⟨by omega, by omega, h66⟩))).symm, rfl, rfl⟩)
    · refine lv_aload_n hx_ hb_ dX1_doesFit_34 rfl (lv_at hl 0 rfl) ?_
      refine sc_get (ci := 0) (C := RX1) (T := TX1) (n := 7) S hK hV inX1_ hq0 rfl 3 (by decide) (S.2.2.2.2 _ (List.mem_of_getElem? (i := 1) rfl)) rfl rfl dX1_doesFit_35 ?_
      refine si_const S dX1_doesFit_38 ?_
      refine sb_ne (tgt := 46) S dX1_doesFit_39 (by decide) (by omega) (fun c4 => ?_) (fun c4 => ?_)
      · refine si_const S dX1_doesFit_46 ?_
        exact sr_z E hQ (Or.inl rfl) dX1_doesFit_47 ⟨Nat.le_of_ble_eq_true rfl, Nat.le_of_ble_eq_true rfl⟩ hV (⟨(bI_f (fun r => by rcases r with ⟨r1, r2, r3⟩ | ⟨r1, r2⟩ | ⟨r1, r2, r3⟩; (first | omega | omega); omega; (first | omega | omega))).symm, rfl, rfl⟩)
      · refine si_const S dX1_doesFit_42 ?_
        refine lv_goto (tgt := 47) hx_ hb_ dX1_doesFit_43 (by decide) ?_
        exact sr_z E hQ (Or.inr rfl) dX1_doesFit_47 ⟨Nat.le_of_ble_eq_true rfl, Nat.le_of_ble_eq_true rfl⟩ hV (⟨(bI_t (Or.inr (Or.inl ⟨by omega, by omega⟩))).symm, rfl, rfl⟩)
  · refine lv_aload_n hx_ hb_ dX1_doesFit_4 rfl (lv_at hl 0 rfl) ?_
    refine sc_get (ci := 0) (C := RX1) (T := TX1) (n := 7) S hK hV inX1_ hq0 rfl 3 (by decide) (S.2.2.2.2 _ (List.mem_of_getElem? (i := 1) rfl)) rfl rfl dX1_doesFit_5 ?_
    refine si_const S dX1_doesFit_8 ?_
    refine sb_ne (tgt := 27) S dX1_doesFit_9 (by decide) (by omega) (fun c5 => ?_) (fun c5 => ?_)
    · refine si_const S dX1_doesFit_27 ?_
      exact sr_z E hQ (Or.inl rfl) dX1_doesFit_28 ⟨Nat.le_of_ble_eq_true rfl, Nat.le_of_ble_eq_true rfl⟩ hV (⟨(bI_f (fun r => by rcases r with ⟨r1, r2, r3⟩ | ⟨r1, r2⟩ | ⟨r1, r2, r3⟩; (first | omega | omega); omega; (first | omega | omega))).symm, rfl, rfl⟩)
    · refine lv_aload_n hx_ hb_ dX1_doesFit_12 rfl (lv_at hl 0 rfl) ?_
      refine lv_aload_n hx_ hb_ dX1_doesFit_13 rfl (lv_at hl 0 rfl) ?_
      refine sc_get (ci := 0) (C := RX1) (T := TX1) (n := 7) S hK hV inX1_ hq0 rfl 6 (by decide) (S.2.2.2.2 _ (List.mem_of_getElem? (i := 2) rfl)) rfl rfl dX1_doesFit_14 ?_
      refine sk_VP E hV (As := [.int (sI tv)]) (rest := []) (kX1_hasEntry l_ G b_ M N q wc tk ts te tv ne et tv hq0 hu (by omega) (hv (by omega)) (he)) (cwV 1 S.2.2.2.2 gX1_doesFit_X1_hasEntry rfl rfl rfl (by decide +kernel) ⟨Nat.le_of_ble_eq_true rfl, Nat.le_of_ble_eq_true rfl⟩) (ci := 0) hq0 rfl rfl rfl hl.1 (Nat.le_of_ble_eq_true rfl) dX1_doesFit_17 (c1 := 0) (s1 := 0) ⟨⟨rfl, rfl⟩, by decide, by decide⟩ (fun H locs hV => ?_)
      refine sq_ne (tgt := 27) S dX1_doesFit_20 (by decide) (fun h20 => ?_) (fun h20 => ?_)
      · refine si_const S dX1_doesFit_27 ?_
        exact sr_z E hQ (Or.inl rfl) dX1_doesFit_28 ⟨Nat.le_of_ble_eq_true rfl, Nat.le_of_ble_eq_true rfl⟩ hV (⟨(bI_f (fun r => by rcases r with ⟨r1, r2, r3⟩ | ⟨r1, r2⟩ | ⟨r1, r2, r3⟩; (first | omega | exact r3 h20); omega; (first | omega | omega))).symm, rfl, rfl⟩)
      · refine si_const S dX1_doesFit_23 ?_
        refine lv_goto (tgt := 28) hx_ hb_ dX1_doesFit_24 (by decide) ?_
        exact sr_z E hQ (Or.inr rfl) dX1_doesFit_28 ⟨Nat.le_of_ble_eq_true rfl, Nat.le_of_ble_eq_true rfl⟩ hV (⟨(bI_t (Or.inl ⟨by omega, by omega, h20⟩)).symm, rfl, rfl⟩)

abbrev rmX1_takeToken : Room := { frames := 3, cells := 0, slots := 0, locals := 84 }
set_option maxHeartbeats 4000000 in
set_option maxRecDepth 100000 in
theorem kX1_takeToken (l_ : Launch) (G : sG) (b_ : Nat) (M : sM) (N : Nat) (q : Nat) (wc tk ts te tv ne : Int) (et : Int → Int → Int) (j : Int) (hq0 : M q = some (sObj 0 [.ref (q + 1), .ref (q + 3), .int (sI wc), .int (sI tk), .int (sI ts), .int (sI te), .int (sI tv)])) (hu : stK G M (q + 1) 5 ne 165 et) (hj : 0 ≤ j ∧ j ≤ 5) (hn : 0 ≤ ne ∧ ne ≤ 33 ∧ (1 ≤ j → 1 ≤ ne)) : cV l_ yX1_takeToken wsX1_takeToken rmX1_takeToken G b_ M N [.ref q, .int (sI j)] (fun M1 N1 => ∃ n9 : Int, ∃ e9 : Int → Int → Int, N1 = N ∧ stK G M1 (q + 1) 5 n9 165 e9 ∧ (∀ x : Nat, ¬ (x = q + 1) → ¬ (x = q + 2) → M1 x = M x) ∧ (n9 = if j = 0 then min 33 (ne + 1) else ne) ∧ (e9 = if j = 0 then tvU (tvY et ne) (min 33 (ne + 1) - 1) 4 tv else if j = 5 then et else tvU et (ne - 1) (j - 1) tv)) := by
  refine sE.ofV (cc := cX1_takeToken) (nL := 2) (ret := none) (by decide) rfl (Nat.le_of_ble_eq_true rfl) ?_
  intro p_ e_ s_ m_ args_ below_ meth_ c_ ls Q hQ E hl
  have E : sE p_ l_ e_ rmX1_takeToken s_ m_ args_ below_ meth_ c_ cX1_takeToken 2 wsX1_takeToken RX1 "takeToken" none G b_ M N := E
  have S := E.1
  have hx_ := S.1
  have hb_ := S.2.1
  have hK := E.2.2.2.2.1
  have hV := E.2.2.2.2.2.2
  have hl : lv_has ls 2 [(0, .ref q), (1, .int (sI j))] := hl
  have inX1_ : ∀ w ∈ wsX10, w ∈ wsX1_takeToken := fun _ h => List.mem_cons_of_mem _ (List.mem_append_left _ (List.mem_append_right _ h))
  have inX8_ : ∀ w ∈ wsX80, w ∈ wsX1_takeToken := fun _ h => List.mem_cons_of_mem _ (List.mem_append_right _ h)
  refine lv_iload_n hx_ hb_ dX1_takeToken_0 rfl (lv_at hl 1 rfl) ?_
  refine sz_ne (tgt := 36) S dX1_takeToken_1 (by decide) (by omega) (fun c1 => ?_) (fun c1 => ?_)
  · refine lv_iload_n hx_ hb_ dX1_takeToken_36 rfl (lv_at hl 1 rfl) ?_
    refine si_const S dX1_takeToken_37 ?_
    refine sb_eq (tgt := 64) S dX1_takeToken_38 (by decide) (by omega) (fun c2 => ?_) (fun c2 => ?_)
    · exact sr_v E hQ dX1_takeToken_64 ⟨Nat.le_of_ble_eq_true rfl, Nat.le_of_ble_eq_true rfl⟩ hV (⟨ne, et, rfl, hu, fun x q0 q1 => rfl, by rw [if_neg (by omega)], by rw [if_neg (by omega), if_pos (by omega)]⟩)
    · refine lv_aload_n hx_ hb_ dX1_takeToken_41 rfl (lv_at hl 0 rfl) ?_
      refine sc_get (ci := 0) (C := RX1) (T := TX1) (n := 7) S hK hV inX1_ hq0 rfl 0 (by decide) (S.2.2.2.2 _ (List.mem_of_getElem? (i := 1) rfl)) rfl rfl dX1_takeToken_42 ?_
      refine lv_aload_n hx_ hb_ dX1_takeToken_45 rfl (lv_at hl 0 rfl) ?_
      refine sc_get (ci := 0) (C := RX1) (T := TX1) (n := 7) S hK hV inX1_ hq0 rfl 0 (by decide) (S.2.2.2.2 _ (List.mem_of_getElem? (i := 1) rfl)) rfl rfl dX1_takeToken_46 ?_
      refine sk_VP E hV (As := []) (rest := [.ref (q + 1)]) (kTs l_ G b_ M N (q + 1) 5 ne 165 et hu) (cwV 0 S.2.2.2.2 gX1_takeToken_X8_size rfl rfl rfl (by decide +kernel) ⟨Nat.le_of_ble_eq_true rfl, Nat.le_of_ble_eq_true rfl⟩) (ci := 6) (hu).1 rfl rfl rfl hl.1 (Nat.le_of_ble_eq_true rfl) dX1_takeToken_49 (c1 := 0) (s1 := 0) ⟨⟨rfl, rfl⟩, by decide, by decide⟩ (fun H locs hV => ?_)
      refine si_const S dX1_takeToken_52 ?_
      refine si_sub S dX1_takeToken_53 ?_
      refine lv_iload_n hx_ hb_ dX1_takeToken_54 rfl (lv_at hl 1 rfl) ?_
      refine si_const S dX1_takeToken_55 ?_
      refine si_sub S dX1_takeToken_56 ?_
      refine lv_aload_n hx_ hb_ dX1_takeToken_57 rfl (lv_at hl 0 rfl) ?_
      refine sc_get (ci := 0) (C := RX1) (T := TX1) (n := 7) S hK hV inX1_ hq0 rfl 6 (by decide) (S.2.2.2.2 _ (List.mem_of_getElem? (i := 2) rfl)) rfl rfl dX1_takeToken_58 ?_
      refine sk_Vv E hV (As := [.int (sI (ne - 1)), .int (sI (j - 1)), .int (sI tv)]) (rest := []) (kTw l_ G b_ M N (q + 1) 5 ne 165 et (ne - 1) (j - 1) tv hu (by omega) (by omega)) (cwV 3 S.2.2.2.2 gX1_takeToken_X8_set rfl rfl rfl (by decide +kernel) ⟨Nat.le_of_ble_eq_true rfl, Nat.le_of_ble_eq_true rfl⟩) (ci := 6) (hu).1 rfl rfl rfl hl.1 (Nat.le_of_ble_eq_true rfl) dX1_takeToken_61 (c1 := 0) (s1 := 0) ⟨⟨rfl, rfl⟩, by decide, by decide⟩ (fun M3 N4 H locs hp5 hV => ?_)
      obtain ⟨hN7, hc8, hf9⟩ := hp5
      rw [hN7] at hV
      exact sr_v E hQ dX1_takeToken_64 ⟨Nat.le_of_ble_eq_true rfl, Nat.le_of_ble_eq_true rfl⟩ hV (⟨ne, (tvU et (ne - 1) (j - 1) tv), rfl, hc8, fun x q0 q1 => hf9 x (by omega), by rw [if_neg (by omega)], by rw [if_neg (by omega), if_neg (by omega)]⟩)
  · refine lv_aload_n hx_ hb_ dX1_takeToken_4 rfl (lv_at hl 0 rfl) ?_
    refine sc_get (ci := 0) (C := RX1) (T := TX1) (n := 7) S hK hV inX1_ hq0 rfl 0 (by decide) (S.2.2.2.2 _ (List.mem_of_getElem? (i := 1) rfl)) rfl rfl dX1_takeToken_5 ?_
    refine sk_Vi E hV (As := []) (rest := []) (kTa9 l_ G b_ M N (q + 1) ne et hu (by omega)) (cwV 0 S.2.2.2.2 gX1_takeToken_X8_add rfl rfl rfl (by decide +kernel) ⟨Nat.le_of_ble_eq_true rfl, Nat.le_of_ble_eq_true rfl⟩) (ci := 6) (hu).1 rfl rfl rfl hl.1 (Nat.le_of_ble_eq_true rfl) dX1_takeToken_8 (c1 := 0) (s1 := 0) ⟨⟨rfl, rfl⟩, by decide, by decide⟩ (fun z13 M10 N11 H locs hp12 hV => ?_)
    obtain ⟨ez14, hN15, hc16, hf17⟩ := hp12
    rw [hN15] at hV
    rw [ez14]
    refine lv_pop hx_ hb_ dX1_takeToken_11 rfl ?_
    refine lv_aload_n hx_ hb_ dX1_takeToken_12 rfl (lv_at hl 0 rfl) ?_
    have hc18 : M10 q = some (sObj 0 [.ref (q + 1), .ref (q + 3), .int (sI wc), .int (sI tk), .int (sI ts), .int (sI te), .int (sI tv)]) := (hf17 q (by omega) (by omega)).trans hq0
    refine sc_get (ci := 0) (C := RX1) (T := TX1) (n := 7) S hK hV inX1_ hc18 rfl 0 (by decide) (S.2.2.2.2 _ (List.mem_of_getElem? (i := 1) rfl)) rfl rfl dX1_takeToken_13 ?_
    refine lv_aload_n hx_ hb_ dX1_takeToken_16 rfl (lv_at hl 0 rfl) ?_
    refine sc_get (ci := 0) (C := RX1) (T := TX1) (n := 7) S hK hV inX1_ hc18 rfl 0 (by decide) (S.2.2.2.2 _ (List.mem_of_getElem? (i := 1) rfl)) rfl rfl dX1_takeToken_17 ?_
    refine sk_VP E hV (As := []) (rest := [.ref (q + 1)]) (kTs l_ G b_ M10 N (q + 1) 5 (min 33 (ne + 1)) 165 (tvY et ne) hc16) (cwV 0 S.2.2.2.2 gX1_takeToken_X8_size rfl rfl rfl (by decide +kernel) ⟨Nat.le_of_ble_eq_true rfl, Nat.le_of_ble_eq_true rfl⟩) (ci := 6) (hc16).1 rfl rfl rfl hl.1 (Nat.le_of_ble_eq_true rfl) dX1_takeToken_20 (c1 := 0) (s1 := 0) ⟨⟨rfl, rfl⟩, by decide, by decide⟩ (fun H locs hV => ?_)
    refine si_const S dX1_takeToken_23 ?_
    refine si_sub S dX1_takeToken_24 ?_
    refine si_const S dX1_takeToken_25 ?_
    refine lv_aload_n hx_ hb_ dX1_takeToken_26 rfl (lv_at hl 0 rfl) ?_
    refine sc_get (ci := 0) (C := RX1) (T := TX1) (n := 7) S hK hV inX1_ hc18 rfl 6 (by decide) (S.2.2.2.2 _ (List.mem_of_getElem? (i := 2) rfl)) rfl rfl dX1_takeToken_27 ?_
    refine sk_Vv E hV (As := [.int (sI ((min 33 (ne + 1)) - 1)), .int (sI 4), .int (sI tv)]) (rest := []) (kTw l_ G b_ M10 N (q + 1) 5 (min 33 (ne + 1)) 165 (tvY et ne) ((min 33 (ne + 1)) - 1) 4 tv hc16 (by omega) (by omega)) (cwV 3 S.2.2.2.2 gX1_takeToken_X8_set rfl rfl rfl (by decide +kernel) ⟨Nat.le_of_ble_eq_true rfl, Nat.le_of_ble_eq_true rfl⟩) (ci := 6) (hc16).1 rfl rfl rfl hl.1 (Nat.le_of_ble_eq_true rfl) dX1_takeToken_30 (c1 := 0) (s1 := 0) ⟨⟨rfl, rfl⟩, by decide, by decide⟩ (fun M19 N20 H locs hp21 hV => ?_)
    obtain ⟨hN23, hc24, hf25⟩ := hp21
    rw [hN23] at hV
    refine lv_goto (tgt := 64) hx_ hb_ dX1_takeToken_33 (by decide) ?_
    exact sr_v E hQ dX1_takeToken_64 ⟨Nat.le_of_ble_eq_true rfl, Nat.le_of_ble_eq_true rfl⟩ hV (⟨(min 33 (ne + 1)), (tvU (tvY et ne) ((min 33 (ne + 1)) - 1) 4 tv), rfl, hc24, fun x q0 q1 => (hf25 x (by omega)).trans (hf17 x (by omega) (by omega)), by rw [if_pos (by omega)], by rw [if_pos (by omega)]⟩)
