/-! The class's Catalogue: entries. -/
/-- a row more, where there is room for one -/
def tvY (tv : Int → Int → Int) (r : Int) : Int → Int → Int := fun i j => if r ≤ 32 ∧ i = r then 0 else tv i j
def dfP (j tk tv ne : Int) (et : Int → Int → Int) : Prop := (j = 0 ∧ tk = 1 ∧ ¬ ∃ o, 0 ≤ o ∧ o < ne ∧ et o 4 = tv) ∨ (j = 5 ∧ tk = 3) ∨ ((1 ≤ j ∧ j ≤ 4) ∧ tk = 2 ∧ irP (j - 1) tv)
def rbQ (tv : Int → Int → Int) (r y k z : Int) : Prop := (z = -1 ∧ ∀ o, 0 ≤ o → o < k → ¬ y < tv o 4) ∨ ((0 ≤ z ∧ z < k) ∧ y < tv z 4 ∧ ∀ o, 0 ≤ o → o < k → y < tv o 4 → tv z 4 ≤ tv o 4)
theorem rb_k {tv : Int → Int → Int} {r y k z : Int} (h : rbQ tv r y k z) (hn : ¬ (y < tv k 4 ∧ (z = -1 ∨ tv k 4 < tv z 4))) : rbQ tv r y (k + 1) z := by
  rcases h with ⟨e, h⟩ | ⟨h1, h2, h3⟩
  · refine Or.inl ⟨e, fun o a b c => ?_⟩
    by_cases q : o = k
    · rw [q] at c; exact hn ⟨c, Or.inl e⟩
    · exact h o a (by omega) c
  · refine Or.inr ⟨by omega, h2, fun o a b c => ?_⟩
    by_cases q : o = k
    · rw [q] at c ⊢; exact Int.not_lt.mp fun w => hn ⟨c, Or.inr w⟩
    · exact h3 o a (by omega) c
theorem rb_t {tv : Int → Int → Int} {r y k z : Int} (hk : 0 ≤ k) (h : rbQ tv r y k z) (h1 : y < tv k 4) (h2 : z = -1 ∨ tv k 4 < tv z 4) : rbQ tv r y (k + 1) k := by
  refine Or.inr ⟨by omega, h1, fun o a b c => ?_⟩
  by_cases q : o = k
  · rw [q]; exact Int.le_refl _
  · rcases h with ⟨e, h⟩ | ⟨h3, h4, h5⟩
    · exact absurd c (h o a (by omega))
    · have := h5 o a (by omega) c
      omega

set_option maxHeartbeats 4000000 in
set_option maxRecDepth 100000 in
theorem kTa0 (l_ : Launch) (G : sG) (b_ : Nat) (M : sM) (N : Nat) (t : Nat) (n : Nat) (g : sF) (c r : Int) (h0 : M t = some (sObj 6 [.int (sI c), .ref (t + 1), .int (sI r)])) (h1 : M (t + 1) = some (sArr G n g)) (hr : 0 ≤ r ∧ r ≤ 100000 ∧ 1 ≤ c ∧ c ≤ 100 ∧ 0 ≤ (r + 1) * c ∧ (r + 1) * c ≤ 200000 ∧ (n : Int) < (r + 1) * c ∧ (n : Int) ≤ 100000) : cP l_ yX8_add wsX8_add rmX8_add G b_ M N [.ref t] (-1) := by
  refine sE.ofI (cc := cX8_add) (nL := 2) (ret := (some .int)) (by decide) rfl (Nat.le_of_ble_eq_true rfl) ?_
  intro p_ e_ s_ m_ args_ below_ meth_ c_ ls Q hQ E hl
  have E : sE p_ l_ e_ rmX8_add s_ m_ args_ below_ meth_ c_ cX8_add 2 wsX8_add RX8 "add" (some .int) G b_ M N := E
  have S := E.1
  have hx_ := S.1
  have hb_ := S.2.1
  have hK := E.2.2.2.2.1
  have hV := E.2.2.2.2.2.2
  have hl : lv_has ls 2 [(0, .ref t)] := hl
  have inX8_ : ∀ w ∈ wsX80, w ∈ wsX8_add := fun _ h => List.mem_cons_of_mem _ (List.mem_append_right _ h)
  refine lv_aload_n hx_ hb_ dX8_add_0 rfl (lv_at hl 0 rfl) ?_
  refine sk_VP E hV (As := []) (rest := []) (kX8_isFull l_ G b_ M N t c r n g h0 h1 (by omega)) (cwV 0 S.2.2.2.2 gX8_add_X8_isFull rfl rfl rfl (by decide +kernel) ⟨Nat.le_of_ble_eq_true rfl, Nat.le_of_ble_eq_true rfl⟩) (ci := 6) h0 rfl rfl rfl hl.1 (Nat.le_of_ble_eq_true rfl) dX8_add_1 (c1 := 0) (s1 := 0) ⟨⟨rfl, rfl⟩, by decide, by decide⟩ (fun H locs hV => ?_)
  refine sq_eq (tgt := 9) S dX8_add_4 (by decide) (fun c1 => absurd c1 (by omega)) (fun _ => ?_)
  refine si_const S dX8_add_7 ?_
  exact sr_i E hQ dX8_add_8 ⟨Nat.le_of_ble_eq_true rfl, Nat.le_of_ble_eq_true rfl⟩ hV (⟨rfl, rfl, rfl⟩)

set_option maxHeartbeats 1000000 in
theorem kTa9 (l_ : Launch) (G : sG) (b_ : Nat) (M : sM) (N : Nat) (t : Nat) (r : Int) (tv : Int → Int → Int) (ht : stK G M t 5 r 165 tv) (hr : 0 ≤ r ∧ r ≤ 33) : cI l_ yX8_add wsX8_add rmX8_add G b_ M N [.ref t] (fun z_ M1 N1 => z_ = (if r ≤ 32 then r else -1) ∧ N1 = N ∧ stK G M1 t 5 (min 33 (r + 1)) 165 (tvY tv r) ∧ (∀ x : Nat, ¬ (x = t) → ¬ (x = t + 1) → M1 x = M x)) := by
  by_cases q : r ≤ 32
  · refine cI.mono (kTa l_ G b_ M N t 5 r 165 tv ht (by omega)) ?_
    rintro z M1 N1 ⟨e0, e1, e2, e3⟩
    refine ⟨by rw [if_pos q]; exact e0, e1, ?_, e3⟩
    rw [show min 33 (r + 1) = r + 1 by omega, show tvY tv r = tvZ tv r by funext i j; unfold tvY tvZ; by_cases e : i = r; (rw [if_pos ⟨q, e⟩, if_pos e]); (rw [if_neg (fun w => e w.2), if_neg e])]
    exact e2
  · have ht2 := ht
    obtain ⟨h1, g, h2, h3⟩ := ht2
    refine cI.mono (kTa0 l_ G b_ M N t 165 g 5 r h1 h2 (by omega)) ?_
    rintro z M1 N1 ⟨e0, e1, e2⟩
    subst e1
    refine ⟨by rw [if_neg q]; exact e0, e2, ?_, fun _ _ _ => rfl⟩
    rw [show min 33 (r + 1) = r by omega, show tvY tv r = tv by funext i j; unfold tvY; rw [if_neg (fun w => q w.1)]]
    exact ht

abbrev rmX1_doesFit : Room := { frames := 3, cells := 0, slots := 0, locals := 85 }
set_option maxHeartbeats 4000000 in
set_option maxRecDepth 100000 in
theorem kX1_doesFit (l_ : Launch) (G : sG) (b_ : Nat) (M : sM) (N : Nat) (q : Nat) (wc tk ts te tv ne : Int) (et : Int → Int → Int) (j : Int) (hq0 : M q = some (sObj 0 [.ref (q + 1), .ref (q + 3), .int (sI wc), .int (sI tk), .int (sI ts), .int (sI te), .int (sI tv)])) (hu : stK G M (q + 1) 5 ne 165 et) (hj : 0 ≤ j ∧ j ≤ 5 ∧ sR tk) (hv : tk = 1 ∨ tk = 2 → sR tv) (hn : 0 ≤ ne ∧ ne ≤ 33) (he : j = 0 → ∀ o, 0 ≤ o → o < ne → sR (et o 4)) : cP l_ yX1_doesFit wsX1_doesFit rmX1_doesFit G b_ M N [.ref q, .int (sI j)] (bI (dfP j tk tv ne et)) := by
  refine sE.ofI (cc := cX1_doesFit) (nL := 2) (ret := (some .boolean)) (by decide) rfl (Nat.le_of_ble_eq_true rfl) ?_
  intro p_ e_ s_ m_ args_ below_ meth_ c_ ls Q hQ E hl
  have E : sE p_ l_ e_ rmX1_doesFit s_ m_ args_ below_ meth_ c_ cX1_doesFit 2 wsX1_doesFit RX1 "doesFit" (some .boolean) G b_ M N := E
  have S := E.1
  have hx_ := S.1
  have hb_ := S.2.1
  have hK := E.2.2.2.2.1
  have hV := E.2.2.2.2.2.2
  have hl : lv_has ls 2 [(0, .ref q), (1, .int (sI j))] := hl
  have inX1_ : ∀ w ∈ wsX10, w ∈ wsX1_doesFit := fun _ h => List.mem_cons_of_mem _ (List.mem_append_left _ (List.mem_append_right _ h))
  have inX8_ : ∀ w ∈ wsX80, w ∈ wsX1_doesFit := fun _ h => List.mem_cons_of_mem _ (List.mem_append_right _ h)
  refine lv_iload_n hx_ hb_ dX1_doesFit_0 rfl (lv_at hl 1 rfl) ?_
  refine sz_ne (tgt := 29) S dX1_doesFit_1 (by decide) (by omega) (fun c1 => ?_) (fun c1 => ?_)
  · refine lv_iload_n hx_ hb_ dX1_doesFit_29 rfl (lv_at hl 1 rfl) ?_
    refine si_const S dX1_doesFit_30 ?_
    refine sb_ne (tgt := 48) S dX1_doesFit_31 (by decide) (by omega) (fun c2 => ?_) (fun c2 => ?_)
    · refine lv_aload_n hx_ hb_ dX1_doesFit_48 rfl (lv_at hl 0 rfl) ?_
      refine sc_get (ci := 0) (C := RX1) (T := TX1) (n := 7) S hK hV inX1_ hq0 rfl 3 (by decide) (S.2.2.2.2 _ (List.mem_of_getElem? (i := 1) rfl)) rfl rfl dX1_doesFit_49 ?_
      refine si_const S dX1_doesFit_52 ?_
      refine sb_ne (tgt := 73) S dX1_doesFit_53 (by decide) (by omega) (fun c3 => ?_) (fun c3 => ?_)
      · refine si_const S dX1_doesFit_73 ?_
        exact sr_z E hQ (Or.inl rfl) dX1_doesFit_74 ⟨Nat.le_of_ble_eq_true rfl, Nat.le_of_ble_eq_true rfl⟩ hV (⟨(bI_f (fun r => by rcases r with ⟨r1, r2, r3⟩ | ⟨r1, r2⟩ | ⟨r1, r2, r3⟩; (first | omega | omega); omega; (first | omega | omega))).symm, rfl, rfl⟩)
      · refine lv_iload_n hx_ hb_ dX1_doesFit_56 rfl (lv_at hl 1 rfl) ?_
        refine si_const S dX1_doesFit_57 ?_
        refine si_sub S dX1_doesFit_58 ?_
        refine lv_aload_n hx_ hb_ dX1_doesFit_59 rfl (lv_at hl 0 rfl) ?_
        refine sc_get (ci := 0) (C := RX1) (T := TX1) (n := 7) S hK hV inX1_ hq0 rfl 6 (by decide) (S.2.2.2.2 _ (List.mem_of_getElem? (i := 2) rfl)) rfl rfl dX1_doesFit_60 ?_
        refine sk_SP E hV (As := [.int (sI (j - 1)), .int (sI tv)]) (rest := []) (kX6_isInRange l_ G b_ M N (j - 1) tv (by omega) (hv (by omega))) (va_cwS 2 S.2.2.2.2 gX1_doesFit_X6_isInRange rfl rfl rfl (by decide +kernel) ⟨Nat.le_of_ble_eq_true rfl, Nat.le_of_ble_eq_true rfl⟩) rfl rfl hl.1 (Nat.le_of_ble_eq_true rfl) dX1_doesFit_63 (c1 := 0) (s1 := 0) ⟨⟨rfl, rfl⟩, by decide, by decide⟩ (fun H locs hV => ?_)
        refine sq_eq (tgt := 73) S dX1_doesFit_66 (by decide) (fun h66 => ?_) (fun h66 => ?_)
        · refine si_const S dX1_doesFit_73 ?_
          exact sr_z E hQ (Or.inl rfl) dX1_doesFit_74 ⟨Nat.le_of_ble_eq_true rfl, Nat.le_of_ble_eq_true rfl⟩ hV (⟨(bI_f (fun r => by rcases r with ⟨r1, r2, r3⟩ | ⟨r1, r2⟩ | ⟨r1, r2, r3⟩; (first | omega | omega); omega; (first | omega | exact h66 r3))).symm, rfl, rfl⟩)
        · refine si_const S dX1_doesFit_69 ?_
          refine lv_goto (tgt := 74) hx_ hb_ dX1_doesFit_70 (by decide) ?_
          exact sr_z E hQ (Or.inr rfl) dX1_doesFit_74 ⟨Nat.le_of_ble_eq_true rfl, Nat.le_of_ble_eq_true rfl⟩ hV (⟨(bI_t (Or.inr (Or.inr ⟨by omega, by omega, h66⟩))).symm, rfl, rfl⟩)
    · refine lv_aload_n hx_ hb_ dX1_doesFit_34 rfl (lv_at hl 0 rfl) ?_
      refine sc_get (ci := 0) (C := RX1) (T := TX1) (n := 7) S hK hV inX1_ hq0 rfl 3 (by decide) (S.2.2.2.2 _ (List.mem_of_getElem? (i := 1) rfl)) rfl rfl dX1_doesFit_35 ?_
      refine si_const S dX1_doesFit_38 ?_
      refine sb_ne (tgt := 46) S dX1_doesFit_39 (by decide) (by omega) (fun c4 => ?_) (fun c4 => ?_)
      · refine si_const S dX1_doesFit_46 ?_
        exact sr_z E hQ (Or.inl rfl) dX1_doesFit_47 ⟨Nat.le_of_ble_eq_true rfl, Nat.le_of_ble_eq_true rfl⟩ hV (⟨(bI_f (fun r => by rcases r with ⟨r1, r2, r3⟩ | ⟨r1, r2⟩ | ⟨r1, r2, r3⟩; (first | omega | omega); omega; (first | omega | omega))).symm, rfl, rfl⟩)
      · refine si_const S dX1_doesFit_42 ?_
        refine lv_goto (tgt := 47) hx_ hb_ dX1_doesFit_43 (by decide) ?_
        exact sr_z E hQ (Or.inr rfl) dX1_doesFit_47 ⟨Nat.le_of_ble_eq_true rfl, Nat.le_of_ble_eq_true rfl⟩ hV (⟨(bI_t (Or.inr (Or.inl ⟨by omega, by omega⟩))).symm, rfl, rfl⟩)
  · refine lv_aload_n hx_ hb_ dX1_doesFit_4 rfl (lv_at hl 0 rfl) ?_
    refine sc_get (ci := 0) (C := RX1) (T := TX1) (n := 7) S hK hV inX1_ hq0 rfl 3 (by decide) (S.2.2.2.2 _ (List.mem_of_getElem? (i := 1) rfl)) rfl rfl dX1_doesFit_5 ?_
    refine si_const S dX1_doesFit_8 ?_
    refine sb_ne (tgt := 27) S dX1_doesFit_9 (by decide) (by omega) (fun c5 => ?_) (fun c5 => ?_)
    · refine si_const S dX1_doesFit_27 ?_
      exact sr_z E hQ (Or.inl rfl) dX1_doesFit_28 ⟨Nat.le_of_ble_eq_true rfl, Nat.le_of_ble_eq_true rfl⟩ hV (⟨(bI_f (fun r => by rcases r with ⟨r1, r2, r3⟩ | ⟨r1, r2⟩ | ⟨r1, r2, r3⟩; (first | omega | omega); omega; (first | omega | omega))).symm, rfl, rfl⟩)
    · refine lv_aload_n hx_ hb_ dX1_doesFit_12 rfl (lv_at hl 0 rfl) ?_
      refine lv_aload_n hx_ hb_ dX1_doesFit_13 rfl (lv_at hl 0 rfl) ?_
      refine sc_get (ci := 0) (C := RX1) (T := TX1) (n := 7) S hK hV inX1_ hq0 rfl 6 (by decide) (S.2.2.2.2 _ (List.mem_of_getElem? (i := 2) rfl)) rfl rfl dX1_doesFit_14 ?_
      refine sk_VP E hV (As := [.int (sI tv)]) (rest := []) (kX1_hasEntry l_ G b_ M N q wc tk ts te tv ne et tv hq0 hu (by omega) (hv (by omega)) (he (by omega))) (cwV 1 S.2.2.2.2 gX1_doesFit_X1_hasEntry rfl rfl rfl (by decide +kernel) ⟨Nat.le_of_ble_eq_true rfl, Nat.le_of_ble_eq_true rfl⟩) (ci := 0) hq0 rfl rfl rfl hl.1 (Nat.le_of_ble_eq_true rfl) dX1_doesFit_17 (c1 := 0) (s1 := 0) ⟨⟨rfl, rfl⟩, by decide, by decide⟩ (fun H locs hV => ?_)
      refine sq_ne (tgt := 27) S dX1_doesFit_20 (by decide) (fun h20 => ?_) (fun h20 => ?_)
      · refine si_const S dX1_doesFit_27 ?_
        exact sr_z E hQ (Or.inl rfl) dX1_doesFit_28 ⟨Nat.le_of_ble_eq_true rfl, Nat.le_of_ble_eq_true rfl⟩ hV (⟨(bI_f (fun r => by rcases r with ⟨r1, r2, r3⟩ | ⟨r1, r2⟩ | ⟨r1, r2, r3⟩; (first | omega | exact r3 h20); omega; (first | omega | omega))).symm, rfl, rfl⟩)
      · refine si_const S dX1_doesFit_23 ?_
        refine lv_goto (tgt := 28) hx_ hb_ dX1_doesFit_24 (by decide) ?_
        exact sr_z E hQ (Or.inr rfl) dX1_doesFit_28 ⟨Nat.le_of_ble_eq_true rfl, Nat.le_of_ble_eq_true rfl⟩ hV (⟨(bI_t (Or.inl ⟨by omega, by omega, h20⟩)).symm, rfl, rfl⟩)

abbrev rmX1_takeToken : Room := { frames := 3, cells := 0, slots := 0, locals := 84 }
set_option maxHeartbeats 4000000 in
set_option maxRecDepth 100000 in
theorem kX1_takeToken (l_ : Launch) (G : sG) (b_ : Nat) (M : sM) (N : Nat) (q : Nat) (wc tk ts te tv ne : Int) (et : Int → Int → Int) (j : Int) (hq0 : M q = some (sObj 0 [.ref (q + 1), .ref (q + 3), .int (sI wc), .int (sI tk), .int (sI ts), .int (sI te), .int (sI tv)])) (hu : stK G M (q + 1) 5 ne 165 et) (hj : 0 ≤ j ∧ j ≤ 5) (hn : 0 ≤ ne ∧ ne ≤ 33 ∧ (1 ≤ j → 1 ≤ ne)) : cV l_ yX1_takeToken wsX1_takeToken rmX1_takeToken G b_ M N [.ref q, .int (sI j)] (fun M1 N1 => ∃ n9 : Int, ∃ e9 : Int → Int → Int, N1 = N ∧ stK G M1 (q + 1) 5 n9 165 e9 ∧ (∀ x : Nat, ¬ (x = q + 1) → ¬ (x = q + 2) → M1 x = M x) ∧ (n9 = if j = 0 then min 33 (ne + 1) else ne) ∧ (e9 = if j = 0 then tvU (tvY et ne) (min 33 (ne + 1) - 1) 4 tv else if j = 5 then et else tvU et (ne - 1) (j - 1) tv)) := by
  refine sE.ofV (cc := cX1_takeToken) (nL := 2) (ret := none) (by decide) rfl (Nat.le_of_ble_eq_true rfl) ?_
  intro p_ e_ s_ m_ args_ below_ meth_ c_ ls Q hQ E hl
  have E : sE p_ l_ e_ rmX1_takeToken s_ m_ args_ below_ meth_ c_ cX1_takeToken 2 wsX1_takeToken RX1 "takeToken" none G b_ M N := E
  have S := E.1
  have hx_ := S.1
  have hb_ := S.2.1
  have hK := E.2.2.2.2.1
  have hV := E.2.2.2.2.2.2
  have hl : lv_has ls 2 [(0, .ref q), (1, .int (sI j))] := hl
  have inX1_ : ∀ w ∈ wsX10, w ∈ wsX1_takeToken := fun _ h => List.mem_cons_of_mem _ (List.mem_append_left _ (List.mem_append_right _ h))
  have inX8_ : ∀ w ∈ wsX80, w ∈ wsX1_takeToken := fun _ h => List.mem_cons_of_mem _ (List.mem_append_right _ h)
  refine lv_iload_n hx_ hb_ dX1_takeToken_0 rfl (lv_at hl 1 rfl) ?_
  refine sz_ne (tgt := 36) S dX1_takeToken_1 (by decide) (by omega) (fun c1 => ?_) (fun c1 => ?_)
  · refine lv_iload_n hx_ hb_ dX1_takeToken_36 rfl (lv_at hl 1 rfl) ?_
    refine si_const S dX1_takeToken_37 ?_
    refine sb_eq (tgt := 64) S dX1_takeToken_38 (by decide) (by omega) (fun c2 => ?_) (fun c2 => ?_)
    · exact sr_v E hQ dX1_takeToken_64 ⟨Nat.le_of_ble_eq_true rfl, Nat.le_of_ble_eq_true rfl⟩ hV (⟨ne, et, rfl, hu, fun x q0 q1 => rfl, by rw [if_neg (by omega)], by rw [if_neg (by omega), if_pos (by omega)]⟩)
    · refine lv_aload_n hx_ hb_ dX1_takeToken_41 rfl (lv_at hl 0 rfl) ?_
      refine sc_get (ci := 0) (C := RX1) (T := TX1) (n := 7) S hK hV inX1_ hq0 rfl 0 (by decide) (S.2.2.2.2 _ (List.mem_of_getElem? (i := 1) rfl)) rfl rfl dX1_takeToken_42 ?_
      refine lv_aload_n hx_ hb_ dX1_takeToken_45 rfl (lv_at hl 0 rfl) ?_
      refine sc_get (ci := 0) (C := RX1) (T := TX1) (n := 7) S hK hV inX1_ hq0 rfl 0 (by decide) (S.2.2.2.2 _ (List.mem_of_getElem? (i := 1) rfl)) rfl rfl dX1_takeToken_46 ?_
      refine sk_VP E hV (As := []) (rest := [.ref (q + 1)]) (kTs l_ G b_ M N (q + 1) 5 ne 165 et hu) (cwV 0 S.2.2.2.2 gX1_takeToken_X8_size rfl rfl rfl (by decide +kernel) ⟨Nat.le_of_ble_eq_true rfl, Nat.le_of_ble_eq_true rfl⟩) (ci := 6) (hu).1 rfl rfl rfl hl.1 (Nat.le_of_ble_eq_true rfl) dX1_takeToken_49 (c1 := 0) (s1 := 0) ⟨⟨rfl, rfl⟩, by decide, by decide⟩ (fun H locs hV => ?_)
      refine si_const S dX1_takeToken_52 ?_
      refine si_sub S dX1_takeToken_53 ?_
      refine lv_iload_n hx_ hb_ dX1_takeToken_54 rfl (lv_at hl 1 rfl) ?_
      refine si_const S dX1_takeToken_55 ?_
      refine si_sub S dX1_takeToken_56 ?_
      refine lv_aload_n hx_ hb_ dX1_takeToken_57 rfl (lv_at hl 0 rfl) ?_
      refine sc_get (ci := 0) (C := RX1) (T := TX1) (n := 7) S hK hV inX1_ hq0 rfl 6 (by decide) (S.2.2.2.2 _ (List.mem_of_getElem? (i := 2) rfl)) rfl rfl dX1_takeToken_58 ?_
      refine sk_Vv E hV (As := [.int (sI (ne - 1)), .int (sI (j - 1)), .int (sI tv)]) (rest := []) (kTw l_ G b_ M N (q + 1) 5 ne 165 et (ne - 1) (j - 1) tv hu (by omega) (by omega)) (cwV 3 S.2.2.2.2 gX1_takeToken_X8_set rfl rfl rfl (by decide +kernel) ⟨Nat.le_of_ble_eq_true rfl, Nat.le_of_ble_eq_true rfl⟩) (ci := 6) (hu).1 rfl rfl rfl hl.1 (Nat.le_of_ble_eq_true rfl) dX1_takeToken_61 (c1 := 0) (s1 := 0) ⟨⟨rfl, rfl⟩, by decide, by decide⟩ (fun M3 N4 H locs hp5 hV => ?_)
      obtain ⟨hN7, hc8, hf9⟩ := hp5
      rw [hN7] at hV
      exact sr_v E hQ dX1_takeToken_64 ⟨Nat.le_of_ble_eq_true rfl, Nat.le_of_ble_eq_true rfl⟩ hV (⟨ne, (tvU et (ne - 1) (j - 1) tv), rfl, hc8, fun x q0 q1 => hf9 x (by omega), by rw [if_neg (by omega)], by rw [if_neg (by omega), if_neg (by omega)]⟩)
  · refine lv_aload_n hx_ hb_ dX1_takeToken_4 rfl (lv_at hl 0 rfl) ?_
    refine sc_get (ci := 0) (C := RX1) (T := TX1) (n := 7) S hK hV inX1_ hq0 rfl 0 (by decide) (S.2.2.2.2 _ (List.mem_of_getElem? (i := 1) rfl)) rfl rfl dX1_takeToken_5 ?_
    refine sk_Vi E hV (As := []) (rest := []) (kTa9 l_ G b_ M N (q + 1) ne et hu (by omega)) (cwV 0 S.2.2.2.2 gX1_takeToken_X8_add rfl rfl rfl (by decide +kernel) ⟨Nat.le_of_ble_eq_true rfl, Nat.le_of_ble_eq_true rfl⟩) (ci := 6) (hu).1 rfl rfl rfl hl.1 (Nat.le_of_ble_eq_true rfl) dX1_takeToken_8 (c1 := 0) (s1 := 0) ⟨⟨rfl, rfl⟩, by decide, by decide⟩ (fun z13 M10 N11 H locs hp12 hV => ?_)
    obtain ⟨ez14, hN15, hc16, hf17⟩ := hp12
    rw [hN15] at hV
    rw [ez14]
    refine lv_pop hx_ hb_ dX1_takeToken_11 rfl ?_
    refine lv_aload_n hx_ hb_ dX1_takeToken_12 rfl (lv_at hl 0 rfl) ?_
    have hc18 : M10 q = some (sObj 0 [.ref (q + 1), .ref (q + 3), .int (sI wc), .int (sI tk), .int (sI ts), .int (sI te), .int (sI tv)]) := (hf17 q (by omega) (by omega)).trans hq0
    refine sc_get (ci := 0) (C := RX1) (T := TX1) (n := 7) S hK hV inX1_ hc18 rfl 0 (by decide) (S.2.2.2.2 _ (List.mem_of_getElem? (i := 1) rfl)) rfl rfl dX1_takeToken_13 ?_
    refine lv_aload_n hx_ hb_ dX1_takeToken_16 rfl (lv_at hl 0 rfl) ?_
    refine sc_get (ci := 0) (C := RX1) (T := TX1) (n := 7) S hK hV inX1_ hc18 rfl 0 (by decide) (S.2.2.2.2 _ (List.mem_of_getElem? (i := 1) rfl)) rfl rfl dX1_takeToken_17 ?_
    refine sk_VP E hV (As := []) (rest := [.ref (q + 1)]) (kTs l_ G b_ M10 N (q + 1) 5 (min 33 (ne + 1)) 165 (tvY et ne) hc16) (cwV 0 S.2.2.2.2 gX1_takeToken_X8_size rfl rfl rfl (by decide +kernel) ⟨Nat.le_of_ble_eq_true rfl, Nat.le_of_ble_eq_true rfl⟩) (ci := 6) (hc16).1 rfl rfl rfl hl.1 (Nat.le_of_ble_eq_true rfl) dX1_takeToken_20 (c1 := 0) (s1 := 0) ⟨⟨rfl, rfl⟩, by decide, by decide⟩ (fun H locs hV => ?_)
    refine si_const S dX1_takeToken_23 ?_
    refine si_sub S dX1_takeToken_24 ?_
    refine si_const S dX1_takeToken_25 ?_
    refine lv_aload_n hx_ hb_ dX1_takeToken_26 rfl (lv_at hl 0 rfl) ?_
    refine sc_get (ci := 0) (C := RX1) (T := TX1) (n := 7) S hK hV inX1_ hc18 rfl 6 (by decide) (S.2.2.2.2 _ (List.mem_of_getElem? (i := 2) rfl)) rfl rfl dX1_takeToken_27 ?_
    refine sk_Vv E hV (As := [.int (sI ((min 33 (ne + 1)) - 1)), .int (sI 4), .int (sI tv)]) (rest := []) (kTw l_ G b_ M10 N (q + 1) 5 (min 33 (ne + 1)) 165 (tvY et ne) ((min 33 (ne + 1)) - 1) 4 tv hc16 (by omega) (by omega)) (cwV 3 S.2.2.2.2 gX1_takeToken_X8_set rfl rfl rfl (by decide +kernel) ⟨Nat.le_of_ble_eq_true rfl, Nat.le_of_ble_eq_true rfl⟩) (ci := 6) (hc16).1 rfl rfl rfl hl.1 (Nat.le_of_ble_eq_true rfl) dX1_takeToken_30 (c1 := 0) (s1 := 0) ⟨⟨rfl, rfl⟩, by decide, by decide⟩ (fun M19 N20 H locs hp21 hV => ?_)
    obtain ⟨hN23, hc24, hf25⟩ := hp21
    rw [hN23] at hV
    refine lv_goto (tgt := 64) hx_ hb_ dX1_takeToken_33 (by decide) ?_
    exact sr_v E hQ dX1_takeToken_64 ⟨Nat.le_of_ble_eq_true rfl, Nat.le_of_ble_eq_true rfl⟩ hV (⟨(min 33 (ne + 1)), (tvU (tvY et ne) ((min 33 (ne + 1)) - 1) 4 tv), rfl, hc24, fun x q0 q1 => (hf25 x (by omega)).trans (hf17 x (by omega) (by omega)), by rw [if_pos (by omega)], by rw [if_pos (by omega)]⟩)

abbrev rmX1_rowBehind : Room := { frames := 2, cells := 0, slots := 0, locals := 63 }
set_option maxHeartbeats 4000000 in
set_option maxRecDepth 100000 in
theorem kX1_rowBehind (l_ : Launch) (G : sG) (b_ : Nat) (M : sM) (N : Nat) (t : Nat) (c r : Int) (n : Nat) (tv : Int → Int → Int) (y : Int) (ht : stK G M t c r n tv) (hr : 1 ≤ c ∧ c ≤ 100 ∧ 0 ≤ r ∧ r ≤ 100000 ∧ r * c ≤ n ∧ (n : Int) ≤ 100000) (hc : 5 ≤ c) (hv : ∀ o, 0 ≤ o → o < r → sR (tv o 4)) (hy : sR y) : cI l_ yX1_rowBehind wsX1_rowBehind rmX1_rowBehind G b_ M N [.ref t, .int (sI y)] (fun z_ M1 N1 => N1 = N ∧ (∀ x : Nat, M1 x = M x) ∧ (rbQ tv r y r z_)) := by
  refine sE.ofI (cc := cX1_rowBehind) (nL := 5) (ret := (some .int)) (by decide) rfl (Nat.le_of_ble_eq_true rfl) ?_
  intro p_ e_ s_ m_ args_ below_ meth_ c_ ls Q hQ E hl
  have E : sE p_ l_ e_ rmX1_rowBehind s_ m_ args_ below_ meth_ c_ cX1_rowBehind 5 wsX1_rowBehind RX1 "rowBehind" (some .int) G b_ M N := E
  have S := E.1
  have hx_ := S.1
  have hb_ := S.2.1
  have hK := E.2.2.2.2.1
  have hV := E.2.2.2.2.2.2
  have hl : lv_has ls 5 [(0, .ref t), (1, .int (sI y))] := hl
  have inX8_ : ∀ w ∈ wsX80, w ∈ wsX1_rowBehind := fun _ h => List.mem_cons_of_mem _ (List.mem_append_right _ h)
  refine si_const S dX1_rowBehind_0 ?_
  refine lv_istore_n (lv' := [(2, .int (sI (-1))), (0, .ref t), (1, .int (sI y))]) hx_ hb_ dX1_rowBehind_1 rfl hl (by decide) rfl (fun ls hl => ?_)
  refine si_const S dX1_rowBehind_2 ?_
  refine lv_istore_n (lv' := [(3, .int (sI 0)), (2, .int (sI (-1))), (0, .ref t), (1, .int (sI y))]) hx_ hb_ dX1_rowBehind_3 rfl hl (by decide) rfl (fun ls hl => ?_)
  have L4 : ∀ (fuel : Nat) (z : Int) (k : Int)  (H : Heap) (locs : List Loc) (ls : Array Slot), ((r - k).toNat) < fuel → (0 ≤ k ∧ k ≤ r) → (rbQ tv r y k z) → sV G b_ M N s_ H locs → lv_has ls 5 [(0, .ref t), (1, .int (sI y)), (2, .int (sI z)), (3, .int (sI k))] → W p_ l_ e_ rmX1_rowBehind s_ m_ args_ below_ meth_ c_ H locs 0 0 Q (F0 m_ 4 ls []) := by
    intro fuel
    induction fuel with
    | zero => intro z k H locs ls hmu; exact absurd hmu (Nat.not_lt_zero _)
    | succ fuel ih4 =>
      intro z k H locs ls hmu4 hv4_0 hz2  hV hl
      have hz1 : -1 ≤ z ∧ z < k := by rcases hz2 with ⟨e9, _⟩ | ⟨e9, _⟩ <;> omega
      refine lv_iload_n hx_ hb_ dX1_rowBehind_4 rfl (lv_at hl 3 rfl) ?_
      refine lv_aload_n hx_ hb_ dX1_rowBehind_5 rfl (lv_at hl 0 rfl) ?_
      refine sk_VP E hV (As := []) (rest := [.int (sI k)]) (kTs l_ G b_ M N t c r n tv ht) (cwV 0 S.2.2.2.2 gX1_rowBehind_X8_size rfl rfl rfl (by decide +kernel) ⟨Nat.le_of_ble_eq_true rfl, Nat.le_of_ble_eq_true rfl⟩) (ci := 6) (ht).1 rfl rfl rfl hl.1 (Nat.le_of_ble_eq_true rfl) dX1_rowBehind_6 (c1 := 0) (s1 := 0) ⟨⟨rfl, rfl⟩, by decide, by decide⟩ (fun H locs hV => ?_)
      refine sb_ge (tgt := 50) S dX1_rowBehind_9 (by decide) (by omega) (fun c1 => ?_) (fun c1 => ?_)
      · refine lv_iload_n hx_ hb_ dX1_rowBehind_50 rfl (lv_at hl 2 rfl) ?_
        exact sr_i E hQ dX1_rowBehind_51 ⟨Nat.le_of_ble_eq_true rfl, Nat.le_of_ble_eq_true rfl⟩ hV (⟨rfl, fun x  => rfl, by rw [show k = r by omega] at hz2; exact hz2⟩)
      · refine lv_aload_n hx_ hb_ dX1_rowBehind_12 rfl (lv_at hl 0 rfl) ?_
        refine lv_iload_n hx_ hb_ dX1_rowBehind_13 rfl (lv_at hl 3 rfl) ?_
        refine si_const S dX1_rowBehind_14 ?_
        refine sk_VP E hV (As := [.int (sI k), .int (sI 4)]) (rest := []) (kTg l_ G b_ M N t c r n tv k 4 (tv k 4) ht (by omega) (by omega) (rfl)) (cwV 2 S.2.2.2.2 gX1_rowBehind_X8_get rfl rfl rfl (by decide +kernel) ⟨Nat.le_of_ble_eq_true rfl, Nat.le_of_ble_eq_true rfl⟩) (ci := 6) (ht).1 rfl rfl rfl hl.1 (Nat.le_of_ble_eq_true rfl) dX1_rowBehind_15 (c1 := 0) (s1 := 0) ⟨⟨rfl, rfl⟩, by decide, by decide⟩ (fun H locs hV => ?_)
        have hvk := hv k (by omega) (by omega)
        refine lv_istore (lv' := [(4, .int (sI (tv k 4))), (0, .ref t), (1, .int (sI y)), (2, .int (sI z)), (3, .int (sI k))]) hx_ hb_ dX1_rowBehind_18 hl (by decide) rfl (fun ls hl => ?_)
        refine lv_iload hx_ hb_ dX1_rowBehind_20 (lv_at hl 0 rfl) ?_
        refine lv_iload_n hx_ hb_ dX1_rowBehind_22 rfl (lv_at hl 2 rfl) ?_
        refine sb_le (tgt := 44) S dX1_rowBehind_23 (by decide) (by omega) (fun c2 => ?_) (fun c2 => ?_)
        · refine si_inc (lv' := [(3, .int (sI (k + 1))), (4, .int (sI (tv k 4))), (0, .ref t), (1, .int (sI y)), (2, .int (sI z))]) S dX1_rowBehind_44 hl (k := 4) rfl (by decide) rfl (fun ls hl => ?_)
          refine lv_goto (tgt := 4) hx_ hb_ dX1_rowBehind_47 (by decide) ?_
          exact ih4 z (k + 1) _ _ _ (by omega) (by omega) (rb_k hz2 (fun q => by have := q.1; omega)) hV (lv_sub hl [2, 3, 4, 0] rfl)
        · refine lv_iload_n hx_ hb_ dX1_rowBehind_26 rfl (lv_at hl 3 rfl) ?_
          refine si_const S dX1_rowBehind_27 ?_
          refine sb_eq (tgt := 42) S dX1_rowBehind_28 (by decide) (by omega) (fun c3 => ?_) (fun c3 => ?_)
          · refine lv_iload_n hx_ hb_ dX1_rowBehind_42 rfl (lv_at hl 4 rfl) ?_
            refine lv_istore_n (lv' := [(2, .int (sI k)), (4, .int (sI (tv k 4))), (0, .ref t), (1, .int (sI y)), (3, .int (sI k))]) hx_ hb_ dX1_rowBehind_43 rfl hl (by decide) rfl (fun ls hl => ?_)
            refine si_inc (lv' := [(3, .int (sI (k + 1))), (2, .int (sI k)), (4, .int (sI (tv k 4))), (0, .ref t), (1, .int (sI y))]) S dX1_rowBehind_44 hl (k := 4) rfl (by decide) rfl (fun ls hl => ?_)
            refine lv_goto (tgt := 4) hx_ hb_ dX1_rowBehind_47 (by decide) ?_
            exact ih4 k (k + 1) _ _ _ (by omega) (by omega) (rb_t (by omega) hz2 (by omega) (Or.inl (by omega))) hV (lv_sub hl [3, 4, 1, 0] rfl)
          · refine lv_iload hx_ hb_ dX1_rowBehind_31 (lv_at hl 0 rfl) ?_
            have hvz := hv z (by omega) (by omega)
            refine lv_aload_n hx_ hb_ dX1_rowBehind_33 rfl (lv_at hl 1 rfl) ?_
            refine lv_iload_n hx_ hb_ dX1_rowBehind_34 rfl (lv_at hl 3 rfl) ?_
            refine si_const S dX1_rowBehind_35 ?_
            refine sk_VP E hV (As := [.int (sI z), .int (sI 4)]) (rest := [.int (sI (tv k 4))]) (kTg l_ G b_ M N t c r n tv z 4 (tv z 4) ht (by omega) (by omega) (rfl)) (cwV 2 S.2.2.2.2 gX1_rowBehind_X8_get rfl rfl rfl (by decide +kernel) ⟨Nat.le_of_ble_eq_true rfl, Nat.le_of_ble_eq_true rfl⟩) (ci := 6) (ht).1 rfl rfl rfl hl.1 (Nat.le_of_ble_eq_true rfl) dX1_rowBehind_36 (c1 := 0) (s1 := 0) ⟨⟨rfl, rfl⟩, by decide, by decide⟩ (fun H locs hV => ?_)
            refine sb_ge (tgt := 44) S dX1_rowBehind_39 (by decide) (by omega) (fun c4 => ?_) (fun c4 => ?_)
            · refine si_inc (lv' := [(3, .int (sI (k + 1))), (4, .int (sI (tv k 4))), (0, .ref t), (1, .int (sI y)), (2, .int (sI z))]) S dX1_rowBehind_44 hl (k := 4) rfl (by decide) rfl (fun ls hl => ?_)
              refine lv_goto (tgt := 4) hx_ hb_ dX1_rowBehind_47 (by decide) ?_
              exact ih4 z (k + 1) _ _ _ (by omega) (by omega) (rb_k hz2 (fun q => by have := q.2; omega)) hV (lv_sub hl [2, 3, 4, 0] rfl)
            · refine lv_iload_n hx_ hb_ dX1_rowBehind_42 rfl (lv_at hl 4 rfl) ?_
              refine lv_istore_n (lv' := [(2, .int (sI k)), (4, .int (sI (tv k 4))), (0, .ref t), (1, .int (sI y)), (3, .int (sI k))]) hx_ hb_ dX1_rowBehind_43 rfl hl (by decide) rfl (fun ls hl => ?_)
              refine si_inc (lv' := [(3, .int (sI (k + 1))), (2, .int (sI k)), (4, .int (sI (tv k 4))), (0, .ref t), (1, .int (sI y))]) S dX1_rowBehind_44 hl (k := 4) rfl (by decide) rfl (fun ls hl => ?_)
              refine lv_goto (tgt := 4) hx_ hb_ dX1_rowBehind_47 (by decide) ?_
              exact ih4 k (k + 1) _ _ _ (by omega) (by omega) (rb_t (by omega) hz2 (by omega) (Or.inr (by omega))) hV (lv_sub hl [3, 4, 1, 0] rfl)
  exact L4 _ (-1) 0 _ _ _ (Nat.lt_succ_self _) (by omega) (Or.inl ⟨rfl, fun o a b => by omega⟩) hV (lv_sub hl [2, 3, 1, 0] rfl)

abbrev rmX1_init : Room := { frames := 2, cells := 3, slots := 583, locals := 62 }
set_option maxHeartbeats 4000000 in
set_option maxRecDepth 100000 in
theorem kX1_init (l_ : Launch) (G : sG) (b_ : Nat) (M : sM) (N : Nat) (q : Nat) (hq0 : M q = some (sObj 0 [.null, .null, .int (sI 0), .int (sI 0), .int (sI 0), .int (sI 0), .int (sI 0)])) (hN : N = q + 1) : cV l_ yX1_init wsX1_init rmX1_init G b_ M N [.ref q] (fun M1 N1 => N1 = q + 4 ∧ M1 q = some (sObj 0 [.ref (q + 1), .ref (q + 3), .int (sI 0), .int (sI 0), .int (sI 0), .int (sI 0), .int (sI 0)]) ∧ stK G M1 (q + 1) 5 0 165 (fun _ _ => 0) ∧ M1 (q + 3) = some (sArC G 180 (fun _ => 0)) ∧ (∀ x : Nat, ¬ (x = q) → ¬ (x = q + 1) → ¬ (x = q + 2) → ¬ (x = q + 3) → M1 x = M x)) := by
  refine sE.ofV (cc := cX1_init) (nL := 1) (ret := none) (by decide) rfl (Nat.le_of_ble_eq_true rfl) ?_
  intro p_ e_ s_ m_ args_ below_ meth_ c_ ls Q hQ E hl
  have E : sE p_ l_ e_ rmX1_init s_ m_ args_ below_ meth_ c_ cX1_init 1 wsX1_init RX1 "<init>" none G b_ M N := E
  have S := E.1
  have hx_ := S.1
  have hb_ := S.2.1
  have hK := E.2.2.2.2.1
  have hV := E.2.2.2.2.2.2
  have hnm := E.2.2.2.1
  have hl : lv_has ls 1 [(0, .ref q)] := hl
  have inX8_ : ∀ w ∈ wsX80, w ∈ wsX1_init := fun _ h => List.mem_cons_of_mem _ (List.mem_append_left _ (List.mem_append_right _ h))
  have inX1_ : ∀ w ∈ wsX10, w ∈ wsX1_init := fun _ h => List.mem_cons_of_mem _ (List.mem_append_right _ h)
  have hbN : b_ ≤ N := by have h1 := hV.1.1; have h2 := hV.2.2; omega
  subst hN
  refine lv_aload_n hx_ hb_ dX1_init_0 rfl (lv_at hl 0 rfl) ?_
  refine W.objInit hx_ hb_ S.2.2.2.1 (S.2.2.2.2 _ (List.mem_of_getElem? (i := 1) rfl)) (S.2.2.2.2 _ (List.mem_of_getElem? (i := 2) rfl)) (S.2.2.2.2 _ (List.mem_of_getElem? (i := 3) rfl)) rfl (by rw [S.2.2.1]; exact hl.1) rfl dX1_init_1 (Nat.le_of_ble_eq_true rfl) (Nat.le_of_ble_eq_true rfl) ?_
  refine W.eq (g2 := F0 m_ 4 ls []) rfl ?_
  refine lv_aload_n hx_ hb_ dX1_init_4 rfl (lv_at hl 0 rfl) ?_
  refine sc_newo (ci := 6) (C := RX8) (T := TX8) (n := 3) (fs := [.int (sI 0), .null, .int (sI 0)]) S hK hV inX8_ tyX8_ok (S.2.2.2.2 _ (List.mem_of_getElem? (i := 4) rfl)) (S.2.2.2.2 _ (List.mem_of_getElem? (i := 5) rfl)) (S.2.2.2.2 _ (List.mem_of_getElem? (i := 6) rfl)) rfl (fun j hj => by rcases (show j = 0 ∨ j = 1 ∨ j = 2 by omega) with rfl | rfl | rfl <;> rfl) ⟨by decide, by decide⟩ dX1_init_5 (fun M1 H locs hM1 hV => ?_)
  have hc2 : M1 (q + 1) = some (sObj 6 [.int (sI 0), .null, .int (sI 0)]) := (congrFun hM1 (q + 1)).trans (va_up_self M (q + 1) _)
  refine lv_dup hx_ hb_ dX1_init_8 rfl ?_
  refine si_bipush S dX1_init_9 (by decide) ?_
  refine si_const S dX1_init_11 ?_
  refine sk_I E hV (As := [.int (sI 33), .int (sI 5)]) (rest := [.ref (q + 1), .ref q]) (kTi l_ G b_ M1 (q + 2) (q + 1) 33 5 0 0 165 (fun _ _ => 0) hc2 (rfl) (by decide) (by decide)) (cwI 2 S.2.2.2.2 gX1_init_X8_init rfl rfl rfl (S.2.2.2.2 _ (List.mem_of_getElem? (i := 6) rfl)) (S.2.2.2.2 _ (List.mem_of_getElem? (i := 15) rfl)) (S.2.2.2.2 _ (List.mem_of_getElem? (i := 16) rfl)) rfl (by decide +kernel) ⟨Nat.le_of_ble_eq_true rfl, Nat.le_of_ble_eq_true rfl⟩) rfl rfl hl.1 (Nat.le_of_ble_eq_true rfl) dX1_init_12 (c1 := 2) (s1 := 403) ⟨⟨rfl, rfl⟩, by decide, by decide⟩ (fun M3 N4 H locs hp5 hV => ?_)
  obtain ⟨hN7, hc8, hf9⟩ := hp5
  subst hN7
  have hc10 : M3 q = some (sObj 0 [.null, .null, .int (sI 0), .int (sI 0), .int (sI 0), .int (sI 0), .int (sI 0)]) := ((hf9 q (by omega) (by omega)).trans ((congrFun hM1 q).trans (va_up_ne M _ (by omega)))).trans hq0
  refine sc_putF (ci := 0) (C := RX1) (T := TX1) (n := 7) S hK hV inX1_ tyX1_ok nmX1 hc10 rfl 0 (by decide) (S.2.2.2.2 _ (List.mem_of_getElem? (i := 7) rfl)) rfl rfl hnm rfl rfl rfl (Nat.le_of_ble_eq_true rfl) dX1_init_15 (fs1 := [.ref (q + 1), .null, .int (sI 0), .int (sI 0), .int (sI 0), .int (sI 0), .int (sI 0)]) rfl (fun M11 H locs hM11 hV => ?_)
  have hc12 : M11 q = some (sObj 0 [.ref (q + 1), .null, .int (sI 0), .int (sI 0), .int (sI 0), .int (sI 0), .int (sI 0)]) := (congrFun hM11 q).trans (va_up_self M3 q _)
  refine lv_aload_n hx_ hb_ dX1_init_18 rfl (lv_at hl 0 rfl) ?_
  refine si_sipush S dX1_init_19 (by decide) ?_
  refine sc_newc S hK hV (S.2.2.2.2 _ (List.mem_of_getElem? (i := 8) rfl)) (N0 := 180) ⟨rfl, Nat.le_of_ble_eq_true rfl⟩ ⟨Nat.le_of_ble_eq_true rfl, Nat.le_of_ble_eq_true rfl⟩ dX1_init_22 (fun M13 H locs hM13 hV => ?_)
  have hc14 : M13 (q + 3) = some (sArC G 180 (fun _ => 0)) := (congrFun hM13 (q + 3)).trans (va_up_self M11 (q + 3) _)
  have hc15 : M13 q = some (sObj 0 [.ref (q + 1), .null, .int (sI 0), .int (sI 0), .int (sI 0), .int (sI 0), .int (sI 0)]) := ((congrFun hM13 q).trans (va_up_ne M11 _ (by omega))).trans hc12
  refine sc_putF (ci := 0) (C := RX1) (T := TX1) (n := 7) S hK hV inX1_ tyX1_ok nmX1 hc15 rfl 1 (by decide) (S.2.2.2.2 _ (List.mem_of_getElem? (i := 9) rfl)) rfl rfl hnm rfl rfl rfl (Nat.le_of_ble_eq_true rfl) dX1_init_24 (fs1 := [.ref (q + 1), .ref (q + 3), .int (sI 0), .int (sI 0), .int (sI 0), .int (sI 0), .int (sI 0)]) rfl (fun M16 H locs hM16 hV => ?_)
  have hc17 : M16 q = some (sObj 0 [.ref (q + 1), .ref (q + 3), .int (sI 0), .int (sI 0), .int (sI 0), .int (sI 0), .int (sI 0)]) := (congrFun hM16 q).trans (va_up_self M13 q _)
  refine lv_aload_n hx_ hb_ dX1_init_27 rfl (lv_at hl 0 rfl) ?_
  refine si_const S dX1_init_28 ?_
  refine sc_put (ci := 0) (C := RX1) (T := TX1) (n := 7) S hK hV inX1_ tyX1_ok nmX1 hc17 rfl 2 (by decide) (S.2.2.2.2 _ (List.mem_of_getElem? (i := 10) rfl)) rfl rfl rfl rfl (Nat.le_of_ble_eq_true rfl) dX1_init_29 (fs1 := [.ref (q + 1), .ref (q + 3), .int (sI 0), .int (sI 0), .int (sI 0), .int (sI 0), .int (sI 0)]) rfl (fun M18 H locs hM18 hV => ?_)
  have hc19 : M18 q = some (sObj 0 [.ref (q + 1), .ref (q + 3), .int (sI 0), .int (sI 0), .int (sI 0), .int (sI 0), .int (sI 0)]) := (congrFun hM18 q).trans (va_up_self M16 q _)
  refine lv_aload_n hx_ hb_ dX1_init_32 rfl (lv_at hl 0 rfl) ?_
  refine si_const S dX1_init_33 ?_
  refine sc_put (ci := 0) (C := RX1) (T := TX1) (n := 7) S hK hV inX1_ tyX1_ok nmX1 hc19 rfl 3 (by decide) (S.2.2.2.2 _ (List.mem_of_getElem? (i := 11) rfl)) rfl rfl rfl rfl (Nat.le_of_ble_eq_true rfl) dX1_init_34 (fs1 := [.ref (q + 1), .ref (q + 3), .int (sI 0), .int (sI 0), .int (sI 0), .int (sI 0), .int (sI 0)]) rfl (fun M20 H locs hM20 hV => ?_)
  have hc21 : M20 q = some (sObj 0 [.ref (q + 1), .ref (q + 3), .int (sI 0), .int (sI 0), .int (sI 0), .int (sI 0), .int (sI 0)]) := (congrFun hM20 q).trans (va_up_self M18 q _)
  refine lv_aload_n hx_ hb_ dX1_init_37 rfl (lv_at hl 0 rfl) ?_
  refine si_const S dX1_init_38 ?_
  refine sc_put (ci := 0) (C := RX1) (T := TX1) (n := 7) S hK hV inX1_ tyX1_ok nmX1 hc21 rfl 4 (by decide) (S.2.2.2.2 _ (List.mem_of_getElem? (i := 12) rfl)) rfl rfl rfl rfl (Nat.le_of_ble_eq_true rfl) dX1_init_39 (fs1 := [.ref (q + 1), .ref (q + 3), .int (sI 0), .int (sI 0), .int (sI 0), .int (sI 0), .int (sI 0)]) rfl (fun M22 H locs hM22 hV => ?_)
  have hc23 : M22 q = some (sObj 0 [.ref (q + 1), .ref (q + 3), .int (sI 0), .int (sI 0), .int (sI 0), .int (sI 0), .int (sI 0)]) := (congrFun hM22 q).trans (va_up_self M20 q _)
  refine lv_aload_n hx_ hb_ dX1_init_42 rfl (lv_at hl 0 rfl) ?_
  refine si_const S dX1_init_43 ?_
  refine sc_put (ci := 0) (C := RX1) (T := TX1) (n := 7) S hK hV inX1_ tyX1_ok nmX1 hc23 rfl 5 (by decide) (S.2.2.2.2 _ (List.mem_of_getElem? (i := 13) rfl)) rfl rfl rfl rfl (Nat.le_of_ble_eq_true rfl) dX1_init_44 (fs1 := [.ref (q + 1), .ref (q + 3), .int (sI 0), .int (sI 0), .int (sI 0), .int (sI 0), .int (sI 0)]) rfl (fun M24 H locs hM24 hV => ?_)
  have hc25 : M24 q = some (sObj 0 [.ref (q + 1), .ref (q + 3), .int (sI 0), .int (sI 0), .int (sI 0), .int (sI 0), .int (sI 0)]) := (congrFun hM24 q).trans (va_up_self M22 q _)
  refine lv_aload_n hx_ hb_ dX1_init_47 rfl (lv_at hl 0 rfl) ?_
  refine si_const S dX1_init_48 ?_
  refine sc_put (ci := 0) (C := RX1) (T := TX1) (n := 7) S hK hV inX1_ tyX1_ok nmX1 hc25 rfl 6 (by decide) (S.2.2.2.2 _ (List.mem_of_getElem? (i := 14) rfl)) rfl rfl rfl rfl (Nat.le_of_ble_eq_true rfl) dX1_init_49 (fs1 := [.ref (q + 1), .ref (q + 3), .int (sI 0), .int (sI 0), .int (sI 0), .int (sI 0), .int (sI 0)]) rfl (fun M26 H locs hM26 hV => ?_)
  have hc27 : M26 q = some (sObj 0 [.ref (q + 1), .ref (q + 3), .int (sI 0), .int (sI 0), .int (sI 0), .int (sI 0), .int (sI 0)]) := (congrFun hM26 q).trans (va_up_self M24 q _)
  have hc28 : stK G M26 (q + 1) 5 0 165 (fun _ _ => 0) := hc8.fr (fun x q8 q9 => ((((((((congrFun hM26 x).trans (va_up_ne M24 _ (by omega))).trans ((congrFun hM24 x).trans (va_up_ne M22 _ (by omega)))).trans ((congrFun hM22 x).trans (va_up_ne M20 _ (by omega)))).trans ((congrFun hM20 x).trans (va_up_ne M18 _ (by omega)))).trans ((congrFun hM18 x).trans (va_up_ne M16 _ (by omega)))).trans ((congrFun hM16 x).trans (va_up_ne M13 _ (by omega)))).trans ((congrFun hM13 x).trans (va_up_ne M11 _ (by omega)))).trans ((congrFun hM11 x).trans (va_up_ne M3 _ (by omega))))
  have hc29 : M26 (q + 3) = some (sArC G 180 (fun _ => 0)) := (((((((congrFun hM26 (q + 3)).trans (va_up_ne M24 _ (by omega))).trans ((congrFun hM24 (q + 3)).trans (va_up_ne M22 _ (by omega)))).trans ((congrFun hM22 (q + 3)).trans (va_up_ne M20 _ (by omega)))).trans ((congrFun hM20 (q + 3)).trans (va_up_ne M18 _ (by omega)))).trans ((congrFun hM18 (q + 3)).trans (va_up_ne M16 _ (by omega)))).trans ((congrFun hM16 (q + 3)).trans (va_up_ne M13 _ (by omega)))).trans hc14
  exact sr_v E hQ dX1_init_52 ⟨Nat.le_of_ble_eq_true rfl, Nat.le_of_ble_eq_true rfl⟩ hV (⟨by omega, hc27, hc28, hc29, fun x q0 q1 q2 q3 => ((((((((((congrFun hM26 x).trans (va_up_ne M24 _ (by omega))).trans ((congrFun hM24 x).trans (va_up_ne M22 _ (by omega)))).trans ((congrFun hM22 x).trans (va_up_ne M20 _ (by omega)))).trans ((congrFun hM20 x).trans (va_up_ne M18 _ (by omega)))).trans ((congrFun hM18 x).trans (va_up_ne M16 _ (by omega)))).trans ((congrFun hM16 x).trans (va_up_ne M13 _ (by omega)))).trans ((congrFun hM13 x).trans (va_up_ne M11 _ (by omega)))).trans ((congrFun hM11 x).trans (va_up_ne M3 _ (by omega)))).trans (hf9 x (by omega) (by omega))).trans ((congrFun hM1 x).trans (va_up_ne M _ (by omega)))⟩)
