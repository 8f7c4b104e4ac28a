/-! The calendar in whole numbers. -/
noncomputable def dA (y m : Int) : Int := sDays (m - 1).toNat + bI (2 < m ∧ (y % 4 = 0 ∧ (y % 100 ≠ 0 ∨ y % 400 = 0)))
noncomputable def dim (y m : Int) : Int := dA y (m + 1) - dA y m
abbrev isDt (d : Int) : Prop := 1900 ≤ d / 10000 ∧ d / 10000 ≤ 2199 ∧ 1 ≤ d / 100 % 100 ∧ d / 100 % 100 ≤ 12 ∧ 1 ≤ d % 100 ∧ d % 100 ≤ dim (d / 10000) (d / 100 % 100)
def lps (y : Int) : Int := (y - 1) / 4 - (y - 1) / 100 + (y - 1) / 400
def nyr (y : Int) : Int := 365 * (y - 1900) + lps y - lps 1900
noncomputable def dayI (d : Int) : Int := nyr (d / 10000) + dA (d / 10000) (d / 100 % 100) + d % 100 - 1
/-- the date of the day ahead of a date -/
noncomputable def prevD (d : Int) : Int := if 1 < d % 100 then d - 1 else if 1 < d / 100 % 100 then 10000 * (d / 10000) + 100 * (d / 100 % 100 - 1) + dim (d / 10000) (d / 100 % 100 - 1) else 10000 * (d / 10000 - 1) + 1231
theorem sDays_r : ∀ k : Nat, k < 13 → 0 ≤ sDays k ∧ sDays k ≤ 365 := by decide
theorem dA_r (y m : Int) (h : 1 ≤ m ∧ m ≤ 13) : 0 ≤ dA y m ∧ dA y m ≤ 366 := by
  have h1 := sDays_r (m - 1).toNat (by omega)
  have h2 := bI_r (c := 2 < m ∧ (y % 4 = 0 ∧ (y % 100 ≠ 0 ∨ y % 400 = 0)))
  unfold dA
  omega
theorem dim_r (y m : Int) : 1 ≤ m → m ≤ 12 → -400 ≤ dim y m ∧ dim y m ≤ 400 := by
  intro h1 h2
  have h3 := dA_r y m (by omega)
  have h4 := dA_r y (m + 1) (by omega)
  unfold dim
  omega
theorem tdF (d c : Int) (hc : 0 < c) : (0 ≤ d → d.tdiv c = d / c) ∧ (d < 0 → d.tdiv c ≤ 0) ∧ (d < 0 → d ≤ d.tdiv c) := by
  refine ⟨fun h => Int.tdiv_eq_ediv_of_nonneg h, fun h => ?_, fun h => ?_⟩
  · have h1 := Int.neg_tdiv (-d) c
    rw [Int.neg_neg] at h1
    rw [h1, Int.tdiv_eq_ediv_of_nonneg (by omega)]
    have := Int.ediv_nonneg (show 0 ≤ -d by omega) (show 0 ≤ c by omega)
    omega
  · have h1 := Int.neg_tdiv (-d) c
    rw [Int.neg_neg] at h1
    rw [h1, Int.tdiv_eq_ediv_of_nonneg (by omega)]
    have := Int.ediv_le_self c (show 0 ≤ -d by omega)
    omega
theorem tmF (d c : Int) (hc : 0 < c) : (0 ≤ d → d.tmod c = d % c) ∧ (d < 0 → d.tmod c ≤ 0) ∧ (d < 0 → -c < d.tmod c) := by
  refine ⟨fun h => Int.tmod_eq_emod_of_nonneg h, fun h => ?_, fun h => ?_⟩
  · have h1 := Int.neg_tmod (-d) c
    rw [Int.neg_neg] at h1
    rw [h1, Int.tmod_eq_emod_of_nonneg (by omega)]
    have := Int.emod_nonneg (-d) (show c ≠ 0 by omega)
    omega
  · have h1 := Int.neg_tmod (-d) c
    rw [Int.neg_neg] at h1
    rw [h1, Int.tmod_eq_emod_of_nonneg (by omega)]
    have := Int.emod_lt_of_pos (-d) hc
    omega
theorem isD0 (d : Int) : (0 ≤ d ∧ d.tdiv 10000 = d / 10000 ∧ d.tdiv 100 = d / 100 ∧ (d.tdiv 100).tmod 100 = d / 100 % 100 ∧ d.tmod 100 = d % 100) ∨ (d < 0 ∧ d.tdiv 10000 ≤ 0 ∧ d ≤ d.tdiv 10000 ∧ d.tdiv 100 ≤ 0 ∧ d ≤ d.tdiv 100 ∧ -100 < (d.tdiv 100).tmod 100 ∧ (d.tdiv 100).tmod 100 < 100 ∧ -100 < d.tmod 100 ∧ d.tmod 100 < 100) := by
  have y1 := tdF d 10000 (by omega)
  have y2 := tdF d 100 (by omega)
  have y3 := tmF d 100 (by omega)
  have y4 := tmF (d.tdiv 100) 100 (by omega)
  rcases Int.lt_or_le d 0 with h | h
  · have a1 := y1.2.1 h
    have a2 := y1.2.2 h
    have a3 := y2.2.1 h
    have a4 := y2.2.2 h
    have a5 := y3.2.1 h
    have a6 := y3.2.2 h
    refine Or.inr ⟨h, a1, a2, a3, a4, ?_, ?_, by omega, by omega⟩
    · exact Int.lt_tmod_of_pos _ (by omega)
    · exact Int.tmod_lt_of_pos _ (by omega)
  · have a1 := y1.1 h
    have a2 := y2.1 h
    have a3 := y3.1 h
    refine Or.inl ⟨h, a1, a2, ?_, a3⟩
    rw [a2]
    exact Int.tmod_eq_emod_of_nonneg (by omega)
abbrev rmX0_isLeap : Room := { frames := 1, cells := 0, slots := 0, locals := 40 }
set_option maxHeartbeats 4000000 in
set_option maxRecDepth 100000 in
theorem kX0_isLeap (l_ : Launch) (G : sG) (b_ : Nat) (M : sM) (N : Nat) (y : Int) (hy : 0 ≤ y ∧ y ≤ 3000) : cP l_ yX0_isLeap wsX0_isLeap rmX0_isLeap G b_ M N [.int (sI y)] (bI (y % 4 = 0 ∧ (y % 100 ≠ 0 ∨ y % 400 = 0))) := by
  refine sE.ofI (cc := cX0_isLeap) (nL := 1) (ret := (some .boolean)) (by decide) rfl (Nat.le_of_ble_eq_true rfl) ?_
  intro p_ e_ s_ m_ args_ below_ meth_ c_ ls Q hQ E hl
  have E : sE p_ l_ e_ rmX0_isLeap s_ m_ args_ below_ meth_ c_ cX0_isLeap 1 wsX0_isLeap RX0 "isLeap" (some .boolean) G b_ M N := E
  have S := E.1
  have hx_ := S.1
  have hb_ := S.2.1
  have hK := E.2.2.2.2.1
  have hV := E.2.2.2.2.2.2
  have hl : lv_has ls 1 [(0, .int (sI y))] := hl
  refine lv_iload_n hx_ hb_ dX0_isLeap_0 rfl (lv_at hl 0 rfl) ?_
  refine si_const S dX0_isLeap_1 ?_
  refine si_remN S dX0_isLeap_2 (by omega) ?_
  refine sz_ne (tgt := 25) S dX0_isLeap_3 (by decide) (by omega) (fun c1 => ?_) (fun c1 => ?_)
  · refine si_const S dX0_isLeap_25 ?_
    exact sr_z E hQ (Or.inl rfl) dX0_isLeap_26 ⟨Nat.le_of_ble_eq_true rfl, Nat.le_of_ble_eq_true rfl⟩ hV (⟨(bI_f (by omega)).symm, rfl, rfl⟩)
  · refine lv_iload_n hx_ hb_ dX0_isLeap_6 rfl (lv_at hl 0 rfl) ?_
    refine si_bipush S dX0_isLeap_7 (by decide) ?_
    refine si_remN S dX0_isLeap_9 (by omega) ?_
    refine sz_ne (tgt := 21) S dX0_isLeap_10 (by decide) (by omega) (fun c2 => ?_) (fun c2 => ?_)
    · refine si_const S dX0_isLeap_21 ?_
      refine lv_goto (tgt := 26) hx_ hb_ dX0_isLeap_22 (by decide) ?_
      exact sr_z E hQ (Or.inr rfl) dX0_isLeap_26 ⟨Nat.le_of_ble_eq_true rfl, Nat.le_of_ble_eq_true rfl⟩ hV (⟨(bI_t (by omega)).symm, rfl, rfl⟩)
    · refine lv_iload_n hx_ hb_ dX0_isLeap_13 rfl (lv_at hl 0 rfl) ?_
      refine si_sipush S dX0_isLeap_14 (by decide) ?_
      refine si_remN S dX0_isLeap_17 (by omega) ?_
      refine sz_ne (tgt := 25) S dX0_isLeap_18 (by decide) (by omega) (fun c3 => ?_) (fun c3 => ?_)
      · refine si_const S dX0_isLeap_25 ?_
        exact sr_z E hQ (Or.inl rfl) dX0_isLeap_26 ⟨Nat.le_of_ble_eq_true rfl, Nat.le_of_ble_eq_true rfl⟩ hV (⟨(bI_f (by omega)).symm, rfl, rfl⟩)
      · refine si_const S dX0_isLeap_21 ?_
        refine lv_goto (tgt := 26) hx_ hb_ dX0_isLeap_22 (by decide) ?_
        exact sr_z E hQ (Or.inr rfl) dX0_isLeap_26 ⟨Nat.le_of_ble_eq_true rfl, Nat.le_of_ble_eq_true rfl⟩ hV (⟨(bI_t (by omega)).symm, rfl, rfl⟩)

abbrev rmX0_daysAhead : Room := { frames := 2, cells := 0, slots := 0, locals := 60 }
set_option maxHeartbeats 4000000 in
set_option maxRecDepth 100000 in
theorem kX0_daysAhead (l_ : Launch) (G : sG) (b_ : Nat) (M : sM) (N : Nat) (y m : Int) (hy : 0 ≤ y ∧ y ≤ 3000) (hm : 1 ≤ m ∧ m ≤ 13) : cP l_ yX0_daysAhead wsX0_daysAhead rmX0_daysAhead G b_ M N [.int (sI y), .int (sI m)] (dA y m) := by
  refine sE.ofI (cc := cX0_daysAhead) (nL := 3) (ret := (some .int)) (by decide) rfl (Nat.le_of_ble_eq_true rfl) ?_
  intro p_ e_ s_ m_ args_ below_ meth_ c_ ls Q hQ E hl
  have E : sE p_ l_ e_ rmX0_daysAhead s_ m_ args_ below_ meth_ c_ cX0_daysAhead 3 wsX0_daysAhead RX0 "daysAhead" (some .int) G b_ M N := E
  have S := E.1
  have hx_ := S.1
  have hb_ := S.2.1
  have hK := E.2.2.2.2.1
  have hV := E.2.2.2.2.2.2
  have hl : lv_has ls 3 [(0, .int (sI y)), (1, .int (sI m))] := hl
  obtain ⟨tdays, hdaysZ, hdaysT⟩ := E.2.2.2.2.2.1.2.2.2.1
  refine si_const S dX0_daysAhead_0 ?_
  refine si_bipush S dX0_daysAhead_1 (by decide) ?_
  refine lv_iload_n hx_ hb_ dX0_daysAhead_3 rfl (lv_at hl 1 rfl) ?_
  refine si_const S dX0_daysAhead_4 ?_
  refine si_sub S dX0_daysAhead_5 ?_
  refine si_min S hl.1 (S.2.2.2.2 _ (List.mem_of_getElem? (i := 1) rfl)) (S.2.2.2.2 _ (List.mem_of_getElem? (i := 2) rfl)) (S.2.2.2.2 _ (List.mem_of_getElem? (i := 3) rfl)) (S.2.2.2.2 _ (List.mem_of_getElem? (i := 4) rfl)) ⟨by decide, Nat.le_of_ble_eq_true rfl, by decide, by decide⟩ (by omega) dX0_daysAhead_6 ?_
  refine si_max S hl.1 (S.2.2.2.2 _ (List.mem_of_getElem? (i := 5) rfl)) (S.2.2.2.2 _ (List.mem_of_getElem? (i := 6) rfl)) (S.2.2.2.2 _ (List.mem_of_getElem? (i := 3) rfl)) (S.2.2.2.2 _ (List.mem_of_getElem? (i := 7) rfl)) ⟨by decide, Nat.le_of_ble_eq_true rfl, by decide, by decide⟩ (by omega) dX0_daysAhead_9 ?_
  refine lv_istore_n (lv' := [(2, .int (sI (max 0 (min 12 (m - 1))))), (0, .int (sI y)), (1, .int (sI m))]) hx_ hb_ dX0_daysAhead_12 rfl hl (by decide) rfl (fun ls hl => ?_)
  rw [show max (0 : Int) (min 12 (m - 1)) = m - 1 by omega] at hl
  refine va_gets hx_ hb_ hdaysZ hV.2.1 S.2.2.2.1 (S.2.2.2.2 _ (List.mem_of_getElem? (i := 8) rfl)) (fun _ h9 => h9) dX0_daysAhead_13 ?_
  refine lv_iload_n hx_ hb_ dX0_daysAhead_16 rfl (lv_at hl 0 rfl) ?_
  refine sc_tld S hV hdaysT (by omega) dX0_daysAhead_17 ?_
  refine lv_iload_n hx_ hb_ dX0_daysAhead_18 rfl (lv_at hl 2 rfl) ?_
  refine si_const S dX0_daysAhead_19 ?_
  refine sb_le (tgt := 34) S dX0_daysAhead_20 (by decide) (by omega) (fun c1 => ?_) (fun c1 => ?_)
  · refine si_const S dX0_daysAhead_34 ?_
    refine si_add S dX0_daysAhead_35 ?_
    exact sr_i E hQ dX0_daysAhead_36 ⟨Nat.le_of_ble_eq_true rfl, Nat.le_of_ble_eq_true rfl⟩ hV (⟨by unfold dA; rw [bI_f (by omega)], rfl, rfl⟩)
  · refine lv_iload_n hx_ hb_ dX0_daysAhead_23 rfl (lv_at hl 1 rfl) ?_
    refine sk_SP E hV (As := [.int (sI y)]) (rest := [.int (sI (sDays (m - 1).toNat))]) (kX0_isLeap l_ G b_ M N y (by omega)) (va_cwS 1 S.2.2.2.2 gX0_daysAhead_X0_isLeap rfl rfl rfl (by decide +kernel) ⟨Nat.le_of_ble_eq_true rfl, Nat.le_of_ble_eq_true rfl⟩) rfl rfl hl.1 (Nat.le_of_ble_eq_true rfl) dX0_daysAhead_24 (c1 := 0) (s1 := 0) ⟨⟨rfl, rfl⟩, by decide, by decide⟩ (fun H locs hV => ?_)
    refine sq_eq (tgt := 34) S dX0_daysAhead_27 (by decide) (fun c2 => ?_) (fun c2 => ?_)
    · refine si_const S dX0_daysAhead_34 ?_
      refine si_add S dX0_daysAhead_35 ?_
      exact sr_i E hQ dX0_daysAhead_36 ⟨Nat.le_of_ble_eq_true rfl, Nat.le_of_ble_eq_true rfl⟩ hV (⟨by unfold dA; rw [bI_f (by omega)], rfl, rfl⟩)
    · refine si_const S dX0_daysAhead_30 ?_
      refine lv_goto (tgt := 35) hx_ hb_ dX0_daysAhead_31 (by decide) ?_
      refine si_add S dX0_daysAhead_35 ?_
      exact sr_i E hQ dX0_daysAhead_36 ⟨Nat.le_of_ble_eq_true rfl, Nat.le_of_ble_eq_true rfl⟩ hV (⟨by unfold dA; rw [bI_t (by omega)], rfl, rfl⟩)

abbrev rmX0_daysIn : Room := { frames := 3, cells := 0, slots := 0, locals := 82 }
set_option maxHeartbeats 4000000 in
set_option maxRecDepth 100000 in
theorem kX0_daysIn (l_ : Launch) (G : sG) (b_ : Nat) (M : sM) (N : Nat) (y m : Int) (hy : 0 ≤ y ∧ y ≤ 3000) (hm : 1 ≤ m ∧ m ≤ 12) : cP l_ yX0_daysIn wsX0_daysIn rmX0_daysIn G b_ M N [.int (sI y), .int (sI m)] (dim y m) := by
  refine sE.ofI (cc := cX0_daysIn) (nL := 2) (ret := (some .int)) (by decide) rfl (Nat.le_of_ble_eq_true rfl) ?_
  intro p_ e_ s_ m_ args_ below_ meth_ c_ ls Q hQ E hl
  have E : sE p_ l_ e_ rmX0_daysIn s_ m_ args_ below_ meth_ c_ cX0_daysIn 2 wsX0_daysIn RX0 "daysIn" (some .int) G b_ M N := E
  have S := E.1
  have hx_ := S.1
  have hb_ := S.2.1
  have hK := E.2.2.2.2.1
  have hV := E.2.2.2.2.2.2
  have hl : lv_has ls 2 [(0, .int (sI y)), (1, .int (sI m))] := hl
  refine lv_iload_n hx_ hb_ dX0_daysIn_0 rfl (lv_at hl 0 rfl) ?_
  refine lv_iload_n hx_ hb_ dX0_daysIn_1 rfl (lv_at hl 1 rfl) ?_
  refine si_const S dX0_daysIn_2 ?_
  refine si_add S dX0_daysIn_3 ?_
  refine sk_SP E hV (As := [.int (sI y), .int (sI (m + 1))]) (rest := []) (kX0_daysAhead l_ G b_ M N y (m + 1) (by omega) (by omega)) (va_cwS 2 S.2.2.2.2 gX0_daysIn_X0_daysAhead rfl rfl rfl (by decide +kernel) ⟨Nat.le_of_ble_eq_true rfl, Nat.le_of_ble_eq_true rfl⟩) rfl rfl hl.1 (Nat.le_of_ble_eq_true rfl) dX0_daysIn_4 (c1 := 0) (s1 := 0) ⟨⟨rfl, rfl⟩, by decide, by decide⟩ (fun H locs hV => ?_)
  refine lv_iload_n hx_ hb_ dX0_daysIn_7 rfl (lv_at hl 0 rfl) ?_
  refine lv_iload_n hx_ hb_ dX0_daysIn_8 rfl (lv_at hl 1 rfl) ?_
  refine sk_SP E hV (As := [.int (sI y), .int (sI m)]) (rest := [.int (sI (dA y (m + 1)))]) (kX0_daysAhead l_ G b_ M N y m (by omega) (by omega)) (va_cwS 2 S.2.2.2.2 gX0_daysIn_X0_daysAhead rfl rfl rfl (by decide +kernel) ⟨Nat.le_of_ble_eq_true rfl, Nat.le_of_ble_eq_true rfl⟩) rfl rfl hl.1 (Nat.le_of_ble_eq_true rfl) dX0_daysIn_9 (c1 := 0) (s1 := 0) ⟨⟨rfl, rfl⟩, by decide, by decide⟩ (fun H locs hV => ?_)
  refine si_sub S dX0_daysIn_12 ?_
  exact sr_i E hQ dX0_daysIn_13 ⟨Nat.le_of_ble_eq_true rfl, Nat.le_of_ble_eq_true rfl⟩ hV (⟨by first | rfl | omega, rfl, rfl⟩)

abbrev rmX0_isDate : Room := { frames := 4, cells := 0, slots := 0, locals := 103 }
set_option maxHeartbeats 4000000 in
set_option maxRecDepth 100000 in
theorem kX0_isDate (l_ : Launch) (G : sG) (b_ : Nat) (M : sM) (N : Nat) (d : Int) (hd : sR d) : cP l_ yX0_isDate wsX0_isDate rmX0_isDate G b_ M N [.int (sI d)] (bI (isDt d)) := by
  refine sE.ofI (cc := cX0_isDate) (nL := 4) (ret := (some .boolean)) (by decide) rfl (Nat.le_of_ble_eq_true rfl) ?_
  intro p_ e_ s_ m_ args_ below_ meth_ c_ ls Q hQ E hl
  have E : sE p_ l_ e_ rmX0_isDate s_ m_ args_ below_ meth_ c_ cX0_isDate 4 wsX0_isDate RX0 "isDate" (some .boolean) G b_ M N := E
  have S := E.1
  have hx_ := S.1
  have hb_ := S.2.1
  have hK := E.2.2.2.2.1
  have hV := E.2.2.2.2.2.2
  have hl : lv_has ls 4 [(0, .int (sI d))] := hl
  have y1 := isD0 d
  refine lv_iload_n hx_ hb_ dX0_isDate_0 rfl (lv_at hl 0 rfl) ?_
  refine si_sipush S dX0_isDate_1 (by decide) ?_
  refine si_div S dX0_isDate_4 (by omega) ?_
  refine lv_istore_n (lv' := [(1, .int (sI (d.tdiv 10000))), (0, .int (sI d))]) hx_ hb_ dX0_isDate_5 rfl hl (by decide) rfl (fun ls hl => ?_)
  refine lv_iload_n hx_ hb_ dX0_isDate_6 rfl (lv_at hl 1 rfl) ?_
  refine si_bipush S dX0_isDate_7 (by decide) ?_
  refine si_div S dX0_isDate_9 (by omega) ?_
  refine si_bipush S dX0_isDate_10 (by decide) ?_
  refine si_rem S dX0_isDate_12 (by omega) ?_
  refine lv_istore_n (lv' := [(2, .int (sI ((d.tdiv 100).tmod 100))), (1, .int (sI (d.tdiv 10000))), (0, .int (sI d))]) hx_ hb_ dX0_isDate_13 rfl hl (by decide) rfl (fun ls hl => ?_)
  refine lv_iload_n hx_ hb_ dX0_isDate_14 rfl (lv_at hl 2 rfl) ?_
  refine si_bipush S dX0_isDate_15 (by decide) ?_
  refine si_rem S dX0_isDate_17 (by omega) ?_
  refine lv_istore_n (lv' := [(3, .int (sI (d.tmod 100))), (2, .int (sI ((d.tdiv 100).tmod 100))), (1, .int (sI (d.tdiv 10000))), (0, .int (sI d))]) hx_ hb_ dX0_isDate_18 rfl hl (by decide) rfl (fun ls hl => ?_)
  refine lv_iload_n hx_ hb_ dX0_isDate_19 rfl (lv_at hl 2 rfl) ?_
  refine si_sipush S dX0_isDate_20 (by decide) ?_
  refine sb_lt (tgt := 62) S dX0_isDate_23 (by decide) (by omega) (fun c1 => ?_) (fun c1 => ?_)
  · refine si_const S dX0_isDate_62 ?_
    exact sr_z E hQ (Or.inl rfl) dX0_isDate_63 ⟨Nat.le_of_ble_eq_true rfl, Nat.le_of_ble_eq_true rfl⟩ hV (⟨(bI_f (by unfold isDt; omega)).symm, rfl, rfl⟩)
  · refine lv_iload_n hx_ hb_ dX0_isDate_26 rfl (lv_at hl 2 rfl) ?_
    refine si_sipush S dX0_isDate_27 (by decide) ?_
    refine sb_gt (tgt := 62) S dX0_isDate_30 (by decide) (by omega) (fun c2 => ?_) (fun c2 => ?_)
    · refine si_const S dX0_isDate_62 ?_
      exact sr_z E hQ (Or.inl rfl) dX0_isDate_63 ⟨Nat.le_of_ble_eq_true rfl, Nat.le_of_ble_eq_true rfl⟩ hV (⟨(bI_f (by unfold isDt; omega)).symm, rfl, rfl⟩)
    · refine lv_iload_n hx_ hb_ dX0_isDate_33 rfl (lv_at hl 1 rfl) ?_
      refine si_const S dX0_isDate_34 ?_
      refine sb_lt (tgt := 62) S dX0_isDate_35 (by decide) (by omega) (fun c3 => ?_) (fun c3 => ?_)
      · refine si_const S dX0_isDate_62 ?_
        exact sr_z E hQ (Or.inl rfl) dX0_isDate_63 ⟨Nat.le_of_ble_eq_true rfl, Nat.le_of_ble_eq_true rfl⟩ hV (⟨(bI_f (by unfold isDt; omega)).symm, rfl, rfl⟩)
      · refine lv_iload_n hx_ hb_ dX0_isDate_38 rfl (lv_at hl 1 rfl) ?_
        refine si_bipush S dX0_isDate_39 (by decide) ?_
        refine sb_gt (tgt := 62) S dX0_isDate_41 (by decide) (by omega) (fun c4 => ?_) (fun c4 => ?_)
        · refine si_const S dX0_isDate_62 ?_
          exact sr_z E hQ (Or.inl rfl) dX0_isDate_63 ⟨Nat.le_of_ble_eq_true rfl, Nat.le_of_ble_eq_true rfl⟩ hV (⟨(bI_f (by unfold isDt; omega)).symm, rfl, rfl⟩)
        · refine lv_iload_n hx_ hb_ dX0_isDate_44 rfl (lv_at hl 0 rfl) ?_
          refine si_const S dX0_isDate_45 ?_
          refine sb_lt (tgt := 62) S dX0_isDate_46 (by decide) (by omega) (fun c5 => ?_) (fun c5 => ?_)
          · refine si_const S dX0_isDate_62 ?_
            exact sr_z E hQ (Or.inl rfl) dX0_isDate_63 ⟨Nat.le_of_ble_eq_true rfl, Nat.le_of_ble_eq_true rfl⟩ hV (⟨(bI_f (by unfold isDt; omega)).symm, rfl, rfl⟩)
          · have hdim := dim_r (d / 10000) (d / 100 % 100)
            have e1 : d.tdiv 10000 = d / 10000 := by omega
            have e2 : (d.tdiv 100).tmod 100 = d / 100 % 100 := by omega
            have e3 : d.tmod 100 = d % 100 := by omega
            rw [e1, e2, e3] at hl
            refine lv_iload_n hx_ hb_ dX0_isDate_49 rfl (lv_at hl 0 rfl) ?_
            refine lv_iload_n hx_ hb_ dX0_isDate_50 rfl (lv_at hl 2 rfl) ?_
            refine lv_iload_n hx_ hb_ dX0_isDate_51 rfl (lv_at hl 1 rfl) ?_
            refine sk_SP E hV (As := [.int (sI (d / 10000)), .int (sI (d / 100 % 100))]) (rest := [.int (sI (d % 100))]) (kX0_daysIn l_ G b_ M N (d / 10000) (d / 100 % 100) (by omega) (by omega)) (va_cwS 2 S.2.2.2.2 gX0_isDate_X0_daysIn rfl rfl rfl (by decide +kernel) ⟨Nat.le_of_ble_eq_true rfl, Nat.le_of_ble_eq_true rfl⟩) rfl rfl hl.1 (Nat.le_of_ble_eq_true rfl) dX0_isDate_52 (c1 := 0) (s1 := 0) ⟨⟨rfl, rfl⟩, by decide, by decide⟩ (fun H locs hV => ?_)
            refine sb_gt (tgt := 62) S dX0_isDate_55 (by decide) (by omega) (fun c6 => ?_) (fun c6 => ?_)
            · refine si_const S dX0_isDate_62 ?_
              exact sr_z E hQ (Or.inl rfl) dX0_isDate_63 ⟨Nat.le_of_ble_eq_true rfl, Nat.le_of_ble_eq_true rfl⟩ hV (⟨(bI_f (by unfold isDt; omega)).symm, rfl, rfl⟩)
            · refine si_const S dX0_isDate_58 ?_
              refine lv_goto (tgt := 63) hx_ hb_ dX0_isDate_59 (by decide) ?_
              exact sr_z E hQ (Or.inr rfl) dX0_isDate_63 ⟨Nat.le_of_ble_eq_true rfl, Nat.le_of_ble_eq_true rfl⟩ hV (⟨(bI_t (by unfold isDt; omega)).symm, rfl, rfl⟩)

abbrev rmX0_leapsAhead : Room := { frames := 1, cells := 0, slots := 0, locals := 40 }
set_option maxHeartbeats 4000000 in
set_option maxRecDepth 100000 in
theorem kX0_leapsAhead (l_ : Launch) (G : sG) (b_ : Nat) (M : sM) (N : Nat) (y : Int) (hy : 1 ≤ y ∧ y ≤ 3000) : cP l_ yX0_leapsAhead wsX0_leapsAhead rmX0_leapsAhead G b_ M N [.int (sI y)] (lps y) := by
  refine sE.ofI (cc := cX0_leapsAhead) (nL := 1) (ret := (some .int)) (by decide) rfl (Nat.le_of_ble_eq_true rfl) ?_
  intro p_ e_ s_ m_ args_ below_ meth_ c_ ls Q hQ E hl
  have E : sE p_ l_ e_ rmX0_leapsAhead s_ m_ args_ below_ meth_ c_ cX0_leapsAhead 1 wsX0_leapsAhead RX0 "leapsAhead" (some .int) G b_ M N := E
  have S := E.1
  have hx_ := S.1
  have hb_ := S.2.1
  have hK := E.2.2.2.2.1
  have hV := E.2.2.2.2.2.2
  have hl : lv_has ls 1 [(0, .int (sI y))] := hl
  refine lv_iload_n hx_ hb_ dX0_leapsAhead_0 rfl (lv_at hl 0 rfl) ?_
  refine si_const S dX0_leapsAhead_1 ?_
  refine si_sub S dX0_leapsAhead_2 ?_
  refine si_const S dX0_leapsAhead_3 ?_
  refine si_divN S dX0_leapsAhead_4 (by omega) ?_
  refine lv_iload_n hx_ hb_ dX0_leapsAhead_5 rfl (lv_at hl 0 rfl) ?_
  refine si_const S dX0_leapsAhead_6 ?_
  refine si_sub S dX0_leapsAhead_7 ?_
  refine si_bipush S dX0_leapsAhead_8 (by decide) ?_
  refine si_divN S dX0_leapsAhead_10 (by omega) ?_
  refine si_sub S dX0_leapsAhead_11 ?_
  refine lv_iload_n hx_ hb_ dX0_leapsAhead_12 rfl (lv_at hl 0 rfl) ?_
  refine si_const S dX0_leapsAhead_13 ?_
  refine si_sub S dX0_leapsAhead_14 ?_
  refine si_sipush S dX0_leapsAhead_15 (by decide) ?_
  refine si_divN S dX0_leapsAhead_18 (by omega) ?_
  refine si_add S dX0_leapsAhead_19 ?_
  exact sr_i E hQ dX0_leapsAhead_20 ⟨Nat.le_of_ble_eq_true rfl, Nat.le_of_ble_eq_true rfl⟩ hV (⟨rfl, rfl, rfl⟩)

abbrev rmX0_newYear : Room := { frames := 2, cells := 0, slots := 0, locals := 60 }
set_option maxHeartbeats 4000000 in
set_option maxRecDepth 100000 in
theorem kX0_newYear (l_ : Launch) (G : sG) (b_ : Nat) (M : sM) (N : Nat) (y : Int) (hy : 1 ≤ y ∧ y ≤ 3000) : cP l_ yX0_newYear wsX0_newYear rmX0_newYear G b_ M N [.int (sI y)] (nyr y) := by
  refine sE.ofI (cc := cX0_newYear) (nL := 1) (ret := (some .int)) (by decide) rfl (Nat.le_of_ble_eq_true rfl) ?_
  intro p_ e_ s_ m_ args_ below_ meth_ c_ ls Q hQ E hl
  have E : sE p_ l_ e_ rmX0_newYear s_ m_ args_ below_ meth_ c_ cX0_newYear 1 wsX0_newYear RX0 "newYear" (some .int) G b_ M N := E
  have S := E.1
  have hx_ := S.1
  have hb_ := S.2.1
  have hK := E.2.2.2.2.1
  have hV := E.2.2.2.2.2.2
  have hl : lv_has ls 1 [(0, .int (sI y))] := hl
  refine si_sipush S dX0_newYear_0 (by decide) ?_
  refine lv_iload_n hx_ hb_ dX0_newYear_3 rfl (lv_at hl 0 rfl) ?_
  refine si_sipush S dX0_newYear_4 (by decide) ?_
  refine si_sub S dX0_newYear_7 ?_
  refine si_mul S dX0_newYear_8 ?_
  refine lv_iload_n hx_ hb_ dX0_newYear_9 rfl (lv_at hl 0 rfl) ?_
  refine sk_SP E hV (As := [.int (sI y)]) (rest := [.int (sI (365 * (y - 1900)))]) (kX0_leapsAhead l_ G b_ M N y (by omega)) (va_cwS 1 S.2.2.2.2 gX0_newYear_X0_leapsAhead rfl rfl rfl (by decide +kernel) ⟨Nat.le_of_ble_eq_true rfl, Nat.le_of_ble_eq_true rfl⟩) rfl rfl hl.1 (Nat.le_of_ble_eq_true rfl) dX0_newYear_10 (c1 := 0) (s1 := 0) ⟨⟨rfl, rfl⟩, by decide, by decide⟩ (fun H locs hV => ?_)
  refine si_add S dX0_newYear_13 ?_
  refine si_sipush S dX0_newYear_14 (by decide) ?_
  refine sk_SP E hV (As := [.int (sI 1900)]) (rest := [.int (sI ((365 * (y - 1900)) + (lps y)))]) (kX0_leapsAhead l_ G b_ M N 1900 (by omega)) (va_cwS 1 S.2.2.2.2 gX0_newYear_X0_leapsAhead rfl rfl rfl (by decide +kernel) ⟨Nat.le_of_ble_eq_true rfl, Nat.le_of_ble_eq_true rfl⟩) rfl rfl hl.1 (Nat.le_of_ble_eq_true rfl) dX0_newYear_17 (c1 := 0) (s1 := 0) ⟨⟨rfl, rfl⟩, by decide, by decide⟩ (fun H locs hV => ?_)
  refine si_sub S dX0_newYear_20 ?_
  exact sr_i E hQ dX0_newYear_21 ⟨Nat.le_of_ble_eq_true rfl, Nat.le_of_ble_eq_true rfl⟩ hV (⟨rfl, rfl, rfl⟩)

abbrev rmX0_dayOf : Room := { frames := 3, cells := 0, slots := 0, locals := 82 }
set_option maxHeartbeats 4000000 in
set_option maxRecDepth 100000 in
theorem kX0_dayOf (l_ : Launch) (G : sG) (b_ : Nat) (M : sM) (N : Nat) (d : Int) (hd : 0 ≤ d ∧ d ≤ 29991231 ∧ 1 ≤ d / 10000 ∧ 1 ≤ d / 100 % 100 ∧ d / 100 % 100 ≤ 12) : cP l_ yX0_dayOf wsX0_dayOf rmX0_dayOf G b_ M N [.int (sI d)] (dayI d) := by
  refine sE.ofI (cc := cX0_dayOf) (nL := 2) (ret := (some .int)) (by decide) rfl (Nat.le_of_ble_eq_true rfl) ?_
  intro p_ e_ s_ m_ args_ below_ meth_ c_ ls Q hQ E hl
  have E : sE p_ l_ e_ rmX0_dayOf s_ m_ args_ below_ meth_ c_ cX0_dayOf 2 wsX0_dayOf RX0 "dayOf" (some .int) G b_ M N := E
  have S := E.1
  have hx_ := S.1
  have hb_ := S.2.1
  have hK := E.2.2.2.2.1
  have hV := E.2.2.2.2.2.2
  have hl : lv_has ls 2 [(0, .int (sI d))] := hl
  refine lv_iload_n hx_ hb_ dX0_dayOf_0 rfl (lv_at hl 0 rfl) ?_
  refine si_sipush S dX0_dayOf_1 (by decide) ?_
  refine si_divN S dX0_dayOf_4 (by omega) ?_
  refine lv_istore_n (lv' := [(1, .int (sI (d / 10000))), (0, .int (sI d))]) hx_ hb_ dX0_dayOf_5 rfl hl (by decide) rfl (fun ls hl => ?_)
  refine lv_iload_n hx_ hb_ dX0_dayOf_6 rfl (lv_at hl 0 rfl) ?_
  refine sk_SP E hV (As := [.int (sI (d / 10000))]) (rest := []) (kX0_newYear l_ G b_ M N (d / 10000) (by omega)) (va_cwS 1 S.2.2.2.2 gX0_dayOf_X0_newYear rfl rfl rfl (by decide +kernel) ⟨Nat.le_of_ble_eq_true rfl, Nat.le_of_ble_eq_true rfl⟩) rfl rfl hl.1 (Nat.le_of_ble_eq_true rfl) dX0_dayOf_7 (c1 := 0) (s1 := 0) ⟨⟨rfl, rfl⟩, by decide, by decide⟩ (fun H locs hV => ?_)
  refine lv_iload_n hx_ hb_ dX0_dayOf_10 rfl (lv_at hl 0 rfl) ?_
  refine lv_iload_n hx_ hb_ dX0_dayOf_11 rfl (lv_at hl 1 rfl) ?_
  refine si_bipush S dX0_dayOf_12 (by decide) ?_
  refine si_divN S dX0_dayOf_14 (by omega) ?_
  refine si_bipush S dX0_dayOf_15 (by decide) ?_
  refine si_remN S dX0_dayOf_17 (by omega) ?_
  refine sk_SP E hV (As := [.int (sI (d / 10000)), .int (sI ((d / 100) % 100))]) (rest := [.int (sI (nyr (d / 10000)))]) (kX0_daysAhead l_ G b_ M N (d / 10000) ((d / 100) % 100) (by omega) (by omega)) (va_cwS 2 S.2.2.2.2 gX0_dayOf_X0_daysAhead rfl rfl rfl (by decide +kernel) ⟨Nat.le_of_ble_eq_true rfl, Nat.le_of_ble_eq_true rfl⟩) rfl rfl hl.1 (Nat.le_of_ble_eq_true rfl) dX0_dayOf_18 (c1 := 0) (s1 := 0) ⟨⟨rfl, rfl⟩, by decide, by decide⟩ (fun H locs hV => ?_)
  refine si_add S dX0_dayOf_21 ?_
  refine lv_iload_n hx_ hb_ dX0_dayOf_22 rfl (lv_at hl 1 rfl) ?_
  refine si_bipush S dX0_dayOf_23 (by decide) ?_
  refine si_remN S dX0_dayOf_25 (by omega) ?_
  refine si_add S dX0_dayOf_26 ?_
  refine si_const S dX0_dayOf_27 ?_
  refine si_sub S dX0_dayOf_28 ?_
  exact sr_i E hQ dX0_dayOf_29 ⟨Nat.le_of_ble_eq_true rfl, Nat.le_of_ble_eq_true rfl⟩ hV (⟨rfl, rfl, rfl⟩)

abbrev rmX0_daysLeft : Room := { frames := 4, cells := 0, slots := 0, locals := 103 }
set_option maxHeartbeats 4000000 in
set_option maxRecDepth 100000 in
theorem kX0_daysLeft (l_ : Launch) (G : sG) (b_ : Nat) (M : sM) (N : Nat) (d : Int) (hd : 0 ≤ d ∧ d ≤ 29991231 ∧ 1 ≤ d / 10000 ∧ 1 ≤ d / 100 % 100 ∧ d / 100 % 100 ≤ 12) : cP l_ yX0_daysLeft wsX0_daysLeft rmX0_daysLeft G b_ M N [.int (sI d)] (nyr 2200 - dayI d) := by
  refine sE.ofI (cc := cX0_daysLeft) (nL := 1) (ret := (some .int)) (by decide) rfl (Nat.le_of_ble_eq_true rfl) ?_
  intro p_ e_ s_ m_ args_ below_ meth_ c_ ls Q hQ E hl
  have E : sE p_ l_ e_ rmX0_daysLeft s_ m_ args_ below_ meth_ c_ cX0_daysLeft 1 wsX0_daysLeft RX0 "daysLeft" (some .int) G b_ M N := E
  have S := E.1
  have hx_ := S.1
  have hb_ := S.2.1
  have hK := E.2.2.2.2.1
  have hV := E.2.2.2.2.2.2
  have hl : lv_has ls 1 [(0, .int (sI d))] := hl
  refine si_sipush S dX0_daysLeft_0 (by decide) ?_
  refine sk_SP E hV (As := [.int (sI 2200)]) (rest := []) (kX0_newYear l_ G b_ M N 2200 (by omega)) (va_cwS 1 S.2.2.2.2 gX0_daysLeft_X0_newYear rfl rfl rfl (by decide +kernel) ⟨Nat.le_of_ble_eq_true rfl, Nat.le_of_ble_eq_true rfl⟩) rfl rfl hl.1 (Nat.le_of_ble_eq_true rfl) dX0_daysLeft_3 (c1 := 0) (s1 := 0) ⟨⟨rfl, rfl⟩, by decide, by decide⟩ (fun H locs hV => ?_)
  refine lv_iload_n hx_ hb_ dX0_daysLeft_6 rfl (lv_at hl 0 rfl) ?_
  refine sk_SP E hV (As := [.int (sI d)]) (rest := [.int (sI (nyr 2200))]) (kX0_dayOf l_ G b_ M N d (by omega)) (va_cwS 1 S.2.2.2.2 gX0_daysLeft_X0_dayOf rfl rfl rfl (by decide +kernel) ⟨Nat.le_of_ble_eq_true rfl, Nat.le_of_ble_eq_true rfl⟩) rfl rfl hl.1 (Nat.le_of_ble_eq_true rfl) dX0_daysLeft_7 (c1 := 0) (s1 := 0) ⟨⟨rfl, rfl⟩, by decide, by decide⟩ (fun H locs hV => ?_)
  refine si_sub S dX0_daysLeft_10 ?_
  exact sr_i E hQ dX0_daysLeft_11 ⟨Nat.le_of_ble_eq_true rfl, Nat.le_of_ble_eq_true rfl⟩ hV (⟨rfl, rfl, rfl⟩)

abbrev rmX0_dateAhead : Room := { frames := 4, cells := 0, slots := 0, locals := 103 }
set_option maxHeartbeats 4000000 in
set_option maxRecDepth 100000 in
theorem kX0_dateAhead (l_ : Launch) (G : sG) (b_ : Nat) (M : sM) (N : Nat) (d : Int) (hd : 0 ≤ d ∧ d ≤ 29991231 ∧ 1 ≤ d / 10000 ∧ 1 ≤ d / 100 % 100 ∧ d / 100 % 100 ≤ 12) : cP l_ yX0_dateAhead wsX0_dateAhead rmX0_dateAhead G b_ M N [.int (sI d)] (prevD d) := by
  refine sE.ofI (cc := cX0_dateAhead) (nL := 3) (ret := (some .int)) (by decide) rfl (Nat.le_of_ble_eq_true rfl) ?_
  intro p_ e_ s_ m_ args_ below_ meth_ c_ ls Q hQ E hl
  have E : sE p_ l_ e_ rmX0_dateAhead s_ m_ args_ below_ meth_ c_ cX0_dateAhead 3 wsX0_dateAhead RX0 "dateAhead" (some .int) G b_ M N := E
  have S := E.1
  have hx_ := S.1
  have hb_ := S.2.1
  have hK := E.2.2.2.2.1
  have hV := E.2.2.2.2.2.2
  have hl : lv_has ls 3 [(0, .int (sI d))] := hl
  refine lv_iload_n hx_ hb_ dX0_dateAhead_0 rfl (lv_at hl 0 rfl) ?_
  refine si_sipush S dX0_dateAhead_1 (by decide) ?_
  refine si_divN S dX0_dateAhead_4 (by omega) ?_
  refine lv_istore_n (lv' := [(1, .int (sI (d / 10000))), (0, .int (sI d))]) hx_ hb_ dX0_dateAhead_5 rfl hl (by decide) rfl (fun ls hl => ?_)
  refine lv_iload_n hx_ hb_ dX0_dateAhead_6 rfl (lv_at hl 1 rfl) ?_
  refine si_bipush S dX0_dateAhead_7 (by decide) ?_
  refine si_divN S dX0_dateAhead_9 (by omega) ?_
  refine si_bipush S dX0_dateAhead_10 (by decide) ?_
  refine si_remN S dX0_dateAhead_12 (by omega) ?_
  refine lv_istore_n (lv' := [(2, .int (sI ((d / 100) % 100))), (1, .int (sI (d / 10000))), (0, .int (sI d))]) hx_ hb_ dX0_dateAhead_13 rfl hl (by decide) rfl (fun ls hl => ?_)
  refine lv_iload_n hx_ hb_ dX0_dateAhead_14 rfl (lv_at hl 2 rfl) ?_
  refine si_bipush S dX0_dateAhead_15 (by decide) ?_
  refine si_remN S dX0_dateAhead_17 (by omega) ?_
  refine si_const S dX0_dateAhead_18 ?_
  refine sb_le (tgt := 26) S dX0_dateAhead_19 (by decide) (by omega) (fun c1 => ?_) (fun c1 => ?_)
  · refine lv_iload_n hx_ hb_ dX0_dateAhead_26 rfl (lv_at hl 0 rfl) ?_
    refine si_const S dX0_dateAhead_27 ?_
    refine sb_le (tgt := 52) S dX0_dateAhead_28 (by decide) (by omega) (fun c2 => ?_) (fun c2 => ?_)
    · refine si_sipush S dX0_dateAhead_52 (by decide) ?_
      refine lv_iload_n hx_ hb_ dX0_dateAhead_55 rfl (lv_at hl 1 rfl) ?_
      refine si_const S dX0_dateAhead_56 ?_
      refine si_sub S dX0_dateAhead_57 ?_
      refine si_mul S dX0_dateAhead_58 ?_
      refine si_sipush S dX0_dateAhead_59 (by decide) ?_
      refine si_add S dX0_dateAhead_62 ?_
      exact sr_i E hQ dX0_dateAhead_63 ⟨Nat.le_of_ble_eq_true rfl, Nat.le_of_ble_eq_true rfl⟩ hV (⟨by unfold prevD; first | rw [if_pos (by omega)] | rw [if_neg (by omega), if_pos (by omega)] | rw [if_neg (by omega), if_neg (by omega)], rfl, rfl⟩)
    · refine si_sipush S dX0_dateAhead_31 (by decide) ?_
      refine lv_iload_n hx_ hb_ dX0_dateAhead_34 rfl (lv_at hl 1 rfl) ?_
      refine si_mul S dX0_dateAhead_35 ?_
      refine si_bipush S dX0_dateAhead_36 (by decide) ?_
      refine lv_iload_n hx_ hb_ dX0_dateAhead_38 rfl (lv_at hl 0 rfl) ?_
      refine si_const S dX0_dateAhead_39 ?_
      refine si_sub S dX0_dateAhead_40 ?_
      refine si_mul S dX0_dateAhead_41 ?_
      refine si_add S dX0_dateAhead_42 ?_
      refine lv_iload_n hx_ hb_ dX0_dateAhead_43 rfl (lv_at hl 1 rfl) ?_
      refine lv_iload_n hx_ hb_ dX0_dateAhead_44 rfl (lv_at hl 0 rfl) ?_
      refine si_const S dX0_dateAhead_45 ?_
      refine si_sub S dX0_dateAhead_46 ?_
      refine sk_SP E hV (As := [.int (sI (d / 10000)), .int (sI (((d / 100) % 100) - 1))]) (rest := [.int (sI ((10000 * (d / 10000)) + (100 * (((d / 100) % 100) - 1))))]) (kX0_daysIn l_ G b_ M N (d / 10000) (((d / 100) % 100) - 1) (by omega) (by omega)) (va_cwS 2 S.2.2.2.2 gX0_dateAhead_X0_daysIn rfl rfl rfl (by decide +kernel) ⟨Nat.le_of_ble_eq_true rfl, Nat.le_of_ble_eq_true rfl⟩) rfl rfl hl.1 (Nat.le_of_ble_eq_true rfl) dX0_dateAhead_47 (c1 := 0) (s1 := 0) ⟨⟨rfl, rfl⟩, by decide, by decide⟩ (fun H locs hV => ?_)
      refine si_add S dX0_dateAhead_50 ?_
      exact sr_i E hQ dX0_dateAhead_51 ⟨Nat.le_of_ble_eq_true rfl, Nat.le_of_ble_eq_true rfl⟩ hV (⟨by unfold prevD; first | rw [if_pos (by omega)] | rw [if_neg (by omega), if_pos (by omega)] | rw [if_neg (by omega), if_neg (by omega)], rfl, rfl⟩)
  · refine lv_iload_n hx_ hb_ dX0_dateAhead_22 rfl (lv_at hl 2 rfl) ?_
    refine si_const S dX0_dateAhead_23 ?_
    refine si_sub S dX0_dateAhead_24 ?_
    exact sr_i E hQ dX0_dateAhead_25 ⟨Nat.le_of_ble_eq_true rfl, Nat.le_of_ble_eq_true rfl⟩ hV (⟨by unfold prevD; first | rw [if_pos (by omega)] | rw [if_neg (by omega), if_pos (by omega)] | rw [if_neg (by omega), if_neg (by omega)], rfl, rfl⟩)
