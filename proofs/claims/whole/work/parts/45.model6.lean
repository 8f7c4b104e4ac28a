/-- what is told of a hand -/
def tlF (f : sF) (s x h : Int) : sF := iup (iup (iup (iup (iup (iup (iup f 571 (f 571 + 1)) (164 + f 570) s) (224 + f 570) x) (284 + f 570) h) (344 + f 570) (f 571 + 1)) (404 + f 570) 0) 570 (f 570 + 1)
def tbF (f : sF) (a : Int) : sF := iup (iup f 571 (f 571 + 1)) (404 + a) (f 571 + 1)
def knP (f : sF) (n t : Int) : Prop := f (344 + n) ≤ t ∧ (f (404 + n) = 0 ∨ t < f (404 + n))
/-- the last that counts of a stone on a day, as known at a time -/
def hiP (f : sF) (s x t k : Int) : Prop := f (164 + k) = s ∧ f (224 + k) ≤ x ∧ knP f k t
noncomputable def hiN (f : sF) (s x t : Int) : Nat → Int
  | 0 => -1
  | k + 1 => pif (hiP f s x t (k : Int) ∧ (hiN f s x t k = -1 ∨ f (224 + hiN f s x t k) ≤ f (224 + (k : Int)))) (k : Int) (hiN f s x t k)
noncomputable def hiI (f : sF) (s x t k : Int) : Int := hiN f s x t k.toNat
theorem hiI_s (f : sF) (s x t k : Int) (h : 0 ≤ k) : hiI f s x t (k + 1) = pif (hiP f s x t k ∧ (hiI f s x t k = -1 ∨ f (224 + hiI f s x t k) ≤ f (224 + k))) k (hiI f s x t k) := by
  unfold hiI
  rw [show (k + 1).toNat = k.toNat + 1 by omega]
  show pif (hiP f s x t ((k.toNat : Nat) : Int) ∧ (_ ∨ f (224 + _) ≤ f (224 + ((k.toNat : Nat) : Int)))) ((k.toNat : Nat) : Int) _ = _
  rw [show ((k.toNat : Nat) : Int) = k by omega]
theorem hiI_r (f : sF) (s x t k : Int) (h : 0 ≤ k) : -1 ≤ hiI f s x t k ∧ hiI f s x t k < k ∨ (k = 0 ∧ hiI f s x t k = -1) := by
  have key : ∀ j : Nat, -1 ≤ hiN f s x t j ∧ hiN f s x t j < (j : Int) := by
    intro j
    induction j with
    | zero => exact ⟨by show (-1 : Int) ≤ -1; omega, by show (-1 : Int) < 0; omega⟩
    | succ j ih =>
      show _ ≤ pif _ _ _ ∧ pif _ _ _ < _
      rcases pif_cases (hiP f s x t (j : Int) ∧ (hiN f s x t j = -1 ∨ f (224 + hiN f s x t j) ≤ f (224 + (j : Int)))) (j : Int) (hiN f s x t j) with ⟨-, e⟩ | ⟨-, e⟩ <;> rw [e] <;> omega
  have := key k.toNat
  unfold hiI
  omega
noncomputable def hnd (f : sF) (s x t : Int) : Int := if hiI f s x t (f 570) = -1 then 6 else f (284 + hiI f s x t (f 570))
theorem hnd_r {f : sF} (h : sOk f) (s x t : Int) : 0 ≤ hnd f s x t ∧ hnd f s x t ≤ 6 := by
  have h0 := sOk_N h
  have h1 := hiI_r f s x t (f 570) (by omega)
  unfold hnd
  split
  · omega
  · have := sOk_T h (hiI f s x t (f 570)) (by omega) (by omega)
    omega
noncomputable def ihT (f : sF) (h x : Int) (s : Int) : Int := if hnd f s x (f 571) = h then 1 else 0

abbrev rmX11_isLeap : Room := { frames := 1, cells := 0, slots := 0, locals := 40 }
set_option maxHeartbeats 4000000 in
set_option maxRecDepth 100000 in
theorem kX11_isLeap (l_ : Launch) (G : sG) (b_ : Nat) (M : sM) (N : Nat) (y : Int) (hy : 0 ≤ y ∧ y ≤ 3000) : cP l_ yX11_isLeap wsX11_isLeap rmX11_isLeap G b_ M N [.int (sI y)] (bI (lpP y)) := by
  refine sE.ofI (cc := cX11_isLeap) (nL := 1) (ret := (some .boolean)) (by decide) rfl (Nat.le_of_ble_eq_true rfl) ?_
  intro p_ e_ s_ m_ args_ below_ meth_ c_ ls Q hQ E hl
  have E : sE p_ l_ e_ rmX11_isLeap s_ m_ args_ below_ meth_ c_ cX11_isLeap 1 wsX11_isLeap RX11 "isLeap" (some .boolean) G b_ M N := E
  have S := E.1
  have hx_ := S.1
  have hb_ := S.2.1
  have hK := E.2.2.2.2.1
  have hV := E.2.2.2.2.2.2
  have hl : lv_has ls 1 [(0, .int (sI y))] := hl
  refine lv_iload_n hx_ hb_ dX11_isLeap_0 rfl (lv_at hl 0 rfl) ?_
  refine si_const S dX11_isLeap_1 ?_
  refine si_remN S dX11_isLeap_2 (by omega) ?_
  refine sz_ne (tgt := 13) S dX11_isLeap_3 (by decide) (by omega) (fun c1 => ?_) (fun c1 => ?_)
  · refine lv_iload_n hx_ hb_ dX11_isLeap_13 rfl (lv_at hl 0 rfl) ?_
    refine si_sipush S dX11_isLeap_14 (by decide) ?_
    refine si_remN S dX11_isLeap_17 (by omega) ?_
    refine sz_ne (tgt := 25) S dX11_isLeap_18 (by decide) (by omega) (fun c2 => ?_) (fun c2 => ?_)
    · refine si_const S dX11_isLeap_25 ?_
      exact sr_z E hQ (Or.inl rfl) dX11_isLeap_26 ⟨Nat.le_of_ble_eq_true rfl, Nat.le_of_ble_eq_true rfl⟩ hV (⟨(bI_f (by unfold lpP; omega)).symm, rfl, rfl⟩)
    · refine si_const S dX11_isLeap_21 ?_
      refine lv_goto (tgt := 26) hx_ hb_ dX11_isLeap_22 (by decide) ?_
      exact sr_z E hQ (Or.inr rfl) dX11_isLeap_26 ⟨Nat.le_of_ble_eq_true rfl, Nat.le_of_ble_eq_true rfl⟩ hV (⟨(bI_t (by unfold lpP; omega)).symm, rfl, rfl⟩)
  · refine lv_iload_n hx_ hb_ dX11_isLeap_6 rfl (lv_at hl 0 rfl) ?_
    refine si_bipush S dX11_isLeap_7 (by decide) ?_
    refine si_remN S dX11_isLeap_9 (by omega) ?_
    refine sz_ne (tgt := 21) S dX11_isLeap_10 (by decide) (by omega) (fun c3 => ?_) (fun c3 => ?_)
    · refine si_const S dX11_isLeap_21 ?_
      refine lv_goto (tgt := 26) hx_ hb_ dX11_isLeap_22 (by decide) ?_
      exact sr_z E hQ (Or.inr rfl) dX11_isLeap_26 ⟨Nat.le_of_ble_eq_true rfl, Nat.le_of_ble_eq_true rfl⟩ hV (⟨(bI_t (by unfold lpP; omega)).symm, rfl, rfl⟩)
    · refine lv_iload_n hx_ hb_ dX11_isLeap_13 rfl (lv_at hl 0 rfl) ?_
      refine si_sipush S dX11_isLeap_14 (by decide) ?_
      refine si_remN S dX11_isLeap_17 (by omega) ?_
      refine sz_ne (tgt := 25) S dX11_isLeap_18 (by decide) (by omega) (fun c4 => ?_) (fun c4 => ?_)
      · refine si_const S dX11_isLeap_25 ?_
        exact sr_z E hQ (Or.inl rfl) dX11_isLeap_26 ⟨Nat.le_of_ble_eq_true rfl, Nat.le_of_ble_eq_true rfl⟩ hV (⟨(bI_f (by unfold lpP; omega)).symm, rfl, rfl⟩)
      · refine si_const S dX11_isLeap_21 ?_
        refine lv_goto (tgt := 26) hx_ hb_ dX11_isLeap_22 (by decide) ?_
        exact sr_z E hQ (Or.inr rfl) dX11_isLeap_26 ⟨Nat.le_of_ble_eq_true rfl, Nat.le_of_ble_eq_true rfl⟩ hV (⟨(bI_t (by unfold lpP; omega)).symm, rfl, rfl⟩)

abbrev rmX11_monthDays : Room := { frames := 2, cells := 0, slots := 0, locals := 60 }
set_option maxHeartbeats 4000000 in
set_option maxRecDepth 100000 in
theorem kX11_monthDays (l_ : Launch) (G : sG) (b_ : Nat) (M : sM) (N : Nat) (y m : Int) (hy : 0 ≤ y ∧ y ≤ 3000) (hm : 1 ≤ m ∧ m ≤ 12) : cP l_ yX11_monthDays wsX11_monthDays rmX11_monthDays G b_ M N [.int (sI y), .int (sI m)] (dim y m) := by
  refine sE.ofI (cc := cX11_monthDays) (nL := 2) (ret := (some .int)) (by decide) rfl (Nat.le_of_ble_eq_true rfl) ?_
  intro p_ e_ s_ m_ args_ below_ meth_ c_ ls Q hQ E hl
  have E : sE p_ l_ e_ rmX11_monthDays s_ m_ args_ below_ meth_ c_ cX11_monthDays 2 wsX11_monthDays RX11 "monthDays" (some .int) G b_ M N := E
  have S := E.1
  have hx_ := S.1
  have hb_ := S.2.1
  have hK := E.2.2.2.2.1
  have hV := E.2.2.2.2.2.2
  have hl : lv_has ls 2 [(0, .int (sI y)), (1, .int (sI m))] := hl
  refine lv_iload_n hx_ hb_ dX11_monthDays_0 rfl (lv_at hl 1 rfl) ?_
  refine si_const S dX11_monthDays_1 ?_
  refine sb_ne (tgt := 22) S dX11_monthDays_2 (by decide) (by omega) (fun c1 => ?_) (fun c1 => ?_)
  · refine lv_iload_n hx_ hb_ dX11_monthDays_22 rfl (lv_at hl 1 rfl) ?_
    refine si_const S dX11_monthDays_23 ?_
    refine sb_eq (tgt := 45) S dX11_monthDays_24 (by decide) (by omega) (fun c2 => ?_) (fun c2 => ?_)
    · refine si_bipush S dX11_monthDays_45 (by decide) ?_
      refine lv_goto (tgt := 52) hx_ hb_ dX11_monthDays_47 (by decide) ?_
      exact sr_i E hQ dX11_monthDays_52 ⟨Nat.le_of_ble_eq_true rfl, Nat.le_of_ble_eq_true rfl⟩ hV (⟨by rw [dim_v y m hm, if_neg (by omega), if_pos (by omega)], rfl, rfl⟩)
    · refine lv_iload_n hx_ hb_ dX11_monthDays_27 rfl (lv_at hl 1 rfl) ?_
      refine si_bipush S dX11_monthDays_28 (by decide) ?_
      refine sb_eq (tgt := 45) S dX11_monthDays_30 (by decide) (by omega) (fun c3 => ?_) (fun c3 => ?_)
      · refine si_bipush S dX11_monthDays_45 (by decide) ?_
        refine lv_goto (tgt := 52) hx_ hb_ dX11_monthDays_47 (by decide) ?_
        exact sr_i E hQ dX11_monthDays_52 ⟨Nat.le_of_ble_eq_true rfl, Nat.le_of_ble_eq_true rfl⟩ hV (⟨by rw [dim_v y m hm, if_neg (by omega), if_pos (by omega)], rfl, rfl⟩)
      · refine lv_iload_n hx_ hb_ dX11_monthDays_33 rfl (lv_at hl 1 rfl) ?_
        refine si_bipush S dX11_monthDays_34 (by decide) ?_
        refine sb_eq (tgt := 45) S dX11_monthDays_36 (by decide) (by omega) (fun c4 => ?_) (fun c4 => ?_)
        · refine si_bipush S dX11_monthDays_45 (by decide) ?_
          refine lv_goto (tgt := 52) hx_ hb_ dX11_monthDays_47 (by decide) ?_
          exact sr_i E hQ dX11_monthDays_52 ⟨Nat.le_of_ble_eq_true rfl, Nat.le_of_ble_eq_true rfl⟩ hV (⟨by rw [dim_v y m hm, if_neg (by omega), if_pos (by omega)], rfl, rfl⟩)
        · refine lv_iload_n hx_ hb_ dX11_monthDays_39 rfl (lv_at hl 1 rfl) ?_
          refine si_bipush S dX11_monthDays_40 (by decide) ?_
          refine sb_ne (tgt := 50) S dX11_monthDays_42 (by decide) (by omega) (fun c5 => ?_) (fun c5 => ?_)
          · refine si_bipush S dX11_monthDays_50 (by decide) ?_
            exact sr_i E hQ dX11_monthDays_52 ⟨Nat.le_of_ble_eq_true rfl, Nat.le_of_ble_eq_true rfl⟩ hV (⟨by rw [dim_v y m hm, if_neg (by omega), if_neg (by omega)], rfl, rfl⟩)
          · refine si_bipush S dX11_monthDays_45 (by decide) ?_
            refine lv_goto (tgt := 52) hx_ hb_ dX11_monthDays_47 (by decide) ?_
            exact sr_i E hQ dX11_monthDays_52 ⟨Nat.le_of_ble_eq_true rfl, Nat.le_of_ble_eq_true rfl⟩ hV (⟨by rw [dim_v y m hm, if_neg (by omega), if_pos (by omega)], rfl, rfl⟩)
  · refine lv_iload_n hx_ hb_ dX11_monthDays_5 rfl (lv_at hl 0 rfl) ?_
    refine sk_SP E hV (As := [.int (sI y)]) (rest := []) (kX11_isLeap l_ G b_ M N y (by omega)) (va_cwS 1 S.2.2.2.2 gX11_monthDays_X11_isLeap rfl rfl rfl (by decide +kernel) ⟨Nat.le_of_ble_eq_true rfl, Nat.le_of_ble_eq_true rfl⟩) rfl rfl hl.1 (Nat.le_of_ble_eq_true rfl) dX11_monthDays_6 (c1 := 0) (s1 := 0) ⟨⟨rfl, rfl⟩, by decide, by decide⟩ (fun H locs hV => ?_)
    refine sq_eq (tgt := 17) S dX11_monthDays_9 (by decide) (fun h9 => ?_) (fun h9 => ?_)
    · refine si_bipush S dX11_monthDays_17 (by decide) ?_
      refine lv_goto (tgt := 52) hx_ hb_ dX11_monthDays_19 (by decide) ?_
      exact sr_i E hQ dX11_monthDays_52 ⟨Nat.le_of_ble_eq_true rfl, Nat.le_of_ble_eq_true rfl⟩ hV (⟨by rw [dim_v y m hm, if_pos (by omega), bI_f h9]; rfl, rfl, rfl⟩)
    · refine si_bipush S dX11_monthDays_12 (by decide) ?_
      refine lv_goto (tgt := 52) hx_ hb_ dX11_monthDays_14 (by decide) ?_
      exact sr_i E hQ dX11_monthDays_52 ⟨Nat.le_of_ble_eq_true rfl, Nat.le_of_ble_eq_true rfl⟩ hV (⟨by rw [dim_v y m hm, if_pos (by omega), bI_t h9]; rfl, rfl, rfl⟩)

abbrev rmX11_isDate : Room := { frames := 3, cells := 0, slots := 0, locals := 81 }
set_option maxHeartbeats 4000000 in
set_option maxRecDepth 100000 in
theorem kX11_isDate (l_ : Launch) (G : sG) (b_ : Nat) (M : sM) (N : Nat) (d : Int) (hd : sR d) : cP l_ yX11_isDate wsX11_isDate rmX11_isDate G b_ M N [.int (sI d)] (bI (isDt d)) := by
  refine sE.ofI (cc := cX11_isDate) (nL := 1) (ret := (some .boolean)) (by decide) rfl (Nat.le_of_ble_eq_true rfl) ?_
  intro p_ e_ s_ m_ args_ below_ meth_ c_ ls Q hQ E hl
  have E : sE p_ l_ e_ rmX11_isDate s_ m_ args_ below_ meth_ c_ cX11_isDate 1 wsX11_isDate RX11 "isDate" (some .boolean) G b_ M N := E
  have S := E.1
  have hx_ := S.1
  have hb_ := S.2.1
  have hK := E.2.2.2.2.1
  have hV := E.2.2.2.2.2.2
  have hl : lv_has ls 1 [(0, .int (sI d))] := hl
  refine lv_iload_n hx_ hb_ dX11_isDate_0 rfl (lv_at hl 0 rfl) ?_
  refine si_ldc S (19000101) (S.2.2.2.2 _ (List.mem_of_getElem? (i := 1) rfl)) (by decide) dX11_isDate_1 ?_
  refine si_ldc S (21991231) (S.2.2.2.2 _ (List.mem_of_getElem? (i := 2) rfl)) (by decide) dX11_isDate_3 ?_
  refine sk_SP E hV (As := [.int (sI d), .int (sI 19000101), .int (sI 21991231)]) (rest := []) (kX11_in l_ G b_ M N d 19000101 21991231 (by omega)) (va_cwS 3 S.2.2.2.2 gX11_isDate_X11_in rfl rfl rfl (by decide +kernel) ⟨Nat.le_of_ble_eq_true rfl, Nat.le_of_ble_eq_true rfl⟩) rfl rfl hl.1 (Nat.le_of_ble_eq_true rfl) dX11_isDate_5 (c1 := 0) (s1 := 0) ⟨⟨rfl, rfl⟩, by decide, by decide⟩ (fun H locs hV => ?_)
  refine sq_eq (tgt := 57) S dX11_isDate_8 (by decide) (fun c1 => ?_) (fun c1 => ?_)
  · refine si_const S dX11_isDate_57 ?_
    exact sr_z E hQ (Or.inl rfl) dX11_isDate_58 ⟨Nat.le_of_ble_eq_true rfl, Nat.le_of_ble_eq_true rfl⟩ hV (⟨(bI_f (by unfold isDt; first | omega | (intro q; have := dim_b (d / 10000) (d / 100 % 100) (by omega); omega))).symm, rfl, rfl⟩)
  · refine lv_iload_n hx_ hb_ dX11_isDate_11 rfl (lv_at hl 0 rfl) ?_
    refine si_bipush S dX11_isDate_12 (by decide) ?_
    refine si_divN S dX11_isDate_14 (by omega) ?_
    refine si_bipush S dX11_isDate_15 (by decide) ?_
    refine si_remN S dX11_isDate_17 (by omega) ?_
    refine si_const S dX11_isDate_18 ?_
    refine si_bipush S dX11_isDate_19 (by decide) ?_
    refine sk_SP E hV (As := [.int (sI ((d / 100) % 100)), .int (sI 1), .int (sI 12)]) (rest := []) (kX11_in l_ G b_ M N ((d / 100) % 100) 1 12 (by omega)) (va_cwS 3 S.2.2.2.2 gX11_isDate_X11_in rfl rfl rfl (by decide +kernel) ⟨Nat.le_of_ble_eq_true rfl, Nat.le_of_ble_eq_true rfl⟩) rfl rfl hl.1 (Nat.le_of_ble_eq_true rfl) dX11_isDate_21 (c1 := 0) (s1 := 0) ⟨⟨rfl, rfl⟩, by decide, by decide⟩ (fun H locs hV => ?_)
    refine sq_eq (tgt := 57) S dX11_isDate_24 (by decide) (fun c2 => ?_) (fun c2 => ?_)
    · refine si_const S dX11_isDate_57 ?_
      exact sr_z E hQ (Or.inl rfl) dX11_isDate_58 ⟨Nat.le_of_ble_eq_true rfl, Nat.le_of_ble_eq_true rfl⟩ hV (⟨(bI_f (by unfold isDt; first | omega | (intro q; have := dim_b (d / 10000) (d / 100 % 100) (by omega); omega))).symm, rfl, rfl⟩)
    · refine lv_iload_n hx_ hb_ dX11_isDate_27 rfl (lv_at hl 0 rfl) ?_
      refine si_bipush S dX11_isDate_28 (by decide) ?_
      refine si_remN S dX11_isDate_30 (by omega) ?_
      refine si_const S dX11_isDate_31 ?_
      refine lv_iload_n hx_ hb_ dX11_isDate_32 rfl (lv_at hl 0 rfl) ?_
      refine si_sipush S dX11_isDate_33 (by decide) ?_
      refine si_divN S dX11_isDate_36 (by omega) ?_
      refine lv_iload_n hx_ hb_ dX11_isDate_37 rfl (lv_at hl 0 rfl) ?_
      refine si_bipush S dX11_isDate_38 (by decide) ?_
      refine si_divN S dX11_isDate_40 (by omega) ?_
      refine si_bipush S dX11_isDate_41 (by decide) ?_
      refine si_remN S dX11_isDate_43 (by omega) ?_
      have hdim := dim_b (d / 10000) (d / 100 % 100) (by omega)
      refine sk_SP E hV (As := [.int (sI (d / 10000)), .int (sI ((d / 100) % 100))]) (rest := [.int (sI 1), .int (sI (d % 100))]) (kX11_monthDays l_ G b_ M N (d / 10000) ((d / 100) % 100) (by omega) (by omega)) (va_cwS 2 S.2.2.2.2 gX11_isDate_X11_monthDays rfl rfl rfl (by decide +kernel) ⟨Nat.le_of_ble_eq_true rfl, Nat.le_of_ble_eq_true rfl⟩) rfl rfl hl.1 (Nat.le_of_ble_eq_true rfl) dX11_isDate_44 (c1 := 0) (s1 := 0) ⟨⟨rfl, rfl⟩, by decide, by decide⟩ (fun H locs hV => ?_)
      refine sk_SP E hV (As := [.int (sI (d % 100)), .int (sI 1), .int (sI (dim (d / 10000) ((d / 100) % 100)))]) (rest := []) (kX11_in l_ G b_ M N (d % 100) 1 (dim (d / 10000) ((d / 100) % 100)) (by omega)) (va_cwS 3 S.2.2.2.2 gX11_isDate_X11_in rfl rfl rfl (by decide +kernel) ⟨Nat.le_of_ble_eq_true rfl, Nat.le_of_ble_eq_true rfl⟩) rfl rfl hl.1 (Nat.le_of_ble_eq_true rfl) dX11_isDate_47 (c1 := 0) (s1 := 0) ⟨⟨rfl, rfl⟩, by decide, by decide⟩ (fun H locs hV => ?_)
      refine sq_eq (tgt := 57) S dX11_isDate_50 (by decide) (fun c3 => ?_) (fun c3 => ?_)
      · refine si_const S dX11_isDate_57 ?_
        exact sr_z E hQ (Or.inl rfl) dX11_isDate_58 ⟨Nat.le_of_ble_eq_true rfl, Nat.le_of_ble_eq_true rfl⟩ hV (⟨(bI_f (by unfold isDt; first | omega | (intro q; have := dim_b (d / 10000) (d / 100 % 100) (by omega); omega))).symm, rfl, rfl⟩)
      · refine si_const S dX11_isDate_53 ?_
        refine lv_goto (tgt := 58) hx_ hb_ dX11_isDate_54 (by decide) ?_
        exact sr_z E hQ (Or.inr rfl) dX11_isDate_58 ⟨Nat.le_of_ble_eq_true rfl, Nat.le_of_ble_eq_true rfl⟩ hV (⟨(bI_t (by unfold isDt; first | omega | (intro q; have := dim_b (d / 10000) (d / 100 % 100) (by omega); omega))).symm, rfl, rfl⟩)

abbrev rmX11_dayOf : Room := { frames := 3, cells := 0, slots := 0, locals := 81 }
set_option maxHeartbeats 4000000 in
set_option maxRecDepth 100000 in
theorem kX11_dayOf (l_ : Launch) (G : sG) (b_ : Nat) (M : sM) (N : Nat) (d : Int) (hd : 1890 ≤ d / 10000 ∧ d / 10000 ≤ 2209 ∧ 1 ≤ d / 100 % 100 ∧ d / 100 % 100 ≤ 12) : cP l_ yX11_dayOf wsX11_dayOf rmX11_dayOf G b_ M N [.int (sI d)] (dayI d + 3652) := by
  refine sE.ofI (cc := cX11_dayOf) (nL := 3) (ret := (some .int)) (by decide) rfl (Nat.le_of_ble_eq_true rfl) ?_
  intro p_ e_ s_ m_ args_ below_ meth_ c_ ls Q hQ E hl
  have E : sE p_ l_ e_ rmX11_dayOf s_ m_ args_ below_ meth_ c_ cX11_dayOf 3 wsX11_dayOf RX11 "dayOf" (some .int) G b_ M N := E
  have S := E.1
  have hx_ := S.1
  have hb_ := S.2.1
  have hK := E.2.2.2.2.1
  have hV := E.2.2.2.2.2.2
  have hl : lv_has ls 3 [(0, .int (sI d))] := hl
  have n0 := nyr_1890
  have d0 := dA_1 (d / 10000)
  have nm := nyr_m 1890 (d / 10000) (by omega)
  refine lv_iload_n hx_ hb_ dX11_dayOf_0 rfl (lv_at hl 0 rfl) ?_
  refine si_bipush S dX11_dayOf_1 (by decide) ?_
  refine si_remN S dX11_dayOf_3 (by omega) ?_
  refine si_const S dX11_dayOf_4 ?_
  refine si_sub S dX11_dayOf_5 ?_
  refine lv_istore_n (lv' := [(1, .int (sI ((d % 100) - 1))), (0, .int (sI d))]) hx_ hb_ dX11_dayOf_6 rfl hl (by decide) rfl (fun ls hl => ?_)
  refine si_sipush S dX11_dayOf_7 (by decide) ?_
  refine lv_istore_n (lv' := [(2, .int (sI 1890)), (1, .int (sI ((d % 100) - 1))), (0, .int (sI d))]) hx_ hb_ dX11_dayOf_10 rfl hl (by decide) rfl (fun ls hl => ?_)
  have L11 : ∀ (fuel : Nat) (n : Int) (y : Int)  (H : Heap) (locs : List Loc) (ls : Array Slot), ((d / 10000 - y).toNat) < fuel → (1890 ≤ y ∧ y ≤ d / 10000) → (n = d % 100 - 1 + (nyr y + 3652)) → sV G b_ M N s_ H locs → lv_has ls 3 [(0, .int (sI d)), (1, .int (sI n)), (2, .int (sI y))] → W p_ l_ e_ rmX11_dayOf s_ m_ args_ below_ meth_ c_ H locs 0 0 Q (F0 m_ 11 ls []) := by
    intro fuel
    induction fuel with
    | zero => intro n y H locs ls hmu; exact absurd hmu (Nat.not_lt_zero _)
    | succ fuel ih11 =>
      intro n y H locs ls hmu11 hv11_0 hn  hV hl
      refine lv_iload_n hx_ hb_ dX11_dayOf_11 rfl (lv_at hl 2 rfl) ?_
      refine lv_iload_n hx_ hb_ dX11_dayOf_12 rfl (lv_at hl 0 rfl) ?_
      refine si_sipush S dX11_dayOf_13 (by decide) ?_
      refine si_divN S dX11_dayOf_16 (by omega) ?_
      refine sb_ge (tgt := 45) S dX11_dayOf_17 (by decide) (by omega) (fun c1 => ?_) (fun c1 => ?_)
      · refine si_const S dX11_dayOf_45 ?_
        refine lv_istore_n (lv' := [(2, .int (sI 1)), (0, .int (sI d)), (1, .int (sI n))]) hx_ hb_ dX11_dayOf_46 rfl hl (by decide) rfl (fun ls hl => ?_)
        have L47 : ∀ (fuel : Nat) (n2 : Int) (q : Int)  (H : Heap) (locs : List Loc) (ls : Array Slot), ((d / 100 % 100 - q).toNat) < fuel → (1 ≤ q ∧ q ≤ d / 100 % 100) → (n2 = d % 100 - 1 + (nyr (d / 10000) + 3652) + dA (d / 10000) q) → sV G b_ M N s_ H locs → lv_has ls 3 [(0, .int (sI d)), (1, .int (sI n2)), (2, .int (sI q))] → W p_ l_ e_ rmX11_dayOf s_ m_ args_ below_ meth_ c_ H locs 0 0 Q (F0 m_ 47 ls []) := by
          intro fuel
          induction fuel with
          | zero => intro n2 q H locs ls hmu; exact absurd hmu (Nat.not_lt_zero _)
          | succ fuel ih47 =>
            intro n2 q H locs ls hmu47 hv47_0 hn2  hV hl
            refine lv_iload_n hx_ hb_ dX11_dayOf_47 rfl (lv_at hl 2 rfl) ?_
            refine lv_iload_n hx_ hb_ dX11_dayOf_48 rfl (lv_at hl 0 rfl) ?_
            refine si_bipush S dX11_dayOf_49 (by decide) ?_
            refine si_divN S dX11_dayOf_51 (by omega) ?_
            refine si_bipush S dX11_dayOf_52 (by decide) ?_
            refine si_remN S dX11_dayOf_54 (by omega) ?_
            refine sb_ge (tgt := 76) S dX11_dayOf_55 (by decide) (by omega) (fun c2 => ?_) (fun c2 => ?_)
            · refine lv_iload_n hx_ hb_ dX11_dayOf_76 rfl (lv_at hl 1 rfl) ?_
              exact sr_i E hQ dX11_dayOf_77 ⟨Nat.le_of_ble_eq_true rfl, Nat.le_of_ble_eq_true rfl⟩ hV (⟨by unfold dayI; rw [hn2, show q = d / 100 % 100 by omega]; omega, rfl, rfl⟩)
            · refine lv_iload_n hx_ hb_ dX11_dayOf_58 rfl (lv_at hl 1 rfl) ?_
              refine lv_iload_n hx_ hb_ dX11_dayOf_59 rfl (lv_at hl 0 rfl) ?_
              refine si_sipush S dX11_dayOf_60 (by decide) ?_
              refine si_divN S dX11_dayOf_63 (by omega) ?_
              refine lv_iload_n hx_ hb_ dX11_dayOf_64 rfl (lv_at hl 2 rfl) ?_
              refine sk_SP E hV (As := [.int (sI (d / 10000)), .int (sI q)]) (rest := [.int (sI n2)]) (kX11_monthDays l_ G b_ M N (d / 10000) q (by omega) (by omega)) (va_cwS 2 S.2.2.2.2 gX11_dayOf_X11_monthDays rfl rfl rfl (by decide +kernel) ⟨Nat.le_of_ble_eq_true rfl, Nat.le_of_ble_eq_true rfl⟩) rfl rfl hl.1 (Nat.le_of_ble_eq_true rfl) dX11_dayOf_65 (c1 := 0) (s1 := 0) ⟨⟨rfl, rfl⟩, by decide, by decide⟩ (fun H locs hV => ?_)
              refine si_add S dX11_dayOf_68 ?_
              refine lv_istore_n (lv' := [(1, .int (sI (n2 + (dim (d / 10000) q)))), (0, .int (sI d)), (2, .int (sI q))]) hx_ hb_ dX11_dayOf_69 rfl hl (by decide) rfl (fun ls hl => ?_)
              refine si_inc (lv' := [(2, .int (sI (q + 1))), (1, .int (sI (n2 + (dim (d / 10000) q)))), (0, .int (sI d))]) S dX11_dayOf_70 hl (k := 2) rfl (by decide) rfl (fun ls hl => ?_)
              refine lv_goto (tgt := 47) hx_ hb_ dX11_dayOf_73 (by decide) ?_
              exact ih47 (n2 + (dim (d / 10000) q)) (q + 1) _ _ _ (by omega) (by omega) (by have e := dA_s (d / 10000) q; omega) hV (lv_sub hl [2, 1, 0] rfl)
        exact L47 _ n 1 _ _ _ (Nat.lt_succ_self _) (by omega) (by rw [hn, show y = d / 10000 by omega]; omega) hV (lv_sub hl [1, 2, 0] rfl)
      · refine lv_iload_n hx_ hb_ dX11_dayOf_20 rfl (lv_at hl 1 rfl) ?_
        refine lv_iload_n hx_ hb_ dX11_dayOf_21 rfl (lv_at hl 2 rfl) ?_
        refine sk_SP E hV (As := [.int (sI y)]) (rest := [.int (sI n)]) (kX11_isLeap l_ G b_ M N y (by omega)) (va_cwS 1 S.2.2.2.2 gX11_dayOf_X11_isLeap rfl rfl rfl (by decide +kernel) ⟨Nat.le_of_ble_eq_true rfl, Nat.le_of_ble_eq_true rfl⟩) rfl rfl hl.1 (Nat.le_of_ble_eq_true rfl) dX11_dayOf_22 (c1 := 0) (s1 := 0) ⟨⟨rfl, rfl⟩, by decide, by decide⟩ (fun H locs hV => ?_)
        refine sq_eq (tgt := 34) S dX11_dayOf_25 (by decide) (fun h25 => ?_) (fun h25 => ?_)
        · refine si_sipush S dX11_dayOf_34 (by decide) ?_
          refine si_add S dX11_dayOf_37 ?_
          refine lv_istore_n (lv' := [(1, .int (sI (n + 365))), (0, .int (sI d)), (2, .int (sI y))]) hx_ hb_ dX11_dayOf_38 rfl hl (by decide) rfl (fun ls hl => ?_)
          refine si_inc (lv' := [(2, .int (sI (y + 1))), (1, .int (sI (n + 365))), (0, .int (sI d))]) S dX11_dayOf_39 hl (k := 2) rfl (by decide) rfl (fun ls hl => ?_)
          refine lv_goto (tgt := 11) hx_ hb_ dX11_dayOf_42 (by decide) ?_
          exact ih11 (n + 365) (y + 1) _ _ _ (by omega) (by omega) (by have e := nyr_s y; first | (rw [bI_t h25] at e; omega) | (rw [bI_f h25] at e; omega)) hV (lv_sub hl [2, 1, 0] rfl)
        · refine si_sipush S dX11_dayOf_28 (by decide) ?_
          refine lv_goto (tgt := 37) hx_ hb_ dX11_dayOf_31 (by decide) ?_
          refine si_add S dX11_dayOf_37 ?_
          refine lv_istore_n (lv' := [(1, .int (sI (n + 366))), (0, .int (sI d)), (2, .int (sI y))]) hx_ hb_ dX11_dayOf_38 rfl hl (by decide) rfl (fun ls hl => ?_)
          refine si_inc (lv' := [(2, .int (sI (y + 1))), (1, .int (sI (n + 366))), (0, .int (sI d))]) S dX11_dayOf_39 hl (k := 2) rfl (by decide) rfl (fun ls hl => ?_)
          refine lv_goto (tgt := 11) hx_ hb_ dX11_dayOf_42 (by decide) ?_
          exact ih11 (n + 366) (y + 1) _ _ _ (by omega) (by omega) (by have e := nyr_s y; first | (rw [bI_t h25] at e; omega) | (rw [bI_f h25] at e; omega)) hV (lv_sub hl [2, 1, 0] rfl)
  exact L11 _ ((d % 100) - 1) 1890 _ _ _ (Nat.lt_succ_self _) (by omega) (by omega) hV (lv_sub hl [2, 1, 0] rfl)

abbrev rmX11_dateOf : Room := { frames := 3, cells := 0, slots := 0, locals := 81 }
set_option maxHeartbeats 4000000 in
set_option maxRecDepth 100000 in
theorem kX11_dateOf (l_ : Launch) (G : sG) (b_ : Nat) (M : sM) (N : Nat) (n : Int) (hn : 0 ≤ n ∧ n ≤ 116000) : cP l_ yX11_dateOf wsX11_dateOf rmX11_dateOf G b_ M N [.int (sI n)] (dat n) := by
  refine sE.ofI (cc := cX11_dateOf) (nL := 4) (ret := (some .int)) (by decide) rfl (Nat.le_of_ble_eq_true rfl) ?_
  intro p_ e_ s_ m_ args_ below_ meth_ c_ ls Q hQ E hl
  have E : sE p_ l_ e_ rmX11_dateOf s_ m_ args_ below_ meth_ c_ cX11_dateOf 4 wsX11_dateOf RX11 "dateOf" (some .int) G b_ M N := E
  have S := E.1
  have hx_ := S.1
  have hb_ := S.2.1
  have hK := E.2.2.2.2.1
  have hV := E.2.2.2.2.2.2
  have hl : lv_has ls 4 [(0, .int (sI n))] := hl
  have n0 := nyr_1890
  refine lv_iload_n hx_ hb_ dX11_dateOf_0 rfl (lv_at hl 0 rfl) ?_
  refine lv_istore_n (lv' := [(1, .int (sI n)), (0, .int (sI n))]) hx_ hb_ dX11_dateOf_1 rfl hl (by decide) rfl (fun ls hl => ?_)
  refine si_sipush S dX11_dateOf_2 (by decide) ?_
  refine lv_istore_n (lv' := [(2, .int (sI 1890)), (1, .int (sI n)), (0, .int (sI n))]) hx_ hb_ dX11_dateOf_5 rfl hl (by decide) rfl (fun ls hl => ?_)
  have L6 : ∀ (fuel : Nat) (t : Int) (y : Int)  (H : Heap) (locs : List Loc) (ls : Array Slot), (t.toNat) < fuel → (0 ≤ t ∧ t ≤ 116000 ∧ 1890 ≤ y ∧ y ≤ 2208) → (t = n - (nyr y + 3652)) → sV G b_ M N s_ H locs → lv_has ls 4 [(1, .int (sI t)), (2, .int (sI y))] → W p_ l_ e_ rmX11_dateOf s_ m_ args_ below_ meth_ c_ H locs 0 0 Q (F0 m_ 6 ls []) := by
    intro fuel
    induction fuel with
    | zero => intro t y H locs ls hmu; exact absurd hmu (Nat.not_lt_zero _)
    | succ fuel ih6 =>
      intro t y H locs ls hmu6 hv6_0 ht  hV hl
      have nm := nyr_m 1890 y (by omega)
      have nm2 := nyr_s y
      have nm3 := bI_r (c := lpP y)
      refine lv_iload_n hx_ hb_ dX11_dateOf_6 rfl (lv_at hl 0 rfl) ?_
      refine lv_iload_n hx_ hb_ dX11_dateOf_7 rfl (lv_at hl 1 rfl) ?_
      refine sk_SP E hV (As := [.int (sI y)]) (rest := [.int (sI t)]) (kX11_isLeap l_ G b_ M N y (by omega)) (va_cwS 1 S.2.2.2.2 gX11_dateOf_X11_isLeap rfl rfl rfl (by decide +kernel) ⟨Nat.le_of_ble_eq_true rfl, Nat.le_of_ble_eq_true rfl⟩) rfl rfl hl.1 (Nat.le_of_ble_eq_true rfl) dX11_dateOf_8 (c1 := 0) (s1 := 0) ⟨⟨rfl, rfl⟩, by decide, by decide⟩ (fun H locs hV => ?_)
      refine sq_eq (tgt := 20) S dX11_dateOf_11 (by decide) (fun h11 => ?_) (fun h11 => ?_)
      · refine si_sipush S dX11_dateOf_20 (by decide) ?_
        refine sb_lt (tgt := 51) S dX11_dateOf_23 (by decide) (by omega) (fun c1 => ?_) (fun c1 => ?_)
        · refine si_const S dX11_dateOf_51 ?_
          refine lv_istore_n (lv' := [(3, .int (sI 1)), (1, .int (sI t)), (2, .int (sI y))]) hx_ hb_ dX11_dateOf_52 rfl hl (by decide) rfl (fun ls hl => ?_)
          have L53 : ∀ (fuel : Nat) (t2 : Int) (q : Int)  (H : Heap) (locs : List Loc) (ls : Array Slot), (t2.toNat) < fuel → (0 ≤ t2 ∧ 1 ≤ q ∧ q ≤ 12) → (t2 = n - (nyr y + 3652) - dA y q) → (t2 < 365 + bI (lpP y) - dA y q) → sV G b_ M N s_ H locs → lv_has ls 4 [(1, .int (sI t2)), (2, .int (sI y)), (3, .int (sI q))] → W p_ l_ e_ rmX11_dateOf s_ m_ args_ below_ meth_ c_ H locs 0 0 Q (F0 m_ 53 ls []) := by
            intro fuel
            induction fuel with
            | zero => intro t2 q H locs ls hmu; exact absurd hmu (Nat.not_lt_zero _)
            | succ fuel ih53 =>
              intro t2 q H locs ls hmu53 hv53_0 ht2 hlt  hV hl
              have dm := dim_b y q (by omega)
              have dm0 := dA_m y 1 q (by omega) (by omega) (by omega)
              rw [dA_1] at dm0
              have dm3 : q = 12 → dA y (q + 1) = dA y 13 := fun h => by rw [h]; rfl
              have d13 := dA_13 y
              have ds := dA_s y q
              have dm2 := dA_m y (q + 1) 13 (by omega) (by omega) (by omega)
              refine lv_iload_n hx_ hb_ dX11_dateOf_53 rfl (lv_at hl 0 rfl) ?_
              refine lv_iload_n hx_ hb_ dX11_dateOf_54 rfl (lv_at hl 1 rfl) ?_
              refine lv_iload_n hx_ hb_ dX11_dateOf_55 rfl (lv_at hl 2 rfl) ?_
              refine sk_SP E hV (As := [.int (sI y), .int (sI q)]) (rest := [.int (sI t2)]) (kX11_monthDays l_ G b_ M N y q (by omega) (by omega)) (va_cwS 2 S.2.2.2.2 gX11_dateOf_X11_monthDays rfl rfl rfl (by decide +kernel) ⟨Nat.le_of_ble_eq_true rfl, Nat.le_of_ble_eq_true rfl⟩) rfl rfl hl.1 (Nat.le_of_ble_eq_true rfl) dX11_dateOf_56 (c1 := 0) (s1 := 0) ⟨⟨rfl, rfl⟩, by decide, by decide⟩ (fun H locs hV => ?_)
              refine sb_lt (tgt := 76) S dX11_dateOf_59 (by decide) (by omega) (fun c2 => ?_) (fun c2 => ?_)
              · refine si_sipush S dX11_dateOf_76 (by decide) ?_
                refine lv_iload_n hx_ hb_ dX11_dateOf_79 rfl (lv_at hl 1 rfl) ?_
                refine si_mul S dX11_dateOf_80 ?_
                refine si_bipush S dX11_dateOf_81 (by decide) ?_
                refine lv_iload_n hx_ hb_ dX11_dateOf_83 rfl (lv_at hl 2 rfl) ?_
                refine si_mul S dX11_dateOf_84 ?_
                refine si_add S dX11_dateOf_85 ?_
                refine lv_iload_n hx_ hb_ dX11_dateOf_86 rfl (lv_at hl 0 rfl) ?_
                refine si_add S dX11_dateOf_87 ?_
                refine si_const S dX11_dateOf_88 ?_
                refine si_add S dX11_dateOf_89 ?_
                exact sr_i E hQ dX11_dateOf_90 ⟨Nat.le_of_ble_eq_true rfl, Nat.le_of_ble_eq_true rfl⟩ hV (⟨(dat_eq (by have o := dayI_o (y := y) (m := q) (t := t2) (by omega) (by omega) (by omega); unfold isDx; rw [o.1, o.2.1, o.2.2]; omega) (by have o := dayI_o (y := y) (m := q) (t := t2) (by omega) (by omega) (by omega); unfold dayI; rw [o.1, o.2.1, o.2.2]; omega)).symm, rfl, rfl⟩)
              · refine lv_iload_n hx_ hb_ dX11_dateOf_62 rfl (lv_at hl 0 rfl) ?_
                refine lv_iload_n hx_ hb_ dX11_dateOf_63 rfl (lv_at hl 1 rfl) ?_
                refine lv_iload_n hx_ hb_ dX11_dateOf_64 rfl (lv_at hl 2 rfl) ?_
                refine sk_SP E hV (As := [.int (sI y), .int (sI q)]) (rest := [.int (sI t2)]) (kX11_monthDays l_ G b_ M N y q (by omega) (by omega)) (va_cwS 2 S.2.2.2.2 gX11_dateOf_X11_monthDays rfl rfl rfl (by decide +kernel) ⟨Nat.le_of_ble_eq_true rfl, Nat.le_of_ble_eq_true rfl⟩) rfl rfl hl.1 (Nat.le_of_ble_eq_true rfl) dX11_dateOf_65 (c1 := 0) (s1 := 0) ⟨⟨rfl, rfl⟩, by decide, by decide⟩ (fun H locs hV => ?_)
                refine si_sub S dX11_dateOf_68 ?_
                refine lv_istore_n (lv' := [(1, .int (sI (t2 - (dim y q)))), (2, .int (sI y)), (3, .int (sI q))]) hx_ hb_ dX11_dateOf_69 rfl hl (by decide) rfl (fun ls hl => ?_)
                refine si_inc (lv' := [(3, .int (sI (q + 1))), (1, .int (sI (t2 - (dim y q)))), (2, .int (sI y))]) S dX11_dateOf_70 hl (k := 2) rfl (by decide) rfl (fun ls hl => ?_)
                refine lv_goto (tgt := 53) hx_ hb_ dX11_dateOf_73 (by decide) ?_
                exact ih53 (t2 - (dim y q)) (q + 1) _ _ _ (by omega) (by omega) (by have e := dA_s y q; omega) (by have e := dA_s y q; omega) hV (lv_sub hl [1, 2, 0] rfl)
          exact L53 _ t 1 _ _ _ (Nat.lt_succ_self _) (by omega) (by rw [dA_1]; omega) (by have e := dA_1 y; first | (rw [bI_t h11]; omega) | (rw [bI_f h11]; omega)) hV (lv_sub hl [1, 2, 0] rfl)
        · refine lv_iload_n hx_ hb_ dX11_dateOf_26 rfl (lv_at hl 0 rfl) ?_
          refine lv_iload_n hx_ hb_ dX11_dateOf_27 rfl (lv_at hl 1 rfl) ?_
          refine sk_SP E hV (As := [.int (sI y)]) (rest := [.int (sI t)]) (kX11_isLeap l_ G b_ M N y (by omega)) (va_cwS 1 S.2.2.2.2 gX11_dateOf_X11_isLeap rfl rfl rfl (by decide +kernel) ⟨Nat.le_of_ble_eq_true rfl, Nat.le_of_ble_eq_true rfl⟩) rfl rfl hl.1 (Nat.le_of_ble_eq_true rfl) dX11_dateOf_28 (c1 := 0) (s1 := 0) ⟨⟨rfl, rfl⟩, by decide, by decide⟩ (fun H locs hV => ?_)
          refine sq_eq (tgt := 40) S dX11_dateOf_31 (by decide) (fun _ => ?_) (fun c3 => absurd c3 (by exact h11))
          refine si_sipush S dX11_dateOf_40 (by decide) ?_
          refine si_sub S dX11_dateOf_43 ?_
          refine lv_istore_n (lv' := [(1, .int (sI (t - 365))), (2, .int (sI y))]) hx_ hb_ dX11_dateOf_44 rfl hl (by decide) rfl (fun ls hl => ?_)
          refine si_inc (lv' := [(2, .int (sI (y + 1))), (1, .int (sI (t - 365)))]) S dX11_dateOf_45 hl (k := 1) rfl (by decide) rfl (fun ls hl => ?_)
          refine lv_goto (tgt := 6) hx_ hb_ dX11_dateOf_48 (by decide) ?_
          exact ih6 (t - 365) (y + 1) _ _ _ (by omega) (by omega) (by have e := nyr_s y; first | (rw [bI_t h11] at e; omega) | (rw [bI_f h11] at e; omega)) hV (lv_sub hl [1, 0] rfl)
      · refine si_sipush S dX11_dateOf_14 (by decide) ?_
        refine lv_goto (tgt := 23) hx_ hb_ dX11_dateOf_17 (by decide) ?_
        refine sb_lt (tgt := 51) S dX11_dateOf_23 (by decide) (by omega) (fun c4 => ?_) (fun c4 => ?_)
        · refine si_const S dX11_dateOf_51 ?_
          refine lv_istore_n (lv' := [(3, .int (sI 1)), (1, .int (sI t)), (2, .int (sI y))]) hx_ hb_ dX11_dateOf_52 rfl hl (by decide) rfl (fun ls hl => ?_)
          have L53 : ∀ (fuel : Nat) (t2 : Int) (q : Int)  (H : Heap) (locs : List Loc) (ls : Array Slot), (t2.toNat) < fuel → (0 ≤ t2 ∧ 1 ≤ q ∧ q ≤ 12) → (t2 = n - (nyr y + 3652) - dA y q) → (t2 < 365 + bI (lpP y) - dA y q) → sV G b_ M N s_ H locs → lv_has ls 4 [(1, .int (sI t2)), (2, .int (sI y)), (3, .int (sI q))] → W p_ l_ e_ rmX11_dateOf s_ m_ args_ below_ meth_ c_ H locs 0 0 Q (F0 m_ 53 ls []) := by
            intro fuel
            induction fuel with
            | zero => intro t2 q H locs ls hmu; exact absurd hmu (Nat.not_lt_zero _)
            | succ fuel ih53 =>
              intro t2 q H locs ls hmu53 hv53_0 ht2 hlt  hV hl
              have dm := dim_b y q (by omega)
              have dm0 := dA_m y 1 q (by omega) (by omega) (by omega)
              rw [dA_1] at dm0
              have dm3 : q = 12 → dA y (q + 1) = dA y 13 := fun h => by rw [h]; rfl
              have d13 := dA_13 y
              have ds := dA_s y q
              have dm2 := dA_m y (q + 1) 13 (by omega) (by omega) (by omega)
              refine lv_iload_n hx_ hb_ dX11_dateOf_53 rfl (lv_at hl 0 rfl) ?_
              refine lv_iload_n hx_ hb_ dX11_dateOf_54 rfl (lv_at hl 1 rfl) ?_
              refine lv_iload_n hx_ hb_ dX11_dateOf_55 rfl (lv_at hl 2 rfl) ?_
              refine sk_SP E hV (As := [.int (sI y), .int (sI q)]) (rest := [.int (sI t2)]) (kX11_monthDays l_ G b_ M N y q (by omega) (by omega)) (va_cwS 2 S.2.2.2.2 gX11_dateOf_X11_monthDays rfl rfl rfl (by decide +kernel) ⟨Nat.le_of_ble_eq_true rfl, Nat.le_of_ble_eq_true rfl⟩) rfl rfl hl.1 (Nat.le_of_ble_eq_true rfl) dX11_dateOf_56 (c1 := 0) (s1 := 0) ⟨⟨rfl, rfl⟩, by decide, by decide⟩ (fun H locs hV => ?_)
              refine sb_lt (tgt := 76) S dX11_dateOf_59 (by decide) (by omega) (fun c5 => ?_) (fun c5 => ?_)
              · refine si_sipush S dX11_dateOf_76 (by decide) ?_
                refine lv_iload_n hx_ hb_ dX11_dateOf_79 rfl (lv_at hl 1 rfl) ?_
                refine si_mul S dX11_dateOf_80 ?_
                refine si_bipush S dX11_dateOf_81 (by decide) ?_
                refine lv_iload_n hx_ hb_ dX11_dateOf_83 rfl (lv_at hl 2 rfl) ?_
                refine si_mul S dX11_dateOf_84 ?_
                refine si_add S dX11_dateOf_85 ?_
                refine lv_iload_n hx_ hb_ dX11_dateOf_86 rfl (lv_at hl 0 rfl) ?_
                refine si_add S dX11_dateOf_87 ?_
                refine si_const S dX11_dateOf_88 ?_
                refine si_add S dX11_dateOf_89 ?_
                exact sr_i E hQ dX11_dateOf_90 ⟨Nat.le_of_ble_eq_true rfl, Nat.le_of_ble_eq_true rfl⟩ hV (⟨(dat_eq (by have o := dayI_o (y := y) (m := q) (t := t2) (by omega) (by omega) (by omega); unfold isDx; rw [o.1, o.2.1, o.2.2]; omega) (by have o := dayI_o (y := y) (m := q) (t := t2) (by omega) (by omega) (by omega); unfold dayI; rw [o.1, o.2.1, o.2.2]; omega)).symm, rfl, rfl⟩)
              · refine lv_iload_n hx_ hb_ dX11_dateOf_62 rfl (lv_at hl 0 rfl) ?_
                refine lv_iload_n hx_ hb_ dX11_dateOf_63 rfl (lv_at hl 1 rfl) ?_
                refine lv_iload_n hx_ hb_ dX11_dateOf_64 rfl (lv_at hl 2 rfl) ?_
                refine sk_SP E hV (As := [.int (sI y), .int (sI q)]) (rest := [.int (sI t2)]) (kX11_monthDays l_ G b_ M N y q (by omega) (by omega)) (va_cwS 2 S.2.2.2.2 gX11_dateOf_X11_monthDays rfl rfl rfl (by decide +kernel) ⟨Nat.le_of_ble_eq_true rfl, Nat.le_of_ble_eq_true rfl⟩) rfl rfl hl.1 (Nat.le_of_ble_eq_true rfl) dX11_dateOf_65 (c1 := 0) (s1 := 0) ⟨⟨rfl, rfl⟩, by decide, by decide⟩ (fun H locs hV => ?_)
                refine si_sub S dX11_dateOf_68 ?_
                refine lv_istore_n (lv' := [(1, .int (sI (t2 - (dim y q)))), (2, .int (sI y)), (3, .int (sI q))]) hx_ hb_ dX11_dateOf_69 rfl hl (by decide) rfl (fun ls hl => ?_)
                refine si_inc (lv' := [(3, .int (sI (q + 1))), (1, .int (sI (t2 - (dim y q)))), (2, .int (sI y))]) S dX11_dateOf_70 hl (k := 2) rfl (by decide) rfl (fun ls hl => ?_)
                refine lv_goto (tgt := 53) hx_ hb_ dX11_dateOf_73 (by decide) ?_
                exact ih53 (t2 - (dim y q)) (q + 1) _ _ _ (by omega) (by omega) (by have e := dA_s y q; omega) (by have e := dA_s y q; omega) hV (lv_sub hl [1, 2, 0] rfl)
          exact L53 _ t 1 _ _ _ (Nat.lt_succ_self _) (by omega) (by rw [dA_1]; omega) (by have e := dA_1 y; first | (rw [bI_t h11]; omega) | (rw [bI_f h11]; omega)) hV (lv_sub hl [1, 2, 0] rfl)
        · refine lv_iload_n hx_ hb_ dX11_dateOf_26 rfl (lv_at hl 0 rfl) ?_
          refine lv_iload_n hx_ hb_ dX11_dateOf_27 rfl (lv_at hl 1 rfl) ?_
          refine sk_SP E hV (As := [.int (sI y)]) (rest := [.int (sI t)]) (kX11_isLeap l_ G b_ M N y (by omega)) (va_cwS 1 S.2.2.2.2 gX11_dateOf_X11_isLeap rfl rfl rfl (by decide +kernel) ⟨Nat.le_of_ble_eq_true rfl, Nat.le_of_ble_eq_true rfl⟩) rfl rfl hl.1 (Nat.le_of_ble_eq_true rfl) dX11_dateOf_28 (c1 := 0) (s1 := 0) ⟨⟨rfl, rfl⟩, by decide, by decide⟩ (fun H locs hV => ?_)
          refine sq_eq (tgt := 40) S dX11_dateOf_31 (by decide) (fun c6 => absurd c6 (by exact fun q => q h11)) (fun _ => ?_)
          refine si_sipush S dX11_dateOf_34 (by decide) ?_
          refine lv_goto (tgt := 43) hx_ hb_ dX11_dateOf_37 (by decide) ?_
          refine si_sub S dX11_dateOf_43 ?_
          refine lv_istore_n (lv' := [(1, .int (sI (t - 366))), (2, .int (sI y))]) hx_ hb_ dX11_dateOf_44 rfl hl (by decide) rfl (fun ls hl => ?_)
          refine si_inc (lv' := [(2, .int (sI (y + 1))), (1, .int (sI (t - 366)))]) S dX11_dateOf_45 hl (k := 1) rfl (by decide) rfl (fun ls hl => ?_)
          refine lv_goto (tgt := 6) hx_ hb_ dX11_dateOf_48 (by decide) ?_
          exact ih6 (t - 366) (y + 1) _ _ _ (by omega) (by omega) (by have e := nyr_s y; first | (rw [bI_t h11] at e; omega) | (rw [bI_f h11] at e; omega)) hV (lv_sub hl [1, 0] rfl)
  exact L6 _ n 1890 _ _ _ (Nat.lt_succ_self _) (by omega) (by omega) hV (lv_sub hl [1, 0] rfl)
