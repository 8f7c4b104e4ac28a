theorem dayI_ny {y : Int} (h : 0 ≤ y) : dayI (10000 * y + 101) = nyr y := by
  unfold dayI
  rw [show (10000 * y + 101) / 10000 = y by omega, show (10000 * y + 101) / 100 % 100 = 1 by omega, show (10000 * y + 101) % 100 = 1 by omega, dA_1]
  omega
theorem dayI_sy {y : Int} (h : 0 ≤ y) : dayI (10000 * y + 1231) = nyr (y + 1) - 1 := by
  have h1 := dA_s y 12
  have h2 := dA_13 y
  have h3 := nyr_s y
  have h4 : dim y 12 = 31 := by rw [dim_v y 12 (by omega), if_neg (by omega), if_neg (by omega)]
  unfold dayI
  rw [show (10000 * y + 1231) / 10000 = y by omega, show (10000 * y + 1231) / 100 % 100 = 12 by omega, show (10000 * y + 1231) % 100 = 31 by omega]
  rw [show (12 + 1 : Int) = 13 by omega] at h1
  omega
theorem dayI_end : dayI 21991231 = 109572 := by
  have h := dayI_sy (y := 2199) (by omega)
  rw [show (10000 * 2199 + 1231 : Int) = 21991231 by omega, show (2199 + 1 : Int) = 2200 by omega, nyr_2200] at h
  omega
/-- days of a stretch in a year -/
def dnI (x n y : Int) : Int := max 0 (min (x + n - 1) (nyr (y + 1) + 3651) - max x (nyr y + 3652) + 1)
theorem dnI_r {x n y : Int} (h : 0 ≤ n) : 0 ≤ dnI x n y ∧ dnI x n y ≤ n := by unfold dnI; omega
def liT (f : sF) (s y k : Int) : Int := if f (464 + k) = s then f (524 + k) * dnI (f (484 + k)) (f (504 + k)) y else 0
def liI (f : sF) (s y : Int) : Int := isum (f 572) (liT f s y)
theorem mul_b {a b A B : Int} (ha : 0 ≤ a ∧ a ≤ A) (hb : 0 ≤ b ∧ b ≤ B) : 0 ≤ a * b ∧ a * b ≤ A * B :=
  ⟨Int.mul_nonneg ha.1 hb.1, Int.le_trans (Int.mul_le_mul_of_nonneg_right ha.2 hb.1) (Int.mul_le_mul_of_nonneg_left hb.2 (by omega))⟩
theorem liT_r {f : sF} (h : sOk f) (s y k : Int) (a : 0 ≤ k) (b : k < f 572) : 0 ≤ liT f s y k ∧ liT f s y k ≤ 400000 := by
  have h1 := sOk_W h k a b
  have h2 := dnI_r (x := f (484 + k)) (n := f (504 + k)) (y := y) (by omega)
  have h3 := mul_b (a := f (524 + k)) (A := 1000) (b := dnI (f (484 + k)) (f (504 + k)) y) (B := 400) (by omega) (by omega)
  unfold liT
  split <;> omega
theorem li_r {f : sF} (h : sOk f) (s y n : Int) (a : 0 ≤ n) (b : n ≤ f 572) : 0 ≤ isum n (liT f s y) ∧ isum n (liT f s y) ≤ 8000000 := by
  have := sOk_N h
  exact isum_bn (hi := 400000) (N := 20) ⟨a, by omega⟩ (by omega) fun k q r => liT_r h s y k q (by omega)
theorem liI_r {f : sF} (h : sOk f) (s y : Int) : 0 ≤ liI f s y ∧ liI f s y ≤ 8000000 := by
  have := sOk_N h
  exact li_r h s y (f 572) (by omega) (by omega)
/-- a show more, from the day x of the year Y on -/
def cbP (f : sF) (s Y x n l : Int) : Prop := x + n - 1 ≤ 113224 ∧ ∀ y, Y ≤ y → y ≤ Y + 2 → liI f s y + l * dnI x n y ≤ f (60 + s)
noncomputable def mdI (f : sF) (s Y x l : Int) : Int := if idx (fun n => ¬ cbP f s Y x (n + 1) l) 400 = -1 then 400 else idx (fun n => ¬ cbP f s Y x (n + 1) l) 400
def shF (f : sF) (s x n l : Int) : sF := iup (iup (iup (iup (iup f (464 + f 572) s) (484 + f 572) x) (504 + f 572) n) (524 + f 572) l) 572 (f 572 + 1)
def slF (f : sF) (s l : Int) : sF := iup f (60 + s) l
theorem iand_b1 {P : Prop} : iand (bI P) 1 = bI P := by
  by_cases p : P
  · rw [bI_t p]; decide
  · rw [bI_f p]; decide
theorem iand_b0 {P : Prop} : iand (bI P) 0 = 0 := by
  by_cases p : P
  · rw [bI_t p]; decide
  · rw [bI_f p]; decide

abbrev rmX11_daysIn : Room := { frames := 4, cells := 0, slots := 0, locals := 103 }
set_option maxHeartbeats 4000000 in
set_option maxRecDepth 100000 in
theorem kX11_daysIn (l_ : Launch) (G : sG) (b_ : Nat) (M : sM) (N : Nat) (x n y : Int) (hr : 3000 ≤ x ∧ x ≤ 200000 ∧ 1 ≤ n ∧ n ≤ 400) (hy : 1890 ≤ y ∧ y ≤ 2205) : cP l_ yX11_daysIn wsX11_daysIn rmX11_daysIn G b_ M N [.int (sI x), .int (sI n), .int (sI y)] (dnI x n y) := by
  refine sE.ofI (cc := cX11_daysIn) (nL := 7) (ret := (some .int)) (by decide) rfl (Nat.le_of_ble_eq_true rfl) ?_
  intro p_ e_ s_ m_ args_ below_ meth_ c_ ls Q hQ E hl
  have E : sE p_ l_ e_ rmX11_daysIn s_ m_ args_ below_ meth_ c_ cX11_daysIn 7 wsX11_daysIn RX11 "daysIn" (some .int) G b_ M N := E
  have S := E.1
  have hx_ := S.1
  have hb_ := S.2.1
  have hK := E.2.2.2.2.1
  have hV := E.2.2.2.2.2.2
  have hl : lv_has ls 7 [(0, .int (sI x)), (1, .int (sI n)), (2, .int (sI y))] := hl
  have m1 := nyr_m 1890 y (by omega)
  have m2 := nyr_s y
  have m3 := bI_r (c := lpP y)
  have m4 := nyr_1890
  have e1 := dayI_ny (y := y) (by omega)
  have e2 := dayI_sy (y := y) (by omega)
  refine si_sipush S dX11_daysIn_0 (by decide) ?_
  refine lv_iload_n hx_ hb_ dX11_daysIn_3 rfl (lv_at hl 2 rfl) ?_
  refine si_mul S dX11_daysIn_4 ?_
  refine si_bipush S dX11_daysIn_5 (by decide) ?_
  refine si_add S dX11_daysIn_7 ?_
  refine sk_SP E hV (As := [.int (sI ((10000 * y) + 101))]) (rest := []) (kX11_dayOf l_ G b_ M N ((10000 * y) + 101) (by omega)) (va_cwS 1 S.2.2.2.2 gX11_daysIn_X11_dayOf rfl rfl rfl (by decide +kernel) ⟨Nat.le_of_ble_eq_true rfl, Nat.le_of_ble_eq_true rfl⟩) rfl rfl hl.1 (Nat.le_of_ble_eq_true rfl) dX11_daysIn_8 (c1 := 0) (s1 := 0) ⟨⟨rfl, rfl⟩, by decide, by decide⟩ (fun H locs hV => ?_)
  refine lv_istore_n (lv' := [(3, .int (sI (dayI ((10000 * y) + 101) + 3652))), (0, .int (sI x)), (1, .int (sI n)), (2, .int (sI y))]) hx_ hb_ dX11_daysIn_11 rfl hl (by decide) rfl (fun ls hl => ?_)
  refine si_sipush S dX11_daysIn_12 (by decide) ?_
  refine lv_iload_n hx_ hb_ dX11_daysIn_15 rfl (lv_at hl 3 rfl) ?_
  refine si_mul S dX11_daysIn_16 ?_
  refine si_sipush S dX11_daysIn_17 (by decide) ?_
  refine si_add S dX11_daysIn_20 ?_
  refine sk_SP E hV (As := [.int (sI ((10000 * y) + 1231))]) (rest := []) (kX11_dayOf l_ G b_ M N ((10000 * y) + 1231) (by omega)) (va_cwS 1 S.2.2.2.2 gX11_daysIn_X11_dayOf rfl rfl rfl (by decide +kernel) ⟨Nat.le_of_ble_eq_true rfl, Nat.le_of_ble_eq_true rfl⟩) rfl rfl hl.1 (Nat.le_of_ble_eq_true rfl) dX11_daysIn_21 (c1 := 0) (s1 := 0) ⟨⟨rfl, rfl⟩, by decide, by decide⟩ (fun H locs hV => ?_)
  refine lv_istore (lv' := [(4, .int (sI (dayI ((10000 * y) + 1231) + 3652))), (3, .int (sI (dayI ((10000 * y) + 101) + 3652))), (0, .int (sI x)), (1, .int (sI n)), (2, .int (sI y))]) hx_ hb_ dX11_daysIn_24 hl (by decide) rfl (fun ls hl => ?_)
  refine lv_iload_n hx_ hb_ dX11_daysIn_26 rfl (lv_at hl 2 rfl) ?_
  refine lv_iload_n hx_ hb_ dX11_daysIn_27 rfl (lv_at hl 1 rfl) ?_
  refine sb_le (tgt := 35) S dX11_daysIn_28 (by decide) (by omega) (fun c1 => ?_) (fun c1 => ?_)
  · refine lv_iload_n hx_ hb_ dX11_daysIn_35 rfl (lv_at hl 1 rfl) ?_
    refine lv_istore (lv' := [(5, .int (sI (dayI ((10000 * y) + 101) + 3652))), (4, .int (sI (dayI ((10000 * y) + 1231) + 3652))), (3, .int (sI (dayI ((10000 * y) + 101) + 3652))), (0, .int (sI x)), (1, .int (sI n)), (2, .int (sI y))]) hx_ hb_ dX11_daysIn_36 hl (by decide) rfl (fun ls hl => ?_)
    refine lv_iload_n hx_ hb_ dX11_daysIn_38 rfl (lv_at hl 3 rfl) ?_
    refine lv_iload_n hx_ hb_ dX11_daysIn_39 rfl (lv_at hl 4 rfl) ?_
    refine si_add S dX11_daysIn_40 ?_
    refine si_const S dX11_daysIn_41 ?_
    refine si_sub S dX11_daysIn_42 ?_
    refine lv_iload hx_ hb_ dX11_daysIn_43 (lv_at hl 1 rfl) ?_
    refine sb_ge (tgt := 56) S dX11_daysIn_45 (by decide) (by omega) (fun c2 => ?_) (fun c2 => ?_)
    · refine lv_iload hx_ hb_ dX11_daysIn_56 (lv_at hl 1 rfl) ?_
      refine lv_istore (lv' := [(6, .int (sI (dayI ((10000 * y) + 1231) + 3652))), (5, .int (sI (dayI ((10000 * y) + 101) + 3652))), (4, .int (sI (dayI ((10000 * y) + 1231) + 3652))), (3, .int (sI (dayI ((10000 * y) + 101) + 3652))), (0, .int (sI x)), (1, .int (sI n)), (2, .int (sI y))]) hx_ hb_ dX11_daysIn_58 hl (by decide) rfl (fun ls hl => ?_)
      refine lv_iload hx_ hb_ dX11_daysIn_60 (lv_at hl 0 rfl) ?_
      refine lv_iload hx_ hb_ dX11_daysIn_62 (lv_at hl 1 rfl) ?_
      refine sb_ge (tgt := 71) S dX11_daysIn_64 (by decide) (by omega) (fun c3 => ?_) (fun c3 => ?_)
      · refine lv_iload hx_ hb_ dX11_daysIn_71 (lv_at hl 0 rfl) ?_
        refine lv_iload hx_ hb_ dX11_daysIn_73 (lv_at hl 1 rfl) ?_
        refine si_sub S dX11_daysIn_75 ?_
        refine si_const S dX11_daysIn_76 ?_
        refine si_add S dX11_daysIn_77 ?_
        exact sr_i E hQ dX11_daysIn_78 ⟨Nat.le_of_ble_eq_true rfl, Nat.le_of_ble_eq_true rfl⟩ hV (⟨by unfold dnI; omega, rfl, rfl⟩)
      · refine si_const S dX11_daysIn_67 ?_
        refine lv_goto (tgt := 78) hx_ hb_ dX11_daysIn_68 (by decide) ?_
        exact sr_i E hQ dX11_daysIn_78 ⟨Nat.le_of_ble_eq_true rfl, Nat.le_of_ble_eq_true rfl⟩ hV (⟨by unfold dnI; omega, rfl, rfl⟩)
    · refine lv_iload_n hx_ hb_ dX11_daysIn_48 rfl (lv_at hl 3 rfl) ?_
      refine lv_iload_n hx_ hb_ dX11_daysIn_49 rfl (lv_at hl 4 rfl) ?_
      refine si_add S dX11_daysIn_50 ?_
      refine si_const S dX11_daysIn_51 ?_
      refine si_sub S dX11_daysIn_52 ?_
      refine lv_goto (tgt := 58) hx_ hb_ dX11_daysIn_53 (by decide) ?_
      refine lv_istore (lv' := [(6, .int (sI ((x + n) - 1))), (5, .int (sI (dayI ((10000 * y) + 101) + 3652))), (4, .int (sI (dayI ((10000 * y) + 1231) + 3652))), (3, .int (sI (dayI ((10000 * y) + 101) + 3652))), (0, .int (sI x)), (1, .int (sI n)), (2, .int (sI y))]) hx_ hb_ dX11_daysIn_58 hl (by decide) rfl (fun ls hl => ?_)
      refine lv_iload hx_ hb_ dX11_daysIn_60 (lv_at hl 0 rfl) ?_
      refine lv_iload hx_ hb_ dX11_daysIn_62 (lv_at hl 1 rfl) ?_
      refine sb_ge (tgt := 71) S dX11_daysIn_64 (by decide) (by omega) (fun c4 => ?_) (fun c4 => ?_)
      · refine lv_iload hx_ hb_ dX11_daysIn_71 (lv_at hl 0 rfl) ?_
        refine lv_iload hx_ hb_ dX11_daysIn_73 (lv_at hl 1 rfl) ?_
        refine si_sub S dX11_daysIn_75 ?_
        refine si_const S dX11_daysIn_76 ?_
        refine si_add S dX11_daysIn_77 ?_
        exact sr_i E hQ dX11_daysIn_78 ⟨Nat.le_of_ble_eq_true rfl, Nat.le_of_ble_eq_true rfl⟩ hV (⟨by unfold dnI; omega, rfl, rfl⟩)
      · refine si_const S dX11_daysIn_67 ?_
        refine lv_goto (tgt := 78) hx_ hb_ dX11_daysIn_68 (by decide) ?_
        exact sr_i E hQ dX11_daysIn_78 ⟨Nat.le_of_ble_eq_true rfl, Nat.le_of_ble_eq_true rfl⟩ hV (⟨by unfold dnI; omega, rfl, rfl⟩)
  · refine lv_iload_n hx_ hb_ dX11_daysIn_31 rfl (lv_at hl 2 rfl) ?_
    refine lv_goto (tgt := 36) hx_ hb_ dX11_daysIn_32 (by decide) ?_
    refine lv_istore (lv' := [(5, .int (sI x)), (4, .int (sI (dayI ((10000 * y) + 1231) + 3652))), (3, .int (sI (dayI ((10000 * y) + 101) + 3652))), (0, .int (sI x)), (1, .int (sI n)), (2, .int (sI y))]) hx_ hb_ dX11_daysIn_36 hl (by decide) rfl (fun ls hl => ?_)
    refine lv_iload_n hx_ hb_ dX11_daysIn_38 rfl (lv_at hl 3 rfl) ?_
    refine lv_iload_n hx_ hb_ dX11_daysIn_39 rfl (lv_at hl 4 rfl) ?_
    refine si_add S dX11_daysIn_40 ?_
    refine si_const S dX11_daysIn_41 ?_
    refine si_sub S dX11_daysIn_42 ?_
    refine lv_iload hx_ hb_ dX11_daysIn_43 (lv_at hl 1 rfl) ?_
    refine sb_ge (tgt := 56) S dX11_daysIn_45 (by decide) (by omega) (fun c5 => ?_) (fun c5 => ?_)
    · refine lv_iload hx_ hb_ dX11_daysIn_56 (lv_at hl 1 rfl) ?_
      refine lv_istore (lv' := [(6, .int (sI (dayI ((10000 * y) + 1231) + 3652))), (5, .int (sI x)), (4, .int (sI (dayI ((10000 * y) + 1231) + 3652))), (3, .int (sI (dayI ((10000 * y) + 101) + 3652))), (0, .int (sI x)), (1, .int (sI n)), (2, .int (sI y))]) hx_ hb_ dX11_daysIn_58 hl (by decide) rfl (fun ls hl => ?_)
      refine lv_iload hx_ hb_ dX11_daysIn_60 (lv_at hl 0 rfl) ?_
      refine lv_iload hx_ hb_ dX11_daysIn_62 (lv_at hl 1 rfl) ?_
      refine sb_ge (tgt := 71) S dX11_daysIn_64 (by decide) (by omega) (fun c6 => ?_) (fun c6 => ?_)
      · refine lv_iload hx_ hb_ dX11_daysIn_71 (lv_at hl 0 rfl) ?_
        refine lv_iload hx_ hb_ dX11_daysIn_73 (lv_at hl 1 rfl) ?_
        refine si_sub S dX11_daysIn_75 ?_
        refine si_const S dX11_daysIn_76 ?_
        refine si_add S dX11_daysIn_77 ?_
        exact sr_i E hQ dX11_daysIn_78 ⟨Nat.le_of_ble_eq_true rfl, Nat.le_of_ble_eq_true rfl⟩ hV (⟨by unfold dnI; omega, rfl, rfl⟩)
      · refine si_const S dX11_daysIn_67 ?_
        refine lv_goto (tgt := 78) hx_ hb_ dX11_daysIn_68 (by decide) ?_
        exact sr_i E hQ dX11_daysIn_78 ⟨Nat.le_of_ble_eq_true rfl, Nat.le_of_ble_eq_true rfl⟩ hV (⟨by unfold dnI; omega, rfl, rfl⟩)
    · refine lv_iload_n hx_ hb_ dX11_daysIn_48 rfl (lv_at hl 3 rfl) ?_
      refine lv_iload_n hx_ hb_ dX11_daysIn_49 rfl (lv_at hl 4 rfl) ?_
      refine si_add S dX11_daysIn_50 ?_
      refine si_const S dX11_daysIn_51 ?_
      refine si_sub S dX11_daysIn_52 ?_
      refine lv_goto (tgt := 58) hx_ hb_ dX11_daysIn_53 (by decide) ?_
      refine lv_istore (lv' := [(6, .int (sI ((x + n) - 1))), (5, .int (sI x)), (4, .int (sI (dayI ((10000 * y) + 1231) + 3652))), (3, .int (sI (dayI ((10000 * y) + 101) + 3652))), (0, .int (sI x)), (1, .int (sI n)), (2, .int (sI y))]) hx_ hb_ dX11_daysIn_58 hl (by decide) rfl (fun ls hl => ?_)
      refine lv_iload hx_ hb_ dX11_daysIn_60 (lv_at hl 0 rfl) ?_
      refine lv_iload hx_ hb_ dX11_daysIn_62 (lv_at hl 1 rfl) ?_
      refine sb_ge (tgt := 71) S dX11_daysIn_64 (by decide) (by omega) (fun c7 => ?_) (fun c7 => ?_)
      · refine lv_iload hx_ hb_ dX11_daysIn_71 (lv_at hl 0 rfl) ?_
        refine lv_iload hx_ hb_ dX11_daysIn_73 (lv_at hl 1 rfl) ?_
        refine si_sub S dX11_daysIn_75 ?_
        refine si_const S dX11_daysIn_76 ?_
        refine si_add S dX11_daysIn_77 ?_
        exact sr_i E hQ dX11_daysIn_78 ⟨Nat.le_of_ble_eq_true rfl, Nat.le_of_ble_eq_true rfl⟩ hV (⟨by unfold dnI; omega, rfl, rfl⟩)
      · refine si_const S dX11_daysIn_67 ?_
        refine lv_goto (tgt := 78) hx_ hb_ dX11_daysIn_68 (by decide) ?_
        exact sr_i E hQ dX11_daysIn_78 ⟨Nat.le_of_ble_eq_true rfl, Nat.le_of_ble_eq_true rfl⟩ hV (⟨by unfold dnI; omega, rfl, rfl⟩)

abbrev rmX11_lightIn : Room := { frames := 5, cells := 0, slots := 0, locals := 129 }
set_option maxHeartbeats 4000000 in
set_option maxRecDepth 100000 in
theorem kX11_lightIn (l_ : Launch) (G : sG) (b_ : Nat) (M : sM) (N : Nat) (m : Nat) (th ch tn ea sn nm wn : Int) (f : sF) (s y : Int) (hm0 : M m = some (mO m th ch tn ea sn nm wn)) (hm1 : M (m + 1) = some (sArr G 574 f)) (hok : sOk f) (hs : sR s) (hy : 1890 ≤ y ∧ y ≤ 2205) : cP l_ yX11_lightIn wsX11_lightIn rmX11_lightIn G b_ M N [.ref m, .int (sI s), .int (sI y)] (liI f s y) := by
  refine sE.ofI (cc := cX11_lightIn) (nL := 5) (ret := (some .int)) (by decide) rfl (Nat.le_of_ble_eq_true rfl) ?_
  intro p_ e_ s_ m_ args_ below_ meth_ c_ ls Q hQ E hl
  have E : sE p_ l_ e_ rmX11_lightIn s_ m_ args_ below_ meth_ c_ cX11_lightIn 5 wsX11_lightIn RX11 "lightIn" (some .int) G b_ M N := E
  have S := E.1
  have hx_ := S.1
  have hb_ := S.2.1
  have hK := E.2.2.2.2.1
  have hV := E.2.2.2.2.2.2
  have hl : lv_has ls 5 [(0, .ref m), (1, .int (sI s)), (2, .int (sI y))] := hl
  have inX11_ : ∀ w ∈ wsX110, w ∈ wsX11_lightIn := fun _ h => List.mem_cons_of_mem _ (List.mem_append_right _ h)
  have kn0 := sOk_N hok
  refine si_const S dX11_lightIn_0 ?_
  refine lv_istore_n (lv' := [(3, .int (sI 0)), (0, .ref m), (1, .int (sI s)), (2, .int (sI y))]) hx_ hb_ dX11_lightIn_1 rfl hl (by decide) rfl (fun ls hl => ?_)
  refine si_const S dX11_lightIn_2 ?_
  refine lv_istore (lv' := [(4, .int (sI 0)), (3, .int (sI 0)), (0, .ref m), (1, .int (sI s)), (2, .int (sI y))]) hx_ hb_ dX11_lightIn_3 hl (by decide) rfl (fun ls hl => ?_)
  have L5 : ∀ (fuel : Nat) (c : Int) (i : Int)  (H : Heap) (locs : List Loc) (ls : Array Slot), ((f 572 - i).toNat) < fuel → (0 ≤ i ∧ i ≤ f 572) → (c = isum i (liT f s y)) → sV G b_ M N s_ H locs → lv_has ls 5 [(0, .ref m), (1, .int (sI s)), (2, .int (sI y)), (3, .int (sI c)), (4, .int (sI i))] → W p_ l_ e_ rmX11_lightIn s_ m_ args_ below_ meth_ c_ H locs 0 0 Q (F0 m_ 5 ls []) := by
    intro fuel
    induction fuel with
    | zero => intro c i H locs ls hmu; exact absurd hmu (Nat.not_lt_zero _)
    | succ fuel ih5 =>
      intro c i H locs ls hmu5 hv5_0 hc  hV hl
      refine lv_iload hx_ hb_ dX11_lightIn_5 (lv_at hl 4 rfl) ?_
      refine lv_aload_n hx_ hb_ dX11_lightIn_7 rfl (lv_at hl 0 rfl) ?_
      refine sc_get (ci := 9) (C := RX11) (T := TX11) (n := 22) S hK hV inX11_ hm0 rfl 1 (by decide) (S.2.2.2.2 _ (List.mem_of_getElem? (i := 1) rfl)) rfl rfl dX11_lightIn_8 ?_
      refine si_sipush S dX11_lightIn_11 (by decide) ?_
      refine sc_iald S hK hV hm1 (by omega) dX11_lightIn_14 ?_
      refine sb_ge (tgt := 80) S dX11_lightIn_15 (by decide) (by omega) (fun c1 => ?_) (fun c1 => ?_)
      · refine lv_iload_n hx_ hb_ dX11_lightIn_80 rfl (lv_at hl 3 rfl) ?_
        exact sr_i E hQ dX11_lightIn_81 ⟨Nat.le_of_ble_eq_true rfl, Nat.le_of_ble_eq_true rfl⟩ hV (⟨by unfold liI; rw [hc, show i = f 572 by omega], rfl, rfl⟩)
      · refine lv_aload_n hx_ hb_ dX11_lightIn_18 rfl (lv_at hl 0 rfl) ?_
        refine sc_get (ci := 9) (C := RX11) (T := TX11) (n := 22) S hK hV inX11_ hm0 rfl 1 (by decide) (S.2.2.2.2 _ (List.mem_of_getElem? (i := 1) rfl)) rfl rfl dX11_lightIn_19 ?_
        refine si_sipush S dX11_lightIn_22 (by decide) ?_
        refine lv_iload hx_ hb_ dX11_lightIn_25 (lv_at hl 4 rfl) ?_
        refine si_add S dX11_lightIn_27 ?_
        refine sc_iald S hK hV hm1 (by omega) dX11_lightIn_28 ?_
        have kn2 : 0 ≤ f (464 + i) ∧ f (464 + i) < f 568 := (sOk_W hok i (by omega) (by omega)).1
        refine lv_iload_n hx_ hb_ dX11_lightIn_29 rfl (lv_at hl 1 rfl) ?_
        refine sb_ne (tgt := 74) S dX11_lightIn_30 (by decide) (by omega) (fun c3 => ?_) (fun c3 => ?_)
        · refine si_inc (lv' := [(4, .int (sI (i + 1))), (0, .ref m), (1, .int (sI s)), (2, .int (sI y)), (3, .int (sI c))]) S dX11_lightIn_74 hl (k := 4) rfl (by decide) rfl (fun ls hl => ?_)
          refine lv_goto (tgt := 5) hx_ hb_ dX11_lightIn_77 (by decide) ?_
          exact ih5 c (i + 1) _ _ _ (by omega) (by omega) (by have e := isum_s (liT f s y) (show 0 ≤ i by omega); have e2 : liT f s y i = if f (464 + i) = s then f (524 + i) * dnI (f (484 + i)) (f (504 + i)) y else 0 := rfl; split at e2 <;> omega) hV (lv_sub hl [1, 2, 3, 4, 0] rfl)
        · refine lv_iload_n hx_ hb_ dX11_lightIn_33 rfl (lv_at hl 3 rfl) ?_
          refine lv_aload_n hx_ hb_ dX11_lightIn_34 rfl (lv_at hl 0 rfl) ?_
          refine sc_get (ci := 9) (C := RX11) (T := TX11) (n := 22) S hK hV inX11_ hm0 rfl 1 (by decide) (S.2.2.2.2 _ (List.mem_of_getElem? (i := 1) rfl)) rfl rfl dX11_lightIn_35 ?_
          refine si_sipush S dX11_lightIn_38 (by decide) ?_
          refine lv_iload hx_ hb_ dX11_lightIn_41 (lv_at hl 4 rfl) ?_
          refine si_add S dX11_lightIn_43 ?_
          refine sc_iald S hK hV hm1 (by omega) dX11_lightIn_44 ?_
          have kn4 : 1 ≤ f (524 + i) ∧ f (524 + i) ≤ 1000 := (sOk_W hok i (by omega) (by omega)).2.2.2.1
          refine lv_aload_n hx_ hb_ dX11_lightIn_45 rfl (lv_at hl 0 rfl) ?_
          refine sc_get (ci := 9) (C := RX11) (T := TX11) (n := 22) S hK hV inX11_ hm0 rfl 1 (by decide) (S.2.2.2.2 _ (List.mem_of_getElem? (i := 1) rfl)) rfl rfl dX11_lightIn_46 ?_
          refine si_sipush S dX11_lightIn_49 (by decide) ?_
          refine lv_iload hx_ hb_ dX11_lightIn_52 (lv_at hl 4 rfl) ?_
          refine si_add S dX11_lightIn_54 ?_
          refine sc_iald S hK hV hm1 (by omega) dX11_lightIn_55 ?_
          have kn5 : 3652 ≤ f (484 + i) ∧ f (484 + i) ≤ 113224 := (sOk_W2 hok i (by omega) (by omega))
          refine lv_aload_n hx_ hb_ dX11_lightIn_56 rfl (lv_at hl 0 rfl) ?_
          refine sc_get (ci := 9) (C := RX11) (T := TX11) (n := 22) S hK hV inX11_ hm0 rfl 1 (by decide) (S.2.2.2.2 _ (List.mem_of_getElem? (i := 1) rfl)) rfl rfl dX11_lightIn_57 ?_
          refine si_sipush S dX11_lightIn_60 (by decide) ?_
          refine lv_iload hx_ hb_ dX11_lightIn_63 (lv_at hl 4 rfl) ?_
          refine si_add S dX11_lightIn_65 ?_
          refine sc_iald S hK hV hm1 (by omega) dX11_lightIn_66 ?_
          have kn6 : 1 ≤ f (504 + i) ∧ f (504 + i) ≤ 400 := (sOk_W hok i (by omega) (by omega)).2.2.1
          refine lv_iload_n hx_ hb_ dX11_lightIn_67 rfl (lv_at hl 2 rfl) ?_
          refine sk_SP E hV (As := [.int (sI (f (484 + i))), .int (sI (f (504 + i))), .int (sI y)]) (rest := [.int (sI (f (524 + i))), .int (sI c)]) (kX11_daysIn l_ G b_ M N (f (484 + i)) (f (504 + i)) y (by omega) (by omega)) (va_cwS 3 S.2.2.2.2 gX11_lightIn_X11_daysIn rfl rfl rfl (by decide +kernel) ⟨Nat.le_of_ble_eq_true rfl, Nat.le_of_ble_eq_true rfl⟩) rfl rfl hl.1 (Nat.le_of_ble_eq_true rfl) dX11_lightIn_68 (c1 := 0) (s1 := 0) ⟨⟨rfl, rfl⟩, by decide, by decide⟩ (fun H locs hV => ?_)
          refine si_mul S dX11_lightIn_71 ?_
          refine si_add S dX11_lightIn_72 ?_
          refine lv_istore_n (lv' := [(3, .int (sI (c + ((f (524 + i)) * (dnI (f (484 + i)) (f (504 + i)) y))))), (0, .ref m), (1, .int (sI s)), (2, .int (sI y)), (4, .int (sI i))]) hx_ hb_ dX11_lightIn_73 rfl hl (by decide) rfl (fun ls hl => ?_)
          refine si_inc (lv' := [(4, .int (sI (i + 1))), (3, .int (sI (c + ((f (524 + i)) * (dnI (f (484 + i)) (f (504 + i)) y))))), (0, .ref m), (1, .int (sI s)), (2, .int (sI y))]) S dX11_lightIn_74 hl (k := 4) rfl (by decide) rfl (fun ls hl => ?_)
          refine lv_goto (tgt := 5) hx_ hb_ dX11_lightIn_77 (by decide) ?_
          exact ih5 (c + ((f (524 + i)) * (dnI (f (484 + i)) (f (504 + i)) y))) (i + 1) _ _ _ (by omega) (by omega) (by have e := isum_s (liT f s y) (show 0 ≤ i by omega); have e2 : liT f s y i = if f (464 + i) = s then f (524 + i) * dnI (f (484 + i)) (f (504 + i)) y else 0 := rfl; split at e2 <;> omega) hV (lv_sub hl [2, 3, 4, 1, 0] rfl)
  exact L5 _ 0 0 _ _ _ (Nat.lt_succ_self _) (by omega) (rfl) hV (lv_sub hl [2, 3, 4, 1, 0] rfl)

abbrev rmX11_setLight : Room := { frames := 6, cells := 0, slots := 0, locals := 153 }
set_option maxHeartbeats 4000000 in
set_option maxRecDepth 100000 in
theorem kX11_setLight (l_ : Launch) (G : sG) (b_ : Nat) (M : sM) (N : Nat) (m : Nat) (th ch tn ea sn nm wn : Int) (f : sF) (fs : Int → sF) (s l : Int) (hm0 : M m = some (mO m th ch tn ea sn nm wn)) (hm1 : M (m + 1) = some (sArr G 574 f)) (hsv : svC G M (m + 2) ch fs) (hok : sOk f) (hch : 0 ≤ ch ∧ ch ≤ 15) (hr : sR s ∧ sR l) : cI l_ yX11_setLight wsX11_setLight rmX11_setLight G b_ M N [.ref m, .int (sI s), .int (sI l)] (fun z_ M1 N1 => N1 = N ∧ (∀ x : Nat, ¬ (x = m) → ¬ (x = m + 1) → ¬ (x = m + 2) → M1 x = M x) ∧ (((¬ (0 ≤ s ∧ s < f 568)) ∧ z_ = 0 ∧ M1 m = some (mO m 1 ch tn ea sn nm wn) ∧ M1 (m + 1) = some (sArr G 574 f) ∧ svC G M1 (m + 2) ch fs) ∨ (((0 ≤ s ∧ s < f 568) ∧ ¬ (0 ≤ l ∧ l ≤ 100000)) ∧ z_ = 0 ∧ M1 m = some (mO m 2 ch tn ea sn nm wn) ∧ M1 (m + 1) = some (sArr G 574 f) ∧ svC G M1 (m + 2) ch fs) ∨ (((0 ≤ s ∧ s < f 568) ∧ (0 ≤ l ∧ l ≤ 100000) ∧ ¬ ∀ y, 1900 ≤ y → y < 2200 → liI f s y ≤ l) ∧ z_ = 0 ∧ M1 m = some (mO m 3 ch tn ea sn nm wn) ∧ M1 (m + 1) = some (sArr G 574 f) ∧ svC G M1 (m + 2) ch fs) ∨ (((0 ≤ s ∧ s < f 568) ∧ (0 ≤ l ∧ l ≤ 100000) ∧ ∀ y, 1900 ≤ y → y < 2200 → liI f s y ≤ l) ∧ z_ = f (60 + s) ∧ M1 m = some (mO m 0 (chn ch) tn ea sn nm wn) ∧ M1 (m + 1) = some (sArr G 574 (slF f s l)) ∧ svC G M1 (m + 2) (chn ch) (fsn ch fs f)))) := by
  refine sE.ofI (cc := cX11_setLight) (nL := 5) (ret := (some .int)) (by decide) rfl (Nat.le_of_ble_eq_true rfl) ?_
  intro p_ e_ s_ m_ args_ below_ meth_ c_ ls Q hQ E hl
  have E : sE p_ l_ e_ rmX11_setLight s_ m_ args_ below_ meth_ c_ cX11_setLight 5 wsX11_setLight RX11 "setLight" (some .int) G b_ M N := E
  have S := E.1
  have hx_ := S.1
  have hb_ := S.2.1
  have hK := E.2.2.2.2.1
  have hV := E.2.2.2.2.2.2
  have hl : lv_has ls 5 [(0, .ref m), (1, .int (sI s)), (2, .int (sI l))] := hl
  have inX11_ : ∀ w ∈ wsX110, w ∈ wsX11_setLight := fun _ h => List.mem_cons_of_mem _ (List.mem_append_right _ h)
  have kn0 := sOk_N hok
  refine lv_aload_n hx_ hb_ dX11_setLight_0 rfl (lv_at hl 0 rfl) ?_
  refine si_const S dX11_setLight_1 ?_
  refine sc_put (ci := 9) (C := RX11) (T := TX11) (n := 22) S hK hV inX11_ tyX11_ok nmX11 hm0 rfl 0 (by decide) (S.2.2.2.2 _ (List.mem_of_getElem? (i := 1) rfl)) rfl rfl rfl rfl (Nat.le_of_ble_eq_true rfl) dX11_setLight_2 (fs1 := [.int (sI 0), .ref (m + 1), .ref (m + 2), .int (sI ch), .ref (m + 3), .int (sI tn), .int (sI ea), .ref (m + 4), .ref (m + 5), .ref (m + 6), .ref (m + 7), .ref (m + 8), .ref (m + 9), .int (sI sn), .ref (m + 10), .ref (m + 11), .ref (m + 12), .ref (m + 13), .int (sI nm), .ref (m + 14), .ref (m + 15), .int (sI wn)]) rfl (fun M1 H locs hM1 hV => ?_)
  have hc2 : M1 m = some (mO m 0 ch tn ea sn nm wn) := (congrFun hM1 m).trans (va_up_self M m _)
  refine lv_aload_n hx_ hb_ dX11_setLight_5 rfl (lv_at hl 0 rfl) ?_
  refine lv_iload_n hx_ hb_ dX11_setLight_6 rfl (lv_at hl 1 rfl) ?_
  have hc3 : M1 (m + 1) = some (sArr G 574 f) := ((congrFun hM1 (m + 1)).trans (va_up_ne M _ (by omega))).trans hm1
  refine sk_Vi E hV (As := [.int (sI s)]) (rest := []) (kX11_noStone l_ G b_ M1 N m ch tn ea sn nm wn f s hc2 hc3 (by omega) (by omega)) (cwV 1 S.2.2.2.2 gX11_setLight_X11_noStone rfl rfl rfl (by decide +kernel) ⟨Nat.le_of_ble_eq_true rfl, Nat.le_of_ble_eq_true rfl⟩) (ci := 9) hc2 rfl rfl rfl hl.1 (Nat.le_of_ble_eq_true rfl) dX11_setLight_7 (c1 := 0) (s1 := 0) ⟨⟨rfl, rfl⟩, by decide, by decide⟩ (fun z7 M4 N5 H locs hp6 hV => ?_)
  obtain ⟨hN8, hf9, hq10⟩ := hp6
  rw [hN8] at hV
  rcases hq10 with ⟨c11, ez12, hc13⟩ | ⟨c14, ez15, hc16⟩
  · rw [ez12]
    refine sz_ne (tgt := 28) S dX11_setLight_10 (by decide) (by omega) (fun c17 => absurd c17 (by omega)) (fun _ => ?_)
    refine lv_aload_n hx_ hb_ dX11_setLight_13 rfl (lv_at hl 0 rfl) ?_
    refine lv_iload_n hx_ hb_ dX11_setLight_14 rfl (lv_at hl 2 rfl) ?_
    refine si_const S dX11_setLight_15 ?_
    refine si_ldc S (100000) (S.2.2.2.2 _ (List.mem_of_getElem? (i := 2) rfl)) (by decide) dX11_setLight_16 ?_
    refine sk_SP E hV (As := [.int (sI l), .int (sI 0), .int (sI 100000)]) (rest := [.ref m]) (kX11_in l_ G b_ M4 N l 0 100000 (by omega)) (va_cwS 3 S.2.2.2.2 gX11_setLight_X11_in rfl rfl rfl (by decide +kernel) ⟨Nat.le_of_ble_eq_true rfl, Nat.le_of_ble_eq_true rfl⟩) rfl rfl hl.1 (Nat.le_of_ble_eq_true rfl) dX11_setLight_18 (c1 := 0) (s1 := 0) ⟨⟨rfl, rfl⟩, by decide, by decide⟩ (fun H locs hV => ?_)
    refine si_const S dX11_setLight_21 ?_
    refine sk_Vi E hV (As := [.int (sI (bI (0 ≤ l ∧ l ≤ 100000))), .int (sI 2)]) (rest := []) (kX11_fails l_ G b_ M4 N m ch tn ea sn nm wn 2 (0 ≤ l ∧ l ≤ 100000) hc13 (by omega)) (cwV 2 S.2.2.2.2 gX11_setLight_X11_fails rfl rfl rfl (by decide +kernel) ⟨Nat.le_of_ble_eq_true rfl, Nat.le_of_ble_eq_true rfl⟩) (ci := 9) hc13 rfl rfl rfl hl.1 (Nat.le_of_ble_eq_true rfl) dX11_setLight_22 (c1 := 0) (s1 := 0) ⟨⟨rfl, rfl⟩, by decide, by decide⟩ (fun z21 M18 N19 H locs hp20 hV => ?_)
    obtain ⟨hN22, hf23, hq24⟩ := hp20
    rw [hN22] at hV
    rcases hq24 with ⟨c25, ez26, hc27⟩ | ⟨c28, ez29, hc30⟩
    · rw [ez26]
      refine sz_eq (tgt := 30) S dX11_setLight_25 (by decide) (by omega) (fun _ => ?_) (fun c31 => absurd c31 (by omega))
      refine si_const S dX11_setLight_30 ?_
      refine lv_istore_n (lv' := [(3, .int (sI 1)), (0, .ref m), (1, .int (sI s)), (2, .int (sI l))]) hx_ hb_ dX11_setLight_31 rfl hl (by decide) rfl (fun ls hl => ?_)
      refine si_sipush S dX11_setLight_32 (by decide) ?_
      refine lv_istore (lv' := [(4, .int (sI 1900)), (3, .int (sI 1)), (0, .ref m), (1, .int (sI s)), (2, .int (sI l))]) hx_ hb_ dX11_setLight_35 hl (by decide) rfl (fun ls hl => ?_)
      have L37 : ∀ (fuel : Nat) (x : Int) (q : Int)  (H : Heap) (locs : List Loc) (ls : Array Slot), ((2200 - q).toNat) < fuel → (1900 ≤ q ∧ q ≤ 2200) → (x = bI (∀ y, 1900 ≤ y → y < q → liI f s y ≤ l)) → sV G b_ M18 N s_ H locs → lv_has ls 5 [(0, .ref m), (1, .int (sI s)), (2, .int (sI l)), (3, .int (sI x)), (4, .int (sI q))] → W p_ l_ e_ rmX11_setLight s_ m_ args_ below_ meth_ c_ H locs 0 0 Q (F0 m_ 37 ls []) := by
        intro fuel
        induction fuel with
        | zero => intro x q H locs ls hmu; exact absurd hmu (Nat.not_lt_zero _)
        | succ fuel ih37 =>
          intro x q H locs ls hmu37 hv37_0 hxx  hV hl
          refine lv_iload hx_ hb_ dX11_setLight_37 (lv_at hl 4 rfl) ?_
          refine si_sipush S dX11_setLight_39 (by decide) ?_
          refine sb_ge (tgt := 70) S dX11_setLight_42 (by decide) (by omega) (fun c32 => ?_) (fun c32 => ?_)
          · refine lv_aload_n hx_ hb_ dX11_setLight_70 rfl (lv_at hl 0 rfl) ?_
            refine lv_iload_n hx_ hb_ dX11_setLight_71 rfl (lv_at hl 3 rfl) ?_
            refine si_const S dX11_setLight_72 ?_
            rw [hxx, bI_c (show (∀ y, 1900 ≤ y → y < q → liI f s y ≤ l) ↔ (∀ y, 1900 ≤ y → y < 2200 → liI f s y ≤ l) by rw [show q = 2200 by omega])]
            refine sk_Vi E hV (As := [.int (sI (bI (∀ y, 1900 ≤ y → y < 2200 → liI f s y ≤ l))), .int (sI 3)]) (rest := []) (kX11_fails l_ G b_ M18 N m ch tn ea sn nm wn 3 (∀ y, 1900 ≤ y → y < 2200 → liI f s y ≤ l) hc27 (by omega)) (cwV 2 S.2.2.2.2 gX11_setLight_X11_fails rfl rfl rfl (by decide +kernel) ⟨Nat.le_of_ble_eq_true rfl, Nat.le_of_ble_eq_true rfl⟩) (ci := 9) hc27 rfl rfl rfl hl.1 (Nat.le_of_ble_eq_true rfl) dX11_setLight_73 (c1 := 0) (s1 := 0) ⟨⟨rfl, rfl⟩, by decide, by decide⟩ (fun z36 M33 N34 H locs hp35 hV => ?_)
            obtain ⟨hN37, hf38, hq39⟩ := hp35
            rw [hN37] at hV
            rcases hq39 with ⟨c40, ez41, hc42⟩ | ⟨c43, ez44, hc45⟩
            · rw [ez41]
              refine sz_eq (tgt := 81) S dX11_setLight_76 (by decide) (by omega) (fun _ => ?_) (fun c46 => absurd c46 (by omega))
              refine lv_aload_n hx_ hb_ dX11_setLight_81 rfl (lv_at hl 0 rfl) ?_
              have hc47 : M33 (m + 1) = some (sArr G 574 f) := (((hf38 (m + 1) (by omega)).trans (hf23 (m + 1) (by omega))).trans (hf9 (m + 1) (by omega))).trans hc3
              have hc48 : svC G M33 (m + 2) ch fs := hsv.fr (fun x q8 q9 => (((hf38 x (by omega)).trans (hf23 x (by omega))).trans (hf9 x (by omega))).trans ((congrFun hM1 x).trans (va_up_ne M _ (by omega))))
              refine sk_Vv E hV (As := []) (rest := []) (kX11_keeps l_ G b_ M33 N m 0 ch tn ea sn nm wn f fs hc42 hc47 hc48 (by omega)) (cwV 0 S.2.2.2.2 gX11_setLight_X11_keeps rfl rfl rfl (by decide +kernel) ⟨Nat.le_of_ble_eq_true rfl, Nat.le_of_ble_eq_true rfl⟩) (ci := 9) hc42 rfl rfl rfl hl.1 (Nat.le_of_ble_eq_true rfl) dX11_setLight_82 (c1 := 0) (s1 := 0) ⟨⟨rfl, rfl⟩, by decide, by decide⟩ (fun M49 N50 H locs hp51 hV => ?_)
              obtain ⟨hN53, hc54, hc55, hf56⟩ := hp51
              rw [hN53] at hV
              refine lv_aload_n hx_ hb_ dX11_setLight_85 rfl (lv_at hl 0 rfl) ?_
              refine sc_get (ci := 9) (C := RX11) (T := TX11) (n := 22) S hK hV inX11_ hc54 rfl 1 (by decide) (S.2.2.2.2 _ (List.mem_of_getElem? (i := 3) rfl)) rfl rfl dX11_setLight_86 ?_
              refine si_bipush S dX11_setLight_89 (by decide) ?_
              refine lv_iload_n hx_ hb_ dX11_setLight_91 rfl (lv_at hl 1 rfl) ?_
              refine si_add S dX11_setLight_92 ?_
              have hc57 : M49 (m + 1) = some (sArr G 574 f) := (hf56 (m + 1) (by omega) (by omega)).trans hc47
              refine sc_iald S hK hV hc57 (by omega) dX11_setLight_93 ?_
              have kn58 : 0 ≤ f (60 + s) ∧ f (60 + s) ≤ 100000 := (sOk_S hok s (by omega) (by omega)).2.2.2.2.2.2
              refine lv_istore (lv' := [(4, .int (sI (f (60 + s)))), (0, .ref m), (1, .int (sI s)), (2, .int (sI l)), (3, .int (sI x))]) hx_ hb_ dX11_setLight_94 hl (by decide) rfl (fun ls hl => ?_)
              refine lv_aload_n hx_ hb_ dX11_setLight_96 rfl (lv_at hl 1 rfl) ?_
              refine sc_get (ci := 9) (C := RX11) (T := TX11) (n := 22) S hK hV inX11_ hc54 rfl 1 (by decide) (S.2.2.2.2 _ (List.mem_of_getElem? (i := 3) rfl)) rfl rfl dX11_setLight_97 ?_
              refine si_bipush S dX11_setLight_100 (by decide) ?_
              refine lv_iload_n hx_ hb_ dX11_setLight_102 rfl (lv_at hl 2 rfl) ?_
              refine si_add S dX11_setLight_103 ?_
              refine lv_iload_n hx_ hb_ dX11_setLight_104 rfl (lv_at hl 3 rfl) ?_
              refine sc_iast S hK hV hc57 (by omega) dX11_setLight_105 (fun M59 H locs hM59 hV => ?_)
              have hc60 : M59 (m + 1) = some (sArr G 574 (iup f (60 + s) l)) := (congrFun hM59 (m + 1)).trans (va_up_self M49 (m + 1) _)
              refine lv_iload hx_ hb_ dX11_setLight_106 (lv_at hl 0 rfl) ?_
              have hc61 : M59 m = some (mO m 0 (chn ch) tn ea sn nm wn) := ((congrFun hM59 m).trans (va_up_ne M49 _ (by omega))).trans hc54
              have hc62 : svC G M59 (m + 2) (chn ch) (fsn ch fs f) := hc55.fr (fun x q8 q9 => (congrFun hM59 x).trans (va_up_ne M49 _ (by omega)))
              exact sr_i E hQ dX11_setLight_108 ⟨Nat.le_of_ble_eq_true rfl, Nat.le_of_ble_eq_true rfl⟩ hV (⟨rfl, fun x q0 q1 q2 => ((((((congrFun hM59 x).trans (va_up_ne M49 _ (by omega))).trans (hf56 x (by omega) (by omega))).trans (hf38 x (by omega))).trans (hf23 x (by omega))).trans (hf9 x (by omega))).trans ((congrFun hM1 x).trans (va_up_ne M _ (by omega))), Or.inr (Or.inr (Or.inr (⟨(⟨by omega, by omega, by assumption⟩), rfl, hc61, hc60, hc62⟩)))⟩)
            · rw [ez44]
              refine sz_eq (tgt := 81) S dX11_setLight_76 (by decide) (by omega) (fun c63 => absurd c63 (by omega)) (fun _ => ?_)
              refine si_const S dX11_setLight_79 ?_
              have hc64 : M33 (m + 1) = some (sArr G 574 f) := (((hf38 (m + 1) (by omega)).trans (hf23 (m + 1) (by omega))).trans (hf9 (m + 1) (by omega))).trans hc3
              have hc65 : svC G M33 (m + 2) ch fs := hsv.fr (fun x q8 q9 => (((hf38 x (by omega)).trans (hf23 x (by omega))).trans (hf9 x (by omega))).trans ((congrFun hM1 x).trans (va_up_ne M _ (by omega))))
              exact sr_i E hQ dX11_setLight_80 ⟨Nat.le_of_ble_eq_true rfl, Nat.le_of_ble_eq_true rfl⟩ hV (⟨rfl, fun x q0 q1 q2 => (((hf38 x (by omega)).trans (hf23 x (by omega))).trans (hf9 x (by omega))).trans ((congrFun hM1 x).trans (va_up_ne M _ (by omega))), Or.inr (Or.inr (Or.inl ⟨(⟨by omega, by omega, by assumption⟩), rfl, hc45, hc64, hc65⟩))⟩)
          · refine lv_iload_n hx_ hb_ dX11_setLight_45 rfl (lv_at hl 3 rfl) ?_
            refine lv_aload_n hx_ hb_ dX11_setLight_46 rfl (lv_at hl 0 rfl) ?_
            refine lv_iload_n hx_ hb_ dX11_setLight_47 rfl (lv_at hl 1 rfl) ?_
            refine lv_iload hx_ hb_ dX11_setLight_48 (lv_at hl 4 rfl) ?_
            have hc66 : M18 (m + 1) = some (sArr G 574 f) := ((hf23 (m + 1) (by omega)).trans (hf9 (m + 1) (by omega))).trans hc3
            refine sk_VP E hV (As := [.int (sI s), .int (sI q)]) (rest := [.int (sI x)]) (kX11_lightIn l_ G b_ M18 N m 0 ch tn ea sn nm wn f s q hc27 hc66 (by omega) (by omega) (by omega)) (cwV 2 S.2.2.2.2 gX11_setLight_X11_lightIn rfl rfl rfl (by decide +kernel) ⟨Nat.le_of_ble_eq_true rfl, Nat.le_of_ble_eq_true rfl⟩) (ci := 9) hc27 rfl rfl rfl hl.1 (Nat.le_of_ble_eq_true rfl) dX11_setLight_50 (c1 := 0) (s1 := 0) ⟨⟨rfl, rfl⟩, by decide, by decide⟩ (fun H locs hV => ?_)
            have hli := liI_r hok s q
            refine lv_iload_n hx_ hb_ dX11_setLight_53 rfl (lv_at hl 2 rfl) ?_
            refine sb_gt (tgt := 61) S dX11_setLight_54 (by decide) (by omega) (fun c67 => ?_) (fun c67 => ?_)
            · refine si_const S dX11_setLight_61 ?_
              refine si_and S dX11_setLight_62 ?_
              refine lv_istore_n (lv' := [(3, .int (sI (iand x 0))), (0, .ref m), (1, .int (sI s)), (2, .int (sI l)), (4, .int (sI q))]) hx_ hb_ dX11_setLight_63 rfl hl (by decide) rfl (fun ls hl => ?_)
              refine si_inc (lv' := [(4, .int (sI (q + 1))), (3, .int (sI (iand x 0))), (0, .ref m), (1, .int (sI s)), (2, .int (sI l))]) S dX11_setLight_64 hl (k := 4) rfl (by decide) rfl (fun ls hl => ?_)
              refine lv_goto (tgt := 37) hx_ hb_ dX11_setLight_67 (by decide) ?_
              exact ih37 (iand x 0) (q + 1) _ _ _ (by omega) (by omega) (by rw [hxx]; first | (rw [iand_b0]; exact (bI_f (fun h => absurd (h q (by omega) (by omega)) (by omega))).symm) | (rw [iand_b1]; exact bI_c ⟨fun h y a b => by by_cases e : y = q; exact (by rw [e]; omega); exact h y a (by omega), fun h y a b => h y a (by omega)⟩)) hV (lv_sub hl [2, 3, 4, 1, 0] rfl)
            · refine si_const S dX11_setLight_57 ?_
              refine lv_goto (tgt := 62) hx_ hb_ dX11_setLight_58 (by decide) ?_
              refine si_and S dX11_setLight_62 ?_
              refine lv_istore_n (lv' := [(3, .int (sI (iand x 1))), (0, .ref m), (1, .int (sI s)), (2, .int (sI l)), (4, .int (sI q))]) hx_ hb_ dX11_setLight_63 rfl hl (by decide) rfl (fun ls hl => ?_)
              refine si_inc (lv' := [(4, .int (sI (q + 1))), (3, .int (sI (iand x 1))), (0, .ref m), (1, .int (sI s)), (2, .int (sI l))]) S dX11_setLight_64 hl (k := 4) rfl (by decide) rfl (fun ls hl => ?_)
              refine lv_goto (tgt := 37) hx_ hb_ dX11_setLight_67 (by decide) ?_
              exact ih37 (iand x 1) (q + 1) _ _ _ (by omega) (by omega) (by rw [hxx]; first | (rw [iand_b0]; exact (bI_f (fun h => absurd (h q (by omega) (by omega)) (by omega))).symm) | (rw [iand_b1]; exact bI_c ⟨fun h y a b => by by_cases e : y = q; exact (by rw [e]; omega); exact h y a (by omega), fun h y a b => h y a (by omega)⟩)) hV (lv_sub hl [2, 3, 4, 1, 0] rfl)
      exact L37 _ 1 1900 _ _ _ (Nat.lt_succ_self _) (by omega) ((bI_t (fun y a b => by omega)).symm) hV (lv_sub hl [2, 3, 4, 1, 0] rfl)
    · rw [ez29]
      refine sz_eq (tgt := 30) S dX11_setLight_25 (by decide) (by omega) (fun c68 => absurd c68 (by omega)) (fun _ => ?_)
      refine si_const S dX11_setLight_28 ?_
      have hc69 : M18 (m + 1) = some (sArr G 574 f) := ((hf23 (m + 1) (by omega)).trans (hf9 (m + 1) (by omega))).trans hc3
      have hc70 : svC G M18 (m + 2) ch fs := hsv.fr (fun x q8 q9 => ((hf23 x (by omega)).trans (hf9 x (by omega))).trans ((congrFun hM1 x).trans (va_up_ne M _ (by omega))))
      exact sr_i E hQ dX11_setLight_29 ⟨Nat.le_of_ble_eq_true rfl, Nat.le_of_ble_eq_true rfl⟩ hV (⟨rfl, fun x q0 q1 q2 => ((hf23 x (by omega)).trans (hf9 x (by omega))).trans ((congrFun hM1 x).trans (va_up_ne M _ (by omega))), Or.inr (Or.inl ⟨(by omega), rfl, hc30, hc69, hc70⟩)⟩)
  · rw [ez15]
    refine sz_ne (tgt := 28) S dX11_setLight_10 (by decide) (by omega) (fun _ => ?_) (fun c71 => absurd c71 (by omega))
    refine si_const S dX11_setLight_28 ?_
    have hc72 : M4 (m + 1) = some (sArr G 574 f) := (hf9 (m + 1) (by omega)).trans hc3
    have hc73 : svC G M4 (m + 2) ch fs := hsv.fr (fun x q8 q9 => (hf9 x (by omega)).trans ((congrFun hM1 x).trans (va_up_ne M _ (by omega))))
    exact sr_i E hQ dX11_setLight_29 ⟨Nat.le_of_ble_eq_true rfl, Nat.le_of_ble_eq_true rfl⟩ hV (⟨rfl, fun x q0 q1 q2 => (hf9 x (by omega)).trans ((congrFun hM1 x).trans (va_up_ne M _ (by omega))), Or.inl ⟨(by omega), rfl, hc16, hc72, hc73⟩⟩)

abbrev rmX11_canBeShown : Room := { frames := 6, cells := 0, slots := 0, locals := 153 }
set_option maxHeartbeats 4000000 in
set_option maxRecDepth 100000 in
theorem kX11_canBeShown (l_ : Launch) (G : sG) (b_ : Nat) (M : sM) (N : Nat) (m : Nat) (th ch tn ea sn nm wn : Int) (f : sF) (s Y x n l d : Int) (hm0 : M m = some (mO m th ch tn ea sn nm wn)) (hm1 : M (m + 1) = some (sArr G 574 f)) (hok : sOk f) (hs : 0 ≤ s ∧ s < f 568) (hd : isDt d ∧ x = dayI d + 3652 ∧ Y = d / 10000) (hn : 1 ≤ n ∧ n ≤ 400 ∧ 1 ≤ l ∧ l ≤ 1000) : cP l_ yX11_canBeShown wsX11_canBeShown rmX11_canBeShown G b_ M N [.ref m, .int (sI s), .int (sI x), .int (sI n), .int (sI l)] (bI (cbP f s Y x n l)) := by
  refine sE.ofI (cc := cX11_canBeShown) (nL := 7) (ret := (some .boolean)) (by decide) rfl (Nat.le_of_ble_eq_true rfl) ?_
  intro p_ e_ s_ m_ args_ below_ meth_ c_ ls Q hQ E hl
  have E : sE p_ l_ e_ rmX11_canBeShown s_ m_ args_ below_ meth_ c_ cX11_canBeShown 7 wsX11_canBeShown RX11 "canBeShown" (some .boolean) G b_ M N := E
  have S := E.1
  have hx_ := S.1
  have hb_ := S.2.1
  have hK := E.2.2.2.2.1
  have hV := E.2.2.2.2.2.2
  have hl : lv_has ls 7 [(0, .ref m), (1, .int (sI s)), (2, .int (sI x)), (3, .int (sI n)), (4, .int (sI l))] := hl
  have inX11_ : ∀ w ∈ wsX110, w ∈ wsX11_canBeShown := fun _ h => List.mem_cons_of_mem _ (List.mem_append_right _ h)
  have kn0 := sOk_N hok
  have hdr := dayI_r hd.1
  have hend := dayI_end
  have hY : dat x = d := by rw [hd.2.1]; exact dat_dt hd.1
  have hY2 : 1900 ≤ Y ∧ Y ≤ 2199 := by rw [hd.2.2]; omega
  refine lv_iload_n hx_ hb_ dX11_canBeShown_0 rfl (lv_at hl 2 rfl) ?_
  refine lv_iload_n hx_ hb_ dX11_canBeShown_1 rfl (lv_at hl 3 rfl) ?_
  refine si_add S dX11_canBeShown_2 ?_
  refine si_const S dX11_canBeShown_3 ?_
  refine si_sub S dX11_canBeShown_4 ?_
  refine si_ldc S (21991231) (S.2.2.2.2 _ (List.mem_of_getElem? (i := 1) rfl)) (by decide) dX11_canBeShown_5 ?_
  refine sk_SP E hV (As := [.int (sI 21991231)]) (rest := [.int (sI ((x + n) - 1))]) (kX11_dayOf l_ G b_ M N 21991231 (by omega)) (va_cwS 1 S.2.2.2.2 gX11_canBeShown_X11_dayOf rfl rfl rfl (by decide +kernel) ⟨Nat.le_of_ble_eq_true rfl, Nat.le_of_ble_eq_true rfl⟩) rfl rfl hl.1 (Nat.le_of_ble_eq_true rfl) dX11_canBeShown_7 (c1 := 0) (s1 := 0) ⟨⟨rfl, rfl⟩, by decide, by decide⟩ (fun H locs hV => ?_)
  refine sb_le (tgt := 15) S dX11_canBeShown_10 (by decide) (by omega) (fun c1 => ?_) (fun c1 => ?_)
  · refine lv_iload_n hx_ hb_ dX11_canBeShown_15 rfl (lv_at hl 2 rfl) ?_
    refine sk_SP E hV (As := [.int (sI x)]) (rest := []) (kX11_dateOf l_ G b_ M N x (by omega)) (va_cwS 1 S.2.2.2.2 gX11_canBeShown_X11_dateOf rfl rfl rfl (by decide +kernel) ⟨Nat.le_of_ble_eq_true rfl, Nat.le_of_ble_eq_true rfl⟩) rfl rfl hl.1 (Nat.le_of_ble_eq_true rfl) dX11_canBeShown_16 (c1 := 0) (s1 := 0) ⟨⟨rfl, rfl⟩, by decide, by decide⟩ (fun H locs hV => ?_)
    rw [hY]
    refine si_sipush S dX11_canBeShown_19 (by decide) ?_
    refine si_divN S dX11_canBeShown_22 (by omega) ?_
    rw [← hd.2.2]
    refine lv_istore (lv' := [(5, .int (sI Y)), (0, .ref m), (1, .int (sI s)), (2, .int (sI x)), (3, .int (sI n)), (4, .int (sI l))]) hx_ hb_ dX11_canBeShown_23 hl (by decide) rfl (fun ls hl => ?_)
    refine lv_iload hx_ hb_ dX11_canBeShown_25 (lv_at hl 0 rfl) ?_
    refine lv_istore (lv' := [(6, .int (sI Y)), (5, .int (sI Y)), (0, .ref m), (1, .int (sI s)), (2, .int (sI x)), (3, .int (sI n)), (4, .int (sI l))]) hx_ hb_ dX11_canBeShown_27 hl (by decide) rfl (fun ls hl => ?_)
    have L29 : ∀ (fuel : Nat) (q : Int)  (H : Heap) (locs : List Loc) (ls : Array Slot), ((Y + 3 - q).toNat) < fuel → (Y ≤ q ∧ q ≤ Y + 3) → (∀ y, Y ≤ y → y < q → liI f s y + l * dnI x n y ≤ f (60 + s)) → sV G b_ M N s_ H locs → lv_has ls 7 [(0, .ref m), (1, .int (sI s)), (2, .int (sI x)), (3, .int (sI n)), (4, .int (sI l)), (5, .int (sI Y)), (6, .int (sI q))] → W p_ l_ e_ rmX11_canBeShown s_ m_ args_ below_ meth_ c_ H locs 0 0 Q (F0 m_ 29 ls []) := by
      intro fuel
      induction fuel with
      | zero => intro q H locs ls hmu; exact absurd hmu (Nat.not_lt_zero _)
      | succ fuel ih29 =>
        intro q H locs ls hmu29 hv29_0 hq  hV hl
        refine lv_iload hx_ hb_ dX11_canBeShown_29 (lv_at hl 6 rfl) ?_
        refine lv_iload hx_ hb_ dX11_canBeShown_31 (lv_at hl 5 rfl) ?_
        refine si_const S dX11_canBeShown_33 ?_
        refine si_add S dX11_canBeShown_34 ?_
        refine sb_gt (tgt := 76) S dX11_canBeShown_35 (by decide) (by omega) (fun c2 => ?_) (fun c2 => ?_)
        · refine si_const S dX11_canBeShown_76 ?_
          exact sr_z E hQ (Or.inr rfl) dX11_canBeShown_77 ⟨Nat.le_of_ble_eq_true rfl, Nat.le_of_ble_eq_true rfl⟩ hV (⟨(bI_t ⟨by omega, fun y a b => hq y a (by omega)⟩).symm, rfl, rfl⟩)
        · refine lv_aload_n hx_ hb_ dX11_canBeShown_38 rfl (lv_at hl 0 rfl) ?_
          refine lv_iload_n hx_ hb_ dX11_canBeShown_39 rfl (lv_at hl 1 rfl) ?_
          refine lv_iload hx_ hb_ dX11_canBeShown_40 (lv_at hl 6 rfl) ?_
          refine sk_VP E hV (As := [.int (sI s), .int (sI q)]) (rest := []) (kX11_lightIn l_ G b_ M N m th ch tn ea sn nm wn f s q hm0 hm1 (by omega) (by omega) (by omega)) (cwV 2 S.2.2.2.2 gX11_canBeShown_X11_lightIn rfl rfl rfl (by decide +kernel) ⟨Nat.le_of_ble_eq_true rfl, Nat.le_of_ble_eq_true rfl⟩) (ci := 9) hm0 rfl rfl rfl hl.1 (Nat.le_of_ble_eq_true rfl) dX11_canBeShown_42 (c1 := 0) (s1 := 0) ⟨⟨rfl, rfl⟩, by decide, by decide⟩ (fun H locs hV => ?_)
          refine lv_iload hx_ hb_ dX11_canBeShown_45 (lv_at hl 4 rfl) ?_
          refine lv_iload_n hx_ hb_ dX11_canBeShown_47 rfl (lv_at hl 2 rfl) ?_
          refine lv_iload_n hx_ hb_ dX11_canBeShown_48 rfl (lv_at hl 3 rfl) ?_
          refine lv_iload hx_ hb_ dX11_canBeShown_49 (lv_at hl 6 rfl) ?_
          refine sk_SP E hV (As := [.int (sI x), .int (sI n), .int (sI q)]) (rest := [.int (sI l), .int (sI (liI f s q))]) (kX11_daysIn l_ G b_ M N x n q (by omega) (by omega)) (va_cwS 3 S.2.2.2.2 gX11_canBeShown_X11_daysIn rfl rfl rfl (by decide +kernel) ⟨Nat.le_of_ble_eq_true rfl, Nat.le_of_ble_eq_true rfl⟩) rfl rfl hl.1 (Nat.le_of_ble_eq_true rfl) dX11_canBeShown_51 (c1 := 0) (s1 := 0) ⟨⟨rfl, rfl⟩, by decide, by decide⟩ (fun H locs hV => ?_)
          have hdn := dnI_r (x := x) (n := n) (y := q) (by omega)
          have hml := mul_b (a := l) (A := 1000) (b := dnI x n q) (B := 400) (by omega) (by omega)
          have hli := liI_r hok s q
          refine si_mul S dX11_canBeShown_54 ?_
          refine si_add S dX11_canBeShown_55 ?_
          refine lv_aload_n hx_ hb_ dX11_canBeShown_56 rfl (lv_at hl 0 rfl) ?_
          refine sc_get (ci := 9) (C := RX11) (T := TX11) (n := 22) S hK hV inX11_ hm0 rfl 1 (by decide) (S.2.2.2.2 _ (List.mem_of_getElem? (i := 2) rfl)) rfl rfl dX11_canBeShown_57 ?_
          refine si_bipush S dX11_canBeShown_60 (by decide) ?_
          refine lv_iload_n hx_ hb_ dX11_canBeShown_62 rfl (lv_at hl 1 rfl) ?_
          refine si_add S dX11_canBeShown_63 ?_
          refine sc_iald S hK hV hm1 (by omega) dX11_canBeShown_64 ?_
          have kn3 : 0 ≤ f (60 + s) ∧ f (60 + s) ≤ 100000 := (sOk_S hok s (by omega) (by omega)).2.2.2.2.2.2
          refine sb_le (tgt := 70) S dX11_canBeShown_65 (by decide) (by omega) (fun c4 => ?_) (fun c4 => ?_)
          · refine si_inc (lv' := [(6, .int (sI (q + 1))), (0, .ref m), (1, .int (sI s)), (2, .int (sI x)), (3, .int (sI n)), (4, .int (sI l)), (5, .int (sI Y))]) S dX11_canBeShown_70 hl (k := 6) rfl (by decide) rfl (fun ls hl => ?_)
            refine lv_goto (tgt := 29) hx_ hb_ dX11_canBeShown_73 (by decide) ?_
            exact ih29 (q + 1) _ _ _ (by omega) (by omega) (fun y a b => by by_cases e : y = q; exact (by rw [e]; omega); exact hq y a (by omega)) hV (lv_sub hl [1, 2, 3, 4, 5, 6, 0] rfl)
          · refine si_const S dX11_canBeShown_68 ?_
            exact sr_z E hQ (Or.inl rfl) dX11_canBeShown_69 ⟨Nat.le_of_ble_eq_true rfl, Nat.le_of_ble_eq_true rfl⟩ hV (⟨(bI_f (fun h => absurd (h.2 q (by omega) (by omega)) (by omega))).symm, rfl, rfl⟩)
    exact L29 _ Y _ _ _ (Nat.lt_succ_self _) (by omega) (fun y a b => by omega) hV (lv_sub hl [2, 3, 4, 5, 6, 1, 0] rfl)
  · refine si_const S dX11_canBeShown_13 ?_
    exact sr_z E hQ (Or.inl rfl) dX11_canBeShown_14 ⟨Nat.le_of_ble_eq_true rfl, Nat.le_of_ble_eq_true rfl⟩ hV (⟨(bI_f (fun h => by have := h.1; omega)).symm, rfl, rfl⟩)

abbrev rmX11_light : Room := { frames := 6, cells := 0, slots := 0, locals := 153 }
set_option maxHeartbeats 4000000 in
set_option maxRecDepth 100000 in
theorem kX11_light (l_ : Launch) (G : sG) (b_ : Nat) (M : sM) (N : Nat) (m : Nat) (th ch tn ea sn nm wn : Int) (f : sF) (s y : Int) (hm0 : M m = some (mO m th ch tn ea sn nm wn)) (hm1 : M (m + 1) = some (sArr G 574 f)) (hok : sOk f) (hr : sR s ∧ sR y) : cI l_ yX11_light wsX11_light rmX11_light G b_ M N [.ref m, .int (sI s), .int (sI y)] (fun z_ M1 N1 => N1 = N ∧ (∀ x : Nat, ¬ (x = m) → M1 x = M x) ∧ (((¬ (0 ≤ s ∧ s < f 568)) ∧ z_ = 0 ∧ M1 m = some (mO m 1 ch tn ea sn nm wn)) ∨ (((0 ≤ s ∧ s < f 568) ∧ ¬ (1900 ≤ y ∧ y ≤ 2199)) ∧ z_ = 0 ∧ M1 m = some (mO m 2 ch tn ea sn nm wn)) ∨ (((0 ≤ s ∧ s < f 568) ∧ 1900 ≤ y ∧ y ≤ 2199) ∧ z_ = liI f s y ∧ M1 m = some (mO m 0 ch tn ea sn nm wn)))) := by
  refine sE.ofI (cc := cX11_light) (nL := 3) (ret := (some .int)) (by decide) rfl (Nat.le_of_ble_eq_true rfl) ?_
  intro p_ e_ s_ m_ args_ below_ meth_ c_ ls Q hQ E hl
  have E : sE p_ l_ e_ rmX11_light s_ m_ args_ below_ meth_ c_ cX11_light 3 wsX11_light RX11 "light" (some .int) G b_ M N := E
  have S := E.1
  have hx_ := S.1
  have hb_ := S.2.1
  have hK := E.2.2.2.2.1
  have hV := E.2.2.2.2.2.2
  have hl : lv_has ls 3 [(0, .ref m), (1, .int (sI s)), (2, .int (sI y))] := hl
  have inX11_ : ∀ w ∈ wsX110, w ∈ wsX11_light := fun _ h => List.mem_cons_of_mem _ (List.mem_append_right _ h)
  have kn0 := sOk_N hok
  refine lv_aload_n hx_ hb_ dX11_light_0 rfl (lv_at hl 0 rfl) ?_
  refine si_const S dX11_light_1 ?_
  refine sc_put (ci := 9) (C := RX11) (T := TX11) (n := 22) S hK hV inX11_ tyX11_ok nmX11 hm0 rfl 0 (by decide) (S.2.2.2.2 _ (List.mem_of_getElem? (i := 1) rfl)) rfl rfl rfl rfl (Nat.le_of_ble_eq_true rfl) dX11_light_2 (fs1 := [.int (sI 0), .ref (m + 1), .ref (m + 2), .int (sI ch), .ref (m + 3), .int (sI tn), .int (sI ea), .ref (m + 4), .ref (m + 5), .ref (m + 6), .ref (m + 7), .ref (m + 8), .ref (m + 9), .int (sI sn), .ref (m + 10), .ref (m + 11), .ref (m + 12), .ref (m + 13), .int (sI nm), .ref (m + 14), .ref (m + 15), .int (sI wn)]) rfl (fun M1 H locs hM1 hV => ?_)
  have hc2 : M1 m = some (mO m 0 ch tn ea sn nm wn) := (congrFun hM1 m).trans (va_up_self M m _)
  refine lv_aload_n hx_ hb_ dX11_light_5 rfl (lv_at hl 0 rfl) ?_
  refine lv_iload_n hx_ hb_ dX11_light_6 rfl (lv_at hl 1 rfl) ?_
  have hc3 : M1 (m + 1) = some (sArr G 574 f) := ((congrFun hM1 (m + 1)).trans (va_up_ne M _ (by omega))).trans hm1
  refine sk_Vi E hV (As := [.int (sI s)]) (rest := []) (kX11_noStone l_ G b_ M1 N m ch tn ea sn nm wn f s hc2 hc3 (by omega) (by omega)) (cwV 1 S.2.2.2.2 gX11_light_X11_noStone rfl rfl rfl (by decide +kernel) ⟨Nat.le_of_ble_eq_true rfl, Nat.le_of_ble_eq_true rfl⟩) (ci := 9) hc2 rfl rfl rfl hl.1 (Nat.le_of_ble_eq_true rfl) dX11_light_7 (c1 := 0) (s1 := 0) ⟨⟨rfl, rfl⟩, by decide, by decide⟩ (fun z7 M4 N5 H locs hp6 hV => ?_)
  obtain ⟨hN8, hf9, hq10⟩ := hp6
  rw [hN8] at hV
  rcases hq10 with ⟨c11, ez12, hc13⟩ | ⟨c14, ez15, hc16⟩
  · rw [ez12]
    refine sz_ne (tgt := 31) S dX11_light_10 (by decide) (by omega) (fun c17 => absurd c17 (by omega)) (fun _ => ?_)
    refine lv_aload_n hx_ hb_ dX11_light_13 rfl (lv_at hl 0 rfl) ?_
    refine lv_iload_n hx_ hb_ dX11_light_14 rfl (lv_at hl 2 rfl) ?_
    refine si_sipush S dX11_light_15 (by decide) ?_
    refine si_sipush S dX11_light_18 (by decide) ?_
    refine sk_SP E hV (As := [.int (sI y), .int (sI 1900), .int (sI 2199)]) (rest := [.ref m]) (kX11_in l_ G b_ M4 N y 1900 2199 (by omega)) (va_cwS 3 S.2.2.2.2 gX11_light_X11_in rfl rfl rfl (by decide +kernel) ⟨Nat.le_of_ble_eq_true rfl, Nat.le_of_ble_eq_true rfl⟩) rfl rfl hl.1 (Nat.le_of_ble_eq_true rfl) dX11_light_21 (c1 := 0) (s1 := 0) ⟨⟨rfl, rfl⟩, by decide, by decide⟩ (fun H locs hV => ?_)
    refine si_const S dX11_light_24 ?_
    refine sk_Vi E hV (As := [.int (sI (bI (1900 ≤ y ∧ y ≤ 2199))), .int (sI 2)]) (rest := []) (kX11_fails l_ G b_ M4 N m ch tn ea sn nm wn 2 (1900 ≤ y ∧ y ≤ 2199) hc13 (by omega)) (cwV 2 S.2.2.2.2 gX11_light_X11_fails rfl rfl rfl (by decide +kernel) ⟨Nat.le_of_ble_eq_true rfl, Nat.le_of_ble_eq_true rfl⟩) (ci := 9) hc13 rfl rfl rfl hl.1 (Nat.le_of_ble_eq_true rfl) dX11_light_25 (c1 := 0) (s1 := 0) ⟨⟨rfl, rfl⟩, by decide, by decide⟩ (fun z21 M18 N19 H locs hp20 hV => ?_)
    obtain ⟨hN22, hf23, hq24⟩ := hp20
    rw [hN22] at hV
    rcases hq24 with ⟨c25, ez26, hc27⟩ | ⟨c28, ez29, hc30⟩
    · rw [ez26]
      refine sz_eq (tgt := 35) S dX11_light_28 (by decide) (by omega) (fun _ => ?_) (fun c31 => absurd c31 (by omega))
      refine lv_aload_n hx_ hb_ dX11_light_35 rfl (lv_at hl 0 rfl) ?_
      refine lv_iload_n hx_ hb_ dX11_light_36 rfl (lv_at hl 1 rfl) ?_
      refine lv_iload_n hx_ hb_ dX11_light_37 rfl (lv_at hl 2 rfl) ?_
      have hc32 : M18 (m + 1) = some (sArr G 574 f) := ((hf23 (m + 1) (by omega)).trans (hf9 (m + 1) (by omega))).trans hc3
      refine sk_VP E hV (As := [.int (sI s), .int (sI y)]) (rest := []) (kX11_lightIn l_ G b_ M18 N m 0 ch tn ea sn nm wn f s y hc27 hc32 (by omega) (by omega) (by omega)) (cwV 2 S.2.2.2.2 gX11_light_X11_lightIn rfl rfl rfl (by decide +kernel) ⟨Nat.le_of_ble_eq_true rfl, Nat.le_of_ble_eq_true rfl⟩) (ci := 9) hc27 rfl rfl rfl hl.1 (Nat.le_of_ble_eq_true rfl) dX11_light_38 (c1 := 0) (s1 := 0) ⟨⟨rfl, rfl⟩, by decide, by decide⟩ (fun H locs hV => ?_)
      exact sr_i E hQ dX11_light_41 ⟨Nat.le_of_ble_eq_true rfl, Nat.le_of_ble_eq_true rfl⟩ hV (⟨rfl, fun x q0 => ((hf23 x (by omega)).trans (hf9 x (by omega))).trans ((congrFun hM1 x).trans (va_up_ne M _ (by omega))), Or.inr (Or.inr (⟨(by omega), rfl, hc27⟩))⟩)
    · rw [ez29]
      refine sz_eq (tgt := 35) S dX11_light_28 (by decide) (by omega) (fun c33 => absurd c33 (by omega)) (fun _ => ?_)
      refine si_const S dX11_light_31 ?_
      refine lv_goto (tgt := 41) hx_ hb_ dX11_light_32 (by decide) ?_
      exact sr_i E hQ dX11_light_41 ⟨Nat.le_of_ble_eq_true rfl, Nat.le_of_ble_eq_true rfl⟩ hV (⟨rfl, fun x q0 => ((hf23 x (by omega)).trans (hf9 x (by omega))).trans ((congrFun hM1 x).trans (va_up_ne M _ (by omega))), Or.inr (Or.inl ⟨(by omega), rfl, hc30⟩)⟩)
  · rw [ez15]
    refine sz_ne (tgt := 31) S dX11_light_10 (by decide) (by omega) (fun _ => ?_) (fun c34 => absurd c34 (by omega))
    refine si_const S dX11_light_31 ?_
    refine lv_goto (tgt := 41) hx_ hb_ dX11_light_32 (by decide) ?_
    exact sr_i E hQ dX11_light_41 ⟨Nat.le_of_ble_eq_true rfl, Nat.le_of_ble_eq_true rfl⟩ hV (⟨rfl, fun x q0 => (hf9 x (by omega)).trans ((congrFun hM1 x).trans (va_up_ne M _ (by omega))), Or.inl ⟨(by omega), rfl, hc16⟩⟩)

abbrev rmX11_show : Room := { frames := 7, cells := 0, slots := 0, locals := 179 }
set_option maxHeartbeats 4000000 in
set_option maxRecDepth 100000 in
theorem kX11_show (l_ : Launch) (G : sG) (b_ : Nat) (M : sM) (N : Nat) (m : Nat) (th ch tn ea sn nm wn : Int) (f : sF) (fs : Int → sF) (s d n l : Int) (hm0 : M m = some (mO m th ch tn ea sn nm wn)) (hm1 : M (m + 1) = some (sArr G 574 f)) (hsv : svC G M (m + 2) ch fs) (hok : sOk f) (hch : 0 ≤ ch ∧ ch ≤ 15) (hr : sR s ∧ sR d ∧ sR n ∧ sR l) : cI l_ yX11_show wsX11_show rmX11_show G b_ M N [.ref m, .int (sI s), .int (sI d), .int (sI n), .int (sI l)] (fun z_ M1 N1 => N1 = N ∧ (∀ x : Nat, ¬ (x = m) → ¬ (x = m + 1) → ¬ (x = m + 2) → M1 x = M x) ∧ (((¬ (0 ≤ s ∧ s < f 568)) ∧ z_ = 0 ∧ M1 m = some (mO m 1 ch tn ea sn nm wn) ∧ M1 (m + 1) = some (sArr G 574 f) ∧ svC G M1 (m + 2) ch fs) ∨ (((0 ≤ s ∧ s < f 568) ∧ ¬ (isDt d ∧ (1 ≤ n ∧ n ≤ 400) ∧ (1 ≤ l ∧ l ≤ 1000) ∧ dayI d + n ≤ 109573)) ∧ z_ = 0 ∧ M1 m = some (mO m 2 ch tn ea sn nm wn) ∧ M1 (m + 1) = some (sArr G 574 f) ∧ svC G M1 (m + 2) ch fs) ∨ (((0 ≤ s ∧ s < f 568) ∧ (isDt d ∧ (1 ≤ n ∧ n ≤ 400) ∧ (1 ≤ l ∧ l ≤ 1000) ∧ dayI d + n ≤ 109573) ∧ ¬ (f 572 < 20 ∧ cbP f s (d / 10000) (dayI d + 3652) n l)) ∧ z_ = 0 ∧ M1 m = some (mO m 3 ch tn ea sn nm wn) ∧ M1 (m + 1) = some (sArr G 574 f) ∧ svC G M1 (m + 2) ch fs) ∨ (((0 ≤ s ∧ s < f 568) ∧ (isDt d ∧ (1 ≤ n ∧ n ≤ 400) ∧ (1 ≤ l ∧ l ≤ 1000) ∧ dayI d + n ≤ 109573) ∧ f 572 < 20 ∧ cbP f s (d / 10000) (dayI d + 3652) n l) ∧ z_ = f 572 ∧ M1 m = some (mO m 0 (chn ch) tn ea sn nm wn) ∧ M1 (m + 1) = some (sArr G 574 (shF f s (dayI d + 3652) n l)) ∧ svC G M1 (m + 2) (chn ch) (fsn ch fs f)))) := by
  refine sE.ofI (cc := cX11_show) (nL := 6) (ret := (some .int)) (by decide) rfl (Nat.le_of_ble_eq_true rfl) ?_
  intro p_ e_ s_ m_ args_ below_ meth_ c_ ls Q hQ E hl
  have E : sE p_ l_ e_ rmX11_show s_ m_ args_ below_ meth_ c_ cX11_show 6 wsX11_show RX11 "show" (some .int) G b_ M N := E
  have S := E.1
  have hx_ := S.1
  have hb_ := S.2.1
  have hK := E.2.2.2.2.1
  have hV := E.2.2.2.2.2.2
  have hl : lv_has ls 6 [(0, .ref m), (1, .int (sI s)), (2, .int (sI d)), (3, .int (sI n)), (4, .int (sI l))] := hl
  have inX11_ : ∀ w ∈ wsX110, w ∈ wsX11_show := fun _ h => List.mem_cons_of_mem _ (List.mem_append_right _ h)
  have kn0 := sOk_N hok
  have hend := dayI_end
  refine lv_aload_n hx_ hb_ dX11_show_0 rfl (lv_at hl 0 rfl) ?_
  refine si_const S dX11_show_1 ?_
  refine sc_put (ci := 9) (C := RX11) (T := TX11) (n := 22) S hK hV inX11_ tyX11_ok nmX11 hm0 rfl 0 (by decide) (S.2.2.2.2 _ (List.mem_of_getElem? (i := 1) rfl)) rfl rfl rfl rfl (Nat.le_of_ble_eq_true rfl) dX11_show_2 (fs1 := [.int (sI 0), .ref (m + 1), .ref (m + 2), .int (sI ch), .ref (m + 3), .int (sI tn), .int (sI ea), .ref (m + 4), .ref (m + 5), .ref (m + 6), .ref (m + 7), .ref (m + 8), .ref (m + 9), .int (sI sn), .ref (m + 10), .ref (m + 11), .ref (m + 12), .ref (m + 13), .int (sI nm), .ref (m + 14), .ref (m + 15), .int (sI wn)]) rfl (fun M1 H locs hM1 hV => ?_)
  have hc2 : M1 m = some (mO m 0 ch tn ea sn nm wn) := (congrFun hM1 m).trans (va_up_self M m _)
  refine lv_aload_n hx_ hb_ dX11_show_5 rfl (lv_at hl 0 rfl) ?_
  refine lv_iload_n hx_ hb_ dX11_show_6 rfl (lv_at hl 1 rfl) ?_
  have hc3 : M1 (m + 1) = some (sArr G 574 f) := ((congrFun hM1 (m + 1)).trans (va_up_ne M _ (by omega))).trans hm1
  refine sk_Vi E hV (As := [.int (sI s)]) (rest := []) (kX11_noStone l_ G b_ M1 N m ch tn ea sn nm wn f s hc2 hc3 (by omega) (by omega)) (cwV 1 S.2.2.2.2 gX11_show_X11_noStone rfl rfl rfl (by decide +kernel) ⟨Nat.le_of_ble_eq_true rfl, Nat.le_of_ble_eq_true rfl⟩) (ci := 9) hc2 rfl rfl rfl hl.1 (Nat.le_of_ble_eq_true rfl) dX11_show_7 (c1 := 0) (s1 := 0) ⟨⟨rfl, rfl⟩, by decide, by decide⟩ (fun z7 M4 N5 H locs hp6 hV => ?_)
  obtain ⟨hN8, hf9, hq10⟩ := hp6
  rw [hN8] at hV
  rcases hq10 with ⟨c11, ez12, hc13⟩ | ⟨c14, ez15, hc16⟩
  · rw [ez12]
    refine sz_ne (tgt := 85) S dX11_show_10 (by decide) (by omega) (fun c17 => absurd c17 (by omega)) (fun _ => ?_)
    refine lv_aload_n hx_ hb_ dX11_show_13 rfl (lv_at hl 0 rfl) ?_
    refine lv_iload_n hx_ hb_ dX11_show_14 rfl (lv_at hl 2 rfl) ?_
    refine sk_SP E hV (As := [.int (sI d)]) (rest := [.ref m]) (kX11_isDate l_ G b_ M4 N d (by omega)) (va_cwS 1 S.2.2.2.2 gX11_show_X11_isDate rfl rfl rfl (by decide +kernel) ⟨Nat.le_of_ble_eq_true rfl, Nat.le_of_ble_eq_true rfl⟩) rfl rfl hl.1 (Nat.le_of_ble_eq_true rfl) dX11_show_15 (c1 := 0) (s1 := 0) ⟨⟨rfl, rfl⟩, by decide, by decide⟩ (fun H locs hV => ?_)
    refine sq_eq (tgt := 48) S dX11_show_18 (by decide) (fun c18 => ?_) (fun c18 => ?_)
    · refine si_const S dX11_show_48 ?_
      refine si_const S dX11_show_49 ?_
      refine sk_Vi E hV (As := [.int (sI 0), .int (sI 2)]) (rest := []) (kX11_fails0 l_ G b_ M4 N m ch tn ea sn nm wn 2 hc13 (by omega)) (cwV 2 S.2.2.2.2 gX11_show_X11_fails rfl rfl rfl (by decide +kernel) ⟨Nat.le_of_ble_eq_true rfl, Nat.le_of_ble_eq_true rfl⟩) (ci := 9) hc13 rfl rfl rfl hl.1 (Nat.le_of_ble_eq_true rfl) dX11_show_50 (c1 := 0) (s1 := 0) ⟨⟨rfl, rfl⟩, by decide, by decide⟩ (fun z22 M19 N20 H locs hp21 hV => ?_)
      obtain ⟨ez23, hN24, hc25, hf26⟩ := hp21
      rw [hN24] at hV
      rw [ez23]
      refine sz_ne (tgt := 85) S dX11_show_53 (by decide) (by omega) (fun _ => ?_) (fun c27 => absurd c27 (by omega))
      refine si_const S dX11_show_85 ?_
      have hc28 : M19 (m + 1) = some (sArr G 574 f) := ((hf26 (m + 1) (by omega)).trans (hf9 (m + 1) (by omega))).trans hc3
      have hc29 : svC G M19 (m + 2) ch fs := hsv.fr (fun x q8 q9 => ((hf26 x (by omega)).trans (hf9 x (by omega))).trans ((congrFun hM1 x).trans (va_up_ne M _ (by omega))))
      exact sr_i E hQ dX11_show_86 ⟨Nat.le_of_ble_eq_true rfl, Nat.le_of_ble_eq_true rfl⟩ hV (⟨rfl, fun x q0 q1 q2 => ((hf26 x (by omega)).trans (hf9 x (by omega))).trans ((congrFun hM1 x).trans (va_up_ne M _ (by omega))), Or.inr (Or.inl ⟨(by omega), rfl, hc25, hc28, hc29⟩)⟩)
    · refine lv_iload_n hx_ hb_ dX11_show_21 rfl (lv_at hl 3 rfl) ?_
      refine si_const S dX11_show_22 ?_
      refine si_sipush S dX11_show_23 (by decide) ?_
      refine sk_SP E hV (As := [.int (sI n), .int (sI 1), .int (sI 400)]) (rest := [.ref m]) (kX11_in l_ G b_ M4 N n 1 400 (by omega)) (va_cwS 3 S.2.2.2.2 gX11_show_X11_in rfl rfl rfl (by decide +kernel) ⟨Nat.le_of_ble_eq_true rfl, Nat.le_of_ble_eq_true rfl⟩) rfl rfl hl.1 (Nat.le_of_ble_eq_true rfl) dX11_show_26 (c1 := 0) (s1 := 0) ⟨⟨rfl, rfl⟩, by decide, by decide⟩ (fun H locs hV => ?_)
      refine sq_eq (tgt := 48) S dX11_show_29 (by decide) (fun c30 => ?_) (fun c30 => ?_)
      · refine si_const S dX11_show_48 ?_
        refine si_const S dX11_show_49 ?_
        refine sk_Vi E hV (As := [.int (sI 0), .int (sI 2)]) (rest := []) (kX11_fails0 l_ G b_ M4 N m ch tn ea sn nm wn 2 hc13 (by omega)) (cwV 2 S.2.2.2.2 gX11_show_X11_fails rfl rfl rfl (by decide +kernel) ⟨Nat.le_of_ble_eq_true rfl, Nat.le_of_ble_eq_true rfl⟩) (ci := 9) hc13 rfl rfl rfl hl.1 (Nat.le_of_ble_eq_true rfl) dX11_show_50 (c1 := 0) (s1 := 0) ⟨⟨rfl, rfl⟩, by decide, by decide⟩ (fun z34 M31 N32 H locs hp33 hV => ?_)
        obtain ⟨ez35, hN36, hc37, hf38⟩ := hp33
        rw [hN36] at hV
        rw [ez35]
        refine sz_ne (tgt := 85) S dX11_show_53 (by decide) (by omega) (fun _ => ?_) (fun c39 => absurd c39 (by omega))
        refine si_const S dX11_show_85 ?_
        have hc40 : M31 (m + 1) = some (sArr G 574 f) := ((hf38 (m + 1) (by omega)).trans (hf9 (m + 1) (by omega))).trans hc3
        have hc41 : svC G M31 (m + 2) ch fs := hsv.fr (fun x q8 q9 => ((hf38 x (by omega)).trans (hf9 x (by omega))).trans ((congrFun hM1 x).trans (va_up_ne M _ (by omega))))
        exact sr_i E hQ dX11_show_86 ⟨Nat.le_of_ble_eq_true rfl, Nat.le_of_ble_eq_true rfl⟩ hV (⟨rfl, fun x q0 q1 q2 => ((hf38 x (by omega)).trans (hf9 x (by omega))).trans ((congrFun hM1 x).trans (va_up_ne M _ (by omega))), Or.inr (Or.inl ⟨(by omega), rfl, hc37, hc40, hc41⟩)⟩)
      · refine lv_iload hx_ hb_ dX11_show_32 (lv_at hl 4 rfl) ?_
        refine si_const S dX11_show_34 ?_
        refine si_sipush S dX11_show_35 (by decide) ?_
        refine sk_SP E hV (As := [.int (sI l), .int (sI 1), .int (sI 1000)]) (rest := [.ref m]) (kX11_in l_ G b_ M4 N l 1 1000 (by omega)) (va_cwS 3 S.2.2.2.2 gX11_show_X11_in rfl rfl rfl (by decide +kernel) ⟨Nat.le_of_ble_eq_true rfl, Nat.le_of_ble_eq_true rfl⟩) rfl rfl hl.1 (Nat.le_of_ble_eq_true rfl) dX11_show_38 (c1 := 0) (s1 := 0) ⟨⟨rfl, rfl⟩, by decide, by decide⟩ (fun H locs hV => ?_)
        refine sq_eq (tgt := 48) S dX11_show_41 (by decide) (fun c42 => ?_) (fun c42 => ?_)
        · refine si_const S dX11_show_48 ?_
          refine si_const S dX11_show_49 ?_
          refine sk_Vi E hV (As := [.int (sI 0), .int (sI 2)]) (rest := []) (kX11_fails0 l_ G b_ M4 N m ch tn ea sn nm wn 2 hc13 (by omega)) (cwV 2 S.2.2.2.2 gX11_show_X11_fails rfl rfl rfl (by decide +kernel) ⟨Nat.le_of_ble_eq_true rfl, Nat.le_of_ble_eq_true rfl⟩) (ci := 9) hc13 rfl rfl rfl hl.1 (Nat.le_of_ble_eq_true rfl) dX11_show_50 (c1 := 0) (s1 := 0) ⟨⟨rfl, rfl⟩, by decide, by decide⟩ (fun z46 M43 N44 H locs hp45 hV => ?_)
          obtain ⟨ez47, hN48, hc49, hf50⟩ := hp45
          rw [hN48] at hV
          rw [ez47]
          refine sz_ne (tgt := 85) S dX11_show_53 (by decide) (by omega) (fun _ => ?_) (fun c51 => absurd c51 (by omega))
          refine si_const S dX11_show_85 ?_
          have hc52 : M43 (m + 1) = some (sArr G 574 f) := ((hf50 (m + 1) (by omega)).trans (hf9 (m + 1) (by omega))).trans hc3
          have hc53 : svC G M43 (m + 2) ch fs := hsv.fr (fun x q8 q9 => ((hf50 x (by omega)).trans (hf9 x (by omega))).trans ((congrFun hM1 x).trans (va_up_ne M _ (by omega))))
          exact sr_i E hQ dX11_show_86 ⟨Nat.le_of_ble_eq_true rfl, Nat.le_of_ble_eq_true rfl⟩ hV (⟨rfl, fun x q0 q1 q2 => ((hf50 x (by omega)).trans (hf9 x (by omega))).trans ((congrFun hM1 x).trans (va_up_ne M _ (by omega))), Or.inr (Or.inl ⟨(by omega), rfl, hc49, hc52, hc53⟩)⟩)
        · refine si_const S dX11_show_44 ?_
          refine lv_goto (tgt := 49) hx_ hb_ dX11_show_45 (by decide) ?_
          refine si_const S dX11_show_49 ?_
          refine sk_Vi E hV (As := [.int (sI 1), .int (sI 2)]) (rest := []) (kX11_fails1 l_ G b_ M4 N m ch tn ea sn nm wn 2 hc13 (by omega)) (cwV 2 S.2.2.2.2 gX11_show_X11_fails rfl rfl rfl (by decide +kernel) ⟨Nat.le_of_ble_eq_true rfl, Nat.le_of_ble_eq_true rfl⟩) (ci := 9) hc13 rfl rfl rfl hl.1 (Nat.le_of_ble_eq_true rfl) dX11_show_50 (c1 := 0) (s1 := 0) ⟨⟨rfl, rfl⟩, by decide, by decide⟩ (fun z57 M54 N55 H locs hp56 hV => ?_)
          obtain ⟨ez58, hN59, hc60, hf61⟩ := hp56
          rw [hN59] at hV
          rw [ez58]
          refine sz_ne (tgt := 85) S dX11_show_53 (by decide) (by omega) (fun c62 => absurd c62 (by omega)) (fun _ => ?_)
          refine lv_aload_n hx_ hb_ dX11_show_56 rfl (lv_at hl 0 rfl) ?_
          have hdr := dayI_r (d := d) (by assumption)
          refine lv_iload_n hx_ hb_ dX11_show_57 rfl (lv_at hl 2 rfl) ?_
          refine sk_SP E hV (As := [.int (sI d)]) (rest := [.ref m]) (kX11_dayOf l_ G b_ M54 N d (by omega)) (va_cwS 1 S.2.2.2.2 gX11_show_X11_dayOf rfl rfl rfl (by decide +kernel) ⟨Nat.le_of_ble_eq_true rfl, Nat.le_of_ble_eq_true rfl⟩) rfl rfl hl.1 (Nat.le_of_ble_eq_true rfl) dX11_show_58 (c1 := 0) (s1 := 0) ⟨⟨rfl, rfl⟩, by decide, by decide⟩ (fun H locs hV => ?_)
          refine lv_iload_n hx_ hb_ dX11_show_61 rfl (lv_at hl 3 rfl) ?_
          refine si_add S dX11_show_62 ?_
          refine si_const S dX11_show_63 ?_
          refine si_sub S dX11_show_64 ?_
          refine si_ldc S (21991231) (S.2.2.2.2 _ (List.mem_of_getElem? (i := 2) rfl)) (by decide) dX11_show_65 ?_
          refine sk_SP E hV (As := [.int (sI 21991231)]) (rest := [.int (sI (((dayI d + 3652) + n) - 1)), .ref m]) (kX11_dayOf l_ G b_ M54 N 21991231 (by omega)) (va_cwS 1 S.2.2.2.2 gX11_show_X11_dayOf rfl rfl rfl (by decide +kernel) ⟨Nat.le_of_ble_eq_true rfl, Nat.le_of_ble_eq_true rfl⟩) rfl rfl hl.1 (Nat.le_of_ble_eq_true rfl) dX11_show_67 (c1 := 0) (s1 := 0) ⟨⟨rfl, rfl⟩, by decide, by decide⟩ (fun H locs hV => ?_)
          refine sb_gt (tgt := 77) S dX11_show_70 (by decide) (by omega) (fun c63 => ?_) (fun c63 => ?_)
          · refine si_const S dX11_show_77 ?_
            refine si_const S dX11_show_78 ?_
            refine sk_Vi E hV (As := [.int (sI 0), .int (sI 2)]) (rest := []) (kX11_fails0 l_ G b_ M54 N m ch tn ea sn nm wn 2 hc60 (by omega)) (cwV 2 S.2.2.2.2 gX11_show_X11_fails rfl rfl rfl (by decide +kernel) ⟨Nat.le_of_ble_eq_true rfl, Nat.le_of_ble_eq_true rfl⟩) (ci := 9) hc60 rfl rfl rfl hl.1 (Nat.le_of_ble_eq_true rfl) dX11_show_79 (c1 := 0) (s1 := 0) ⟨⟨rfl, rfl⟩, by decide, by decide⟩ (fun z67 M64 N65 H locs hp66 hV => ?_)
            obtain ⟨ez68, hN69, hc70, hf71⟩ := hp66
            rw [hN69] at hV
            rw [ez68]
            refine sz_eq (tgt := 87) S dX11_show_82 (by decide) (by omega) (fun c72 => absurd c72 (by omega)) (fun _ => ?_)
            refine si_const S dX11_show_85 ?_
            have hc73 : M64 (m + 1) = some (sArr G 574 f) := (((hf71 (m + 1) (by omega)).trans (hf61 (m + 1) (by omega))).trans (hf9 (m + 1) (by omega))).trans hc3
            have hc74 : svC G M64 (m + 2) ch fs := hsv.fr (fun x q8 q9 => (((hf71 x (by omega)).trans (hf61 x (by omega))).trans (hf9 x (by omega))).trans ((congrFun hM1 x).trans (va_up_ne M _ (by omega))))
            exact sr_i E hQ dX11_show_86 ⟨Nat.le_of_ble_eq_true rfl, Nat.le_of_ble_eq_true rfl⟩ hV (⟨rfl, fun x q0 q1 q2 => (((hf71 x (by omega)).trans (hf61 x (by omega))).trans (hf9 x (by omega))).trans ((congrFun hM1 x).trans (va_up_ne M _ (by omega))), Or.inr (Or.inl ⟨(by omega), rfl, hc70, hc73, hc74⟩)⟩)
          · refine si_const S dX11_show_73 ?_
            refine lv_goto (tgt := 78) hx_ hb_ dX11_show_74 (by decide) ?_
            refine si_const S dX11_show_78 ?_
            refine sk_Vi E hV (As := [.int (sI 1), .int (sI 2)]) (rest := []) (kX11_fails1 l_ G b_ M54 N m ch tn ea sn nm wn 2 hc60 (by omega)) (cwV 2 S.2.2.2.2 gX11_show_X11_fails rfl rfl rfl (by decide +kernel) ⟨Nat.le_of_ble_eq_true rfl, Nat.le_of_ble_eq_true rfl⟩) (ci := 9) hc60 rfl rfl rfl hl.1 (Nat.le_of_ble_eq_true rfl) dX11_show_79 (c1 := 0) (s1 := 0) ⟨⟨rfl, rfl⟩, by decide, by decide⟩ (fun z78 M75 N76 H locs hp77 hV => ?_)
            obtain ⟨ez79, hN80, hc81, hf82⟩ := hp77
            rw [hN80] at hV
            rw [ez79]
            refine sz_eq (tgt := 87) S dX11_show_82 (by decide) (by omega) (fun _ => ?_) (fun c83 => absurd c83 (by omega))
            refine lv_aload_n hx_ hb_ dX11_show_87 rfl (lv_at hl 0 rfl) ?_
            refine lv_aload_n hx_ hb_ dX11_show_88 rfl (lv_at hl 0 rfl) ?_
            refine sc_get (ci := 9) (C := RX11) (T := TX11) (n := 22) S hK hV inX11_ hc81 rfl 1 (by decide) (S.2.2.2.2 _ (List.mem_of_getElem? (i := 3) rfl)) rfl rfl dX11_show_89 ?_
            refine si_sipush S dX11_show_92 (by decide) ?_
            have hc84 : M75 (m + 1) = some (sArr G 574 f) := (((hf82 (m + 1) (by omega)).trans (hf61 (m + 1) (by omega))).trans (hf9 (m + 1) (by omega))).trans hc3
            refine sc_iald S hK hV hc84 (by omega) dX11_show_95 ?_
            refine si_bipush S dX11_show_96 (by decide) ?_
            refine sb_ge (tgt := 120) S dX11_show_98 (by decide) (by omega) (fun c85 => ?_) (fun c85 => ?_)
            · refine si_const S dX11_show_120 ?_
              refine si_const S dX11_show_121 ?_
              refine sk_Vi E hV (As := [.int (sI 0), .int (sI 3)]) (rest := []) (kX11_fails0 l_ G b_ M75 N m ch tn ea sn nm wn 3 hc81 (by omega)) (cwV 2 S.2.2.2.2 gX11_show_X11_fails rfl rfl rfl (by decide +kernel) ⟨Nat.le_of_ble_eq_true rfl, Nat.le_of_ble_eq_true rfl⟩) (ci := 9) hc81 rfl rfl rfl hl.1 (Nat.le_of_ble_eq_true rfl) dX11_show_122 (c1 := 0) (s1 := 0) ⟨⟨rfl, rfl⟩, by decide, by decide⟩ (fun z89 M86 N87 H locs hp88 hV => ?_)
              obtain ⟨ez90, hN91, hc92, hf93⟩ := hp88
              rw [hN91] at hV
              rw [ez90]
              refine sz_eq (tgt := 130) S dX11_show_125 (by decide) (by omega) (fun c94 => absurd c94 (by omega)) (fun _ => ?_)
              refine si_const S dX11_show_128 ?_
              have hc95 : M86 (m + 1) = some (sArr G 574 f) := (hf93 (m + 1) (by omega)).trans hc84
              have hc96 : svC G M86 (m + 2) ch fs := hsv.fr (fun x q8 q9 => ((((hf93 x (by omega)).trans (hf82 x (by omega))).trans (hf61 x (by omega))).trans (hf9 x (by omega))).trans ((congrFun hM1 x).trans (va_up_ne M _ (by omega))))
              exact sr_i E hQ dX11_show_129 ⟨Nat.le_of_ble_eq_true rfl, Nat.le_of_ble_eq_true rfl⟩ hV (⟨rfl, fun x q0 q1 q2 => ((((hf93 x (by omega)).trans (hf82 x (by omega))).trans (hf61 x (by omega))).trans (hf9 x (by omega))).trans ((congrFun hM1 x).trans (va_up_ne M _ (by omega))), Or.inr (Or.inr (Or.inl ⟨(⟨by omega, by omega, fun h => by first | omega | exact h113 h.2⟩), rfl, hc92, hc95, hc96⟩))⟩)
            · refine lv_aload_n hx_ hb_ dX11_show_101 rfl (lv_at hl 0 rfl) ?_
              refine lv_iload_n hx_ hb_ dX11_show_102 rfl (lv_at hl 1 rfl) ?_
              refine lv_iload_n hx_ hb_ dX11_show_103 rfl (lv_at hl 2 rfl) ?_
              refine sk_SP E hV (As := [.int (sI d)]) (rest := [.int (sI s), .ref m, .ref m]) (kX11_dayOf l_ G b_ M75 N d (by omega)) (va_cwS 1 S.2.2.2.2 gX11_show_X11_dayOf rfl rfl rfl (by decide +kernel) ⟨Nat.le_of_ble_eq_true rfl, Nat.le_of_ble_eq_true rfl⟩) rfl rfl hl.1 (Nat.le_of_ble_eq_true rfl) dX11_show_104 (c1 := 0) (s1 := 0) ⟨⟨rfl, rfl⟩, by decide, by decide⟩ (fun H locs hV => ?_)
              refine lv_iload_n hx_ hb_ dX11_show_107 rfl (lv_at hl 3 rfl) ?_
              refine lv_iload hx_ hb_ dX11_show_108 (lv_at hl 4 rfl) ?_
              refine sk_VP E hV (As := [.int (sI s), .int (sI (dayI d + 3652)), .int (sI n), .int (sI l)]) (rest := [.ref m]) (kX11_canBeShown l_ G b_ M75 N m 0 ch tn ea sn nm wn f s (d / 10000) (dayI d + 3652) n l d hc81 hc84 (by omega) (by omega) (⟨by assumption, rfl, rfl⟩) (by omega)) (cwV 4 S.2.2.2.2 gX11_show_X11_canBeShown rfl rfl rfl (by decide +kernel) ⟨Nat.le_of_ble_eq_true rfl, Nat.le_of_ble_eq_true rfl⟩) (ci := 9) hc81 rfl rfl rfl hl.1 (Nat.le_of_ble_eq_true rfl) dX11_show_110 (c1 := 0) (s1 := 0) ⟨⟨rfl, rfl⟩, by decide, by decide⟩ (fun H locs hV => ?_)
              refine sq_eq (tgt := 120) S dX11_show_113 (by decide) (fun h113 => ?_) (fun h113 => ?_)
              · refine si_const S dX11_show_120 ?_
                refine si_const S dX11_show_121 ?_
                refine sk_Vi E hV (As := [.int (sI 0), .int (sI 3)]) (rest := []) (kX11_fails0 l_ G b_ M75 N m ch tn ea sn nm wn 3 hc81 (by omega)) (cwV 2 S.2.2.2.2 gX11_show_X11_fails rfl rfl rfl (by decide +kernel) ⟨Nat.le_of_ble_eq_true rfl, Nat.le_of_ble_eq_true rfl⟩) (ci := 9) hc81 rfl rfl rfl hl.1 (Nat.le_of_ble_eq_true rfl) dX11_show_122 (c1 := 0) (s1 := 0) ⟨⟨rfl, rfl⟩, by decide, by decide⟩ (fun z100 M97 N98 H locs hp99 hV => ?_)
                obtain ⟨ez101, hN102, hc103, hf104⟩ := hp99
                rw [hN102] at hV
                rw [ez101]
                refine sz_eq (tgt := 130) S dX11_show_125 (by decide) (by omega) (fun c105 => absurd c105 (by omega)) (fun _ => ?_)
                refine si_const S dX11_show_128 ?_
                have hc106 : M97 (m + 1) = some (sArr G 574 f) := (hf104 (m + 1) (by omega)).trans hc84
                have hc107 : svC G M97 (m + 2) ch fs := hsv.fr (fun x q8 q9 => ((((hf104 x (by omega)).trans (hf82 x (by omega))).trans (hf61 x (by omega))).trans (hf9 x (by omega))).trans ((congrFun hM1 x).trans (va_up_ne M _ (by omega))))
                exact sr_i E hQ dX11_show_129 ⟨Nat.le_of_ble_eq_true rfl, Nat.le_of_ble_eq_true rfl⟩ hV (⟨rfl, fun x q0 q1 q2 => ((((hf104 x (by omega)).trans (hf82 x (by omega))).trans (hf61 x (by omega))).trans (hf9 x (by omega))).trans ((congrFun hM1 x).trans (va_up_ne M _ (by omega))), Or.inr (Or.inr (Or.inl ⟨(⟨by omega, by omega, fun h => by first | omega | exact h113 h.2⟩), rfl, hc103, hc106, hc107⟩))⟩)
              · refine si_const S dX11_show_116 ?_
                refine lv_goto (tgt := 121) hx_ hb_ dX11_show_117 (by decide) ?_
                refine si_const S dX11_show_121 ?_
                refine sk_Vi E hV (As := [.int (sI 1), .int (sI 3)]) (rest := []) (kX11_fails1 l_ G b_ M75 N m ch tn ea sn nm wn 3 hc81 (by omega)) (cwV 2 S.2.2.2.2 gX11_show_X11_fails rfl rfl rfl (by decide +kernel) ⟨Nat.le_of_ble_eq_true rfl, Nat.le_of_ble_eq_true rfl⟩) (ci := 9) hc81 rfl rfl rfl hl.1 (Nat.le_of_ble_eq_true rfl) dX11_show_122 (c1 := 0) (s1 := 0) ⟨⟨rfl, rfl⟩, by decide, by decide⟩ (fun z111 M108 N109 H locs hp110 hV => ?_)
                obtain ⟨ez112, hN113, hc114, hf115⟩ := hp110
                rw [hN113] at hV
                rw [ez112]
                refine sz_eq (tgt := 130) S dX11_show_125 (by decide) (by omega) (fun _ => ?_) (fun c116 => absurd c116 (by omega))
                refine lv_aload_n hx_ hb_ dX11_show_130 rfl (lv_at hl 0 rfl) ?_
                have hc117 : M108 (m + 1) = some (sArr G 574 f) := (hf115 (m + 1) (by omega)).trans hc84
                have hc118 : svC G M108 (m + 2) ch fs := hsv.fr (fun x q8 q9 => ((((hf115 x (by omega)).trans (hf82 x (by omega))).trans (hf61 x (by omega))).trans (hf9 x (by omega))).trans ((congrFun hM1 x).trans (va_up_ne M _ (by omega))))
                refine sk_Vv E hV (As := []) (rest := []) (kX11_keeps l_ G b_ M108 N m 0 ch tn ea sn nm wn f fs hc114 hc117 hc118 (by omega)) (cwV 0 S.2.2.2.2 gX11_show_X11_keeps rfl rfl rfl (by decide +kernel) ⟨Nat.le_of_ble_eq_true rfl, Nat.le_of_ble_eq_true rfl⟩) (ci := 9) hc114 rfl rfl rfl hl.1 (Nat.le_of_ble_eq_true rfl) dX11_show_131 (c1 := 0) (s1 := 0) ⟨⟨rfl, rfl⟩, by decide, by decide⟩ (fun M119 N120 H locs hp121 hV => ?_)
                obtain ⟨hN123, hc124, hc125, hf126⟩ := hp121
                rw [hN123] at hV
                refine lv_aload_n hx_ hb_ dX11_show_134 rfl (lv_at hl 0 rfl) ?_
                refine sc_get (ci := 9) (C := RX11) (T := TX11) (n := 22) S hK hV inX11_ hc124 rfl 1 (by decide) (S.2.2.2.2 _ (List.mem_of_getElem? (i := 3) rfl)) rfl rfl dX11_show_135 ?_
                refine si_sipush S dX11_show_138 (by decide) ?_
                have hc127 : M119 (m + 1) = some (sArr G 574 f) := (hf126 (m + 1) (by omega) (by omega)).trans hc117
                refine sc_iald S hK hV hc127 (by omega) dX11_show_141 ?_
                refine lv_istore (lv' := [(5, .int (sI (f 572))), (0, .ref m), (1, .int (sI s)), (2, .int (sI d)), (3, .int (sI n)), (4, .int (sI l))]) hx_ hb_ dX11_show_142 hl (by decide) rfl (fun ls hl => ?_)
                refine lv_aload_n hx_ hb_ dX11_show_144 rfl (lv_at hl 1 rfl) ?_
                refine sc_get (ci := 9) (C := RX11) (T := TX11) (n := 22) S hK hV inX11_ hc124 rfl 1 (by decide) (S.2.2.2.2 _ (List.mem_of_getElem? (i := 3) rfl)) rfl rfl dX11_show_145 ?_
                refine si_sipush S dX11_show_148 (by decide) ?_
                refine lv_iload hx_ hb_ dX11_show_151 (lv_at hl 0 rfl) ?_
                refine si_add S dX11_show_153 ?_
                refine lv_iload_n hx_ hb_ dX11_show_154 rfl (lv_at hl 2 rfl) ?_
                refine sc_iast S hK hV hc127 (by omega) dX11_show_155 (fun M128 H locs hM128 hV => ?_)
                have hc129 : M128 (m + 1) = some (sArr G 574 (iup f (464 + (f 572)) s)) := (congrFun hM128 (m + 1)).trans (va_up_self M119 (m + 1) _)
                refine lv_aload_n hx_ hb_ dX11_show_156 rfl (lv_at hl 1 rfl) ?_
                have hc130 : M128 m = some (mO m 0 (chn ch) tn ea sn nm wn) := ((congrFun hM128 m).trans (va_up_ne M119 _ (by omega))).trans hc124
                refine sc_get (ci := 9) (C := RX11) (T := TX11) (n := 22) S hK hV inX11_ hc130 rfl 1 (by decide) (S.2.2.2.2 _ (List.mem_of_getElem? (i := 3) rfl)) rfl rfl dX11_show_157 ?_
                refine si_sipush S dX11_show_160 (by decide) ?_
                refine lv_iload hx_ hb_ dX11_show_163 (lv_at hl 0 rfl) ?_
                refine si_add S dX11_show_165 ?_
                refine lv_iload_n hx_ hb_ dX11_show_166 rfl (lv_at hl 3 rfl) ?_
                refine sk_SP E hV (As := [.int (sI d)]) (rest := [.int (sI (484 + (f 572))), .ref (m + 1)]) (kX11_dayOf l_ G b_ M128 N d (by omega)) (va_cwS 1 S.2.2.2.2 gX11_show_X11_dayOf rfl rfl rfl (by decide +kernel) ⟨Nat.le_of_ble_eq_true rfl, Nat.le_of_ble_eq_true rfl⟩) rfl rfl hl.1 (Nat.le_of_ble_eq_true rfl) dX11_show_167 (c1 := 0) (s1 := 0) ⟨⟨rfl, rfl⟩, by decide, by decide⟩ (fun H locs hV => ?_)
                refine sc_iast S hK hV hc129 (by omega) dX11_show_170 (fun M131 H locs hM131 hV => ?_)
                have hc132 : M131 (m + 1) = some (sArr G 574 (iup (iup f (464 + (f 572)) s) (484 + (f 572)) (dayI d + 3652))) := (congrFun hM131 (m + 1)).trans (va_up_self M128 (m + 1) _)
                refine lv_aload_n hx_ hb_ dX11_show_171 rfl (lv_at hl 1 rfl) ?_
                have hc133 : M131 m = some (mO m 0 (chn ch) tn ea sn nm wn) := ((congrFun hM131 m).trans (va_up_ne M128 _ (by omega))).trans hc130
                refine sc_get (ci := 9) (C := RX11) (T := TX11) (n := 22) S hK hV inX11_ hc133 rfl 1 (by decide) (S.2.2.2.2 _ (List.mem_of_getElem? (i := 3) rfl)) rfl rfl dX11_show_172 ?_
                refine si_sipush S dX11_show_175 (by decide) ?_
                refine lv_iload hx_ hb_ dX11_show_178 (lv_at hl 0 rfl) ?_
                refine si_add S dX11_show_180 ?_
                refine lv_iload_n hx_ hb_ dX11_show_181 rfl (lv_at hl 4 rfl) ?_
                refine sc_iast S hK hV hc132 (by omega) dX11_show_182 (fun M134 H locs hM134 hV => ?_)
                have hc135 : M134 (m + 1) = some (sArr G 574 (iup (iup (iup f (464 + (f 572)) s) (484 + (f 572)) (dayI d + 3652)) (504 + (f 572)) n)) := (congrFun hM134 (m + 1)).trans (va_up_self M131 (m + 1) _)
                refine lv_aload_n hx_ hb_ dX11_show_183 rfl (lv_at hl 1 rfl) ?_
                have hc136 : M134 m = some (mO m 0 (chn ch) tn ea sn nm wn) := ((congrFun hM134 m).trans (va_up_ne M131 _ (by omega))).trans hc133
                refine sc_get (ci := 9) (C := RX11) (T := TX11) (n := 22) S hK hV inX11_ hc136 rfl 1 (by decide) (S.2.2.2.2 _ (List.mem_of_getElem? (i := 3) rfl)) rfl rfl dX11_show_184 ?_
                refine si_sipush S dX11_show_187 (by decide) ?_
                refine lv_iload hx_ hb_ dX11_show_190 (lv_at hl 0 rfl) ?_
                refine si_add S dX11_show_192 ?_
                refine lv_iload hx_ hb_ dX11_show_193 (lv_at hl 5 rfl) ?_
                refine sc_iast S hK hV hc135 (by omega) dX11_show_195 (fun M137 H locs hM137 hV => ?_)
                have hc138 : M137 (m + 1) = some (sArr G 574 (iup (iup (iup (iup f (464 + (f 572)) s) (484 + (f 572)) (dayI d + 3652)) (504 + (f 572)) n) (524 + (f 572)) l)) := (congrFun hM137 (m + 1)).trans (va_up_self M134 (m + 1) _)
                refine lv_aload_n hx_ hb_ dX11_show_196 rfl (lv_at hl 1 rfl) ?_
                have hc139 : M137 m = some (mO m 0 (chn ch) tn ea sn nm wn) := ((congrFun hM137 m).trans (va_up_ne M134 _ (by omega))).trans hc136
                refine sc_get (ci := 9) (C := RX11) (T := TX11) (n := 22) S hK hV inX11_ hc139 rfl 1 (by decide) (S.2.2.2.2 _ (List.mem_of_getElem? (i := 3) rfl)) rfl rfl dX11_show_197 ?_
                refine si_sipush S dX11_show_200 (by decide) ?_
                refine lv_dup2_11 hx_ hb_ dX11_show_203 rfl rfl ?_
                refine sc_iald S hK hV hc138 (by omega) dX11_show_204 ?_
                rw [show (iup (iup (iup (iup f (464 + (f 572)) s) (484 + (f 572)) (dayI d + 3652)) (504 + (f 572)) n) (524 + (f 572)) l) 572 = f 572 from by unfold iup; (repeat (first | rw [if_pos (by omega)] | rw [if_neg (by omega)]))]
                refine si_const S dX11_show_205 ?_
                refine si_add S dX11_show_206 ?_
                refine sc_iast S hK hV hc138 (by omega) dX11_show_207 (fun M140 H locs hM140 hV => ?_)
                have hc141 : M140 (m + 1) = some (sArr G 574 (iup (iup (iup (iup (iup f (464 + (f 572)) s) (484 + (f 572)) (dayI d + 3652)) (504 + (f 572)) n) (524 + (f 572)) l) 572 ((f 572) + 1))) := (congrFun hM140 (m + 1)).trans (va_up_self M137 (m + 1) _)
                refine lv_iload hx_ hb_ dX11_show_208 (lv_at hl 0 rfl) ?_
                have hc142 : M140 m = some (mO m 0 (chn ch) tn ea sn nm wn) := ((congrFun hM140 m).trans (va_up_ne M137 _ (by omega))).trans hc139
                have hc143 : svC G M140 (m + 2) (chn ch) (fsn ch fs f) := hc125.fr (fun x q8 q9 => (((((congrFun hM140 x).trans (va_up_ne M137 _ (by omega))).trans ((congrFun hM137 x).trans (va_up_ne M134 _ (by omega)))).trans ((congrFun hM134 x).trans (va_up_ne M131 _ (by omega)))).trans ((congrFun hM131 x).trans (va_up_ne M128 _ (by omega)))).trans ((congrFun hM128 x).trans (va_up_ne M119 _ (by omega))))
                exact sr_i E hQ dX11_show_210 ⟨Nat.le_of_ble_eq_true rfl, Nat.le_of_ble_eq_true rfl⟩ hV (⟨rfl, fun x q0 q1 q2 => (((((((((((congrFun hM140 x).trans (va_up_ne M137 _ (by omega))).trans ((congrFun hM137 x).trans (va_up_ne M134 _ (by omega)))).trans ((congrFun hM134 x).trans (va_up_ne M131 _ (by omega)))).trans ((congrFun hM131 x).trans (va_up_ne M128 _ (by omega)))).trans ((congrFun hM128 x).trans (va_up_ne M119 _ (by omega)))).trans (hf126 x (by omega) (by omega))).trans (hf115 x (by omega))).trans (hf82 x (by omega))).trans (hf61 x (by omega))).trans (hf9 x (by omega))).trans ((congrFun hM1 x).trans (va_up_ne M _ (by omega))), Or.inr (Or.inr (Or.inr (⟨(⟨by omega, by omega, by omega, h113⟩), rfl, hc142, hc141, hc143⟩)))⟩)
  · rw [ez15]
    refine sz_ne (tgt := 85) S dX11_show_10 (by decide) (by omega) (fun _ => ?_) (fun c144 => absurd c144 (by omega))
    refine si_const S dX11_show_85 ?_
    have hc145 : M4 (m + 1) = some (sArr G 574 f) := (hf9 (m + 1) (by omega)).trans hc3
    have hc146 : svC G M4 (m + 2) ch fs := hsv.fr (fun x q8 q9 => (hf9 x (by omega)).trans ((congrFun hM1 x).trans (va_up_ne M _ (by omega))))
    exact sr_i E hQ dX11_show_86 ⟨Nat.le_of_ble_eq_true rfl, Nat.le_of_ble_eq_true rfl⟩ hV (⟨rfl, fun x q0 q1 q2 => (hf9 x (by omega)).trans ((congrFun hM1 x).trans (va_up_ne M _ (by omega))), Or.inl ⟨(by omega), rfl, hc16, hc145, hc146⟩⟩)

abbrev rmX11_mostDays : Room := { frames := 7, cells := 0, slots := 0, locals := 179 }
set_option maxHeartbeats 4000000 in
set_option maxRecDepth 100000 in
theorem kX11_mostDays (l_ : Launch) (G : sG) (b_ : Nat) (M : sM) (N : Nat) (m : Nat) (th ch tn ea sn nm wn : Int) (f : sF) (s d l : Int) (hm0 : M m = some (mO m th ch tn ea sn nm wn)) (hm1 : M (m + 1) = some (sArr G 574 f)) (hok : sOk f) (hr : sR s ∧ sR d ∧ sR l) : cI l_ yX11_mostDays wsX11_mostDays rmX11_mostDays G b_ M N [.ref m, .int (sI s), .int (sI d), .int (sI l)] (fun z_ M1 N1 => N1 = N ∧ (∀ x : Nat, ¬ (x = m) → M1 x = M x) ∧ (((¬ (0 ≤ s ∧ s < f 568)) ∧ z_ = 0 ∧ M1 m = some (mO m 1 ch tn ea sn nm wn)) ∨ (((0 ≤ s ∧ s < f 568) ∧ ¬ (isDt d ∧ 1 ≤ l ∧ l ≤ 1000)) ∧ z_ = 0 ∧ M1 m = some (mO m 2 ch tn ea sn nm wn)) ∨ (((0 ≤ s ∧ s < f 568) ∧ isDt d ∧ 1 ≤ l ∧ l ≤ 1000) ∧ z_ = mdI f s (d / 10000) (dayI d + 3652) l ∧ M1 m = some (mO m 0 ch tn ea sn nm wn)))) := by
  refine sE.ofI (cc := cX11_mostDays) (nL := 5) (ret := (some .int)) (by decide) rfl (Nat.le_of_ble_eq_true rfl) ?_
  intro p_ e_ s_ m_ args_ below_ meth_ c_ ls Q hQ E hl
  have E : sE p_ l_ e_ rmX11_mostDays s_ m_ args_ below_ meth_ c_ cX11_mostDays 5 wsX11_mostDays RX11 "mostDays" (some .int) G b_ M N := E
  have S := E.1
  have hx_ := S.1
  have hb_ := S.2.1
  have hK := E.2.2.2.2.1
  have hV := E.2.2.2.2.2.2
  have hl : lv_has ls 5 [(0, .ref m), (1, .int (sI s)), (2, .int (sI d)), (3, .int (sI l))] := hl
  have inX11_ : ∀ w ∈ wsX110, w ∈ wsX11_mostDays := fun _ h => List.mem_cons_of_mem _ (List.mem_append_right _ h)
  have kn0 := sOk_N hok
  refine lv_aload_n hx_ hb_ dX11_mostDays_0 rfl (lv_at hl 0 rfl) ?_
  refine si_const S dX11_mostDays_1 ?_
  refine sc_put (ci := 9) (C := RX11) (T := TX11) (n := 22) S hK hV inX11_ tyX11_ok nmX11 hm0 rfl 0 (by decide) (S.2.2.2.2 _ (List.mem_of_getElem? (i := 1) rfl)) rfl rfl rfl rfl (Nat.le_of_ble_eq_true rfl) dX11_mostDays_2 (fs1 := [.int (sI 0), .ref (m + 1), .ref (m + 2), .int (sI ch), .ref (m + 3), .int (sI tn), .int (sI ea), .ref (m + 4), .ref (m + 5), .ref (m + 6), .ref (m + 7), .ref (m + 8), .ref (m + 9), .int (sI sn), .ref (m + 10), .ref (m + 11), .ref (m + 12), .ref (m + 13), .int (sI nm), .ref (m + 14), .ref (m + 15), .int (sI wn)]) rfl (fun M1 H locs hM1 hV => ?_)
  have hc2 : M1 m = some (mO m 0 ch tn ea sn nm wn) := (congrFun hM1 m).trans (va_up_self M m _)
  refine lv_aload_n hx_ hb_ dX11_mostDays_5 rfl (lv_at hl 0 rfl) ?_
  refine lv_iload_n hx_ hb_ dX11_mostDays_6 rfl (lv_at hl 1 rfl) ?_
  have hc3 : M1 (m + 1) = some (sArr G 574 f) := ((congrFun hM1 (m + 1)).trans (va_up_ne M _ (by omega))).trans hm1
  refine sk_Vi E hV (As := [.int (sI s)]) (rest := []) (kX11_noStone l_ G b_ M1 N m ch tn ea sn nm wn f s hc2 hc3 (by omega) (by omega)) (cwV 1 S.2.2.2.2 gX11_mostDays_X11_noStone rfl rfl rfl (by decide +kernel) ⟨Nat.le_of_ble_eq_true rfl, Nat.le_of_ble_eq_true rfl⟩) (ci := 9) hc2 rfl rfl rfl hl.1 (Nat.le_of_ble_eq_true rfl) dX11_mostDays_7 (c1 := 0) (s1 := 0) ⟨⟨rfl, rfl⟩, by decide, by decide⟩ (fun z7 M4 N5 H locs hp6 hV => ?_)
  obtain ⟨hN8, hf9, hq10⟩ := hp6
  rw [hN8] at hV
  rcases hq10 with ⟨c11, ez12, hc13⟩ | ⟨c14, ez15, hc16⟩
  · rw [ez12]
    refine sz_ne (tgt := 44) S dX11_mostDays_10 (by decide) (by omega) (fun c17 => absurd c17 (by omega)) (fun _ => ?_)
    refine lv_aload_n hx_ hb_ dX11_mostDays_13 rfl (lv_at hl 0 rfl) ?_
    refine lv_iload_n hx_ hb_ dX11_mostDays_14 rfl (lv_at hl 2 rfl) ?_
    refine sk_SP E hV (As := [.int (sI d)]) (rest := [.ref m]) (kX11_isDate l_ G b_ M4 N d (by omega)) (va_cwS 1 S.2.2.2.2 gX11_mostDays_X11_isDate rfl rfl rfl (by decide +kernel) ⟨Nat.le_of_ble_eq_true rfl, Nat.le_of_ble_eq_true rfl⟩) rfl rfl hl.1 (Nat.le_of_ble_eq_true rfl) dX11_mostDays_15 (c1 := 0) (s1 := 0) ⟨⟨rfl, rfl⟩, by decide, by decide⟩ (fun H locs hV => ?_)
    refine sq_eq (tgt := 36) S dX11_mostDays_18 (by decide) (fun c18 => ?_) (fun c18 => ?_)
    · refine si_const S dX11_mostDays_36 ?_
      refine si_const S dX11_mostDays_37 ?_
      refine sk_Vi E hV (As := [.int (sI 0), .int (sI 2)]) (rest := []) (kX11_fails0 l_ G b_ M4 N m ch tn ea sn nm wn 2 hc13 (by omega)) (cwV 2 S.2.2.2.2 gX11_mostDays_X11_fails rfl rfl rfl (by decide +kernel) ⟨Nat.le_of_ble_eq_true rfl, Nat.le_of_ble_eq_true rfl⟩) (ci := 9) hc13 rfl rfl rfl hl.1 (Nat.le_of_ble_eq_true rfl) dX11_mostDays_38 (c1 := 0) (s1 := 0) ⟨⟨rfl, rfl⟩, by decide, by decide⟩ (fun z22 M19 N20 H locs hp21 hV => ?_)
      obtain ⟨ez23, hN24, hc25, hf26⟩ := hp21
      rw [hN24] at hV
      rw [ez23]
      refine sz_eq (tgt := 46) S dX11_mostDays_41 (by decide) (by omega) (fun c27 => absurd c27 (by omega)) (fun _ => ?_)
      refine si_const S dX11_mostDays_44 ?_
      exact sr_i E hQ dX11_mostDays_45 ⟨Nat.le_of_ble_eq_true rfl, Nat.le_of_ble_eq_true rfl⟩ hV (⟨rfl, fun x q0 => ((hf26 x (by omega)).trans (hf9 x (by omega))).trans ((congrFun hM1 x).trans (va_up_ne M _ (by omega))), Or.inr (Or.inl ⟨(by omega), rfl, hc25⟩)⟩)
    · refine lv_iload_n hx_ hb_ dX11_mostDays_21 rfl (lv_at hl 3 rfl) ?_
      refine si_const S dX11_mostDays_22 ?_
      refine si_sipush S dX11_mostDays_23 (by decide) ?_
      refine sk_SP E hV (As := [.int (sI l), .int (sI 1), .int (sI 1000)]) (rest := [.ref m]) (kX11_in l_ G b_ M4 N l 1 1000 (by omega)) (va_cwS 3 S.2.2.2.2 gX11_mostDays_X11_in rfl rfl rfl (by decide +kernel) ⟨Nat.le_of_ble_eq_true rfl, Nat.le_of_ble_eq_true rfl⟩) rfl rfl hl.1 (Nat.le_of_ble_eq_true rfl) dX11_mostDays_26 (c1 := 0) (s1 := 0) ⟨⟨rfl, rfl⟩, by decide, by decide⟩ (fun H locs hV => ?_)
      refine sq_eq (tgt := 36) S dX11_mostDays_29 (by decide) (fun c28 => ?_) (fun c28 => ?_)
      · refine si_const S dX11_mostDays_36 ?_
        refine si_const S dX11_mostDays_37 ?_
        refine sk_Vi E hV (As := [.int (sI 0), .int (sI 2)]) (rest := []) (kX11_fails0 l_ G b_ M4 N m ch tn ea sn nm wn 2 hc13 (by omega)) (cwV 2 S.2.2.2.2 gX11_mostDays_X11_fails rfl rfl rfl (by decide +kernel) ⟨Nat.le_of_ble_eq_true rfl, Nat.le_of_ble_eq_true rfl⟩) (ci := 9) hc13 rfl rfl rfl hl.1 (Nat.le_of_ble_eq_true rfl) dX11_mostDays_38 (c1 := 0) (s1 := 0) ⟨⟨rfl, rfl⟩, by decide, by decide⟩ (fun z32 M29 N30 H locs hp31 hV => ?_)
        obtain ⟨ez33, hN34, hc35, hf36⟩ := hp31
        rw [hN34] at hV
        rw [ez33]
        refine sz_eq (tgt := 46) S dX11_mostDays_41 (by decide) (by omega) (fun c37 => absurd c37 (by omega)) (fun _ => ?_)
        refine si_const S dX11_mostDays_44 ?_
        exact sr_i E hQ dX11_mostDays_45 ⟨Nat.le_of_ble_eq_true rfl, Nat.le_of_ble_eq_true rfl⟩ hV (⟨rfl, fun x q0 => ((hf36 x (by omega)).trans (hf9 x (by omega))).trans ((congrFun hM1 x).trans (va_up_ne M _ (by omega))), Or.inr (Or.inl ⟨(by omega), rfl, hc35⟩)⟩)
      · refine si_const S dX11_mostDays_32 ?_
        refine lv_goto (tgt := 37) hx_ hb_ dX11_mostDays_33 (by decide) ?_
        refine si_const S dX11_mostDays_37 ?_
        refine sk_Vi E hV (As := [.int (sI 1), .int (sI 2)]) (rest := []) (kX11_fails1 l_ G b_ M4 N m ch tn ea sn nm wn 2 hc13 (by omega)) (cwV 2 S.2.2.2.2 gX11_mostDays_X11_fails rfl rfl rfl (by decide +kernel) ⟨Nat.le_of_ble_eq_true rfl, Nat.le_of_ble_eq_true rfl⟩) (ci := 9) hc13 rfl rfl rfl hl.1 (Nat.le_of_ble_eq_true rfl) dX11_mostDays_38 (c1 := 0) (s1 := 0) ⟨⟨rfl, rfl⟩, by decide, by decide⟩ (fun z41 M38 N39 H locs hp40 hV => ?_)
        obtain ⟨ez42, hN43, hc44, hf45⟩ := hp40
        rw [hN43] at hV
        rw [ez42]
        refine sz_eq (tgt := 46) S dX11_mostDays_41 (by decide) (by omega) (fun _ => ?_) (fun c46 => absurd c46 (by omega))
        have hdr := dayI_r (d := d) (by assumption)
        refine si_const S dX11_mostDays_46 ?_
        refine lv_istore (lv' := [(4, .int (sI 0)), (0, .ref m), (1, .int (sI s)), (2, .int (sI d)), (3, .int (sI l))]) hx_ hb_ dX11_mostDays_47 hl (by decide) rfl (fun ls hl => ?_)
        have L49 : ∀ (fuel : Nat) (q : Int)  (H : Heap) (locs : List Loc) (ls : Array Slot), ((400 - q).toNat) < fuel → (0 ≤ q ∧ q ≤ 400) → (∀ k, 0 ≤ k → k < q → ¬ ¬ cbP f s (d / 10000) (dayI d + 3652) (k + 1) l) → sV G b_ M38 N s_ H locs → lv_has ls 5 [(0, .ref m), (1, .int (sI s)), (2, .int (sI d)), (3, .int (sI l)), (4, .int (sI q))] → W p_ l_ e_ rmX11_mostDays s_ m_ args_ below_ meth_ c_ H locs 0 0 Q (F0 m_ 49 ls []) := by
          intro fuel
          induction fuel with
          | zero => intro q H locs ls hmu; exact absurd hmu (Nat.not_lt_zero _)
          | succ fuel ih49 =>
            intro q H locs ls hmu49 hv49_0 hq  hV hl
            refine lv_iload hx_ hb_ dX11_mostDays_49 (lv_at hl 4 rfl) ?_
            refine si_sipush S dX11_mostDays_51 (by decide) ?_
            refine sb_ge (tgt := 80) S dX11_mostDays_54 (by decide) (by omega) (fun c47 => ?_) (fun c47 => ?_)
            · refine lv_iload hx_ hb_ dX11_mostDays_80 (lv_at hl 4 rfl) ?_
              exact sr_i E hQ dX11_mostDays_82 ⟨Nat.le_of_ble_eq_true rfl, Nat.le_of_ble_eq_true rfl⟩ hV (⟨rfl, fun x q0 => ((hf45 x (by omega)).trans (hf9 x (by omega))).trans ((congrFun hM1 x).trans (va_up_ne M _ (by omega))), Or.inr (Or.inr (⟨(by omega), by unfold mdI; first | (rw [idx_some (P := fun n => ¬ cbP f s (d / 10000) (dayI d + 3652) (n + 1) l) ⟨by omega, by omega⟩ h71 hq, if_neg (by omega)]) | (rw [idx_none (P := fun n => ¬ cbP f s (d / 10000) (dayI d + 3652) (n + 1) l) (fun k a b => hq k a (by omega)), if_pos rfl]; omega), hc44⟩))⟩)
            · refine lv_aload_n hx_ hb_ dX11_mostDays_57 rfl (lv_at hl 0 rfl) ?_
              refine lv_iload_n hx_ hb_ dX11_mostDays_58 rfl (lv_at hl 1 rfl) ?_
              refine lv_iload_n hx_ hb_ dX11_mostDays_59 rfl (lv_at hl 2 rfl) ?_
              refine sk_SP E hV (As := [.int (sI d)]) (rest := [.int (sI s), .ref m]) (kX11_dayOf l_ G b_ M38 N d (by omega)) (va_cwS 1 S.2.2.2.2 gX11_mostDays_X11_dayOf rfl rfl rfl (by decide +kernel) ⟨Nat.le_of_ble_eq_true rfl, Nat.le_of_ble_eq_true rfl⟩) rfl rfl hl.1 (Nat.le_of_ble_eq_true rfl) dX11_mostDays_60 (c1 := 0) (s1 := 0) ⟨⟨rfl, rfl⟩, by decide, by decide⟩ (fun H locs hV => ?_)
              refine lv_iload hx_ hb_ dX11_mostDays_63 (lv_at hl 4 rfl) ?_
              refine si_const S dX11_mostDays_65 ?_
              refine si_add S dX11_mostDays_66 ?_
              refine lv_iload_n hx_ hb_ dX11_mostDays_67 rfl (lv_at hl 3 rfl) ?_
              have hc48 : M38 (m + 1) = some (sArr G 574 f) := ((hf45 (m + 1) (by omega)).trans (hf9 (m + 1) (by omega))).trans hc3
              refine sk_VP E hV (As := [.int (sI s), .int (sI (dayI d + 3652)), .int (sI (q + 1)), .int (sI l)]) (rest := []) (kX11_canBeShown l_ G b_ M38 N m 0 ch tn ea sn nm wn f s (d / 10000) (dayI d + 3652) (q + 1) l d hc44 hc48 (by omega) (by omega) (⟨by assumption, rfl, rfl⟩) (by omega)) (cwV 4 S.2.2.2.2 gX11_mostDays_X11_canBeShown rfl rfl rfl (by decide +kernel) ⟨Nat.le_of_ble_eq_true rfl, Nat.le_of_ble_eq_true rfl⟩) (ci := 9) hc44 rfl rfl rfl hl.1 (Nat.le_of_ble_eq_true rfl) dX11_mostDays_68 (c1 := 0) (s1 := 0) ⟨⟨rfl, rfl⟩, by decide, by decide⟩ (fun H locs hV => ?_)
              refine sq_eq (tgt := 80) S dX11_mostDays_71 (by decide) (fun h71 => ?_) (fun h71 => ?_)
              · refine lv_iload hx_ hb_ dX11_mostDays_80 (lv_at hl 4 rfl) ?_
                exact sr_i E hQ dX11_mostDays_82 ⟨Nat.le_of_ble_eq_true rfl, Nat.le_of_ble_eq_true rfl⟩ hV (⟨rfl, fun x q0 => ((hf45 x (by omega)).trans (hf9 x (by omega))).trans ((congrFun hM1 x).trans (va_up_ne M _ (by omega))), Or.inr (Or.inr (⟨(by omega), by unfold mdI; first | (rw [idx_some (P := fun n => ¬ cbP f s (d / 10000) (dayI d + 3652) (n + 1) l) ⟨by omega, by omega⟩ h71 hq, if_neg (by omega)]) | (rw [idx_none (P := fun n => ¬ cbP f s (d / 10000) (dayI d + 3652) (n + 1) l) (fun k a b => hq k a (by omega)), if_pos rfl]; omega), hc44⟩))⟩)
              · refine si_inc (lv' := [(4, .int (sI (q + 1))), (0, .ref m), (1, .int (sI s)), (2, .int (sI d)), (3, .int (sI l))]) S dX11_mostDays_74 hl (k := 4) rfl (by decide) rfl (fun ls hl => ?_)
                refine lv_goto (tgt := 49) hx_ hb_ dX11_mostDays_77 (by decide) ?_
                exact ih49 (q + 1) _ _ _ (by omega) (by omega) (idx_st hq (fun h => h h71)) hV (lv_sub hl [1, 2, 3, 4, 0] rfl)
        exact L49 _ 0 _ _ _ (Nat.lt_succ_self _) (by omega) (fun k a b => by omega) hV (lv_sub hl [1, 2, 3, 4, 0] rfl)
  · rw [ez15]
    refine sz_ne (tgt := 44) S dX11_mostDays_10 (by decide) (by omega) (fun _ => ?_) (fun c49 => absurd c49 (by omega))
    refine si_const S dX11_mostDays_44 ?_
    exact sr_i E hQ dX11_mostDays_45 ⟨Nat.le_of_ble_eq_true rfl, Nat.le_of_ble_eq_true rfl⟩ hV (⟨rfl, fun x q0 => (hf9 x (by omega)).trans ((congrFun hM1 x).trans (va_up_ne M _ (by omega))), Or.inl ⟨(by omega), rfl, hc16⟩⟩)
