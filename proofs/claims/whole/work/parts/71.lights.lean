/-! The class's Lights. -/
theorem nyr_b {y : Int} (h : 1890 ≤ y ∧ y ≤ 2210) : -3652 ≤ nyr y ∧ nyr y ≤ 113500 := by
  have h1 := nyr_m 1890 y h.1
  have h2 := nyr_1890
  omega
theorem dt_y {d : Int} (h : isDt d) : nyr (d / 10000) ≤ dayI d ∧ dayI d < nyr (d / 10000 + 1) := by
  have h1 := dA_r (d / 10000) (d / 100 % 100) (by omega)
  have h2 := nyr_s (d / 10000)
  have h3 := dA_m (d / 10000) (d / 100 % 100 + 1) 13 (by omega) (by omega) (by omega)
  have h4 := dA_s (d / 10000) (d / 100 % 100)
  have h5 := dA_13 (d / 10000)
  unfold dayI
  omega
theorem isum_pos {n : Int} {g : Int → Int} (h : ∀ k, 0 ≤ k → k < n → g k ≤ 0) : isum n g ≤ 0 := by
  have h1 := isum_le (n := n) (g := g) (g' := fun _ => 0) h
  have h2 : isum n (fun _ => 0) = 0 := isum_z (fun _ _ _ => rfl)
  omega
/-- no stone has more light than it may, in any year -/
def sLi (f : sF) : Prop := ∀ s y, 0 ≤ s → s < f 568 → 1890 ≤ y → y ≤ 2205 → liI f s y ≤ f (60 + s)
def ovD (f : sF) (k m : Int) : Prop := ∃ y, dat (f (484 + k)) / 10000 ≤ y ∧ y ≤ 2199 ∧ nyr y < f (484 + k) - 3652 + f (504 + k) ∧ m < liI f (f (464 + k)) y
def ovP (f : sF) (s m : Int) : Prop := ∃ k, 0 ≤ k ∧ k < f 572 ∧ f (464 + k) = s ∧ ovD f k m
/-- only years with a show of the stone can be over -/
theorem ov_i {f : sF} (hok : sOk f) {s m : Int} (hm : 0 ≤ m) : ovP f s m ↔ ¬ ∀ y, 1900 ≤ y → y < 2200 → liI f s y ≤ m := by
  have h0 := sOk_N hok
  constructor
  · rintro ⟨k, a, b, c, y, d, e, g, h⟩ q
    have h1 := (sOk_W hok k a b).2.1.1
    rw [c] at h
    have := q y (by omega) (by omega)
    omega
  · intro q
    have hy : ∃ y, 1900 ≤ y ∧ y < 2200 ∧ m < liI f s y := Classical.not_not.mp fun r => q fun y a b => by
      rcases Int.lt_or_le m (liI f s y) with t | t
      · exact absurd ⟨y, a, b, t⟩ r
      · exact t
    obtain ⟨y, a, b, c⟩ := hy
    have hk : ∃ k, 0 ≤ k ∧ k < f 572 ∧ 0 < liT f s y k := Classical.not_not.mp fun r => by
      have : liI f s y ≤ 0 := isum_pos fun k u v => by
        rcases Int.lt_or_le 0 (liT f s y k) with t | t
        · exact absurd ⟨k, u, v, t⟩ r
        · exact t
      omega
    obtain ⟨k, u, v, w⟩ := hk
    have hW := sOk_W hok k u v
    have hdt := dt_y hW.2.1.1
    unfold liT at w
    by_cases e : f (464 + k) = s
    · rw [if_pos e] at w
      have hd : 0 < dnI (f (484 + k)) (f (504 + k)) y := by
        rcases Int.lt_or_le 0 (dnI (f (484 + k)) (f (504 + k)) y) with t | t
        · exact t
        · have h3 := dnI_r (x := f (484 + k)) (n := f (504 + k)) (y := y) (by omega)
          rw [show dnI (f (484 + k)) (f (504 + k)) y = 0 by omega, Int.mul_zero] at w
          omega
      unfold dnI at hd
      refine ⟨k, u, v, e, y, ?_, by omega, by omega, by rw [e]; exact c⟩
      rcases Int.lt_or_le y (dat (f (484 + k)) / 10000) with t | t
      · have h4 := nyr_m (y + 1) (dat (f (484 + k)) / 10000) (by omega)
        omega
      · exact t
    · rw [if_neg e] at w
      omega
/-! How many days a show may have. -/
def mdQ (f : sF) (s Y x l v : Int) : Prop := (0 ≤ v ∧ v ≤ 400) ∧ ∀ n, 1 ≤ n → n ≤ 400 → (cbP f s Y x n l ↔ n ≤ v)
theorem md_eq {f : sF} {s Y x l v : Int} (h : mdQ f s Y x l v) : mdI f s Y x l = v := by
  have h1 := h.1
  unfold mdI
  by_cases e : v = 400
  · rw [idx_none (P := fun n => ¬ cbP f s Y x (n + 1) l) (fun k a b q => q ((h.2 (k + 1) (by omega) (by omega)).mpr (by omega))), if_pos rfl, e]
  · rw [idx_some (P := fun n => ¬ cbP f s Y x (n + 1) l) (z := v) (by omega) (fun q => by have := (h.2 (v + 1) (by omega) (by omega)).mp q; omega) (fun k a b q => q ((h.2 (k + 1) (by omega) (by omega)).mpr (by omega))), if_neg (by omega)]
/-- what holds ahead of a year: so many days, and the years ahead allow them -/
def mdV (f : sF) (s Y x l y v : Int) : Prop := ((y = Y ∧ v = 0) ∨ (Y < y ∧ v = nyr y + 3652 - x)) ∧ ∀ z, Y ≤ z → z < y → liI f s z + l * dnI x v z ≤ f (60 + s)
theorem dn_le {x n m y : Int} (h : n ≤ m) : dnI x n y ≤ dnI x m y := by unfold dnI; omega
theorem md_s {f : sF} {s Y x l y v r : Int} (hl : 1 ≤ l) (hx : nyr Y + 3652 ≤ x ∧ x < nyr (Y + 1) + 3652) (hy : Y ≤ y) (h : mdV f s Y x l y v) (hr : r = (f (60 + s) - liI f s y) / l) (h2 : nyr (y + 1) + 3652 - x - v ≤ r) : mdV f s Y x l (y + 1) (v + (nyr (y + 1) + 3652 - x - v)) := by
  have hv : v + (nyr (y + 1) + 3652 - x - v) = nyr (y + 1) + 3652 - x := by omega
  have h3 := nyr_m (Y + 1) (y + 1) (by omega)
  have hp : v ≤ nyr (y + 1) + 3652 - x := by
    rcases h.1 with ⟨e, e2⟩ | ⟨e, e2⟩
    · rw [e2]; omega
    · have := nyr_s y; have := bI_r (c := lpP y); omega
  refine ⟨Or.inr ⟨by omega, hv⟩, fun z a b => ?_⟩
  rw [hv]
  by_cases e : z = y
  · rw [e]
    have d1 : dnI x (nyr (y + 1) + 3652 - x) y ≤ nyr (y + 1) + 3652 - x - v := by
      unfold dnI
      rcases h.1 with ⟨e1, e2⟩ | ⟨e1, e2⟩ <;> omega
    have d2 : l * dnI x (nyr (y + 1) + 3652 - x) y ≤ l * r := Int.mul_le_mul_of_nonneg_left (by omega) (by omega)
    have d3 : l * r ≤ f (60 + s) - liI f s y := by rw [hr]; exact Int.mul_ediv_self_le (by omega)
    omega
  · have h4 := h.2 z a (by omega)
    have d1 : dnI x (nyr (y + 1) + 3652 - x) z = dnI x v z := by
      have h5 := nyr_m (z + 1) y (by omega)
      rcases h.1 with ⟨e1, e2⟩ | ⟨e1, e2⟩
      · omega
      · unfold dnI
        omega
    rw [d1]
    exact h4
theorem md_a {f : sF} {s Y x l y v r : Int} (hli : sLi f) (hs : 0 ≤ s ∧ s < f 568) (hY : 1900 ≤ Y ∧ Y ≤ 2199) (hl : 1 ≤ l) (hx : nyr Y + 3652 ≤ x ∧ x < nyr (Y + 1) + 3652) (hy : Y ≤ y ∧ y ≤ 2199) (h : mdV f s Y x l y v) (hv : v < min 400 (nyr 2200 + 3652 - x)) (hr : r = (f (60 + s) - liI f s y) / l) (h2 : r < nyr (y + 1) + 3652 - x - v) : mdQ f s Y x l (min (min 400 (nyr 2200 + 3652 - x)) (v + max 0 r)) := by
  have hb := nyr_2200
  have hr0 : 0 ≤ r := by
    rw [hr]
    exact Int.ediv_nonneg (by have := hli s y hs.1 hs.2 (by omega) (by omega); omega) (by omega)
  have hv0 : 0 ≤ v := by
    rcases h.1 with ⟨e, e2⟩ | ⟨e, e2⟩
    · omega
    · have := nyr_m (Y + 1) y (by omega); omega
  have hy2 : y ≤ Y + 2 := by
    rcases h.1 with ⟨e, e2⟩ | ⟨e, e2⟩
    · omega
    · rcases Int.lt_or_le (Y + 2) y with t | t
      · have := nyr_m (Y + 1) y (by omega); omega
      · exact t
  have hlr : l * r ≤ f (60 + s) - liI f s y := by rw [hr]; exact Int.mul_ediv_self_le (by omega)
  have hlr2 : f (60 + s) - liI f s y < l * r + l := by
    rw [hr]
    have := Int.lt_mul_ediv_self_add (x := f (60 + s) - liI f s y) (k := l) (by omega)
    exact this
  have hpos : v ≤ nyr (y + 1) + 3652 - x := by omega
  refine ⟨by omega, fun n n1 n2 => ?_⟩
  constructor
  · intro q
    have q1 := q.1
    have q2 := q.2 y (by omega) (by omega)
    rcases Int.lt_or_le (v + r) n with t | t
    · have d1 : r + 1 ≤ dnI x n y := by
        unfold dnI
        rcases h.1 with ⟨e1, e2⟩ | ⟨e1, e2⟩
        · subst e1; omega
        · have := nyr_m (Y + 1) y (by omega); omega
      have d2 : l * (r + 1) ≤ l * dnI x n y := Int.mul_le_mul_of_nonneg_left d1 (by omega)
      rw [Int.mul_add, Int.mul_one] at d2
      omega
    · omega
  · intro q
    refine ⟨by omega, fun z a b => ?_⟩
    by_cases e : z = y
    · rw [e]
      have d1 : dnI x n y ≤ r := by
        unfold dnI
        rcases h.1 with ⟨e1, e2⟩ | ⟨e1, e2⟩ <;> omega
      have d2 : l * dnI x n y ≤ l * r := Int.mul_le_mul_of_nonneg_left d1 (by omega)
      omega
    · rcases Int.lt_or_le z y with t | t
      · have h4 := h.2 z a t
        have d1 : dnI x n z ≤ dnI x v z := by
          have h5 := nyr_m (z + 1) y (by omega)
          rcases h.1 with ⟨e1, e2⟩ | ⟨e1, e2⟩
          · omega
          · unfold dnI; omega
        have d2 : l * dnI x n z ≤ l * dnI x v z := Int.mul_le_mul_of_nonneg_left d1 (by omega)
        omega
      · have d1 : dnI x n z = 0 := by
          have h5 := nyr_m (y + 1) z (by omega)
          unfold dnI
          omega
        have := hli s z hs.1 hs.2 (by omega) (by omega)
        rw [d1, Int.mul_zero]
        omega
theorem md_z {f : sF} {s Y x l y v : Int} (hli : sLi f) (hs : 0 ≤ s ∧ s < f 568) (hY : 1900 ≤ Y ∧ Y ≤ 2199) (hl : 1 ≤ l) (hx : nyr Y + 3652 ≤ x ∧ x < nyr (Y + 1) + 3652) (hy : Y ≤ y ∧ y ≤ 2200) (h : mdV f s Y x l y v) (hv : min 400 (nyr 2200 + 3652 - x) ≤ v ∨ 2199 < y) : mdQ f s Y x l (min (min 400 (nyr 2200 + 3652 - x)) v) := by
  have hb := nyr_2200
  have h6 := nyr_m (Y + 1) 2200 (by omega)
  have hv2 : min 400 (nyr 2200 + 3652 - x) ≤ v := by
    rcases hv with t | t
    · exact t
    · have e : y = 2200 := by omega
      rcases h.1 with ⟨e1, e2⟩ | ⟨e1, e2⟩
      · omega
      · rw [e] at e2; omega
  refine ⟨by omega, fun n n1 n2 => ?_⟩
  constructor
  · intro q
    have := q.1
    omega
  · intro q
    refine ⟨by omega, fun z a b => ?_⟩
    rcases Int.lt_or_le z y with t | t
    · have h4 := h.2 z a t
      have d2 : l * dnI x n z ≤ l * dnI x v z := Int.mul_le_mul_of_nonneg_left (dn_le (by omega)) (by omega)
      omega
    · have d1 : dnI x n z = 0 := by
        rcases h.1 with ⟨e1, e2⟩ | ⟨e1, e2⟩
        · omega
        · have h5 := nyr_m y z t
          unfold dnI
          omega
      have := hli s z hs.1 hs.2 (by omega) (by omega)
      rw [d1, Int.mul_zero]
      omega

abbrev rmX4_inYear : Room := { frames := 4, cells := 0, slots := 0, locals := 103 }
set_option maxHeartbeats 4000000 in
set_option maxRecDepth 100000 in
theorem kX4_inYear (l_ : Launch) (G : sG) (b_ : Nat) (M : sM) (N : Nat) (a : Nat) (f : sF) (s y : Int) (hst : stC G M a f) (hok : sOk f) (hr : sR s) (hy : 1890 ≤ y ∧ y ≤ 2205) : cP l_ yX4_inYear wsX4_inYear rmX4_inYear G b_ M N [.ref a, .int (sI s), .int (sI y)] (liI f s y) := by
  refine sE.ofI (cc := cX4_inYear) (nL := 8) (ret := (some .int)) (by decide) rfl (Nat.le_of_ble_eq_true rfl) ?_
  intro p_ e_ s_ m_ args_ below_ meth_ c_ ls Q hQ E hl
  have E : sE p_ l_ e_ rmX4_inYear s_ m_ args_ below_ meth_ c_ cX4_inYear 8 wsX4_inYear RX4 "inYear" (some .int) G b_ M N := E
  have S := E.1
  have hx_ := S.1
  have hb_ := S.2.1
  have hK := E.2.2.2.2.1
  have hV := E.2.2.2.2.2.2
  have hl : lv_has ls 8 [(0, .ref a), (1, .int (sI s)), (2, .int (sI y))] := hl
  have inX6_ : ∀ w ∈ wsX60, w ∈ wsX4_inYear := fun _ h => List.mem_cons_of_mem _ (List.mem_append_left _ (List.mem_append_right _ h))
  have inX8_ : ∀ w ∈ wsX80, w ∈ wsX4_inYear := fun _ h => List.mem_cons_of_mem _ (List.mem_append_right _ h)
  have kn0 := sOk_N hok
  have hy1 := nyr_b (y := y) (by omega)
  have hy2 := nyr_b (y := y + 1) (by omega)
  refine si_const S dX4_inYear_0 ?_
  refine lv_istore_n (lv' := [(3, .int (sI 0)), (0, .ref a), (1, .int (sI s)), (2, .int (sI y))]) hx_ hb_ dX4_inYear_1 rfl hl (by decide) rfl (fun ls hl => ?_)
  refine si_const S dX4_inYear_2 ?_
  refine lv_istore (lv' := [(4, .int (sI 0)), (3, .int (sI 0)), (0, .ref a), (1, .int (sI s)), (2, .int (sI y))]) hx_ hb_ dX4_inYear_3 hl (by decide) rfl (fun ls hl => ?_)
  have L5 : ∀ (fuel : Nat) (c : Int) (i : Int)  (H : Heap) (locs : List Loc) (ls : Array Slot), ((f 572 - i).toNat) < fuel → (0 ≤ i ∧ i ≤ f 572) → (c = isum i (liT f s y)) → sV G b_ M N s_ H locs → lv_has ls 8 [(0, .ref a), (1, .int (sI s)), (2, .int (sI y)), (3, .int (sI c)), (4, .int (sI i))] → W p_ l_ e_ rmX4_inYear s_ m_ args_ below_ meth_ c_ H locs 0 0 Q (F0 m_ 5 ls []) := by
    intro fuel
    induction fuel with
    | zero => intro c i H locs ls hmu; exact absurd hmu (Nat.not_lt_zero _)
    | succ fuel ih5 =>
      intro c i H locs ls hmu5 hv5_0 hc  hV hl
      refine lv_iload hx_ hb_ dX4_inYear_5 (lv_at hl 4 rfl) ?_
      refine lv_aload_n hx_ hb_ dX4_inYear_7 rfl (lv_at hl 0 rfl) ?_
      refine sc_getN (ci := 4) (C := RX6) (T := TX6) (n := 8) S hK hV inX6_ (hst).1 rfl 5 (by decide) (E.2.2.2.2.2.1.1.2.1 _ (List.mem_of_getElem? (i := 11) rfl)) rfl rfl dX4_inYear_8 ?_
      refine sk_VP E hV (As := []) (rest := [.int (sI i)]) (kTs l_ G b_ M N (a + 11) 4 (f 572) 80 (tvW f) ((hst).2.2.2.2.2.2.1)) (cwV 0 S.2.2.2.2 gX4_inYear_X8_size rfl rfl rfl (by decide +kernel) ⟨Nat.le_of_ble_eq_true rfl, Nat.le_of_ble_eq_true rfl⟩) (ci := 6) ((hst).2.2.2.2.2.2.1).1 rfl rfl rfl hl.1 (Nat.le_of_ble_eq_true rfl) dX4_inYear_11 (c1 := 0) (s1 := 0) ⟨⟨rfl, rfl⟩, by decide, by decide⟩ (fun H locs hV => ?_)
      refine sb_ge (tgt := 110) S dX4_inYear_14 (by decide) (by omega) (fun c1 => ?_) (fun c1 => ?_)
      · refine lv_iload_n hx_ hb_ dX4_inYear_110 rfl (lv_at hl 3 rfl) ?_
        exact sr_i E hQ dX4_inYear_111 ⟨Nat.le_of_ble_eq_true rfl, Nat.le_of_ble_eq_true rfl⟩ hV (⟨by unfold liI; rw [hc, show i = f 572 by omega], rfl, rfl⟩)
      · refine lv_aload_n hx_ hb_ dX4_inYear_17 rfl (lv_at hl 0 rfl) ?_
        refine sc_getN (ci := 4) (C := RX6) (T := TX6) (n := 8) S hK hV inX6_ (hst).1 rfl 5 (by decide) (E.2.2.2.2.2.1.1.2.1 _ (List.mem_of_getElem? (i := 11) rfl)) rfl rfl dX4_inYear_18 ?_
        refine lv_iload hx_ hb_ dX4_inYear_21 (lv_at hl 4 rfl) ?_
        refine si_const S dX4_inYear_23 ?_
        refine sk_VP E hV (As := [.int (sI i), .int (sI 0)]) (rest := []) (kTg l_ G b_ M N (a + 11) 4 (f 572) 80 (tvW f) i 0 (f (464 + i)) ((hst).2.2.2.2.2.2.1) (by omega) (by omega) (tvW_0 f i)) (cwV 2 S.2.2.2.2 gX4_inYear_X8_get rfl rfl rfl (by decide +kernel) ⟨Nat.le_of_ble_eq_true rfl, Nat.le_of_ble_eq_true rfl⟩) (ci := 6) ((hst).2.2.2.2.2.2.1).1 rfl rfl rfl hl.1 (Nat.le_of_ble_eq_true rfl) dX4_inYear_24 (c1 := 0) (s1 := 0) ⟨⟨rfl, rfl⟩, by decide, by decide⟩ (fun H locs hV => ?_)
        have kn2 : 0 ≤ f (464 + i) ∧ f (464 + i) < f 568 := (sOk_W hok i (by omega) (by omega)).1
        refine lv_iload_n hx_ hb_ dX4_inYear_27 rfl (lv_at hl 1 rfl) ?_
        refine sb_ne (tgt := 104) S dX4_inYear_28 (by decide) (by omega) (fun c3 => ?_) (fun c3 => ?_)
        · refine si_inc (lv' := [(4, .int (sI (i + 1))), (0, .ref a), (1, .int (sI s)), (2, .int (sI y)), (3, .int (sI c))]) S dX4_inYear_104 hl (k := 4) rfl (by decide) rfl (fun ls hl => ?_)
          refine lv_goto (tgt := 5) hx_ hb_ dX4_inYear_107 (by decide) ?_
          exact ih5 c (i + 1) _ _ _ (by omega) (by omega) (by have e := isum_s (liT f s y) (show 0 ≤ i by omega); have e2 : liT f s y i = if f (464 + i) = s then f (524 + i) * dnI (f (484 + i)) (f (504 + i)) y else 0 := rfl; rw [if_neg (by omega)] at e2; omega) hV (lv_sub hl [1, 2, 3, 4, 0] rfl)
        · refine lv_aload_n hx_ hb_ dX4_inYear_31 rfl (lv_at hl 0 rfl) ?_
          refine sc_getN (ci := 4) (C := RX6) (T := TX6) (n := 8) S hK hV inX6_ (hst).1 rfl 5 (by decide) (E.2.2.2.2.2.1.1.2.1 _ (List.mem_of_getElem? (i := 11) rfl)) rfl rfl dX4_inYear_32 ?_
          refine lv_iload hx_ hb_ dX4_inYear_35 (lv_at hl 4 rfl) ?_
          refine si_const S dX4_inYear_37 ?_
          refine sk_VP E hV (As := [.int (sI i), .int (sI 1)]) (rest := []) (kTg l_ G b_ M N (a + 11) 4 (f 572) 80 (tvW f) i 1 (dat (f (484 + i))) ((hst).2.2.2.2.2.2.1) (by omega) (by omega) (tvW_1 f i)) (cwV 2 S.2.2.2.2 gX4_inYear_X8_get rfl rfl rfl (by decide +kernel) ⟨Nat.le_of_ble_eq_true rfl, Nat.le_of_ble_eq_true rfl⟩) (ci := 6) ((hst).2.2.2.2.2.2.1).1 rfl rfl rfl hl.1 (Nat.le_of_ble_eq_true rfl) dX4_inYear_38 (c1 := 0) (s1 := 0) ⟨⟨rfl, rfl⟩, by decide, by decide⟩ (fun H locs hV => ?_)
          have kn4 := (sOk_W hok i (by omega) (by omega)).2.1
          refine sk_SP E hV (As := [.int (sI (dat (f (484 + i))))]) (rest := []) (kX0_dayOf l_ G b_ M N (dat (f (484 + i))) (by omega)) (va_cwS 1 S.2.2.2.2 gX4_inYear_X0_dayOf rfl rfl rfl (by decide +kernel) ⟨Nat.le_of_ble_eq_true rfl, Nat.le_of_ble_eq_true rfl⟩) rfl rfl hl.1 (Nat.le_of_ble_eq_true rfl) dX4_inYear_41 (c1 := 0) (s1 := 0) ⟨⟨rfl, rfl⟩, by decide, by decide⟩ (fun H locs hV => ?_)
          rw [show dayI (dat (f (484 + i))) = f (484 + i) - 3652 by omega]
          refine lv_istore (lv' := [(5, .int (sI (f (484 + i) - 3652))), (0, .ref a), (1, .int (sI s)), (2, .int (sI y)), (3, .int (sI c)), (4, .int (sI i))]) hx_ hb_ dX4_inYear_44 hl (by decide) rfl (fun ls hl => ?_)
          have hW := sOk_W hok i (by omega) (by omega)
          have hW2 := sOk_W2 hok i (by omega) (by omega)
          refine lv_iload hx_ hb_ dX4_inYear_46 (lv_at hl 0 rfl) ?_
          refine lv_aload_n hx_ hb_ dX4_inYear_48 rfl (lv_at hl 1 rfl) ?_
          refine sc_getN (ci := 4) (C := RX6) (T := TX6) (n := 8) S hK hV inX6_ (hst).1 rfl 5 (by decide) (E.2.2.2.2.2.1.1.2.1 _ (List.mem_of_getElem? (i := 11) rfl)) rfl rfl dX4_inYear_49 ?_
          refine lv_iload hx_ hb_ dX4_inYear_52 (lv_at hl 5 rfl) ?_
          refine si_const S dX4_inYear_54 ?_
          refine sk_VP E hV (As := [.int (sI i), .int (sI 2)]) (rest := [.int (sI (f (484 + i) - 3652))]) (kTg l_ G b_ M N (a + 11) 4 (f 572) 80 (tvW f) i 2 (f (504 + i)) ((hst).2.2.2.2.2.2.1) (by omega) (by omega) (tvW_2 f i)) (cwV 2 S.2.2.2.2 gX4_inYear_X8_get rfl rfl rfl (by decide +kernel) ⟨Nat.le_of_ble_eq_true rfl, Nat.le_of_ble_eq_true rfl⟩) (ci := 6) ((hst).2.2.2.2.2.2.1).1 rfl rfl rfl hl.1 (Nat.le_of_ble_eq_true rfl) dX4_inYear_55 (c1 := 0) (s1 := 0) ⟨⟨rfl, rfl⟩, by decide, by decide⟩ (fun H locs hV => ?_)
          have kn5 : 1 ≤ f (504 + i) ∧ f (504 + i) ≤ 400 := (sOk_W hok i (by omega) (by omega)).2.2.1
          refine si_add S dX4_inYear_58 ?_
          refine lv_istore (lv' := [(6, .int (sI ((f (484 + i) - 3652) + (f (504 + i))))), (5, .int (sI (f (484 + i) - 3652))), (0, .ref a), (1, .int (sI s)), (2, .int (sI y)), (3, .int (sI c)), (4, .int (sI i))]) hx_ hb_ dX4_inYear_59 hl (by decide) rfl (fun ls hl => ?_)
          refine lv_iload hx_ hb_ dX4_inYear_61 (lv_at hl 0 rfl) ?_
          refine lv_iload_n hx_ hb_ dX4_inYear_63 rfl (lv_at hl 4 rfl) ?_
          refine si_const S dX4_inYear_64 ?_
          refine si_add S dX4_inYear_65 ?_
          refine sk_SP E hV (As := [.int (sI (y + 1))]) (rest := [.int (sI ((f (484 + i) - 3652) + (f (504 + i))))]) (kX0_newYear l_ G b_ M N (y + 1) (by omega)) (va_cwS 1 S.2.2.2.2 gX4_inYear_X0_newYear rfl rfl rfl (by decide +kernel) ⟨Nat.le_of_ble_eq_true rfl, Nat.le_of_ble_eq_true rfl⟩) rfl rfl hl.1 (Nat.le_of_ble_eq_true rfl) dX4_inYear_66 (c1 := 0) (s1 := 0) ⟨⟨rfl, rfl⟩, by decide, by decide⟩ (fun H locs hV => ?_)
          refine si_min S hl.1 (S.2.2.2.2 _ (List.mem_of_getElem? (i := 1) rfl)) (S.2.2.2.2 _ (List.mem_of_getElem? (i := 2) rfl)) (S.2.2.2.2 _ (List.mem_of_getElem? (i := 3) rfl)) (S.2.2.2.2 _ (List.mem_of_getElem? (i := 4) rfl)) ⟨by decide, Nat.le_of_ble_eq_true rfl, by decide, by decide⟩ (by omega) dX4_inYear_69 ?_
          refine lv_iload hx_ hb_ dX4_inYear_72 (lv_at hl 1 rfl) ?_
          refine lv_iload_n hx_ hb_ dX4_inYear_74 rfl (lv_at hl 4 rfl) ?_
          refine sk_SP E hV (As := [.int (sI y)]) (rest := [.int (sI (f (484 + i) - 3652)), .int (sI (min ((f (484 + i) - 3652) + (f (504 + i))) (nyr (y + 1))))]) (kX0_newYear l_ G b_ M N y (by omega)) (va_cwS 1 S.2.2.2.2 gX4_inYear_X0_newYear rfl rfl rfl (by decide +kernel) ⟨Nat.le_of_ble_eq_true rfl, Nat.le_of_ble_eq_true rfl⟩) rfl rfl hl.1 (Nat.le_of_ble_eq_true rfl) dX4_inYear_75 (c1 := 0) (s1 := 0) ⟨⟨rfl, rfl⟩, by decide, by decide⟩ (fun H locs hV => ?_)
          refine si_max S hl.1 (S.2.2.2.2 _ (List.mem_of_getElem? (i := 5) rfl)) (S.2.2.2.2 _ (List.mem_of_getElem? (i := 6) rfl)) (S.2.2.2.2 _ (List.mem_of_getElem? (i := 3) rfl)) (S.2.2.2.2 _ (List.mem_of_getElem? (i := 7) rfl)) ⟨by decide, Nat.le_of_ble_eq_true rfl, by decide, by decide⟩ (by omega) dX4_inYear_78 ?_
          refine si_sub S dX4_inYear_81 ?_
          refine lv_istore (lv' := [(7, .int (sI ((min ((f (484 + i) - 3652) + (f (504 + i))) (nyr (y + 1))) - (max (f (484 + i) - 3652) (nyr y))))), (6, .int (sI ((f (484 + i) - 3652) + (f (504 + i))))), (5, .int (sI (f (484 + i) - 3652))), (0, .ref a), (1, .int (sI s)), (2, .int (sI y)), (3, .int (sI c)), (4, .int (sI i))]) hx_ hb_ dX4_inYear_82 hl (by decide) rfl (fun ls hl => ?_)
          refine lv_iload_n hx_ hb_ dX4_inYear_84 rfl (lv_at hl 6 rfl) ?_
          refine si_const S dX4_inYear_85 ?_
          refine lv_iload hx_ hb_ dX4_inYear_86 (lv_at hl 0 rfl) ?_
          refine si_max S hl.1 (S.2.2.2.2 _ (List.mem_of_getElem? (i := 5) rfl)) (S.2.2.2.2 _ (List.mem_of_getElem? (i := 6) rfl)) (S.2.2.2.2 _ (List.mem_of_getElem? (i := 3) rfl)) (S.2.2.2.2 _ (List.mem_of_getElem? (i := 7) rfl)) ⟨by decide, Nat.le_of_ble_eq_true rfl, by decide, by decide⟩ (by omega) dX4_inYear_88 ?_
          rw [show max (0 : Int) (min (f (484 + i) - 3652 + f (504 + i)) (nyr (y + 1)) - max (f (484 + i) - 3652) (nyr y)) = dnI (f (484 + i)) (f (504 + i)) y by unfold dnI; omega]
          refine lv_aload_n hx_ hb_ dX4_inYear_91 rfl (lv_at hl 3 rfl) ?_
          refine sc_getN (ci := 4) (C := RX6) (T := TX6) (n := 8) S hK hV inX6_ (hst).1 rfl 5 (by decide) (E.2.2.2.2.2.1.1.2.1 _ (List.mem_of_getElem? (i := 11) rfl)) rfl rfl dX4_inYear_92 ?_
          refine lv_iload hx_ hb_ dX4_inYear_95 (lv_at hl 7 rfl) ?_
          refine si_const S dX4_inYear_97 ?_
          refine sk_VP E hV (As := [.int (sI i), .int (sI 3)]) (rest := [.int (sI (dnI (f (484 + i)) (f (504 + i)) y)), .int (sI c)]) (kTg l_ G b_ M N (a + 11) 4 (f 572) 80 (tvW f) i 3 (f (524 + i)) ((hst).2.2.2.2.2.2.1) (by omega) (by omega) (tvW_3 f i)) (cwV 2 S.2.2.2.2 gX4_inYear_X8_get rfl rfl rfl (by decide +kernel) ⟨Nat.le_of_ble_eq_true rfl, Nat.le_of_ble_eq_true rfl⟩) (ci := 6) ((hst).2.2.2.2.2.2.1).1 rfl rfl rfl hl.1 (Nat.le_of_ble_eq_true rfl) dX4_inYear_98 (c1 := 0) (s1 := 0) ⟨⟨rfl, rfl⟩, by decide, by decide⟩ (fun H locs hV => ?_)
          have kn6 : 1 ≤ f (524 + i) ∧ f (524 + i) ≤ 1000 := (sOk_W hok i (by omega) (by omega)).2.2.2.1
          refine si_mul S dX4_inYear_101 ?_
          refine si_add S dX4_inYear_102 ?_
          refine lv_istore_n (lv' := [(3, .int (sI (c + ((dnI (f (484 + i)) (f (504 + i)) y) * (f (524 + i)))))), (7, .int (sI ((min ((f (484 + i) - 3652) + (f (504 + i))) (nyr (y + 1))) - (max (f (484 + i) - 3652) (nyr y))))), (6, .int (sI ((f (484 + i) - 3652) + (f (504 + i))))), (5, .int (sI (f (484 + i) - 3652))), (0, .ref a), (1, .int (sI s)), (2, .int (sI y)), (4, .int (sI i))]) hx_ hb_ dX4_inYear_103 rfl hl (by decide) rfl (fun ls hl => ?_)
          refine si_inc (lv' := [(4, .int (sI (i + 1))), (3, .int (sI (c + ((dnI (f (484 + i)) (f (504 + i)) y) * (f (524 + i)))))), (7, .int (sI ((min ((f (484 + i) - 3652) + (f (504 + i))) (nyr (y + 1))) - (max (f (484 + i) - 3652) (nyr y))))), (6, .int (sI ((f (484 + i) - 3652) + (f (504 + i))))), (5, .int (sI (f (484 + i) - 3652))), (0, .ref a), (1, .int (sI s)), (2, .int (sI y))]) S dX4_inYear_104 hl (k := 7) rfl (by decide) rfl (fun ls hl => ?_)
          refine lv_goto (tgt := 5) hx_ hb_ dX4_inYear_107 (by decide) ?_
          exact ih5 (c + ((dnI (f (484 + i)) (f (504 + i)) y) * (f (524 + i)))) (i + 1) _ _ _ (by omega) (by omega) (by have e := isum_s (liT f s y) (show 0 ≤ i by omega); have e2 : liT f s y i = if f (464 + i) = s then f (524 + i) * dnI (f (484 + i)) (f (504 + i)) y else 0 := rfl; rw [if_pos (by omega), Int.mul_comm] at e2; omega) hV (lv_sub hl [5, 6, 7, 1, 0] rfl)
  exact L5 _ 0 0 _ _ _ (Nat.lt_succ_self _) (by omega) (rfl) hV (lv_sub hl [2, 3, 4, 1, 0] rfl)

abbrev rmX4_isOverDuring : Room := { frames := 5, cells := 0, slots := 0, locals := 130 }
set_option maxHeartbeats 4000000 in
set_option maxRecDepth 100000 in
theorem kX4_isOverDuring (l_ : Launch) (G : sG) (b_ : Nat) (M : sM) (N : Nat) (a : Nat) (f : sF) (k m : Int) (hst : stC G M a f) (hok : sOk f) (hk : 0 ≤ k ∧ k < f 572) (hm : sR m) : cP l_ yX4_isOverDuring wsX4_isOverDuring rmX4_isOverDuring G b_ M N [.ref a, .int (sI k), .int (sI m)] (bI (ovD f k m)) := by
  refine sE.ofI (cc := cX4_isOverDuring) (nL := 6) (ret := (some .boolean)) (by decide) rfl (Nat.le_of_ble_eq_true rfl) ?_
  intro p_ e_ s_ m_ args_ below_ meth_ c_ ls Q hQ E hl
  have E : sE p_ l_ e_ rmX4_isOverDuring s_ m_ args_ below_ meth_ c_ cX4_isOverDuring 6 wsX4_isOverDuring RX4 "isOverDuring" (some .boolean) G b_ M N := E
  have S := E.1
  have hx_ := S.1
  have hb_ := S.2.1
  have hK := E.2.2.2.2.1
  have hV := E.2.2.2.2.2.2
  have hl : lv_has ls 6 [(0, .ref a), (1, .int (sI k)), (2, .int (sI m))] := hl
  have inX6_ : ∀ w ∈ wsX60, w ∈ wsX4_isOverDuring := fun _ h => List.mem_cons_of_mem _ (List.mem_append_left _ (List.mem_append_right _ h))
  have inX8_ : ∀ w ∈ wsX80, w ∈ wsX4_isOverDuring := fun _ h => List.mem_cons_of_mem _ (List.mem_append_right _ h)
  have kn0 := sOk_N hok
  have hW := sOk_W hok k hk.1 hk.2
  have hW2 := sOk_W2 hok k hk.1 hk.2
  have hdy := dt_y hW.2.1.1
  refine lv_aload_n hx_ hb_ dX4_isOverDuring_0 rfl (lv_at hl 0 rfl) ?_
  refine sc_getN (ci := 4) (C := RX6) (T := TX6) (n := 8) S hK hV inX6_ (hst).1 rfl 5 (by decide) (E.2.2.2.2.2.1.1.2.1 _ (List.mem_of_getElem? (i := 11) rfl)) rfl rfl dX4_isOverDuring_1 ?_
  refine lv_iload_n hx_ hb_ dX4_isOverDuring_4 rfl (lv_at hl 1 rfl) ?_
  refine si_const S dX4_isOverDuring_5 ?_
  refine sk_VP E hV (As := [.int (sI k), .int (sI 1)]) (rest := []) (kTg l_ G b_ M N (a + 11) 4 (f 572) 80 (tvW f) k 1 (dat (f (484 + k))) ((hst).2.2.2.2.2.2.1) (by omega) (by omega) (tvW_1 f k)) (cwV 2 S.2.2.2.2 gX4_isOverDuring_X8_get rfl rfl rfl (by decide +kernel) ⟨Nat.le_of_ble_eq_true rfl, Nat.le_of_ble_eq_true rfl⟩) (ci := 6) ((hst).2.2.2.2.2.2.1).1 rfl rfl rfl hl.1 (Nat.le_of_ble_eq_true rfl) dX4_isOverDuring_6 (c1 := 0) (s1 := 0) ⟨⟨rfl, rfl⟩, by decide, by decide⟩ (fun H locs hV => ?_)
  have kn1 := (sOk_W hok k (by omega) (by omega)).2.1
  refine lv_istore_n (lv' := [(3, .int (sI (dat (f (484 + k))))), (0, .ref a), (1, .int (sI k)), (2, .int (sI m))]) hx_ hb_ dX4_isOverDuring_9 rfl hl (by decide) rfl (fun ls hl => ?_)
  refine lv_iload_n hx_ hb_ dX4_isOverDuring_10 rfl (lv_at hl 0 rfl) ?_
  refine sk_SP E hV (As := [.int (sI (dat (f (484 + k))))]) (rest := []) (kX0_dayOf l_ G b_ M N (dat (f (484 + k))) (by omega)) (va_cwS 1 S.2.2.2.2 gX4_isOverDuring_X0_dayOf rfl rfl rfl (by decide +kernel) ⟨Nat.le_of_ble_eq_true rfl, Nat.le_of_ble_eq_true rfl⟩) rfl rfl hl.1 (Nat.le_of_ble_eq_true rfl) dX4_isOverDuring_11 (c1 := 0) (s1 := 0) ⟨⟨rfl, rfl⟩, by decide, by decide⟩ (fun H locs hV => ?_)
  refine lv_aload_n hx_ hb_ dX4_isOverDuring_14 rfl (lv_at hl 1 rfl) ?_
  refine sc_getN (ci := 4) (C := RX6) (T := TX6) (n := 8) S hK hV inX6_ (hst).1 rfl 5 (by decide) (E.2.2.2.2.2.1.1.2.1 _ (List.mem_of_getElem? (i := 11) rfl)) rfl rfl dX4_isOverDuring_15 ?_
  refine lv_iload_n hx_ hb_ dX4_isOverDuring_18 rfl (lv_at hl 2 rfl) ?_
  refine si_const S dX4_isOverDuring_19 ?_
  refine sk_VP E hV (As := [.int (sI k), .int (sI 2)]) (rest := [.int (sI (dayI (dat (f (484 + k)))))]) (kTg l_ G b_ M N (a + 11) 4 (f 572) 80 (tvW f) k 2 (f (504 + k)) ((hst).2.2.2.2.2.2.1) (by omega) (by omega) (tvW_2 f k)) (cwV 2 S.2.2.2.2 gX4_isOverDuring_X8_get rfl rfl rfl (by decide +kernel) ⟨Nat.le_of_ble_eq_true rfl, Nat.le_of_ble_eq_true rfl⟩) (ci := 6) ((hst).2.2.2.2.2.2.1).1 rfl rfl rfl hl.1 (Nat.le_of_ble_eq_true rfl) dX4_isOverDuring_20 (c1 := 0) (s1 := 0) ⟨⟨rfl, rfl⟩, by decide, by decide⟩ (fun H locs hV => ?_)
  have kn2 : 1 ≤ f (504 + k) ∧ f (504 + k) ≤ 400 := (sOk_W hok k (by omega) (by omega)).2.2.1
  refine si_add S dX4_isOverDuring_23 ?_
  refine lv_istore (lv' := [(4, .int (sI ((dayI (dat (f (484 + k)))) + (f (504 + k))))), (3, .int (sI (dat (f (484 + k))))), (0, .ref a), (1, .int (sI k)), (2, .int (sI m))]) hx_ hb_ dX4_isOverDuring_24 hl (by decide) rfl (fun ls hl => ?_)
  refine lv_iload_n hx_ hb_ dX4_isOverDuring_26 rfl (lv_at hl 1 rfl) ?_
  refine si_sipush S dX4_isOverDuring_27 (by decide) ?_
  refine si_divN S dX4_isOverDuring_30 (by omega) ?_
  refine lv_istore (lv' := [(5, .int (sI ((dat (f (484 + k))) / 10000))), (4, .int (sI ((dayI (dat (f (484 + k)))) + (f (504 + k))))), (3, .int (sI (dat (f (484 + k))))), (0, .ref a), (1, .int (sI k)), (2, .int (sI m))]) hx_ hb_ dX4_isOverDuring_31 hl (by decide) rfl (fun ls hl => ?_)
  have L33 : ∀ (fuel : Nat) (y : Int)  (H : Heap) (locs : List Loc) (ls : Array Slot), ((2200 - y).toNat) < fuel → (dat (f (484 + k)) / 10000 ≤ y ∧ y ≤ 2200) → (∀ z, dat (f (484 + k)) / 10000 ≤ z → z < y → liI f (f (464 + k)) z ≤ m) → sV G b_ M N s_ H locs → lv_has ls 6 [(0, .ref a), (1, .int (sI k)), (2, .int (sI m)), (4, .int (sI ((dayI (dat (f (484 + k)))) + (f (504 + k))))), (5, .int (sI y))] → W p_ l_ e_ rmX4_isOverDuring s_ m_ args_ below_ meth_ c_ H locs 0 0 Q (F0 m_ 33 ls []) := by
    intro fuel
    induction fuel with
    | zero => intro y H locs ls hmu; exact absurd hmu (Nat.not_lt_zero _)
    | succ fuel ih33 =>
      intro y H locs ls hmu33 hv33_0 hn  hV hl
      refine lv_iload hx_ hb_ dX4_isOverDuring_33 (lv_at hl 4 rfl) ?_
      refine si_sipush S dX4_isOverDuring_35 (by decide) ?_
      refine sb_gt (tgt := 78) S dX4_isOverDuring_38 (by decide) (by omega) (fun c3 => ?_) (fun c3 => ?_)
      · refine si_const S dX4_isOverDuring_78 ?_
        exact sr_z E hQ (Or.inl rfl) dX4_isOverDuring_79 ⟨Nat.le_of_ble_eq_true rfl, Nat.le_of_ble_eq_true rfl⟩ hV (⟨(bI_f (fun h => by obtain ⟨z, h1, h2, h3, h4⟩ := h; rcases Int.lt_or_le z y with t | t; have := hn z h1 t; omega; omega)).symm, rfl, rfl⟩)
      · refine lv_iload hx_ hb_ dX4_isOverDuring_41 (lv_at hl 4 rfl) ?_
        refine sk_SP E hV (As := [.int (sI y)]) (rest := []) (kX0_newYear l_ G b_ M N y (by omega)) (va_cwS 1 S.2.2.2.2 gX4_isOverDuring_X0_newYear rfl rfl rfl (by decide +kernel) ⟨Nat.le_of_ble_eq_true rfl, Nat.le_of_ble_eq_true rfl⟩) rfl rfl hl.1 (Nat.le_of_ble_eq_true rfl) dX4_isOverDuring_43 (c1 := 0) (s1 := 0) ⟨⟨rfl, rfl⟩, by decide, by decide⟩ (fun H locs hV => ?_)
        refine lv_iload hx_ hb_ dX4_isOverDuring_46 (lv_at hl 3 rfl) ?_
        have hnb := nyr_b (y := y) (by omega)
        refine sb_ge (tgt := 78) S dX4_isOverDuring_48 (by decide) (by omega) (fun c4 => ?_) (fun c4 => ?_)
        · refine si_const S dX4_isOverDuring_78 ?_
          exact sr_z E hQ (Or.inl rfl) dX4_isOverDuring_79 ⟨Nat.le_of_ble_eq_true rfl, Nat.le_of_ble_eq_true rfl⟩ hV (⟨(bI_f (fun h => by obtain ⟨z, h1, h2, h3, h4⟩ := h; rcases Int.lt_or_le z y with t | t; have := hn z h1 t; omega; have := nyr_m y z t; omega)).symm, rfl, rfl⟩)
        · refine lv_aload_n hx_ hb_ dX4_isOverDuring_51 rfl (lv_at hl 0 rfl) ?_
          refine lv_aload_n hx_ hb_ dX4_isOverDuring_52 rfl (lv_at hl 0 rfl) ?_
          refine sc_getN (ci := 4) (C := RX6) (T := TX6) (n := 8) S hK hV inX6_ (hst).1 rfl 5 (by decide) (E.2.2.2.2.2.1.1.2.1 _ (List.mem_of_getElem? (i := 11) rfl)) rfl rfl dX4_isOverDuring_53 ?_
          refine lv_iload_n hx_ hb_ dX4_isOverDuring_56 rfl (lv_at hl 1 rfl) ?_
          refine si_const S dX4_isOverDuring_57 ?_
          refine sk_VP E hV (As := [.int (sI k), .int (sI 0)]) (rest := [.ref a]) (kTg l_ G b_ M N (a + 11) 4 (f 572) 80 (tvW f) k 0 (f (464 + k)) ((hst).2.2.2.2.2.2.1) (by omega) (by omega) (tvW_0 f k)) (cwV 2 S.2.2.2.2 gX4_isOverDuring_X8_get rfl rfl rfl (by decide +kernel) ⟨Nat.le_of_ble_eq_true rfl, Nat.le_of_ble_eq_true rfl⟩) (ci := 6) ((hst).2.2.2.2.2.2.1).1 rfl rfl rfl hl.1 (Nat.le_of_ble_eq_true rfl) dX4_isOverDuring_58 (c1 := 0) (s1 := 0) ⟨⟨rfl, rfl⟩, by decide, by decide⟩ (fun H locs hV => ?_)
          have kn5 : 0 ≤ f (464 + k) ∧ f (464 + k) < f 568 := (sOk_W hok k (by omega) (by omega)).1
          refine lv_iload hx_ hb_ dX4_isOverDuring_61 (lv_at hl 4 rfl) ?_
          refine sk_SP E hV (As := [.ref a, .int (sI (f (464 + k))), .int (sI y)]) (rest := []) (kX4_inYear l_ G b_ M N a f (f (464 + k)) y hst (by omega) (by omega) (by omega)) (va_cwS 3 S.2.2.2.2 gX4_isOverDuring_X4_inYear rfl rfl rfl (by decide +kernel) ⟨Nat.le_of_ble_eq_true rfl, Nat.le_of_ble_eq_true rfl⟩) rfl rfl hl.1 (Nat.le_of_ble_eq_true rfl) dX4_isOverDuring_63 (c1 := 0) (s1 := 0) ⟨⟨rfl, rfl⟩, by decide, by decide⟩ (fun H locs hV => ?_)
          have hli := liI_r hok (f (464 + k)) y
          refine lv_iload_n hx_ hb_ dX4_isOverDuring_66 rfl (lv_at hl 2 rfl) ?_
          refine sb_le (tgt := 72) S dX4_isOverDuring_67 (by decide) (by omega) (fun c6 => ?_) (fun c6 => ?_)
          · refine si_inc (lv' := [(5, .int (sI (y + 1))), (0, .ref a), (1, .int (sI k)), (2, .int (sI m)), (4, .int (sI ((dayI (dat (f (484 + k)))) + (f (504 + k)))))]) S dX4_isOverDuring_72 hl (k := 4) rfl (by decide) rfl (fun ls hl => ?_)
            refine lv_goto (tgt := 33) hx_ hb_ dX4_isOverDuring_75 (by decide) ?_
            exact ih33 (y + 1) _ _ _ (by omega) (by omega) (fun z a b => by by_cases e : z = y; exact (by rw [e]; omega); exact hn z a (by omega)) hV (lv_sub hl [1, 2, 3, 4, 0] rfl)
          · refine si_const S dX4_isOverDuring_70 ?_
            exact sr_z E hQ (Or.inr rfl) dX4_isOverDuring_71 ⟨Nat.le_of_ble_eq_true rfl, Nat.le_of_ble_eq_true rfl⟩ hV (⟨(bI_t ⟨y, by omega, by omega, by omega, by omega⟩).symm, rfl, rfl⟩)
  exact L33 _ ((dat (f (484 + k))) / 10000) _ _ _ (Nat.lt_succ_self _) (by omega) (fun z a b => by omega) hV (lv_sub hl [3, 4, 5, 1, 0] rfl)

abbrev rmX4_isOver : Room := { frames := 6, cells := 0, slots := 0, locals := 155 }
set_option maxHeartbeats 4000000 in
set_option maxRecDepth 100000 in
theorem kX4_isOver (l_ : Launch) (G : sG) (b_ : Nat) (M : sM) (N : Nat) (a : Nat) (f : sF) (s m : Int) (hst : stC G M a f) (hok : sOk f) (hr : sR s ∧ sR m) : cP l_ yX4_isOver wsX4_isOver rmX4_isOver G b_ M N [.ref a, .int (sI s), .int (sI m)] (bI (ovP f s m)) := by
  refine sE.ofI (cc := cX4_isOver) (nL := 4) (ret := (some .boolean)) (by decide) rfl (Nat.le_of_ble_eq_true rfl) ?_
  intro p_ e_ s_ m_ args_ below_ meth_ c_ ls Q hQ E hl
  have E : sE p_ l_ e_ rmX4_isOver s_ m_ args_ below_ meth_ c_ cX4_isOver 4 wsX4_isOver RX4 "isOver" (some .boolean) G b_ M N := E
  have S := E.1
  have hx_ := S.1
  have hb_ := S.2.1
  have hK := E.2.2.2.2.1
  have hV := E.2.2.2.2.2.2
  have hl : lv_has ls 4 [(0, .ref a), (1, .int (sI s)), (2, .int (sI m))] := hl
  have inX6_ : ∀ w ∈ wsX60, w ∈ wsX4_isOver := fun _ h => List.mem_cons_of_mem _ (List.mem_append_left _ (List.mem_append_right _ h))
  have inX8_ : ∀ w ∈ wsX80, w ∈ wsX4_isOver := fun _ h => List.mem_cons_of_mem _ (List.mem_append_right _ h)
  have kn0 := sOk_N hok
  refine si_const S dX4_isOver_0 ?_
  refine lv_istore_n (lv' := [(3, .int (sI 0)), (0, .ref a), (1, .int (sI s)), (2, .int (sI m))]) hx_ hb_ dX4_isOver_1 rfl hl (by decide) rfl (fun ls hl => ?_)
  have L2 : ∀ (fuel : Nat) (i : Int)  (H : Heap) (locs : List Loc) (ls : Array Slot), ((f 572 - i).toNat) < fuel → (0 ≤ i ∧ i ≤ f 572) → (∀ k, 0 ≤ k → k < i → ¬ (f (464 + k) = s ∧ ovD f k m)) → sV G b_ M N s_ H locs → lv_has ls 4 [(0, .ref a), (1, .int (sI s)), (2, .int (sI m)), (3, .int (sI i))] → W p_ l_ e_ rmX4_isOver s_ m_ args_ below_ meth_ c_ H locs 0 0 Q (F0 m_ 2 ls []) := by
    intro fuel
    induction fuel with
    | zero => intro i H locs ls hmu; exact absurd hmu (Nat.not_lt_zero _)
    | succ fuel ih2 =>
      intro i H locs ls hmu2 hv2_0 hn  hV hl
      refine lv_iload_n hx_ hb_ dX4_isOver_2 rfl (lv_at hl 3 rfl) ?_
      refine lv_aload_n hx_ hb_ dX4_isOver_3 rfl (lv_at hl 0 rfl) ?_
      refine sc_getN (ci := 4) (C := RX6) (T := TX6) (n := 8) S hK hV inX6_ (hst).1 rfl 5 (by decide) (E.2.2.2.2.2.1.1.2.1 _ (List.mem_of_getElem? (i := 11) rfl)) rfl rfl dX4_isOver_4 ?_
      refine sk_VP E hV (As := []) (rest := [.int (sI i)]) (kTs l_ G b_ M N (a + 11) 4 (f 572) 80 (tvW f) ((hst).2.2.2.2.2.2.1)) (cwV 0 S.2.2.2.2 gX4_isOver_X8_size rfl rfl rfl (by decide +kernel) ⟨Nat.le_of_ble_eq_true rfl, Nat.le_of_ble_eq_true rfl⟩) (ci := 6) ((hst).2.2.2.2.2.2.1).1 rfl rfl rfl hl.1 (Nat.le_of_ble_eq_true rfl) dX4_isOver_7 (c1 := 0) (s1 := 0) ⟨⟨rfl, rfl⟩, by decide, by decide⟩ (fun H locs hV => ?_)
      refine sb_ge (tgt := 43) S dX4_isOver_10 (by decide) (by omega) (fun c1 => ?_) (fun c1 => ?_)
      · refine si_const S dX4_isOver_43 ?_
        exact sr_z E hQ (Or.inl rfl) dX4_isOver_44 ⟨Nat.le_of_ble_eq_true rfl, Nat.le_of_ble_eq_true rfl⟩ hV (⟨(bI_f (fun h => by obtain ⟨k, h1, h2, h3, h4⟩ := h; exact hn k h1 (by omega) ⟨h3, h4⟩)).symm, rfl, rfl⟩)
      · refine lv_aload_n hx_ hb_ dX4_isOver_13 rfl (lv_at hl 0 rfl) ?_
        refine sc_getN (ci := 4) (C := RX6) (T := TX6) (n := 8) S hK hV inX6_ (hst).1 rfl 5 (by decide) (E.2.2.2.2.2.1.1.2.1 _ (List.mem_of_getElem? (i := 11) rfl)) rfl rfl dX4_isOver_14 ?_
        refine lv_iload_n hx_ hb_ dX4_isOver_17 rfl (lv_at hl 3 rfl) ?_
        refine si_const S dX4_isOver_18 ?_
        refine sk_VP E hV (As := [.int (sI i), .int (sI 0)]) (rest := []) (kTg l_ G b_ M N (a + 11) 4 (f 572) 80 (tvW f) i 0 (f (464 + i)) ((hst).2.2.2.2.2.2.1) (by omega) (by omega) (tvW_0 f i)) (cwV 2 S.2.2.2.2 gX4_isOver_X8_get rfl rfl rfl (by decide +kernel) ⟨Nat.le_of_ble_eq_true rfl, Nat.le_of_ble_eq_true rfl⟩) (ci := 6) ((hst).2.2.2.2.2.2.1).1 rfl rfl rfl hl.1 (Nat.le_of_ble_eq_true rfl) dX4_isOver_19 (c1 := 0) (s1 := 0) ⟨⟨rfl, rfl⟩, by decide, by decide⟩ (fun H locs hV => ?_)
        have kn2 : 0 ≤ f (464 + i) ∧ f (464 + i) < f 568 := (sOk_W hok i (by omega) (by omega)).1
        refine lv_iload_n hx_ hb_ dX4_isOver_22 rfl (lv_at hl 1 rfl) ?_
        refine sb_ne (tgt := 37) S dX4_isOver_23 (by decide) (by omega) (fun c3 => ?_) (fun c3 => ?_)
        · refine si_inc (lv' := [(3, .int (sI (i + 1))), (0, .ref a), (1, .int (sI s)), (2, .int (sI m))]) S dX4_isOver_37 hl (k := 3) rfl (by decide) rfl (fun ls hl => ?_)
          refine lv_goto (tgt := 2) hx_ hb_ dX4_isOver_40 (by decide) ?_
          exact ih2 (i + 1) _ _ _ (by omega) (by omega) (idx_st hn (fun h => by have := h.1; omega)) hV (lv_sub hl [1, 2, 3, 0] rfl)
        · refine lv_aload_n hx_ hb_ dX4_isOver_26 rfl (lv_at hl 0 rfl) ?_
          refine lv_iload_n hx_ hb_ dX4_isOver_27 rfl (lv_at hl 3 rfl) ?_
          refine lv_iload_n hx_ hb_ dX4_isOver_28 rfl (lv_at hl 2 rfl) ?_
          refine sk_SP E hV (As := [.ref a, .int (sI i), .int (sI m)]) (rest := []) (kX4_isOverDuring l_ G b_ M N a f i m hst (by omega) (by omega) (by omega)) (va_cwS 3 S.2.2.2.2 gX4_isOver_X4_isOverDuring rfl rfl rfl (by decide +kernel) ⟨Nat.le_of_ble_eq_true rfl, Nat.le_of_ble_eq_true rfl⟩) rfl rfl hl.1 (Nat.le_of_ble_eq_true rfl) dX4_isOver_29 (c1 := 0) (s1 := 0) ⟨⟨rfl, rfl⟩, by decide, by decide⟩ (fun H locs hV => ?_)
          refine sq_eq (tgt := 37) S dX4_isOver_32 (by decide) (fun h32 => ?_) (fun h32 => ?_)
          · refine si_inc (lv' := [(3, .int (sI (i + 1))), (0, .ref a), (1, .int (sI s)), (2, .int (sI m))]) S dX4_isOver_37 hl (k := 3) rfl (by decide) rfl (fun ls hl => ?_)
            refine lv_goto (tgt := 2) hx_ hb_ dX4_isOver_40 (by decide) ?_
            exact ih2 (i + 1) _ _ _ (by omega) (by omega) (idx_st hn (fun h => h32 h.2)) hV (lv_sub hl [1, 2, 3, 0] rfl)
          · refine si_const S dX4_isOver_35 ?_
            exact sr_z E hQ (Or.inr rfl) dX4_isOver_36 ⟨Nat.le_of_ble_eq_true rfl, Nat.le_of_ble_eq_true rfl⟩ hV (⟨(bI_t ⟨i, by omega, by omega, by omega, h32⟩).symm, rfl, rfl⟩)
  exact L2 _ 0 _ _ _ (Nat.lt_succ_self _) (by omega) (fun k a b => by omega) hV (lv_sub hl [1, 2, 3, 0] rfl)

abbrev rmX4_daysPossible : Room := { frames := 5, cells := 0, slots := 0, locals := 130 }
set_option maxHeartbeats 4000000 in
set_option maxRecDepth 100000 in
theorem kX4_daysPossible (l_ : Launch) (G : sG) (b_ : Nat) (M : sM) (N : Nat) (a : Nat) (f : sF) (s d l : Int) (hst : stC G M a f) (hok : sOk f) (hli : sLi f) (hs : 0 ≤ s ∧ s < f 568) (hd : isDt d) (hl : 1 ≤ l ∧ l ≤ 1000) : cP l_ yX4_daysPossible wsX4_daysPossible rmX4_daysPossible G b_ M N [.ref a, .int (sI s), .int (sI d), .int (sI l)] (mdI f s (d / 10000) (dayI d + 3652) l) := by
  refine sE.ofI (cc := cX4_daysPossible) (nL := 10) (ret := (some .int)) (by decide) rfl (Nat.le_of_ble_eq_true rfl) ?_
  intro p_ e_ s_ m_ args_ below_ meth_ c_ ls Q hQ E hl
  have E : sE p_ l_ e_ rmX4_daysPossible s_ m_ args_ below_ meth_ c_ cX4_daysPossible 10 wsX4_daysPossible RX4 "daysPossible" (some .int) G b_ M N := E
  have S := E.1
  have hx_ := S.1
  have hb_ := S.2.1
  have hK := E.2.2.2.2.1
  have hV := E.2.2.2.2.2.2
  have hl : lv_has ls 10 [(0, .ref a), (1, .int (sI s)), (2, .int (sI d)), (3, .int (sI l))] := hl
  have inX6_ : ∀ w ∈ wsX60, w ∈ wsX4_daysPossible := fun _ h => List.mem_cons_of_mem _ (List.mem_append_left _ (List.mem_append_right _ h))
  have inX8_ : ∀ w ∈ wsX80, w ∈ wsX4_daysPossible := fun _ h => List.mem_cons_of_mem _ (List.mem_append_right _ h)
  have kn0 := sOk_N hok
  have hdr := dayI_r hd
  have hdy := dt_y hd
  have h22 := nyr_2200
  have hS := sOk_S hok s hs.1 hs.2
  refine si_sipush S dX4_daysPossible_0 (by decide) ?_
  refine lv_iload_n hx_ hb_ dX4_daysPossible_3 rfl (lv_at hl 2 rfl) ?_
  refine sk_SP E hV (As := [.int (sI d)]) (rest := [.int (sI 400)]) (kX0_daysLeft l_ G b_ M N d (by omega)) (va_cwS 1 S.2.2.2.2 gX4_daysPossible_X0_daysLeft rfl rfl rfl (by decide +kernel) ⟨Nat.le_of_ble_eq_true rfl, Nat.le_of_ble_eq_true rfl⟩) rfl rfl hl.1 (Nat.le_of_ble_eq_true rfl) dX4_daysPossible_4 (c1 := 0) (s1 := 0) ⟨⟨rfl, rfl⟩, by decide, by decide⟩ (fun H locs hV => ?_)
  refine si_min S hl.1 (S.2.2.2.2 _ (List.mem_of_getElem? (i := 1) rfl)) (S.2.2.2.2 _ (List.mem_of_getElem? (i := 2) rfl)) (S.2.2.2.2 _ (List.mem_of_getElem? (i := 3) rfl)) (S.2.2.2.2 _ (List.mem_of_getElem? (i := 4) rfl)) ⟨by decide, Nat.le_of_ble_eq_true rfl, by decide, by decide⟩ (by omega) dX4_daysPossible_7 ?_
  refine lv_istore (lv' := [(4, .int (sI (min 400 (nyr 2200 - dayI d)))), (0, .ref a), (1, .int (sI s)), (2, .int (sI d)), (3, .int (sI l))]) hx_ hb_ dX4_daysPossible_10 hl (by decide) rfl (fun ls hl => ?_)
  refine lv_iload_n hx_ hb_ dX4_daysPossible_12 rfl (lv_at hl 3 rfl) ?_
  refine sk_SP E hV (As := [.int (sI d)]) (rest := []) (kX0_dayOf l_ G b_ M N d (by omega)) (va_cwS 1 S.2.2.2.2 gX4_daysPossible_X0_dayOf rfl rfl rfl (by decide +kernel) ⟨Nat.le_of_ble_eq_true rfl, Nat.le_of_ble_eq_true rfl⟩) rfl rfl hl.1 (Nat.le_of_ble_eq_true rfl) dX4_daysPossible_13 (c1 := 0) (s1 := 0) ⟨⟨rfl, rfl⟩, by decide, by decide⟩ (fun H locs hV => ?_)
  refine lv_istore (lv' := [(5, .int (sI (dayI d))), (4, .int (sI (min 400 (nyr 2200 - dayI d)))), (0, .ref a), (1, .int (sI s)), (2, .int (sI d)), (3, .int (sI l))]) hx_ hb_ dX4_daysPossible_16 hl (by decide) rfl (fun ls hl => ?_)
  refine si_const S dX4_daysPossible_18 ?_
  refine lv_istore (lv' := [(6, .int (sI 0)), (5, .int (sI (dayI d))), (4, .int (sI (min 400 (nyr 2200 - dayI d)))), (0, .ref a), (1, .int (sI s)), (2, .int (sI d)), (3, .int (sI l))]) hx_ hb_ dX4_daysPossible_19 hl (by decide) rfl (fun ls hl => ?_)
  refine lv_iload_n hx_ hb_ dX4_daysPossible_21 rfl (lv_at hl 5 rfl) ?_
  refine si_sipush S dX4_daysPossible_22 (by decide) ?_
  refine si_divN S dX4_daysPossible_25 (by omega) ?_
  refine lv_istore (lv' := [(7, .int (sI (d / 10000))), (6, .int (sI 0)), (5, .int (sI (dayI d))), (4, .int (sI (min 400 (nyr 2200 - dayI d)))), (0, .ref a), (1, .int (sI s)), (2, .int (sI d)), (3, .int (sI l))]) hx_ hb_ dX4_daysPossible_26 hl (by decide) rfl (fun ls hl => ?_)
  have L28 : ∀ (fuel : Nat) (v : Int) (y : Int)  (H : Heap) (locs : List Loc) (ls : Array Slot), ((2200 - y).toNat) < fuel → (d / 10000 ≤ y ∧ y ≤ 2200 ∧ 0 ≤ v ∧ v ≤ 200000) → (mdV f s (d / 10000) (dayI d + 3652) l y v) → sV G b_ M N s_ H locs → lv_has ls 10 [(0, .ref a), (1, .int (sI s)), (3, .int (sI l)), (4, .int (sI (min 400 (nyr 2200 - dayI d)))), (5, .int (sI (dayI d))), (6, .int (sI v)), (7, .int (sI y))] → W p_ l_ e_ rmX4_daysPossible s_ m_ args_ below_ meth_ c_ H locs 0 0 Q (F0 m_ 28 ls []) := by
    intro fuel
    induction fuel with
    | zero => intro v y H locs ls hmu; exact absurd hmu (Nat.not_lt_zero _)
    | succ fuel ih28 =>
      intro v y H locs ls hmu28 hv28_0 hv  hV hl
      refine lv_iload hx_ hb_ dX4_daysPossible_28 (lv_at hl 6 rfl) ?_
      refine si_sipush S dX4_daysPossible_30 (by decide) ?_
      refine sb_gt (tgt := 119) S dX4_daysPossible_33 (by decide) (by omega) (fun c1 => ?_) (fun c1 => ?_)
      · refine lv_iload hx_ hb_ dX4_daysPossible_119 (lv_at hl 3 rfl) ?_
        refine lv_iload hx_ hb_ dX4_daysPossible_121 (lv_at hl 5 rfl) ?_
        refine si_min S hl.1 (S.2.2.2.2 _ (List.mem_of_getElem? (i := 1) rfl)) (S.2.2.2.2 _ (List.mem_of_getElem? (i := 2) rfl)) (S.2.2.2.2 _ (List.mem_of_getElem? (i := 3) rfl)) (S.2.2.2.2 _ (List.mem_of_getElem? (i := 4) rfl)) ⟨by decide, Nat.le_of_ble_eq_true rfl, by decide, by decide⟩ (by omega) dX4_daysPossible_123 ?_
        exact sr_i E hQ dX4_daysPossible_126 ⟨Nat.le_of_ble_eq_true rfl, Nat.le_of_ble_eq_true rfl⟩ hV (⟨by have h9 := md_z hli hs (by omega) (by omega) (by omega) (by omega) hv (by omega); rw [md_eq h9]; omega, rfl, rfl⟩)
      · refine lv_iload hx_ hb_ dX4_daysPossible_36 (lv_at hl 5 rfl) ?_
        refine lv_iload hx_ hb_ dX4_daysPossible_38 (lv_at hl 3 rfl) ?_
        refine sb_ge (tgt := 119) S dX4_daysPossible_40 (by decide) (by omega) (fun c2 => ?_) (fun c2 => ?_)
        · refine lv_iload hx_ hb_ dX4_daysPossible_119 (lv_at hl 3 rfl) ?_
          refine lv_iload hx_ hb_ dX4_daysPossible_121 (lv_at hl 5 rfl) ?_
          refine si_min S hl.1 (S.2.2.2.2 _ (List.mem_of_getElem? (i := 1) rfl)) (S.2.2.2.2 _ (List.mem_of_getElem? (i := 2) rfl)) (S.2.2.2.2 _ (List.mem_of_getElem? (i := 3) rfl)) (S.2.2.2.2 _ (List.mem_of_getElem? (i := 4) rfl)) ⟨by decide, Nat.le_of_ble_eq_true rfl, by decide, by decide⟩ (by omega) dX4_daysPossible_123 ?_
          exact sr_i E hQ dX4_daysPossible_126 ⟨Nat.le_of_ble_eq_true rfl, Nat.le_of_ble_eq_true rfl⟩ hV (⟨by have h9 := md_z hli hs (by omega) (by omega) (by omega) (by omega) hv (by omega); rw [md_eq h9]; omega, rfl, rfl⟩)
        · refine lv_iload_n hx_ hb_ dX4_daysPossible_43 rfl (lv_at hl 2 rfl) ?_
          refine sz_le (tgt := 119) S dX4_daysPossible_44 (by decide) (by omega) (fun c3 => absurd c3 (by omega)) (fun _ => ?_)
          refine lv_iload hx_ hb_ dX4_daysPossible_47 (lv_at hl 6 rfl) ?_
          refine si_const S dX4_daysPossible_49 ?_
          refine si_add S dX4_daysPossible_50 ?_
          refine sk_SP E hV (As := [.int (sI (y + 1))]) (rest := []) (kX0_newYear l_ G b_ M N (y + 1) (by omega)) (va_cwS 1 S.2.2.2.2 gX4_daysPossible_X0_newYear rfl rfl rfl (by decide +kernel) ⟨Nat.le_of_ble_eq_true rfl, Nat.le_of_ble_eq_true rfl⟩) rfl rfl hl.1 (Nat.le_of_ble_eq_true rfl) dX4_daysPossible_51 (c1 := 0) (s1 := 0) ⟨⟨rfl, rfl⟩, by decide, by decide⟩ (fun H locs hV => ?_)
          have hnb := nyr_b (y := y + 1) (by omega)
          have hnm := nyr_m (d / 10000 + 1) (y + 1) (by omega)
          have hli1 := liI_r hok s y
          have hli2 := hli s y hs.1 hs.2 (by omega) (by omega)
          have hdv : 0 ≤ (f (60 + s) - liI f s y) / l ∧ (f (60 + s) - liI f s y) / l ≤ f (60 + s) - liI f s y := ⟨Int.ediv_nonneg (by omega) (by omega), Int.ediv_le_self _ (by omega)⟩
          refine lv_iload hx_ hb_ dX4_daysPossible_54 (lv_at hl 4 rfl) ?_
          refine si_sub S dX4_daysPossible_56 ?_
          refine lv_iload hx_ hb_ dX4_daysPossible_57 (lv_at hl 5 rfl) ?_
          refine si_sub S dX4_daysPossible_59 ?_
          refine lv_istore (lv' := [(8, .int (sI (((nyr (y + 1)) - (dayI d)) - v))), (0, .ref a), (1, .int (sI s)), (3, .int (sI l)), (4, .int (sI (min 400 (nyr 2200 - dayI d)))), (5, .int (sI (dayI d))), (6, .int (sI v)), (7, .int (sI y))]) hx_ hb_ dX4_daysPossible_60 hl (by decide) rfl (fun ls hl => ?_)
          refine lv_aload_n hx_ hb_ dX4_daysPossible_62 rfl (lv_at hl 1 rfl) ?_
          refine sc_getN (ci := 4) (C := RX6) (T := TX6) (n := 8) S hK hV inX6_ (hst).1 rfl 0 (by decide) (E.2.2.2.2.2.1.1.2.1 _ (List.mem_of_getElem? (i := 2) rfl)) rfl rfl dX4_daysPossible_63 ?_
          refine lv_iload_n hx_ hb_ dX4_daysPossible_66 rfl (lv_at hl 2 rfl) ?_
          refine si_bipush S dX4_daysPossible_67 (by decide) ?_
          refine sk_VP E hV (As := [.int (sI s), .int (sI 6)]) (rest := []) (kTg l_ G b_ M N (a + 1) 7 (f 568) 70 (tvS f) s 6 (f (60 + s)) ((hst).2.1) (by omega) (by omega) (tvS_6 f s)) (cwV 2 S.2.2.2.2 gX4_daysPossible_X8_get rfl rfl rfl (by decide +kernel) ⟨Nat.le_of_ble_eq_true rfl, Nat.le_of_ble_eq_true rfl⟩) (ci := 6) ((hst).2.1).1 rfl rfl rfl hl.1 (Nat.le_of_ble_eq_true rfl) dX4_daysPossible_69 (c1 := 0) (s1 := 0) ⟨⟨rfl, rfl⟩, by decide, by decide⟩ (fun H locs hV => ?_)
          have kn4 : 0 ≤ f (60 + s) ∧ f (60 + s) ≤ 100000 := (sOk_S hok s (by omega) (by omega)).2.2.2.2.2.2
          refine lv_aload_n hx_ hb_ dX4_daysPossible_72 rfl (lv_at hl 1 rfl) ?_
          refine lv_iload_n hx_ hb_ dX4_daysPossible_73 rfl (lv_at hl 2 rfl) ?_
          refine lv_iload hx_ hb_ dX4_daysPossible_74 (lv_at hl 7 rfl) ?_
          refine sk_SP E hV (As := [.ref a, .int (sI s), .int (sI y)]) (rest := [.int (sI (f (60 + s)))]) (kX4_inYear l_ G b_ M N a f s y hst (by omega) (by omega) (by omega)) (va_cwS 3 S.2.2.2.2 gX4_daysPossible_X4_inYear rfl rfl rfl (by decide +kernel) ⟨Nat.le_of_ble_eq_true rfl, Nat.le_of_ble_eq_true rfl⟩) rfl rfl hl.1 (Nat.le_of_ble_eq_true rfl) dX4_daysPossible_76 (c1 := 0) (s1 := 0) ⟨⟨rfl, rfl⟩, by decide, by decide⟩ (fun H locs hV => ?_)
          refine si_sub S dX4_daysPossible_79 ?_
          refine lv_iload_n hx_ hb_ dX4_daysPossible_80 rfl (lv_at hl 3 rfl) ?_
          refine si_divN S dX4_daysPossible_81 (by omega) ?_
          refine lv_istore (lv' := [(9, .int (sI (((f (60 + s)) - (liI f s y)) / l))), (8, .int (sI (((nyr (y + 1)) - (dayI d)) - v))), (0, .ref a), (1, .int (sI s)), (3, .int (sI l)), (4, .int (sI (min 400 (nyr 2200 - dayI d)))), (5, .int (sI (dayI d))), (6, .int (sI v)), (7, .int (sI y))]) hx_ hb_ dX4_daysPossible_82 hl (by decide) rfl (fun ls hl => ?_)
          refine lv_iload hx_ hb_ dX4_daysPossible_84 (lv_at hl 0 rfl) ?_
          refine lv_iload hx_ hb_ dX4_daysPossible_86 (lv_at hl 1 rfl) ?_
          refine sb_ge (tgt := 106) S dX4_daysPossible_88 (by decide) (by omega) (fun c5 => ?_) (fun c5 => ?_)
          · refine lv_iload hx_ hb_ dX4_daysPossible_106 (lv_at hl 7 rfl) ?_
            refine lv_iload hx_ hb_ dX4_daysPossible_108 (lv_at hl 1 rfl) ?_
            refine si_add S dX4_daysPossible_110 ?_
            refine lv_istore (lv' := [(6, .int (sI (v + (((nyr (y + 1)) - (dayI d)) - v)))), (9, .int (sI (((f (60 + s)) - (liI f s y)) / l))), (8, .int (sI (((nyr (y + 1)) - (dayI d)) - v))), (0, .ref a), (1, .int (sI s)), (3, .int (sI l)), (4, .int (sI (min 400 (nyr 2200 - dayI d)))), (5, .int (sI (dayI d))), (7, .int (sI y))]) hx_ hb_ dX4_daysPossible_111 hl (by decide) rfl (fun ls hl => ?_)
            refine si_inc (lv' := [(7, .int (sI (y + 1))), (6, .int (sI (v + (((nyr (y + 1)) - (dayI d)) - v)))), (9, .int (sI (((f (60 + s)) - (liI f s y)) / l))), (8, .int (sI (((nyr (y + 1)) - (dayI d)) - v))), (0, .ref a), (1, .int (sI s)), (3, .int (sI l)), (4, .int (sI (min 400 (nyr 2200 - dayI d)))), (5, .int (sI (dayI d)))]) S dX4_daysPossible_113 hl (k := 8) rfl (by decide) rfl (fun ls hl => ?_)
            refine lv_goto (tgt := 28) hx_ hb_ dX4_daysPossible_116 (by decide) ?_
            exact ih28 (v + (((nyr (y + 1)) - (dayI d)) - v)) (y + 1) _ _ _ (by omega) (by omega) (by have h9 := md_s (by omega) (by omega) (by omega) hv rfl (by omega); rw [show v + (nyr (y + 1) + 3652 - (dayI d + 3652) - v) = v + (nyr (y + 1) - dayI d - v) by omega] at h9; exact h9) hV (lv_sub hl [4, 5, 6, 7, 8, 1, 0] rfl)
          · refine lv_iload hx_ hb_ dX4_daysPossible_91 (lv_at hl 5 rfl) ?_
            refine lv_iload hx_ hb_ dX4_daysPossible_93 (lv_at hl 7 rfl) ?_
            refine si_const S dX4_daysPossible_95 ?_
            refine lv_iload hx_ hb_ dX4_daysPossible_96 (lv_at hl 0 rfl) ?_
            refine si_max S hl.1 (S.2.2.2.2 _ (List.mem_of_getElem? (i := 5) rfl)) (S.2.2.2.2 _ (List.mem_of_getElem? (i := 6) rfl)) (S.2.2.2.2 _ (List.mem_of_getElem? (i := 3) rfl)) (S.2.2.2.2 _ (List.mem_of_getElem? (i := 7) rfl)) ⟨by decide, Nat.le_of_ble_eq_true rfl, by decide, by decide⟩ (by omega) dX4_daysPossible_98 ?_
            refine si_add S dX4_daysPossible_101 ?_
            refine si_min S hl.1 (S.2.2.2.2 _ (List.mem_of_getElem? (i := 1) rfl)) (S.2.2.2.2 _ (List.mem_of_getElem? (i := 2) rfl)) (S.2.2.2.2 _ (List.mem_of_getElem? (i := 3) rfl)) (S.2.2.2.2 _ (List.mem_of_getElem? (i := 4) rfl)) ⟨by decide, Nat.le_of_ble_eq_true rfl, by decide, by decide⟩ (by omega) dX4_daysPossible_102 ?_
            exact sr_i E hQ dX4_daysPossible_105 ⟨Nat.le_of_ble_eq_true rfl, Nat.le_of_ble_eq_true rfl⟩ hV (⟨by have h9 := md_a hli hs (by omega) (by omega) (by omega) (by omega) hv (by omega) rfl (by omega); rw [md_eq h9]; omega, rfl, rfl⟩)
  exact L28 _ 0 (d / 10000) _ _ _ (Nat.lt_succ_self _) (by omega) (⟨Or.inl ⟨rfl, rfl⟩, fun z a b => by omega⟩) hV (lv_sub hl [4, 5, 7, 3, 2, 1, 0] rfl)
