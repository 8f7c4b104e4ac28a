/-! The calendar's laws. -/
/-- dates from 1890 on; the date of a day of the reference -/
abbrev isDx (d : Int) : Prop := 1890 ≤ d / 10000 ∧ d / 10000 ≤ 2209 ∧ 1 ≤ d / 100 % 100 ∧ d / 100 % 100 ≤ 12 ∧ 1 ≤ d % 100 ∧ d % 100 ≤ dim (d / 10000) (d / 100 % 100)
noncomputable def dat (n : Int) : Int := @dite Int (∃ d, isDx d ∧ dayI d + 3652 = n) (Classical.propDecidable _) (fun h => h.choose) (fun _ => 0)
def lpP (y : Int) : Prop := (y % 4 = 0 ∧ y % 100 ≠ 0) ∨ y % 400 = 0
theorem lpP_i (y : Int) : (y % 4 = 0 ∧ (y % 100 ≠ 0 ∨ y % 400 = 0)) ↔ lpP y := by unfold lpP; omega
theorem dA_1 (y : Int) : dA y 1 = 0 := by
  unfold dA
  rw [bI_f (by omega)]
  rfl
theorem dA_v (y m : Int) : dA y m = sDays (m - 1).toNat + (if 2 < m then bI (lpP y) else 0) := by
  unfold dA
  by_cases h : 2 < m
  · rw [if_pos h, bI_c (show (2 < m ∧ (y % 4 = 0 ∧ (y % 100 ≠ 0 ∨ y % 400 = 0))) ↔ lpP y from ⟨fun q => (lpP_i y).mp q.2, fun q => ⟨h, (lpP_i y).mpr q⟩⟩)]
  · rw [if_neg h, bI_f (fun q => h q.1)]
theorem dim_v (y m : Int) (h : 1 ≤ m ∧ m ≤ 12) : dim y m = if m = 2 then 28 + bI (lpP y) else if m = 4 ∨ m = 6 ∨ m = 9 ∨ m = 11 then 30 else 31 := by
  unfold dim
  rw [dA_v, dA_v]
  rcases (show m = 1 ∨ m = 2 ∨ m = 3 ∨ m = 4 ∨ m = 5 ∨ m = 6 ∨ m = 7 ∨ m = 8 ∨ m = 9 ∨ m = 10 ∨ m = 11 ∨ m = 12 by omega) with rfl | rfl | rfl | rfl | rfl | rfl | rfl | rfl | rfl | rfl | rfl | rfl <;> simp [sDays] <;> omega
theorem dim_b (y m : Int) (h : 1 ≤ m ∧ m ≤ 12) : 28 ≤ dim y m ∧ dim y m ≤ 31 := by
  have := bI_r (c := lpP y)
  rw [dim_v y m h]
  split
  · omega
  · split <;> omega
theorem dA_s (y m : Int) : dA y (m + 1) = dA y m + dim y m := by unfold dim; omega
theorem dA_13 (y : Int) : dA y 13 = 365 + bI (lpP y) := by
  rw [dA_v, if_pos (by omega)]
  rfl
theorem dA_m (y m k : Int) (h : 1 ≤ m) (hk : m ≤ k) (hk2 : k ≤ 13) : dA y m ≤ dA y k := by
  have key : ∀ j : Nat, m + (j : Int) ≤ 13 → dA y m ≤ dA y (m + (j : Int)) := by
    intro j
    induction j with
    | zero => intro _; rw [show m + ((0 : Nat) : Int) = m by omega]; exact Int.le_refl _
    | succ j ih =>
      intro hj
      have h1 := ih (by omega)
      have h2 := dA_s y (m + (j : Int))
      have h3 := dim_b y (m + (j : Int)) (by omega)
      rw [show m + ((j + 1 : Nat) : Int) = m + (j : Int) + 1 by omega]
      omega
  have := key (k - m).toNat (by omega)
  rw [show m + (((k - m).toNat : Nat) : Int) = k by omega] at this
  exact this
theorem nyr_s (y : Int) : nyr (y + 1) = nyr y + 365 + bI (lpP y) := by
  have h : lps (y + 1) = lps y + bI (lpP y) := by
    unfold lps
    by_cases q : lpP y
    · rw [bI_t q]; unfold lpP at q; omega
    · rw [bI_f q]; unfold lpP at q; omega
  unfold nyr
  omega
theorem nyr_1890 : nyr 1890 = -3652 := by decide
theorem nyr_1900 : nyr 1900 = 0 := by decide
theorem nyr_2200 : nyr 2200 = 109573 := by decide
theorem nyr_m (y k : Int) (h : y ≤ k) : nyr y + 365 * (k - y) ≤ nyr k ∧ nyr k ≤ nyr y + 366 * (k - y) := by
  have key : ∀ j : Nat, nyr y + 365 * (j : Int) ≤ nyr (y + (j : Int)) ∧ nyr (y + (j : Int)) ≤ nyr y + 366 * (j : Int) := by
    intro j
    induction j with
    | zero => rw [show y + ((0 : Nat) : Int) = y by omega]; omega
    | succ j ih =>
      have h1 := nyr_s (y + (j : Int))
      have h2 := bI_r (c := lpP (y + (j : Int)))
      rw [show y + ((j + 1 : Nat) : Int) = y + (j : Int) + 1 by omega]
      omega
  have := key (k - y).toNat
  rw [show y + (((k - y).toNat : Nat) : Int) = k by omega] at this
  omega
theorem dayI_lt {d e : Int} (hd : isDx d) (he : isDx e) (h : d < e) : dayI d < dayI e := by
  unfold dayI
  have a1 := dim_b (d / 10000) (d / 100 % 100) (by omega)
  have a2 := dA_s (d / 10000) (d / 100 % 100)
  have a3 := dA_m (d / 10000) (d / 100 % 100 + 1) 13 (by omega) (by omega) (by omega)
  have a4 := dA_13 (d / 10000)
  have b2 := dA_m (e / 10000) 1 (e / 100 % 100) (by omega) (by omega) (by omega)
  rw [dA_1] at b2
  by_cases c1 : d / 10000 = e / 10000
  · rw [← c1]
    by_cases c2 : d / 100 % 100 = e / 100 % 100
    · rw [← c2]; omega
    · have b3 := dA_m (d / 10000) (d / 100 % 100 + 1) (e / 100 % 100) (by omega) (by omega) (by omega)
      omega
  · have n1 := nyr_s (d / 10000)
    have n2 := (nyr_m (d / 10000 + 1) (e / 10000) (by omega)).1
    omega
theorem dayI_inj {d e : Int} (hd : isDx d) (he : isDx e) (h : dayI d = dayI e) : d = e := by
  rcases Int.lt_trichotomy d e with q | q | q
  · have := dayI_lt hd he q; omega
  · exact q
  · have := dayI_lt he hd q; omega
theorem dayI_le {d e : Int} (hd : isDx d) (he : isDx e) : dayI d ≤ dayI e ↔ d ≤ e := by
  constructor
  · intro h
    rcases Int.lt_trichotomy d e with q | q | q
    · omega
    · omega
    · have := dayI_lt he hd q; omega
  · intro h
    rcases Int.lt_trichotomy d e with q | q | q
    · have := dayI_lt hd he q; omega
    · rw [q]; omega
    · omega
theorem isDt_x {d : Int} (h : isDt d) : isDx d := by
  unfold isDt at h
  unfold isDx
  omega
/-- days of dates lie between the first and the last -/
theorem dayI_r {d : Int} (h : isDt d) : 0 ≤ dayI d ∧ dayI d < 109573 := by
  have a1 := dim_b (d / 10000) (d / 100 % 100) (by omega)
  have a2 := dA_s (d / 10000) (d / 100 % 100)
  have a3 := dA_m (d / 10000) (d / 100 % 100 + 1) 13 (by omega) (by omega) (by omega)
  have a4 := dA_13 (d / 10000)
  have b2 := dA_m (d / 10000) 1 (d / 100 % 100) (by omega) (by omega) (by omega)
  rw [dA_1] at b2
  have n1 := nyr_s (d / 10000)
  have n2 := (nyr_m (d / 10000 + 1) 2200 (by omega)).1
  have n3 := (nyr_m 1900 (d / 10000) (by omega)).1
  rw [nyr_2200] at n2
  rw [nyr_1900] at n3
  unfold dayI
  omega
theorem dat_eq {n d : Int} (hd : isDx d) (h : dayI d + 3652 = n) : dat n = d := by
  have hx : ∃ d, isDx d ∧ dayI d + 3652 = n := ⟨d, hd, h⟩
  have e : dat n = hx.choose := dif_pos hx
  rw [e]
  have h2 := hx.choose_spec
  exact dayI_inj h2.1 hd (by omega)
theorem dat_dt {d : Int} (h : isDt d) : dat (dayI d + 3652) = d := dat_eq (isDt_x h) rfl
/-- the date out of year, month and day -/
theorem dayI_o {y m t : Int} (hm : 1 ≤ m ∧ m ≤ 12) (ht : 0 ≤ t ∧ t < 31) (hy : 1890 ≤ y ∧ y ≤ 2209) : (10000 * y + 100 * m + t + 1) / 10000 = y ∧ (10000 * y + 100 * m + t + 1) / 100 % 100 = m ∧ (10000 * y + 100 * m + t + 1) % 100 = t + 1 := by omega
