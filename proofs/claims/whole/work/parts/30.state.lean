/-! What a State is: the numbers f that the reference keeps, seen through seven Tables. -/
abbrev sF : Type := Int → Int
/-- a code of the reference (digits to base 27) as four bytes -/
def cby (x : Int) : Int := if x = 0 then 0 else 96 + x
def cod (v : Int) : Int := cby (v / 19683) * 16777216 + cby (v / 729 % 27) * 65536 + cby (v / 27 % 27) * 256 + cby (v % 27)
/-- when something told was taken back: -1 if it was not -/
def takn (t : Int) : Int := if t = 0 then -1 else t
noncomputable def tvS (f : sF) (i j : Int) : Int := if j = 0 then f (10 + i) else if j = 1 then f (20 + i) else if j = 2 then f (30 + i) else if j = 3 then f (40 + i) else if j = 4 then cod (f i) else if j = 5 then f (50 + i) else f (60 + i)
theorem tvS_0 (f : sF) (i : Int) : tvS f i 0 = f (10 + i) := by unfold tvS; simp
theorem tvS_1 (f : sF) (i : Int) : tvS f i 1 = f (20 + i) := by unfold tvS; simp
theorem tvS_2 (f : sF) (i : Int) : tvS f i 2 = f (30 + i) := by unfold tvS; simp
theorem tvS_3 (f : sF) (i : Int) : tvS f i 3 = f (40 + i) := by unfold tvS; simp
theorem tvS_4 (f : sF) (i : Int) : tvS f i 4 = cod (f i) := by unfold tvS; simp
theorem tvS_5 (f : sF) (i : Int) : tvS f i 5 = f (50 + i) := by unfold tvS; simp
theorem tvS_6 (f : sF) (i : Int) : tvS f i 6 = f (60 + i) := by unfold tvS; simp
noncomputable def tvC (f : sF) (i j : Int) : Int := if j = 0 then f (70 + i) else f (110 + i)
theorem tvC_0 (f : sF) (i : Int) : tvC f i 0 = f (70 + i) := by unfold tvC; simp
theorem tvC_1 (f : sF) (i : Int) : tvC f i 1 = f (110 + i) := by unfold tvC; simp
noncomputable def tvD (f : sF) (i j : Int) : Int := if j = 0 then f (150 + i) else f (154 + i)
theorem tvD_0 (f : sF) (i : Int) : tvD f i 0 = f (150 + i) := by unfold tvD; simp
theorem tvD_1 (f : sF) (i : Int) : tvD f i 1 = f (154 + i) := by unfold tvD; simp
noncomputable def tvT (f : sF) (i j : Int) : Int := if j = 0 then f (164 + i) else if j = 1 then dat (f (224 + i)) else if j = 2 then f (284 + i) else if j = 3 then f (344 + i) else takn (f (404 + i))
theorem tvT_0 (f : sF) (i : Int) : tvT f i 0 = f (164 + i) := by unfold tvT; simp
theorem tvT_1 (f : sF) (i : Int) : tvT f i 1 = dat (f (224 + i)) := by unfold tvT; simp
theorem tvT_2 (f : sF) (i : Int) : tvT f i 2 = f (284 + i) := by unfold tvT; simp
theorem tvT_3 (f : sF) (i : Int) : tvT f i 3 = f (344 + i) := by unfold tvT; simp
theorem tvT_4 (f : sF) (i : Int) : tvT f i 4 = takn (f (404 + i)) := by unfold tvT; simp
noncomputable def tvW (f : sF) (i j : Int) : Int := if j = 0 then f (464 + i) else if j = 1 then dat (f (484 + i)) else if j = 2 then f (504 + i) else f (524 + i)
theorem tvW_0 (f : sF) (i : Int) : tvW f i 0 = f (464 + i) := by unfold tvW; simp
theorem tvW_1 (f : sF) (i : Int) : tvW f i 1 = dat (f (484 + i)) := by unfold tvW; simp
theorem tvW_2 (f : sF) (i : Int) : tvW f i 2 = f (504 + i) := by unfold tvW; simp
theorem tvW_3 (f : sF) (i : Int) : tvW f i 3 = f (524 + i) := by unfold tvW; simp
noncomputable def tvO (f : sF) (i j : Int) : Int := if j = 0 then f (544 + i) else if j = 1 then f (552 + i) else f (560 + i)
theorem tvO_0 (f : sF) (i : Int) : tvO f i 0 = f (544 + i) := by unfold tvO; simp
theorem tvO_1 (f : sF) (i : Int) : tvO f i 1 = f (552 + i) := by unfold tvO; simp
theorem tvO_2 (f : sF) (i : Int) : tvO f i 2 = f (560 + i) := by unfold tvO; simp
noncomputable def tvP (f : sF) (i j : Int) : Int := bI (tb (f (158 + i)) j)
theorem tvS_v (f : sF) (i j : Int) (h : 0 ≤ j ∧ j ≤ 3) : tvS f i j = f (10 + 10 * j + i) := by
  rcases (show j = 0 ∨ j = 1 ∨ j = 2 ∨ j = 3 by omega) with rfl | rfl | rfl | rfl
  · exact (tvS_0 f i).trans (congrArg f (by omega))
  · exact (tvS_1 f i).trans (congrArg f (by omega))
  · exact (tvS_2 f i).trans (congrArg f (by omega))
  · exact (tvS_3 f i).trans (congrArg f (by omega))
/-- a Table at a: c columns, r rows, room for n numbers, and what stands in it -/
def stK (G : sG) (M : sM) (a : Nat) (c r : Int) (n : Nat) (tv : Int → Int → Int) : Prop := M a = some (sObj 6 [.int (sI c), .ref (a + 1), .int (sI r)]) ∧ ∃ g : Int → Int, M (a + 1) = some (sArr G n g) ∧ ∀ i j : Int, 0 ≤ i → i < r → 0 ≤ j → j < c → g (i * c + j) = tv i j
theorem stK.fr {G : sG} {M M1 : sM} {a n : Nat} {c r : Int} {tv : Int → Int → Int} (h : stK G M a c r n tv) (hf : ∀ x : Nat, a ≤ x → x < a + 2 → M1 x = M x) : stK G M1 a c r n tv := by
  obtain ⟨h1, g, h2, h3⟩ := h
  exact ⟨(hf a (by omega) (by omega)).trans h1, g, (hf (a + 1) (by omega) (by omega)).trans h2, h3⟩
theorem stK.c {G : sG} {M : sM} {a n : Nat} {c r : Int} {tv tv' : Int → Int → Int} (h : stK G M a c r n tv) (hc : ∀ i j : Int, 0 ≤ i → i < r → 0 ≤ j → j < c → tv i j = tv' i j) : stK G M a c r n tv' := by
  obtain ⟨h1, g, h2, h3⟩ := h
  exact ⟨h1, g, h2, fun i j a b c d => (h3 i j a b c d).trans (hc i j a b c d)⟩
def stC (G : sG) (M : sM) (a : Nat) (f : sF) : Prop := M a = some (sObj 4 [.ref (a + 1), .ref (a + 3), .ref (a + 5), .ref (a + 7), .ref (a + 9), .ref (a + 11), .ref (a + 13), .int (sI (f 571))]) ∧ stK G M (a + 1) 7 (f 568) 70 (tvS f) ∧ stK G M (a + 3) 2 (f 569) 80 (tvC f) ∧ stK G M (a + 5) 2 (4) 8 (tvD f) ∧ stK G M (a + 7) 6 (6) 36 (tvP f) ∧ stK G M (a + 9) 5 (f 570) 300 (tvT f) ∧ stK G M (a + 11) 4 (f 572) 80 (tvW f) ∧ stK G M (a + 13) 3 (f 573) 24 (tvO f)
theorem stC.fr {G : sG} {M M1 : sM} {a : Nat} {f : sF} (h : stC G M a f) (hf : ∀ x : Nat, a ≤ x → x < a + 15 → M1 x = M x) : stC G M1 a f := by
  obtain ⟨h0, h1, h2, h3, h4, h5, h6, h7⟩ := h
  exact ⟨(hf a (by omega) (by omega)).trans h0, h1.fr fun x q r => hf x (by omega) (by omega), h2.fr fun x q r => hf x (by omega) (by omega), h3.fr fun x q r => hf x (by omega) (by omega), h4.fr fun x q r => hf x (by omega) (by omega), h5.fr fun x q r => hf x (by omega) (by omega), h6.fr fun x q r => hf x (by omega) (by omega), h7.fr fun x q r => hf x (by omega) (by omega)⟩
/-- a row of zeros; a row gone; a place written -/
def tvZ (tv : Int → Int → Int) (r : Int) : Int → Int → Int := fun i j => if i = r then 0 else tv i j
def tvR (tv : Int → Int → Int) (k : Int) : Int → Int → Int := fun i j => if i < k then tv i j else tv (i + 1) j
def tvU (tv : Int → Int → Int) (k q v : Int) : Int → Int → Int := fun i j => if i = k ∧ j = q then v else tv i j
theorem mul_le_r {i r c : Int} (h : i ≤ r) (hc : 0 ≤ c) : i * c ≤ r * c := Int.mul_le_mul_of_nonneg_right h hc
theorem mul_n {i c : Int} (h : 0 ≤ i) (hc : 0 ≤ c) : 0 ≤ i * c := Int.mul_nonneg h hc
/-- places in rows -/
theorem pl_r {i j r c : Int} {n : Nat} (hi : 0 ≤ i ∧ i < r) (hj : 0 ≤ j ∧ j < c) (hn : r * c ≤ n) : 0 ≤ i * c + j ∧ i * c + j < n := by
  have h1 := mul_n hi.1 (show 0 ≤ c by omega)
  have h2 : (i + 1) * c ≤ r * c := mul_le_r (by omega) (by omega)
  rw [mulS] at h2
  omega
theorem pl_inj {i j k q c : Int} (hj : 0 ≤ j ∧ j < c) (hq : 0 ≤ q ∧ q < c) (h : i * c + j = k * c + q) : i = k ∧ j = q := by
  rcases Int.lt_trichotomy i k with h1 | h1 | h1
  · have h2 : (i + 1) * c ≤ k * c := mul_le_r (by omega) (by omega)
    rw [mulS] at h2
    omega
  · subst h1
    omega
  · have h2 : (k + 1) * c ≤ i * c := mul_le_r (by omega) (by omega)
    rw [mulS] at h2
    omega

set_option maxHeartbeats 1000000 in
theorem kTg (l_ : Launch) (G : sG) (b_ : Nat) (M : sM) (N : Nat) (t : Nat) (c r : Int) (n : Nat) (tv : Int → Int → Int) (i j v : Int) (ht : stK G M t c r n tv) (hr : 1 ≤ c ∧ c ≤ 100 ∧ 0 ≤ r ∧ r ≤ 100000 ∧ r * c ≤ n ∧ (n : Int) ≤ 100000) (hi : 0 ≤ i ∧ i < r ∧ 0 ≤ j ∧ j < c) (he : tv i j = v) : cP l_ yX8_get wsX8_get rmX8_get G b_ M N [.ref t, .int (sI i), .int (sI j)] v := by
  obtain ⟨h1, g, h2, h3⟩ := ht
  have h4 := pl_r (n := n) ⟨hi.1, hi.2.1⟩ ⟨hi.2.2.1, hi.2.2.2⟩ hr.2.2.2.2.1
  have h5 := kX8_get l_ G b_ M N t c r n g i j h1 h2 (by omega)
  rw [h3 i j hi.1 hi.2.1 hi.2.2.1 hi.2.2.2, he] at h5
  exact h5

set_option maxHeartbeats 1000000 in
theorem kTs (l_ : Launch) (G : sG) (b_ : Nat) (M : sM) (N : Nat) (t : Nat) (c r : Int) (n : Nat) (tv : Int → Int → Int) (ht : stK G M t c r n tv) : cP l_ yX8_size wsX8_size rmX8_size G b_ M N [.ref t] r := by
  obtain ⟨h1, g, h2, h3⟩ := ht
  exact kX8_size l_ G b_ M N t c r n g h1 h2

set_option maxHeartbeats 1000000 in
theorem kTh (l_ : Launch) (G : sG) (b_ : Nat) (M : sM) (N : Nat) (t : Nat) (c r : Int) (n : Nat) (tv : Int → Int → Int) (i : Int) (ht : stK G M t c r n tv) (hr : sR i ∧ sR r) : cP l_ yX8_has wsX8_has rmX8_has G b_ M N [.ref t, .int (sI i)] (bI (0 ≤ i ∧ i < r)) := by
  obtain ⟨h1, g, h2, h3⟩ := ht
  exact kX8_has l_ G b_ M N t c r n g i h1 h2 hr

set_option maxHeartbeats 1000000 in
theorem kTf (l_ : Launch) (G : sG) (b_ : Nat) (M : sM) (N : Nat) (t : Nat) (c r : Int) (n : Nat) (tv : Int → Int → Int) (B : Prop) (ht : stK G M t c r n tv) (hr : 1 ≤ c ∧ c ≤ 100 ∧ 0 ≤ r ∧ r ≤ 100000 ∧ r * c ≤ n ∧ (n : Int) ≤ 100000) (hB : (n : Int) < r * c + c ↔ B) : cP l_ yX8_isFull wsX8_isFull rmX8_isFull G b_ M N [.ref t] (bI B) := by
  obtain ⟨h1, g, h2, h3⟩ := ht
  have h9 := mul_n hr.2.2.1 (show 0 ≤ c by omega)
  have h5 := kX8_isFull l_ G b_ M N t c r n g h1 h2 (by rw [mulS]; omega)
  rw [bI_c (show (n : Int) < (r + 1) * c ↔ B by rw [mulS]; exact hB)] at h5
  exact h5

set_option maxHeartbeats 1000000 in
theorem kTw (l_ : Launch) (G : sG) (b_ : Nat) (M : sM) (N : Nat) (t : Nat) (c r : Int) (n : Nat) (tv : Int → Int → Int) (i j v : Int) (ht : stK G M t c r n tv) (hr : 1 ≤ c ∧ c ≤ 100 ∧ 0 ≤ r ∧ r ≤ 100000 ∧ r * c ≤ n ∧ (n : Int) ≤ 100000) (hi : 0 ≤ i ∧ i < r ∧ 0 ≤ j ∧ j < c) : cV l_ yX8_set wsX8_set rmX8_set G b_ M N [.ref t, .int (sI i), .int (sI j), .int (sI v)] (fun M1 N1 => N1 = N ∧ stK G M1 t c r n (tvU tv i j v) ∧ (∀ x : Nat, ¬ (x = t + 1) → M1 x = M x)) := by
  obtain ⟨h1, g, h2, h3⟩ := ht
  have h4 := pl_r (n := n) ⟨hi.1, hi.2.1⟩ ⟨hi.2.2.1, hi.2.2.2⟩ hr.2.2.2.2.1
  refine cV.mono (kX8_set l_ G b_ M N t c r n g i j v h1 h2 (by omega)) ?_
  rintro M1 N1 ⟨e1, e2, e3⟩
  refine ⟨e1, ⟨(e3 t (by omega)).trans h1, _, e2, fun i' j' q1 q2 q3 q4 => ?_⟩, fun x q => e3 x q⟩
  unfold iup tvU
  by_cases hq : i' * c + j' = i * c + j
  · have h6 := pl_inj ⟨q3, q4⟩ ⟨hi.2.2.1, hi.2.2.2⟩ hq
    rw [if_pos hq, if_pos h6]
  · rw [if_neg hq, if_neg (fun h7 => hq (by rw [h7.1, h7.2])), h3 i' j' q1 q2 q3 q4]

set_option maxHeartbeats 1000000 in
theorem kTa (l_ : Launch) (G : sG) (b_ : Nat) (M : sM) (N : Nat) (t : Nat) (c r : Int) (n : Nat) (tv : Int → Int → Int) (ht : stK G M t c r n tv) (hr : 1 ≤ c ∧ c ≤ 100 ∧ 0 ≤ r ∧ r ≤ 100000 ∧ r * c + c ≤ n ∧ (n : Int) ≤ 100000) : cI l_ yX8_add wsX8_add rmX8_add G b_ M N [.ref t] (fun z_ M1 N1 => z_ = r ∧ N1 = N ∧ stK G M1 t c (r + 1) n (tvZ tv r) ∧ (∀ x : Nat, ¬ (x = t) → ¬ (x = t + 1) → M1 x = M x)) := by
  obtain ⟨h1, g, h2, h3⟩ := ht
  have h9 := mul_n hr.2.2.1 (show 0 ≤ c by omega)
  refine cI.mono (kX8_add l_ G b_ M N t c r n g h1 h2 (by rw [mulS]; omega)) ?_
  rintro z M1 N1 ⟨e0, e1, e2, e3, e4⟩
  refine ⟨e0, e1, ⟨e2, _, e3, fun i' j' q1 q2 q3 q4 => ?_⟩, e4⟩
  unfold izer tvZ
  by_cases hq : i' = r
  · subst hq
    rw [if_pos (by omega), if_pos rfl]
  · have h5 : (i' + 1) * c ≤ r * c := mul_le_r (by omega) (by omega)
    rw [mulS] at h5
    rw [if_neg (by omega), if_neg hq, h3 i' j' q1 (by omega) q3 q4]

set_option maxHeartbeats 1000000 in
theorem kTr (l_ : Launch) (G : sG) (b_ : Nat) (M : sM) (N : Nat) (t : Nat) (c r : Int) (n : Nat) (tv : Int → Int → Int) (i : Int) (ht : stK G M t c r n tv) (hr : 1 ≤ c ∧ c ≤ 100 ∧ 0 ≤ r ∧ r ≤ 100000 ∧ r * c ≤ n ∧ (n : Int) ≤ 100000) (hi : 0 ≤ i ∧ i < r) : cV l_ yX8_remove wsX8_remove rmX8_remove G b_ M N [.ref t, .int (sI i)] (fun M1 N1 => N1 = N ∧ stK G M1 t c (r - 1) n (tvR tv i) ∧ (∀ x : Nat, ¬ (x = t) → ¬ (x = t + 1) → M1 x = M x)) := by
  obtain ⟨h1, g, h2, h3⟩ := ht
  have h9 := mul_n hi.1 (show 0 ≤ c by omega)
  have h8 := mul_n (show 0 ≤ r - i - 1 by omega) (show 0 ≤ c by omega)
  have h7 : (r - i - 1) * c = r * c - i * c - c := by rw [Int.sub_mul, Int.sub_mul, Int.one_mul]
  refine cV.mono (kX8_remove l_ G b_ M N t c r n g i h1 h2 (by omega)) ?_
  rintro M1 N1 ⟨e1, e2, e3, e4⟩
  refine ⟨e1, ⟨e2, _, e3, fun i' j' q1 q2 q3 q4 => ?_⟩, e4⟩
  have h5 := mul_n q1 (show 0 ≤ c by omega)
  unfold icpy tvR
  by_cases hq : i' < i
  · have h6 : (i' + 1) * c ≤ i * c := mul_le_r (by omega) (by omega)
    rw [mulS] at h6
    rw [if_neg (by omega), if_pos hq, h3 i' j' q1 (by omega) q3 q4]
  · have h6 : i * c ≤ i' * c := mul_le_r (by omega) (by omega)
    have h10 : (i' + 1 + 1) * c ≤ r * c := mul_le_r (by omega) (by omega)
    rw [mulS, mulS] at h10
    rw [if_pos (by omega), if_neg hq, ← h3 (i' + 1) j' (by omega) (by omega) q3 q4, mulS]
    congr 1
    omega

set_option maxHeartbeats 1000000 in
theorem kTc (l_ : Launch) (G : sG) (b_ : Nat) (M : sM) (N : Nat) (t : Nat) (c r : Int) (n : Nat) (tv : Int → Int → Int) (ht : stK G M t c r n tv) : cV l_ yX8_clear wsX8_clear rmX8_clear G b_ M N [.ref t] (fun M1 N1 => N1 = N ∧ stK G M1 t c 0 n tv ∧ (∀ x : Nat, ¬ (x = t) → M1 x = M x)) := by
  obtain ⟨h1, g, h2, h3⟩ := ht
  refine cV.mono (kX8_clear l_ G b_ M N t c r n g h1 h2) ?_
  rintro M1 N1 ⟨e1, e2, e3⟩
  exact ⟨e1, ⟨e2, g, (e3 (t + 1) (by omega)).trans h2, fun i' j' q1 q2 => by omega⟩, e3⟩

set_option maxHeartbeats 1000000 in
theorem kTk (l_ : Launch) (G : sG) (b_ : Nat) (M : sM) (N : Nat) (t : Nat) (c r : Int) (n : Nat) (tv : Int → Int → Int) (u : Nat) (r1 : Int) (tv1 : Int → Int → Int) (ht : stK G M t c r n tv) (hu : stK G M u c r1 n tv1) (hne : u + 1 < t ∨ t + 1 < u) (hr : 1 ≤ c ∧ c ≤ 100 ∧ 0 ≤ r1 ∧ r1 ≤ 100000 ∧ r1 * c ≤ n ∧ (n : Int) ≤ 100000) : cV l_ yX8_copyFrom wsX8_copyFrom rmX8_copyFrom G b_ M N [.ref t, .ref u] (fun M1 N1 => N1 = N ∧ stK G M1 t c r1 n tv1 ∧ (∀ x : Nat, ¬ (x = t) → ¬ (x = t + 1) → M1 x = M x)) := by
  obtain ⟨h1, g, h2, h3⟩ := ht
  obtain ⟨u1, g1, u2, u3⟩ := hu
  have h9 := mul_n hr.2.2.1 (show 0 ≤ c by omega)
  refine cV.mono (kX8_copyFrom l_ G b_ M N t c r n g u r1 g1 h1 h2 u1 u2 hne (by omega)) ?_
  rintro M1 N1 ⟨e1, e2, e3, e4⟩
  refine ⟨e1, ⟨e2, _, e3, fun i' j' q1 q2 q3 q4 => ?_⟩, e4⟩
  have h4 := pl_r (n := (r1 * c).toNat) ⟨q1, q2⟩ ⟨q3, q4⟩ (by omega)
  unfold icpy
  rw [if_pos (by omega), ← u3 i' j' q1 q2 q3 q4]
  congr 1
  omega
