theorem tvS_c {f f9 : sF} (h : ∀ q, 0 ≤ q → q < 70 → f9 q = f q) (i j : Int) (hi : 0 ≤ i ∧ i < 10) : tvS f i j = tvS f9 i j := by
  unfold tvS
  rw [h (i) (by omega) (by omega), h (10 + i) (by omega) (by omega), h (20 + i) (by omega) (by omega), h (30 + i) (by omega) (by omega), h (40 + i) (by omega) (by omega), h (50 + i) (by omega) (by omega), h (60 + i) (by omega) (by omega)]
theorem tvC_c {f f9 : sF} (h : ∀ q, 70 ≤ q → q < 150 → f9 q = f q) (i j : Int) (hi : 0 ≤ i ∧ i < 40) : tvC f i j = tvC f9 i j := by
  unfold tvC
  rw [h (70 + i) (by omega) (by omega), h (110 + i) (by omega) (by omega)]
theorem tvD_c {f f9 : sF} (h : ∀ q, 150 ≤ q → q < 158 → f9 q = f q) (i j : Int) (hi : 0 ≤ i ∧ i < 4) : tvD f i j = tvD f9 i j := by
  unfold tvD
  rw [h (150 + i) (by omega) (by omega), h (154 + i) (by omega) (by omega)]
theorem tvP_c {f f9 : sF} (h : ∀ q, 158 ≤ q → q < 164 → f9 q = f q) (i j : Int) (hi : 0 ≤ i ∧ i < 6) : tvP f i j = tvP f9 i j := by
  unfold tvP
  rw [h (158 + i) (by omega) (by omega)]
theorem tvT_c {f f9 : sF} (h : ∀ q, 164 ≤ q → q < 464 → f9 q = f q) (i j : Int) (hi : 0 ≤ i ∧ i < 60) : tvT f i j = tvT f9 i j := by
  unfold tvT
  rw [h (164 + i) (by omega) (by omega), h (224 + i) (by omega) (by omega), h (284 + i) (by omega) (by omega), h (344 + i) (by omega) (by omega), h (404 + i) (by omega) (by omega)]
theorem tvW_c {f f9 : sF} (h : ∀ q, 464 ≤ q → q < 544 → f9 q = f q) (i j : Int) (hi : 0 ≤ i ∧ i < 20) : tvW f i j = tvW f9 i j := by
  unfold tvW
  rw [h (464 + i) (by omega) (by omega), h (484 + i) (by omega) (by omega), h (504 + i) (by omega) (by omega), h (524 + i) (by omega) (by omega)]
theorem tvO_c {f f9 : sF} (h : ∀ q, 544 ≤ q → q < 568 → f9 q = f q) (i j : Int) (hi : 0 ≤ i ∧ i < 8) : tvO f i j = tvO f9 i j := by
  unfold tvO
  rw [h (544 + i) (by omega) (by omega), h (552 + i) (by omega) (by omega), h (560 + i) (by omega) (by omega)]
theorem stC_u0 {G : sG} {M : sM} {a : Nat} {f f9 : sF} (hn : okN f) (h0 : M a = some (sObj 4 [.ref (a + 1), .ref (a + 3), .ref (a + 5), .ref (a + 7), .ref (a + 9), .ref (a + 11), .ref (a + 13), .int (sI (f 571))])) (h1 : stK G M (a + 1) 7 (f9 568) 70 (tvS f9)) (h2 : stK G M (a + 3) 2 (f 569) 80 (tvC f)) (h3 : stK G M (a + 5) 2 (4) 8 (tvD f)) (h4 : stK G M (a + 7) 6 (6) 36 (tvP f)) (h5 : stK G M (a + 9) 5 (f 570) 300 (tvT f)) (h6 : stK G M (a + 11) 4 (f 572) 80 (tvW f)) (h7 : stK G M (a + 13) 3 (f 573) 24 (tvO f)) (he : ∀ q, 0 ≤ q → q < 574 → ¬ (0 ≤ q ∧ q < 70) → q ≠ 568 → f9 q = f q) : stC G M a f9 :=
  ⟨by rw [he 571 (by omega) (by omega) (by omega) (by omega)]; exact h0, h1, (by rw [he 569 (by omega) (by omega) (by omega) (by omega)]; exact h2.c (fun i j q1 q2 q3 q4 => tvC_c (fun q w1 w2 => he q (by omega) (by omega) (by omega) (by omega)) i j (by omega))), h3.c (fun i j q1 q2 q3 q4 => tvD_c (fun q w1 w2 => he q (by omega) (by omega) (by omega) (by omega)) i j (by omega)), h4.c (fun i j q1 q2 q3 q4 => tvP_c (fun q w1 w2 => he q (by omega) (by omega) (by omega) (by omega)) i j (by omega)), (by rw [he 570 (by omega) (by omega) (by omega) (by omega)]; exact h5.c (fun i j q1 q2 q3 q4 => tvT_c (fun q w1 w2 => he q (by omega) (by omega) (by omega) (by omega)) i j (by omega))), (by rw [he 572 (by omega) (by omega) (by omega) (by omega)]; exact h6.c (fun i j q1 q2 q3 q4 => tvW_c (fun q w1 w2 => he q (by omega) (by omega) (by omega) (by omega)) i j (by omega))), (by rw [he 573 (by omega) (by omega) (by omega) (by omega)]; exact h7.c (fun i j q1 q2 q3 q4 => tvO_c (fun q w1 w2 => he q (by omega) (by omega) (by omega) (by omega)) i j (by omega)))⟩
theorem stC_u1 {G : sG} {M : sM} {a : Nat} {f f9 : sF} (hn : okN f) (h0 : M a = some (sObj 4 [.ref (a + 1), .ref (a + 3), .ref (a + 5), .ref (a + 7), .ref (a + 9), .ref (a + 11), .ref (a + 13), .int (sI (f 571))])) (h1 : stK G M (a + 1) 7 (f 568) 70 (tvS f)) (h2 : stK G M (a + 3) 2 (f9 569) 80 (tvC f9)) (h3 : stK G M (a + 5) 2 (4) 8 (tvD f)) (h4 : stK G M (a + 7) 6 (6) 36 (tvP f)) (h5 : stK G M (a + 9) 5 (f 570) 300 (tvT f)) (h6 : stK G M (a + 11) 4 (f 572) 80 (tvW f)) (h7 : stK G M (a + 13) 3 (f 573) 24 (tvO f)) (he : ∀ q, 0 ≤ q → q < 574 → ¬ (70 ≤ q ∧ q < 150) → q ≠ 569 → f9 q = f q) : stC G M a f9 :=
  ⟨by rw [he 571 (by omega) (by omega) (by omega) (by omega)]; exact h0, (by rw [he 568 (by omega) (by omega) (by omega) (by omega)]; exact h1.c (fun i j q1 q2 q3 q4 => tvS_c (fun q w1 w2 => he q (by omega) (by omega) (by omega) (by omega)) i j (by omega))), h2, h3.c (fun i j q1 q2 q3 q4 => tvD_c (fun q w1 w2 => he q (by omega) (by omega) (by omega) (by omega)) i j (by omega)), h4.c (fun i j q1 q2 q3 q4 => tvP_c (fun q w1 w2 => he q (by omega) (by omega) (by omega) (by omega)) i j (by omega)), (by rw [he 570 (by omega) (by omega) (by omega) (by omega)]; exact h5.c (fun i j q1 q2 q3 q4 => tvT_c (fun q w1 w2 => he q (by omega) (by omega) (by omega) (by omega)) i j (by omega))), (by rw [he 572 (by omega) (by omega) (by omega) (by omega)]; exact h6.c (fun i j q1 q2 q3 q4 => tvW_c (fun q w1 w2 => he q (by omega) (by omega) (by omega) (by omega)) i j (by omega))), (by rw [he 573 (by omega) (by omega) (by omega) (by omega)]; exact h7.c (fun i j q1 q2 q3 q4 => tvO_c (fun q w1 w2 => he q (by omega) (by omega) (by omega) (by omega)) i j (by omega)))⟩
theorem stC_u2 {G : sG} {M : sM} {a : Nat} {f f9 : sF} (hn : okN f) (h0 : M a = some (sObj 4 [.ref (a + 1), .ref (a + 3), .ref (a + 5), .ref (a + 7), .ref (a + 9), .ref (a + 11), .ref (a + 13), .int (sI (f 571))])) (h1 : stK G M (a + 1) 7 (f 568) 70 (tvS f)) (h2 : stK G M (a + 3) 2 (f 569) 80 (tvC f)) (h3 : stK G M (a + 5) 2 (4) 8 (tvD f9)) (h4 : stK G M (a + 7) 6 (6) 36 (tvP f)) (h5 : stK G M (a + 9) 5 (f 570) 300 (tvT f)) (h6 : stK G M (a + 11) 4 (f 572) 80 (tvW f)) (h7 : stK G M (a + 13) 3 (f 573) 24 (tvO f)) (he : ∀ q, 0 ≤ q → q < 574 → ¬ (150 ≤ q ∧ q < 158) → q ≠ -1 → f9 q = f q) : stC G M a f9 :=
  ⟨by rw [he 571 (by omega) (by omega) (by omega) (by omega)]; exact h0, (by rw [he 568 (by omega) (by omega) (by omega) (by omega)]; exact h1.c (fun i j q1 q2 q3 q4 => tvS_c (fun q w1 w2 => he q (by omega) (by omega) (by omega) (by omega)) i j (by omega))), (by rw [he 569 (by omega) (by omega) (by omega) (by omega)]; exact h2.c (fun i j q1 q2 q3 q4 => tvC_c (fun q w1 w2 => he q (by omega) (by omega) (by omega) (by omega)) i j (by omega))), h3, h4.c (fun i j q1 q2 q3 q4 => tvP_c (fun q w1 w2 => he q (by omega) (by omega) (by omega) (by omega)) i j (by omega)), (by rw [he 570 (by omega) (by omega) (by omega) (by omega)]; exact h5.c (fun i j q1 q2 q3 q4 => tvT_c (fun q w1 w2 => he q (by omega) (by omega) (by omega) (by omega)) i j (by omega))), (by rw [he 572 (by omega) (by omega) (by omega) (by omega)]; exact h6.c (fun i j q1 q2 q3 q4 => tvW_c (fun q w1 w2 => he q (by omega) (by omega) (by omega) (by omega)) i j (by omega))), (by rw [he 573 (by omega) (by omega) (by omega) (by omega)]; exact h7.c (fun i j q1 q2 q3 q4 => tvO_c (fun q w1 w2 => he q (by omega) (by omega) (by omega) (by omega)) i j (by omega)))⟩
theorem stC_u3 {G : sG} {M : sM} {a : Nat} {f f9 : sF} (hn : okN f) (h0 : M a = some (sObj 4 [.ref (a + 1), .ref (a + 3), .ref (a + 5), .ref (a + 7), .ref (a + 9), .ref (a + 11), .ref (a + 13), .int (sI (f 571))])) (h1 : stK G M (a + 1) 7 (f 568) 70 (tvS f)) (h2 : stK G M (a + 3) 2 (f 569) 80 (tvC f)) (h3 : stK G M (a + 5) 2 (4) 8 (tvD f)) (h4 : stK G M (a + 7) 6 (6) 36 (tvP f9)) (h5 : stK G M (a + 9) 5 (f 570) 300 (tvT f)) (h6 : stK G M (a + 11) 4 (f 572) 80 (tvW f)) (h7 : stK G M (a + 13) 3 (f 573) 24 (tvO f)) (he : ∀ q, 0 ≤ q → q < 574 → ¬ (158 ≤ q ∧ q < 164) → q ≠ -1 → f9 q = f q) : stC G M a f9 :=
  ⟨by rw [he 571 (by omega) (by omega) (by omega) (by omega)]; exact h0, (by rw [he 568 (by omega) (by omega) (by omega) (by omega)]; exact h1.c (fun i j q1 q2 q3 q4 => tvS_c (fun q w1 w2 => he q (by omega) (by omega) (by omega) (by omega)) i j (by omega))), (by rw [he 569 (by omega) (by omega) (by omega) (by omega)]; exact h2.c (fun i j q1 q2 q3 q4 => tvC_c (fun q w1 w2 => he q (by omega) (by omega) (by omega) (by omega)) i j (by omega))), h3.c (fun i j q1 q2 q3 q4 => tvD_c (fun q w1 w2 => he q (by omega) (by omega) (by omega) (by omega)) i j (by omega)), h4, (by rw [he 570 (by omega) (by omega) (by omega) (by omega)]; exact h5.c (fun i j q1 q2 q3 q4 => tvT_c (fun q w1 w2 => he q (by omega) (by omega) (by omega) (by omega)) i j (by omega))), (by rw [he 572 (by omega) (by omega) (by omega) (by omega)]; exact h6.c (fun i j q1 q2 q3 q4 => tvW_c (fun q w1 w2 => he q (by omega) (by omega) (by omega) (by omega)) i j (by omega))), (by rw [he 573 (by omega) (by omega) (by omega) (by omega)]; exact h7.c (fun i j q1 q2 q3 q4 => tvO_c (fun q w1 w2 => he q (by omega) (by omega) (by omega) (by omega)) i j (by omega)))⟩
theorem stC_u4 {G : sG} {M : sM} {a : Nat} {f f9 : sF} (hn : okN f) (h0 : M a = some (sObj 4 [.ref (a + 1), .ref (a + 3), .ref (a + 5), .ref (a + 7), .ref (a + 9), .ref (a + 11), .ref (a + 13), .int (sI (f 571))])) (h1 : stK G M (a + 1) 7 (f 568) 70 (tvS f)) (h2 : stK G M (a + 3) 2 (f 569) 80 (tvC f)) (h3 : stK G M (a + 5) 2 (4) 8 (tvD f)) (h4 : stK G M (a + 7) 6 (6) 36 (tvP f)) (h5 : stK G M (a + 9) 5 (f9 570) 300 (tvT f9)) (h6 : stK G M (a + 11) 4 (f 572) 80 (tvW f)) (h7 : stK G M (a + 13) 3 (f 573) 24 (tvO f)) (he : ∀ q, 0 ≤ q → q < 574 → ¬ (164 ≤ q ∧ q < 464) → q ≠ 570 → f9 q = f q) : stC G M a f9 :=
  ⟨by rw [he 571 (by omega) (by omega) (by omega) (by omega)]; exact h0, (by rw [he 568 (by omega) (by omega) (by omega) (by omega)]; exact h1.c (fun i j q1 q2 q3 q4 => tvS_c (fun q w1 w2 => he q (by omega) (by omega) (by omega) (by omega)) i j (by omega))), (by rw [he 569 (by omega) (by omega) (by omega) (by omega)]; exact h2.c (fun i j q1 q2 q3 q4 => tvC_c (fun q w1 w2 => he q (by omega) (by omega) (by omega) (by omega)) i j (by omega))), h3.c (fun i j q1 q2 q3 q4 => tvD_c (fun q w1 w2 => he q (by omega) (by omega) (by omega) (by omega)) i j (by omega)), h4.c (fun i j q1 q2 q3 q4 => tvP_c (fun q w1 w2 => he q (by omega) (by omega) (by omega) (by omega)) i j (by omega)), h5, (by rw [he 572 (by omega) (by omega) (by omega) (by omega)]; exact h6.c (fun i j q1 q2 q3 q4 => tvW_c (fun q w1 w2 => he q (by omega) (by omega) (by omega) (by omega)) i j (by omega))), (by rw [he 573 (by omega) (by omega) (by omega) (by omega)]; exact h7.c (fun i j q1 q2 q3 q4 => tvO_c (fun q w1 w2 => he q (by omega) (by omega) (by omega) (by omega)) i j (by omega)))⟩
theorem stC_u5 {G : sG} {M : sM} {a : Nat} {f f9 : sF} (hn : okN f) (h0 : M a = some (sObj 4 [.ref (a + 1), .ref (a + 3), .ref (a + 5), .ref (a + 7), .ref (a + 9), .ref (a + 11), .ref (a + 13), .int (sI (f 571))])) (h1 : stK G M (a + 1) 7 (f 568) 70 (tvS f)) (h2 : stK G M (a + 3) 2 (f 569) 80 (tvC f)) (h3 : stK G M (a + 5) 2 (4) 8 (tvD f)) (h4 : stK G M (a + 7) 6 (6) 36 (tvP f)) (h5 : stK G M (a + 9) 5 (f 570) 300 (tvT f)) (h6 : stK G M (a + 11) 4 (f9 572) 80 (tvW f9)) (h7 : stK G M (a + 13) 3 (f 573) 24 (tvO f)) (he : ∀ q, 0 ≤ q → q < 574 → ¬ (464 ≤ q ∧ q < 544) → q ≠ 572 → f9 q = f q) : stC G M a f9 :=
  ⟨by rw [he 571 (by omega) (by omega) (by omega) (by omega)]; exact h0, (by rw [he 568 (by omega) (by omega) (by omega) (by omega)]; exact h1.c (fun i j q1 q2 q3 q4 => tvS_c (fun q w1 w2 => he q (by omega) (by omega) (by omega) (by omega)) i j (by omega))), (by rw [he 569 (by omega) (by omega) (by omega) (by omega)]; exact h2.c (fun i j q1 q2 q3 q4 => tvC_c (fun q w1 w2 => he q (by omega) (by omega) (by omega) (by omega)) i j (by omega))), h3.c (fun i j q1 q2 q3 q4 => tvD_c (fun q w1 w2 => he q (by omega) (by omega) (by omega) (by omega)) i j (by omega)), h4.c (fun i j q1 q2 q3 q4 => tvP_c (fun q w1 w2 => he q (by omega) (by omega) (by omega) (by omega)) i j (by omega)), (by rw [he 570 (by omega) (by omega) (by omega) (by omega)]; exact h5.c (fun i j q1 q2 q3 q4 => tvT_c (fun q w1 w2 => he q (by omega) (by omega) (by omega) (by omega)) i j (by omega))), h6, (by rw [he 573 (by omega) (by omega) (by omega) (by omega)]; exact h7.c (fun i j q1 q2 q3 q4 => tvO_c (fun q w1 w2 => he q (by omega) (by omega) (by omega) (by omega)) i j (by omega)))⟩
theorem stC_u6 {G : sG} {M : sM} {a : Nat} {f f9 : sF} (hn : okN f) (h0 : M a = some (sObj 4 [.ref (a + 1), .ref (a + 3), .ref (a + 5), .ref (a + 7), .ref (a + 9), .ref (a + 11), .ref (a + 13), .int (sI (f 571))])) (h1 : stK G M (a + 1) 7 (f 568) 70 (tvS f)) (h2 : stK G M (a + 3) 2 (f 569) 80 (tvC f)) (h3 : stK G M (a + 5) 2 (4) 8 (tvD f)) (h4 : stK G M (a + 7) 6 (6) 36 (tvP f)) (h5 : stK G M (a + 9) 5 (f 570) 300 (tvT f)) (h6 : stK G M (a + 11) 4 (f 572) 80 (tvW f)) (h7 : stK G M (a + 13) 3 (f9 573) 24 (tvO f9)) (he : ∀ q, 0 ≤ q → q < 574 → ¬ (544 ≤ q ∧ q < 568) → q ≠ 573 → f9 q = f q) : stC G M a f9 :=
  ⟨by rw [he 571 (by omega) (by omega) (by omega) (by omega)]; exact h0, (by rw [he 568 (by omega) (by omega) (by omega) (by omega)]; exact h1.c (fun i j q1 q2 q3 q4 => tvS_c (fun q w1 w2 => he q (by omega) (by omega) (by omega) (by omega)) i j (by omega))), (by rw [he 569 (by omega) (by omega) (by omega) (by omega)]; exact h2.c (fun i j q1 q2 q3 q4 => tvC_c (fun q w1 w2 => he q (by omega) (by omega) (by omega) (by omega)) i j (by omega))), h3.c (fun i j q1 q2 q3 q4 => tvD_c (fun q w1 w2 => he q (by omega) (by omega) (by omega) (by omega)) i j (by omega)), h4.c (fun i j q1 q2 q3 q4 => tvP_c (fun q w1 w2 => he q (by omega) (by omega) (by omega) (by omega)) i j (by omega)), (by rw [he 570 (by omega) (by omega) (by omega) (by omega)]; exact h5.c (fun i j q1 q2 q3 q4 => tvT_c (fun q w1 w2 => he q (by omega) (by omega) (by omega) (by omega)) i j (by omega))), (by rw [he 572 (by omega) (by omega) (by omega) (by omega)]; exact h6.c (fun i j q1 q2 q3 q4 => tvW_c (fun q w1 w2 => he q (by omega) (by omega) (by omega) (by omega)) i j (by omega))), h7⟩
theorem stC_u9 {G : sG} {M : sM} {a : Nat} {f f9 : sF} (hn : okN f) (h0 : M a = some (sObj 4 [.ref (a + 1), .ref (a + 3), .ref (a + 5), .ref (a + 7), .ref (a + 9), .ref (a + 11), .ref (a + 13), .int (sI (f9 571))])) (h1 : stK G M (a + 1) 7 (f 568) 70 (tvS f)) (h2 : stK G M (a + 3) 2 (f 569) 80 (tvC f)) (h3 : stK G M (a + 5) 2 (4) 8 (tvD f)) (h4 : stK G M (a + 7) 6 (6) 36 (tvP f)) (h5 : stK G M (a + 9) 5 (f9 570) 300 (tvT f9)) (h6 : stK G M (a + 11) 4 (f 572) 80 (tvW f)) (h7 : stK G M (a + 13) 3 (f 573) 24 (tvO f)) (he : ∀ q, 0 ≤ q → q < 574 → ¬ (164 ≤ q ∧ q < 464) → q ≠ 570 → q ≠ 571 → f9 q = f q) : stC G M a f9 :=
  ⟨h0, (by rw [he 568 (by omega) (by omega) (by omega) (by omega) (by omega)]; exact h1.c (fun i j q1 q2 q3 q4 => tvS_c (fun q w1 w2 => he q (by omega) (by omega) (by omega) (by omega) (by omega)) i j (by omega))), (by rw [he 569 (by omega) (by omega) (by omega) (by omega) (by omega)]; exact h2.c (fun i j q1 q2 q3 q4 => tvC_c (fun q w1 w2 => he q (by omega) (by omega) (by omega) (by omega) (by omega)) i j (by omega))), h3.c (fun i j q1 q2 q3 q4 => tvD_c (fun q w1 w2 => he q (by omega) (by omega) (by omega) (by omega) (by omega)) i j (by omega)), h4.c (fun i j q1 q2 q3 q4 => tvP_c (fun q w1 w2 => he q (by omega) (by omega) (by omega) (by omega) (by omega)) i j (by omega)), h5, (by rw [he 572 (by omega) (by omega) (by omega) (by omega) (by omega)]; exact h6.c (fun i j q1 q2 q3 q4 => tvW_c (fun q w1 w2 => he q (by omega) (by omega) (by omega) (by omega) (by omega)) i j (by omega))), (by rw [he 573 (by omega) (by omega) (by omega) (by omega) (by omega)]; exact h7.c (fun i j q1 q2 q3 q4 => tvO_c (fun q w1 w2 => he q (by omega) (by omega) (by omega) (by omega) (by omega)) i j (by omega)))⟩
theorem stC_cg {G : sG} {M : sM} {a : Nat} {f f9 : sF} (hn : okN f) (h : stC G M a f) (he : ∀ q, 0 ≤ q → q < 574 → f9 q = f q) : stC G M a f9 := by
  obtain ⟨h0, h1, h2, h3, h4, h5, h6, h7⟩ := h
  refine stC_u0 hn h0 ?_ h2 h3 h4 h5 h6 h7 (fun q a b _ _ => he q a b)
  rw [he 568 (by omega) (by omega)]
  exact h1.c (fun i j q1 q2 q3 q4 => tvS_c (fun q w1 w2 => he q (by omega) (by omega)) i j (by omega))
/-- a stone comes: the numbers behind it -/
theorem comF_o {f : sF} {c k z w v q : Int} (hs : 0 ≤ f 568 ∧ f 568 ≤ 9) (h : q ≠ 568 ∧ q ≠ f 568 ∧ q ≠ 10 + f 568 ∧ q ≠ 20 + f 568 ∧ q ≠ 30 + f 568 ∧ q ≠ 40 + f 568 ∧ q ≠ 50 + f 568 ∧ q ≠ 60 + f 568) : comF f c k z w v q = f q := by
  unfold comF iup
  (repeat (first | rw [if_pos (by omega)] | rw [if_neg (by omega)]))
theorem comF_s {f : sF} {c k z w v : Int} (hs : 0 ≤ f 568 ∧ f 568 ≤ 9) : comF f c k z w v (f 568) = c ∧ comF f c k z w v (10 + f 568) = k ∧ comF f c k z w v (20 + f 568) = z ∧ comF f c k z w v (30 + f 568) = w ∧ comF f c k z w v (40 + f 568) = v ∧ comF f c k z w v (50 + f 568) = -1 ∧ comF f c k z w v (60 + f 568) = 5000 ∧ comF f c k z w v 568 = f 568 + 1 := by
  unfold comF iup
  refine ⟨?_, ?_, ?_, ?_, ?_, ?_, ?_, ?_⟩ <;> (repeat (first | rw [if_pos (by omega)] | rw [if_neg (by omega)]))
theorem comF_t {f : sF} {c k z w v : Int} (hs : 0 ≤ f 568 ∧ f 568 ≤ 9) (i j : Int) (hi : 0 ≤ i ∧ i < f 568 + 1) (hj : 0 ≤ j ∧ j < 7) : tvU (tvU (tvU (tvU (tvU (tvU (tvU (tvZ (tvS f) (f 568)) (f 568) 4 (cod c)) (f 568) 0 k) (f 568) 1 z) (f 568) 2 w) (f 568) 3 v) (f 568) 5 (-1)) (f 568) 6 5000 i j = tvS (comF f c k z w v) i j := by
  by_cases h : i = f 568
  · subst h
    obtain ⟨e0, e1, e2, e3, e4, e5, e6, -⟩ := comF_s (f := f) (c := c) (k := k) (z := z) (w := w) (v := v) hs
    unfold tvU
    rcases (show j = 0 ∨ j = 1 ∨ j = 2 ∨ j = 3 ∨ j = 4 ∨ j = 5 ∨ j = 6 by omega) with rfl | rfl | rfl | rfl | rfl | rfl | rfl
    · rw [tvS_0, e1]; simp
    · rw [tvS_1, e2]; simp
    · rw [tvS_2, e3]; simp
    · rw [tvS_3, e4]; simp
    · rw [tvS_4, e0]; simp
    · rw [tvS_5, e5]; simp
    · rw [tvS_6, e6]; simp
  · unfold tvU tvZ
    rw [if_neg (fun q => h q.1), if_neg (fun q => h q.1), if_neg (fun q => h q.1), if_neg (fun q => h q.1), if_neg (fun q => h q.1), if_neg (fun q => h q.1), if_neg (fun q => h q.1), if_neg h]
    unfold tvS
    rw [comF_o (q := i) hs (by omega), comF_o (q := 50 + i) hs (by omega), comF_o (q := 60 + i) hs (by omega), comF_o (q := 10 + i) hs (by omega), comF_o (q := 20 + i) hs (by omega), comF_o (q := 30 + i) hs (by omega), comF_o (q := 40 + i) hs (by omega)]
/-- kinds that are parted, as sets -/
noncomputable def prB (B : Prop) (x k : Int) : Int := pif B (ior x (ishl 1 k)) (iand x (ixor (ishl 1 k) (-1)))
noncomputable def prF (f : sF) (B : Prop) (p q : Int) : sF := iup (iup f (158 + p) (prB B (f (158 + p)) q)) (158 + q) (prB B (iup f (158 + p) (prB B (f (158 + p)) q) (158 + q)) p)
theorem clr_fin : ∀ x : Fin 64, ∀ k : Fin 6, iand (x : Nat) (ixor (ishl 1 (k : Nat)) (-1)) = (((x : Nat) &&& (63 - 2 ^ (k : Nat)) : Nat) : Int) := by decide +kernel
theorem tb_fin : ∀ x : Fin 64, ∀ k : Fin 6, ∀ j : Fin 6, ((x : Nat) &&& (63 - 2 ^ (k : Nat))).testBit (j : Nat) = ((x : Nat).testBit (j : Nat) && decide (j ≠ k)) := by decide +kernel
theorem and_fin : ∀ x : Fin 64, ∀ k : Fin 6, ((x : Nat) &&& (63 - 2 ^ (k : Nat))) < 64 ∧ ((x : Nat) ||| 2 ^ (k : Nat)) < 64 := by decide +kernel
theorem prB_r {B : Prop} {x k : Int} (hx : 0 ≤ x ∧ x ≤ 63) (hk : 0 ≤ k ∧ k < 6) : 0 ≤ prB B x k ∧ prB B x k ≤ 63 := by
  have h1 := and_fin ⟨x.toNat, by omega⟩ ⟨k.toNat, by omega⟩
  have h2 := clr_fin ⟨x.toNat, by omega⟩ ⟨k.toNat, by omega⟩
  have h3 := two_pow_30 (k := k.toNat) (by omega)
  have ex : ((x.toNat : Nat) : Int) = x := by omega
  have ek : ((k.toNat : Nat) : Int) = k := by omega
  simp only [ex, ek] at h1 h2
  unfold prB
  rcases pif_cases B (ior x (ishl 1 k)) (iand x (ixor (ishl 1 k) (-1))) with ⟨-, e⟩ | ⟨-, e⟩
  · rw [e, ishl_1 (by omega)]
    generalize 2 ^ k.toNat = P at h1 h3 ⊢
    rw [ior_n (by omega) (by omega), Int.toNat_natCast]; omega
  · rw [e, h2]; omega
theorem prB_t {B : Prop} {x k j : Int} (hx : 0 ≤ x ∧ x ≤ 63) (hk : 0 ≤ k ∧ k < 6) (hj : 0 ≤ j ∧ j < 6) : tb (prB B x k) j ↔ (if j = k then B else tb x j) := by
  have h2 := clr_fin ⟨x.toNat, by omega⟩ ⟨k.toNat, by omega⟩
  have h4 := tb_fin ⟨x.toNat, by omega⟩ ⟨k.toNat, by omega⟩ ⟨j.toNat, by omega⟩
  have h3 := two_pow_30 (k := k.toNat) (by omega)
  have ex : ((x.toNat : Nat) : Int) = x := by omega
  have ek : ((k.toNat : Nat) : Int) = k := by omega
  simp only [ex, ek] at h2 h4
  unfold prB
  rcases pif_cases B (ior x (ishl 1 k)) (iand x (ixor (ishl 1 k) (-1))) with ⟨p, e⟩ | ⟨p, e⟩
  · rw [e, tb_or (by omega) (by rw [ishl_1 (by omega)]; generalize 2 ^ k.toNat = P at h3 ⊢; omega), tb_one (by omega) hj.1]
    split
    · exact ⟨fun _ => p, fun _ => Or.inr ‹_›⟩
    · exact ⟨fun h => h.elim id (fun h => absurd h ‹_›), Or.inl⟩
  · rw [e, h2]
    unfold tb
    rw [Int.toNat_natCast, h4, Bool.and_eq_true, decide_eq_true_eq]
    split
    · rename_i hjk
      refine ⟨fun h => absurd (Fin.ext (by show j.toNat = k.toNat; rw [hjk])) h.2, fun h => absurd h p⟩
    · rename_i hjk
      refine ⟨fun h => h.1, fun h => ⟨h, fun q => hjk ?_⟩⟩
      have : j.toNat = k.toNat := congrArg Fin.val q
      omega
theorem prF_v {f : sF} (h : ∀ i, 0 ≤ i → i < 6 → okP f i) {B : Prop} {p q i : Int} (hp : 0 ≤ p ∧ p < 6) (hq : 0 ≤ q ∧ q < 6) (hi : 0 ≤ i ∧ i < 6) : (0 ≤ prF f B p q (158 + i) ∧ prF f B p q (158 + i) ≤ 63) ∧ ∀ j, 0 ≤ j → j < 6 → (tb (prF f B p q (158 + i)) j ↔ (if (i = p ∧ j = q) ∨ (i = q ∧ j = p) then B else tb (f (158 + i)) j)) := by
  have hi0 := h i hi.1 hi.2
  have hp0 := h p hp.1 hp.2
  have hq0 := h q hq.1 hq.2
  have r1 := prB_r (B := B) hp0 hq
  unfold prF iup
  by_cases e1 : i = q
  · subst e1
    rw [if_pos rfl]
    by_cases e2 : i = p
    · subst e2
      rw [if_pos rfl]
      refine ⟨prB_r r1 hp, fun j a b => ?_⟩
      rw [prB_t r1 hp ⟨a, b⟩, prB_t hp0 hq ⟨a, b⟩]
      by_cases e3 : j = i
      · rw [if_pos e3, if_pos (Or.inl ⟨rfl, e3⟩)]
      · rw [if_neg e3, if_neg e3, if_neg (by omega)]
    · rw [if_neg (by omega)]
      refine ⟨prB_r hq0 hp, fun j a b => ?_⟩
      rw [prB_t hq0 hp ⟨a, b⟩]
      by_cases e3 : j = p
      · rw [if_pos e3, if_pos (Or.inr ⟨rfl, e3⟩)]
      · rw [if_neg e3, if_neg (by omega)]
  · rw [if_neg (by omega)]
    by_cases e2 : i = p
    · subst e2
      rw [if_pos rfl]
      refine ⟨r1, fun j a b => ?_⟩
      rw [prB_t hp0 hq ⟨a, b⟩]
      by_cases e3 : j = q
      · rw [if_pos e3, if_pos (Or.inl ⟨rfl, e3⟩)]
      · rw [if_neg e3, if_neg (by omega)]
    · rw [if_neg (by omega)]
      refine ⟨hi0, fun j a b => ?_⟩
      rw [if_neg (by omega)]
theorem prF_o {f : sF} {B : Prop} {p q x : Int} (hp : 0 ≤ p ∧ p < 6) (hq : 0 ≤ q ∧ q < 6) (hx : ¬ (158 ≤ x ∧ x < 164)) : prF f B p q x = f x := by
  unfold prF iup
  rw [if_neg (by omega), if_neg (by omega)]
theorem prF_t {f : sF} (h : ∀ i, 0 ≤ i → i < 6 → okP f i) {B : Prop} {p q : Int} (hp : 0 ≤ p ∧ p < 6) (hq : 0 ≤ q ∧ q < 6) (i j : Int) (hi : 0 ≤ i ∧ i < 6) (hj : 0 ≤ j ∧ j < 6) : tvU (tvU (tvP f) p q (bI B)) q p (bI B) i j = tvP (prF f B p q) i j := by
  have h1 := (prF_v h (B := B) hp hq hi).2 j hj.1 hj.2
  unfold tvU
  show _ = bI (tb (prF f B p q (158 + i)) j)
  rw [bI_c h1]
  by_cases e1 : i = q ∧ j = p
  · rw [if_pos e1, if_pos (Or.inr e1)]
  · rw [if_neg e1]
    by_cases e2 : i = p ∧ j = q
    · rw [if_pos e2, if_pos (Or.inl e2)]
    · rw [if_neg e2, if_neg (fun q => q.elim e2 e1)]; rfl
theorem f0_t (i j : Int) (hi : 0 ≤ i) : (i < 4 → tvD f0 i j = if j = 0 then 20 else 200) ∧ (i < 6 → tvP f0 i j = 0) := by
  constructor
  · intro h
    unfold tvD
    by_cases hj : j = 0
    · rw [if_pos hj, if_pos hj]
      unfold f0
      rw [if_pos (by omega)]
    · rw [if_neg hj, if_neg hj]
      unfold f0
      rw [if_neg (by omega), if_pos (by omega)]
  · intro h
    unfold tvP
    rw [show f0 (158 + i) = 0 by unfold f0; rw [if_neg (by omega), if_neg (by omega)]]
    exact bI_f (tb_0 j)

set_option maxHeartbeats 1000000 in
theorem kTi (l_ : Launch) (G : sG) (b_ : Nat) (M : sM) (N : Nat) (t : Nat) (a c x0 x2 : Int) (n : Nat) (tv : Int → Int → Int) (ht0 : M t = some (sObj 6 [.int (sI x0), .null, .int (sI x2)])) (hN2 : N = t + 1) (hn : 0 ≤ a ∧ 1 ≤ c ∧ a * c = (n : Int) ∧ n ≤ 100000 ∧ a ≤ 100000 ∧ c ≤ 100000) (hr : n ≤ 400) : cV l_ yX8_init wsX8_init rmX8_init G b_ M N [.ref t, .int (sI a), .int (sI c)] (fun M1 N1 => N1 = N + 1 ∧ stK G M1 t c 0 n tv ∧ (∀ x : Nat, ¬ (x = t) → ¬ (x = N) → M1 x = M x)) := by
  subst hN2
  refine cV.mono (kX8_init l_ G b_ M (t + 1) t a c x0 x2 n ht0 hn (by omega) hr) ?_
  rintro M1 N1 ⟨e1, e2, e3, e4⟩
  exact ⟨e1, ⟨e2, _, e3, fun i j q1 q2 => by omega⟩, e4⟩

abbrev rmX6_addStone : Room := { frames := 3, cells := 0, slots := 0, locals := 84 }
set_option maxHeartbeats 4000000 in
set_option maxRecDepth 100000 in
theorem kX6_addStone (l_ : Launch) (G : sG) (b_ : Nat) (M : sM) (N : Nat) (a : Nat) (f : sF) (c k z w v : Int) (hst : stC G M a f) (hok : sOk f) (hs : 0 ≤ f 568 ∧ f 568 ≤ 9) : cI l_ yX6_addStone wsX6_addStone rmX6_addStone G b_ M N [.ref a, .int (sI (cod c)), .int (sI k), .int (sI z), .int (sI w), .int (sI v)] (fun z_ M1 N1 => z_ = f 568 ∧ N1 = N ∧ stC G M1 a (comF f c k z w v) ∧ (∀ x : Nat, ¬ (x = a + 1) → ¬ (x = a + 2) → M1 x = M x)) := by
  refine sE.ofI (cc := cX6_addStone) (nL := 7) (ret := (some .int)) (by decide) rfl (Nat.le_of_ble_eq_true rfl) ?_
  intro p_ e_ s_ m_ args_ below_ meth_ c_ ls Q hQ E hl
  have E : sE p_ l_ e_ rmX6_addStone s_ m_ args_ below_ meth_ c_ cX6_addStone 7 wsX6_addStone RX6 "addStone" (some .int) G b_ M N := E
  have S := E.1
  have hx_ := S.1
  have hb_ := S.2.1
  have hK := E.2.2.2.2.1
  have hV := E.2.2.2.2.2.2
  have hl : lv_has ls 7 [(0, .ref a), (1, .int (sI (cod c))), (2, .int (sI k)), (3, .int (sI z)), (4, .int (sI w)), (5, .int (sI v))] := hl
  have inX6_ : ∀ w ∈ wsX60, w ∈ wsX6_addStone := fun _ h => List.mem_cons_of_mem _ (List.mem_append_left _ (List.mem_append_right _ h))
  have inX8_ : ∀ w ∈ wsX80, w ∈ wsX6_addStone := fun _ h => List.mem_cons_of_mem _ (List.mem_append_right _ h)
  have kn0 := sOk_N hok
  have hx1 : M a = some (sObj 4 [.ref (a + 1), .ref (a + 3), .ref (a + 5), .ref (a + 7), .ref (a + 9), .ref (a + 11), .ref (a + 13), .int (sI (f 571))]) := (hst).1
  have hx2 : stK G M (a + 1) 7 (f 568) 70 (tvS f) := (hst).2.1
  have hx3 : stK G M (a + 3) 2 (f 569) 80 (tvC f) := (hst).2.2.1
  have hx4 : stK G M (a + 5) 2 4 8 (tvD f) := (hst).2.2.2.1
  have hx5 : stK G M (a + 7) 6 6 36 (tvP f) := (hst).2.2.2.2.1
  have hx6 : stK G M (a + 9) 5 (f 570) 300 (tvT f) := (hst).2.2.2.2.2.1
  have hx7 : stK G M (a + 11) 4 (f 572) 80 (tvW f) := (hst).2.2.2.2.2.2.1
  have hx8 : stK G M (a + 13) 3 (f 573) 24 (tvO f) := (hst).2.2.2.2.2.2.2
  refine lv_aload_n hx_ hb_ dX6_addStone_0 rfl (lv_at hl 0 rfl) ?_
  refine sc_get (ci := 4) (C := RX6) (T := TX6) (n := 8) S hK hV inX6_ hx1 rfl 0 (by decide) (S.2.2.2.2 _ (List.mem_of_getElem? (i := 1) rfl)) rfl rfl dX6_addStone_1 ?_
  refine sk_Vi E hV (As := []) (rest := []) (kTa l_ G b_ M N (a + 1) 7 (f 568) 70 (tvS f) hx2 (by omega)) (cwV 0 S.2.2.2.2 gX6_addStone_X8_add rfl rfl rfl (by decide +kernel) ⟨Nat.le_of_ble_eq_true rfl, Nat.le_of_ble_eq_true rfl⟩) (ci := 6) (hx2).1 rfl rfl rfl hl.1 (Nat.le_of_ble_eq_true rfl) dX6_addStone_4 (c1 := 0) (s1 := 0) ⟨⟨rfl, rfl⟩, by decide, by decide⟩ (fun z12 M9 N10 H locs hp11 hV => ?_)
  obtain ⟨ez13, hN14, hc15, hf16⟩ := hp11
  rw [hN14] at hV
  rw [ez13]
  refine lv_istore (lv' := [(6, .int (sI (f 568))), (0, .ref a), (1, .int (sI (cod c))), (2, .int (sI k)), (3, .int (sI z)), (4, .int (sI w)), (5, .int (sI v))]) hx_ hb_ dX6_addStone_7 hl (by decide) rfl (fun ls hl => ?_)
  refine lv_aload_n hx_ hb_ dX6_addStone_9 rfl (lv_at hl 1 rfl) ?_
  have hc17 : M9 a = some (sObj 4 [.ref (a + 1), .ref (a + 3), .ref (a + 5), .ref (a + 7), .ref (a + 9), .ref (a + 11), .ref (a + 13), .int (sI (f 571))]) := (hf16 a (by omega) (by omega)).trans hx1
  refine sc_get (ci := 4) (C := RX6) (T := TX6) (n := 8) S hK hV inX6_ hc17 rfl 0 (by decide) (S.2.2.2.2 _ (List.mem_of_getElem? (i := 1) rfl)) rfl rfl dX6_addStone_10 ?_
  refine lv_iload hx_ hb_ dX6_addStone_13 (lv_at hl 0 rfl) ?_
  refine si_const S dX6_addStone_15 ?_
  refine lv_iload_n hx_ hb_ dX6_addStone_16 rfl (lv_at hl 2 rfl) ?_
  refine sk_Vv E hV (As := [.int (sI (f 568)), .int (sI 4), .int (sI (cod c))]) (rest := []) (kTw l_ G b_ M9 N (a + 1) 7 ((f 568) + 1) 70 (tvZ (tvS f) (f 568)) (f 568) 4 (cod c) hc15 (by omega) (by omega)) (cwV 3 S.2.2.2.2 gX6_addStone_X8_set rfl rfl rfl (by decide +kernel) ⟨Nat.le_of_ble_eq_true rfl, Nat.le_of_ble_eq_true rfl⟩) (ci := 6) (hc15).1 rfl rfl rfl hl.1 (Nat.le_of_ble_eq_true rfl) dX6_addStone_17 (c1 := 0) (s1 := 0) ⟨⟨rfl, rfl⟩, by decide, by decide⟩ (fun M18 N19 H locs hp20 hV => ?_)
  obtain ⟨hN22, hc23, hf24⟩ := hp20
  rw [hN22] at hV
  refine lv_aload_n hx_ hb_ dX6_addStone_20 rfl (lv_at hl 1 rfl) ?_
  have hc25 : M18 a = some (sObj 4 [.ref (a + 1), .ref (a + 3), .ref (a + 5), .ref (a + 7), .ref (a + 9), .ref (a + 11), .ref (a + 13), .int (sI (f 571))]) := (hf24 a (by omega)).trans hc17
  refine sc_get (ci := 4) (C := RX6) (T := TX6) (n := 8) S hK hV inX6_ hc25 rfl 0 (by decide) (S.2.2.2.2 _ (List.mem_of_getElem? (i := 1) rfl)) rfl rfl dX6_addStone_21 ?_
  refine lv_iload hx_ hb_ dX6_addStone_24 (lv_at hl 0 rfl) ?_
  refine si_const S dX6_addStone_26 ?_
  refine lv_iload_n hx_ hb_ dX6_addStone_27 rfl (lv_at hl 3 rfl) ?_
  refine sk_Vv E hV (As := [.int (sI (f 568)), .int (sI 0), .int (sI k)]) (rest := []) (kTw l_ G b_ M18 N (a + 1) 7 ((f 568) + 1) 70 (tvU (tvZ (tvS f) (f 568)) (f 568) 4 (cod c)) (f 568) 0 k hc23 (by omega) (by omega)) (cwV 3 S.2.2.2.2 gX6_addStone_X8_set rfl rfl rfl (by decide +kernel) ⟨Nat.le_of_ble_eq_true rfl, Nat.le_of_ble_eq_true rfl⟩) (ci := 6) (hc23).1 rfl rfl rfl hl.1 (Nat.le_of_ble_eq_true rfl) dX6_addStone_28 (c1 := 0) (s1 := 0) ⟨⟨rfl, rfl⟩, by decide, by decide⟩ (fun M26 N27 H locs hp28 hV => ?_)
  obtain ⟨hN30, hc31, hf32⟩ := hp28
  rw [hN30] at hV
  refine lv_aload_n hx_ hb_ dX6_addStone_31 rfl (lv_at hl 1 rfl) ?_
  have hc33 : M26 a = some (sObj 4 [.ref (a + 1), .ref (a + 3), .ref (a + 5), .ref (a + 7), .ref (a + 9), .ref (a + 11), .ref (a + 13), .int (sI (f 571))]) := (hf32 a (by omega)).trans hc25
  refine sc_get (ci := 4) (C := RX6) (T := TX6) (n := 8) S hK hV inX6_ hc33 rfl 0 (by decide) (S.2.2.2.2 _ (List.mem_of_getElem? (i := 1) rfl)) rfl rfl dX6_addStone_32 ?_
  refine lv_iload hx_ hb_ dX6_addStone_35 (lv_at hl 0 rfl) ?_
  refine si_const S dX6_addStone_37 ?_
  refine lv_iload_n hx_ hb_ dX6_addStone_38 rfl (lv_at hl 4 rfl) ?_
  refine sk_Vv E hV (As := [.int (sI (f 568)), .int (sI 1), .int (sI z)]) (rest := []) (kTw l_ G b_ M26 N (a + 1) 7 ((f 568) + 1) 70 (tvU (tvU (tvZ (tvS f) (f 568)) (f 568) 4 (cod c)) (f 568) 0 k) (f 568) 1 z hc31 (by omega) (by omega)) (cwV 3 S.2.2.2.2 gX6_addStone_X8_set rfl rfl rfl (by decide +kernel) ⟨Nat.le_of_ble_eq_true rfl, Nat.le_of_ble_eq_true rfl⟩) (ci := 6) (hc31).1 rfl rfl rfl hl.1 (Nat.le_of_ble_eq_true rfl) dX6_addStone_39 (c1 := 0) (s1 := 0) ⟨⟨rfl, rfl⟩, by decide, by decide⟩ (fun M34 N35 H locs hp36 hV => ?_)
  obtain ⟨hN38, hc39, hf40⟩ := hp36
  rw [hN38] at hV
  refine lv_aload_n hx_ hb_ dX6_addStone_42 rfl (lv_at hl 1 rfl) ?_
  have hc41 : M34 a = some (sObj 4 [.ref (a + 1), .ref (a + 3), .ref (a + 5), .ref (a + 7), .ref (a + 9), .ref (a + 11), .ref (a + 13), .int (sI (f 571))]) := (hf40 a (by omega)).trans hc33
  refine sc_get (ci := 4) (C := RX6) (T := TX6) (n := 8) S hK hV inX6_ hc41 rfl 0 (by decide) (S.2.2.2.2 _ (List.mem_of_getElem? (i := 1) rfl)) rfl rfl dX6_addStone_43 ?_
  refine lv_iload hx_ hb_ dX6_addStone_46 (lv_at hl 0 rfl) ?_
  refine si_const S dX6_addStone_48 ?_
  refine lv_iload hx_ hb_ dX6_addStone_49 (lv_at hl 5 rfl) ?_
  refine sk_Vv E hV (As := [.int (sI (f 568)), .int (sI 2), .int (sI w)]) (rest := []) (kTw l_ G b_ M34 N (a + 1) 7 ((f 568) + 1) 70 (tvU (tvU (tvU (tvZ (tvS f) (f 568)) (f 568) 4 (cod c)) (f 568) 0 k) (f 568) 1 z) (f 568) 2 w hc39 (by omega) (by omega)) (cwV 3 S.2.2.2.2 gX6_addStone_X8_set rfl rfl rfl (by decide +kernel) ⟨Nat.le_of_ble_eq_true rfl, Nat.le_of_ble_eq_true rfl⟩) (ci := 6) (hc39).1 rfl rfl rfl hl.1 (Nat.le_of_ble_eq_true rfl) dX6_addStone_51 (c1 := 0) (s1 := 0) ⟨⟨rfl, rfl⟩, by decide, by decide⟩ (fun M42 N43 H locs hp44 hV => ?_)
  obtain ⟨hN46, hc47, hf48⟩ := hp44
  rw [hN46] at hV
  refine lv_aload_n hx_ hb_ dX6_addStone_54 rfl (lv_at hl 1 rfl) ?_
  have hc49 : M42 a = some (sObj 4 [.ref (a + 1), .ref (a + 3), .ref (a + 5), .ref (a + 7), .ref (a + 9), .ref (a + 11), .ref (a + 13), .int (sI (f 571))]) := (hf48 a (by omega)).trans hc41
  refine sc_get (ci := 4) (C := RX6) (T := TX6) (n := 8) S hK hV inX6_ hc49 rfl 0 (by decide) (S.2.2.2.2 _ (List.mem_of_getElem? (i := 1) rfl)) rfl rfl dX6_addStone_55 ?_
  refine lv_iload hx_ hb_ dX6_addStone_58 (lv_at hl 0 rfl) ?_
  refine si_const S dX6_addStone_60 ?_
  refine lv_iload hx_ hb_ dX6_addStone_61 (lv_at hl 6 rfl) ?_
  refine sk_Vv E hV (As := [.int (sI (f 568)), .int (sI 3), .int (sI v)]) (rest := []) (kTw l_ G b_ M42 N (a + 1) 7 ((f 568) + 1) 70 (tvU (tvU (tvU (tvU (tvZ (tvS f) (f 568)) (f 568) 4 (cod c)) (f 568) 0 k) (f 568) 1 z) (f 568) 2 w) (f 568) 3 v hc47 (by omega) (by omega)) (cwV 3 S.2.2.2.2 gX6_addStone_X8_set rfl rfl rfl (by decide +kernel) ⟨Nat.le_of_ble_eq_true rfl, Nat.le_of_ble_eq_true rfl⟩) (ci := 6) (hc47).1 rfl rfl rfl hl.1 (Nat.le_of_ble_eq_true rfl) dX6_addStone_63 (c1 := 0) (s1 := 0) ⟨⟨rfl, rfl⟩, by decide, by decide⟩ (fun M50 N51 H locs hp52 hV => ?_)
  obtain ⟨hN54, hc55, hf56⟩ := hp52
  rw [hN54] at hV
  refine lv_aload_n hx_ hb_ dX6_addStone_66 rfl (lv_at hl 1 rfl) ?_
  have hc57 : M50 a = some (sObj 4 [.ref (a + 1), .ref (a + 3), .ref (a + 5), .ref (a + 7), .ref (a + 9), .ref (a + 11), .ref (a + 13), .int (sI (f 571))]) := (hf56 a (by omega)).trans hc49
  refine sc_get (ci := 4) (C := RX6) (T := TX6) (n := 8) S hK hV inX6_ hc57 rfl 0 (by decide) (S.2.2.2.2 _ (List.mem_of_getElem? (i := 1) rfl)) rfl rfl dX6_addStone_67 ?_
  refine lv_iload hx_ hb_ dX6_addStone_70 (lv_at hl 0 rfl) ?_
  refine si_const S dX6_addStone_72 ?_
  refine si_const S dX6_addStone_73 ?_
  refine sk_Vv E hV (As := [.int (sI (f 568)), .int (sI 5), .int (sI (-1))]) (rest := []) (kTw l_ G b_ M50 N (a + 1) 7 ((f 568) + 1) 70 (tvU (tvU (tvU (tvU (tvU (tvZ (tvS f) (f 568)) (f 568) 4 (cod c)) (f 568) 0 k) (f 568) 1 z) (f 568) 2 w) (f 568) 3 v) (f 568) 5 (-1) hc55 (by omega) (by omega)) (cwV 3 S.2.2.2.2 gX6_addStone_X8_set rfl rfl rfl (by decide +kernel) ⟨Nat.le_of_ble_eq_true rfl, Nat.le_of_ble_eq_true rfl⟩) (ci := 6) (hc55).1 rfl rfl rfl hl.1 (Nat.le_of_ble_eq_true rfl) dX6_addStone_74 (c1 := 0) (s1 := 0) ⟨⟨rfl, rfl⟩, by decide, by decide⟩ (fun M58 N59 H locs hp60 hV => ?_)
  obtain ⟨hN62, hc63, hf64⟩ := hp60
  rw [hN62] at hV
  refine lv_aload_n hx_ hb_ dX6_addStone_77 rfl (lv_at hl 1 rfl) ?_
  have hc65 : M58 a = some (sObj 4 [.ref (a + 1), .ref (a + 3), .ref (a + 5), .ref (a + 7), .ref (a + 9), .ref (a + 11), .ref (a + 13), .int (sI (f 571))]) := (hf64 a (by omega)).trans hc57
  refine sc_get (ci := 4) (C := RX6) (T := TX6) (n := 8) S hK hV inX6_ hc65 rfl 0 (by decide) (S.2.2.2.2 _ (List.mem_of_getElem? (i := 1) rfl)) rfl rfl dX6_addStone_78 ?_
  refine lv_iload hx_ hb_ dX6_addStone_81 (lv_at hl 0 rfl) ?_
  refine si_bipush S dX6_addStone_83 (by decide) ?_
  refine si_sipush S dX6_addStone_85 (by decide) ?_
  refine sk_Vv E hV (As := [.int (sI (f 568)), .int (sI 6), .int (sI 5000)]) (rest := []) (kTw l_ G b_ M58 N (a + 1) 7 ((f 568) + 1) 70 (tvU (tvU (tvU (tvU (tvU (tvU (tvZ (tvS f) (f 568)) (f 568) 4 (cod c)) (f 568) 0 k) (f 568) 1 z) (f 568) 2 w) (f 568) 3 v) (f 568) 5 (-1)) (f 568) 6 5000 hc63 (by omega) (by omega)) (cwV 3 S.2.2.2.2 gX6_addStone_X8_set rfl rfl rfl (by decide +kernel) ⟨Nat.le_of_ble_eq_true rfl, Nat.le_of_ble_eq_true rfl⟩) (ci := 6) (hc63).1 rfl rfl rfl hl.1 (Nat.le_of_ble_eq_true rfl) dX6_addStone_88 (c1 := 0) (s1 := 0) ⟨⟨rfl, rfl⟩, by decide, by decide⟩ (fun M66 N67 H locs hp68 hV => ?_)
  obtain ⟨hN70, hc71, hf72⟩ := hp68
  rw [hN70] at hV
  refine lv_iload hx_ hb_ dX6_addStone_91 (lv_at hl 0 rfl) ?_
  have hc73 : stK G M66 (a + 3) 2 (f 569) 80 (tvC f) := hx3.fr (fun x q8 q9 => (((((((hf72 x (by omega)).trans (hf64 x (by omega))).trans (hf56 x (by omega))).trans (hf48 x (by omega))).trans (hf40 x (by omega))).trans (hf32 x (by omega))).trans (hf24 x (by omega))).trans (hf16 x (by omega) (by omega)))
  have hc74 : stK G M66 (a + 5) 2 4 8 (tvD f) := hx4.fr (fun x q8 q9 => (((((((hf72 x (by omega)).trans (hf64 x (by omega))).trans (hf56 x (by omega))).trans (hf48 x (by omega))).trans (hf40 x (by omega))).trans (hf32 x (by omega))).trans (hf24 x (by omega))).trans (hf16 x (by omega) (by omega)))
  have hc75 : stK G M66 (a + 7) 6 6 36 (tvP f) := hx5.fr (fun x q8 q9 => (((((((hf72 x (by omega)).trans (hf64 x (by omega))).trans (hf56 x (by omega))).trans (hf48 x (by omega))).trans (hf40 x (by omega))).trans (hf32 x (by omega))).trans (hf24 x (by omega))).trans (hf16 x (by omega) (by omega)))
  have hc76 : stK G M66 (a + 9) 5 (f 570) 300 (tvT f) := hx6.fr (fun x q8 q9 => (((((((hf72 x (by omega)).trans (hf64 x (by omega))).trans (hf56 x (by omega))).trans (hf48 x (by omega))).trans (hf40 x (by omega))).trans (hf32 x (by omega))).trans (hf24 x (by omega))).trans (hf16 x (by omega) (by omega)))
  have hc77 : stK G M66 (a + 11) 4 (f 572) 80 (tvW f) := hx7.fr (fun x q8 q9 => (((((((hf72 x (by omega)).trans (hf64 x (by omega))).trans (hf56 x (by omega))).trans (hf48 x (by omega))).trans (hf40 x (by omega))).trans (hf32 x (by omega))).trans (hf24 x (by omega))).trans (hf16 x (by omega) (by omega)))
  have hc78 : stK G M66 (a + 13) 3 (f 573) 24 (tvO f) := hx8.fr (fun x q8 q9 => (((((((hf72 x (by omega)).trans (hf64 x (by omega))).trans (hf56 x (by omega))).trans (hf48 x (by omega))).trans (hf40 x (by omega))).trans (hf32 x (by omega))).trans (hf24 x (by omega))).trans (hf16 x (by omega) (by omega)))
  have hc79 : M66 a = some (sObj 4 [.ref (a + 1), .ref (a + 3), .ref (a + 5), .ref (a + 7), .ref (a + 9), .ref (a + 11), .ref (a + 13), .int (sI (f 571))]) := (hf72 a (by omega)).trans hc65
  exact sr_i E hQ dX6_addStone_93 ⟨Nat.le_of_ble_eq_true rfl, Nat.le_of_ble_eq_true rfl⟩ hV (⟨by first | rfl | omega, rfl, stC_u0 kn0 hc79 (by rw [(comF_s (f := f) (c := c) (k := k) (z := z) (w := w) (v := v) hs).2.2.2.2.2.2.2]; exact hc71.c (fun i j q1 q2 q3 q4 => comF_t hs i j ⟨q1, q2⟩ ⟨q3, q4⟩)) hc73 hc74 hc75 hc76 hc77 hc78 (fun q w1 w2 w3 w4 => comF_o hs (by omega)), fun x q0 q1 => (((((((hf72 x (by omega)).trans (hf64 x (by omega))).trans (hf56 x (by omega))).trans (hf48 x (by omega))).trans (hf40 x (by omega))).trans (hf32 x (by omega))).trans (hf24 x (by omega))).trans (hf16 x (by omega) (by omega))⟩)

abbrev rmX6_setParted : Room := { frames := 2, cells := 0, slots := 0, locals := 63 }
set_option maxHeartbeats 4000000 in
set_option maxRecDepth 100000 in
theorem kX6_setParted (l_ : Launch) (G : sG) (b_ : Nat) (M : sM) (N : Nat) (a : Nat) (f : sF) (i j : Int) (B : Prop) (hst : stC G M a f) (hok : sOk f) (hi : 0 ≤ i ∧ i < 6 ∧ 0 ≤ j ∧ j < 6) : cV l_ yX6_setParted wsX6_setParted rmX6_setParted G b_ M N [.ref a, .int (sI i), .int (sI j), .int (sI (bI B))] (fun M1 N1 => N1 = N ∧ stC G M1 a (prF f B i j) ∧ (∀ x : Nat, ¬ (x = a + 8) → M1 x = M x)) := by
  refine sE.ofV (cc := cX6_setParted) (nL := 4) (ret := none) (by decide) rfl (Nat.le_of_ble_eq_true rfl) ?_
  intro p_ e_ s_ m_ args_ below_ meth_ c_ ls Q hQ E hl
  have E : sE p_ l_ e_ rmX6_setParted s_ m_ args_ below_ meth_ c_ cX6_setParted 4 wsX6_setParted RX6 "setParted" none G b_ M N := E
  have S := E.1
  have hx_ := S.1
  have hb_ := S.2.1
  have hK := E.2.2.2.2.1
  have hV := E.2.2.2.2.2.2
  have hl : lv_has ls 4 [(0, .ref a), (1, .int (sI i)), (2, .int (sI j)), (3, .int (sI (bI B)))] := hl
  have inX6_ : ∀ w ∈ wsX60, w ∈ wsX6_setParted := fun _ h => List.mem_cons_of_mem _ (List.mem_append_left _ (List.mem_append_right _ h))
  have inX8_ : ∀ w ∈ wsX80, w ∈ wsX6_setParted := fun _ h => List.mem_cons_of_mem _ (List.mem_append_right _ h)
  have kn0 := sOk_N hok
  have hpk := fun i h1 h2 => sOk_P hok i h1 h2
  have hx1 : M a = some (sObj 4 [.ref (a + 1), .ref (a + 3), .ref (a + 5), .ref (a + 7), .ref (a + 9), .ref (a + 11), .ref (a + 13), .int (sI (f 571))]) := (hst).1
  have hx2 : stK G M (a + 1) 7 (f 568) 70 (tvS f) := (hst).2.1
  have hx3 : stK G M (a + 3) 2 (f 569) 80 (tvC f) := (hst).2.2.1
  have hx4 : stK G M (a + 5) 2 4 8 (tvD f) := (hst).2.2.2.1
  have hx5 : stK G M (a + 7) 6 6 36 (tvP f) := (hst).2.2.2.2.1
  have hx6 : stK G M (a + 9) 5 (f 570) 300 (tvT f) := (hst).2.2.2.2.2.1
  have hx7 : stK G M (a + 11) 4 (f 572) 80 (tvW f) := (hst).2.2.2.2.2.2.1
  have hx8 : stK G M (a + 13) 3 (f 573) 24 (tvO f) := (hst).2.2.2.2.2.2.2
  refine lv_aload_n hx_ hb_ dX6_setParted_0 rfl (lv_at hl 0 rfl) ?_
  refine sc_get (ci := 4) (C := RX6) (T := TX6) (n := 8) S hK hV inX6_ hx1 rfl 3 (by decide) (S.2.2.2.2 _ (List.mem_of_getElem? (i := 1) rfl)) rfl rfl dX6_setParted_1 ?_
  refine lv_iload_n hx_ hb_ dX6_setParted_4 rfl (lv_at hl 1 rfl) ?_
  refine lv_iload_n hx_ hb_ dX6_setParted_5 rfl (lv_at hl 2 rfl) ?_
  refine lv_iload_n hx_ hb_ dX6_setParted_6 rfl (lv_at hl 3 rfl) ?_
  refine sq_eq (tgt := 14) S dX6_setParted_7 (by decide) (fun hB => ?_) (fun hB => ?_)
  · refine si_const S dX6_setParted_14 ?_
    rw [show (0 : Int) = bI B from (bI_f hB).symm]
    refine sk_Vv E hV (As := [.int (sI i), .int (sI j), .int (sI (bI B))]) (rest := []) (kTw l_ G b_ M N (a + 7) 6 6 36 (tvP f) i j (bI B) hx5 (by omega) (by omega)) (cwV 3 S.2.2.2.2 gX6_setParted_X8_set rfl rfl rfl (by decide +kernel) ⟨Nat.le_of_ble_eq_true rfl, Nat.le_of_ble_eq_true rfl⟩) (ci := 6) (hx5).1 rfl rfl rfl hl.1 (Nat.le_of_ble_eq_true rfl) dX6_setParted_15 (c1 := 0) (s1 := 0) ⟨⟨rfl, rfl⟩, by decide, by decide⟩ (fun M9 N10 H locs hp11 hV => ?_)
    obtain ⟨hN13, hc14, hf15⟩ := hp11
    rw [hN13] at hV
    refine lv_aload_n hx_ hb_ dX6_setParted_18 rfl (lv_at hl 0 rfl) ?_
    have hc16 : M9 a = some (sObj 4 [.ref (a + 1), .ref (a + 3), .ref (a + 5), .ref (a + 7), .ref (a + 9), .ref (a + 11), .ref (a + 13), .int (sI (f 571))]) := (hf15 a (by omega)).trans hx1
    refine sc_get (ci := 4) (C := RX6) (T := TX6) (n := 8) S hK hV inX6_ hc16 rfl 3 (by decide) (S.2.2.2.2 _ (List.mem_of_getElem? (i := 1) rfl)) rfl rfl dX6_setParted_19 ?_
    refine lv_iload_n hx_ hb_ dX6_setParted_22 rfl (lv_at hl 2 rfl) ?_
    refine lv_iload_n hx_ hb_ dX6_setParted_23 rfl (lv_at hl 1 rfl) ?_
    refine lv_iload_n hx_ hb_ dX6_setParted_24 rfl (lv_at hl 3 rfl) ?_
    refine sq_eq (tgt := 32) S dX6_setParted_25 (by decide) (fun _ => ?_) (fun c17 => absurd c17 (by exact hB))
    refine si_const S dX6_setParted_32 ?_
    rw [show (0 : Int) = bI B from (bI_f hB).symm]
    refine sk_Vv E hV (As := [.int (sI j), .int (sI i), .int (sI (bI B))]) (rest := []) (kTw l_ G b_ M9 N (a + 7) 6 6 36 (tvU (tvP f) i j (bI B)) j i (bI B) hc14 (by omega) (by omega)) (cwV 3 S.2.2.2.2 gX6_setParted_X8_set rfl rfl rfl (by decide +kernel) ⟨Nat.le_of_ble_eq_true rfl, Nat.le_of_ble_eq_true rfl⟩) (ci := 6) (hc14).1 rfl rfl rfl hl.1 (Nat.le_of_ble_eq_true rfl) dX6_setParted_33 (c1 := 0) (s1 := 0) ⟨⟨rfl, rfl⟩, by decide, by decide⟩ (fun M18 N19 H locs hp20 hV => ?_)
    obtain ⟨hN22, hc23, hf24⟩ := hp20
    rw [hN22] at hV
    have hc25 : stK G M18 (a + 1) 7 (f 568) 70 (tvS f) := hx2.fr (fun x q8 q9 => (hf24 x (by omega)).trans (hf15 x (by omega)))
    have hc26 : stK G M18 (a + 3) 2 (f 569) 80 (tvC f) := hx3.fr (fun x q8 q9 => (hf24 x (by omega)).trans (hf15 x (by omega)))
    have hc27 : stK G M18 (a + 5) 2 4 8 (tvD f) := hx4.fr (fun x q8 q9 => (hf24 x (by omega)).trans (hf15 x (by omega)))
    have hc28 : stK G M18 (a + 9) 5 (f 570) 300 (tvT f) := hx6.fr (fun x q8 q9 => (hf24 x (by omega)).trans (hf15 x (by omega)))
    have hc29 : stK G M18 (a + 11) 4 (f 572) 80 (tvW f) := hx7.fr (fun x q8 q9 => (hf24 x (by omega)).trans (hf15 x (by omega)))
    have hc30 : stK G M18 (a + 13) 3 (f 573) 24 (tvO f) := hx8.fr (fun x q8 q9 => (hf24 x (by omega)).trans (hf15 x (by omega)))
    have hc31 : M18 a = some (sObj 4 [.ref (a + 1), .ref (a + 3), .ref (a + 5), .ref (a + 7), .ref (a + 9), .ref (a + 11), .ref (a + 13), .int (sI (f 571))]) := (hf24 a (by omega)).trans hc16
    exact sr_v E hQ dX6_setParted_36 ⟨Nat.le_of_ble_eq_true rfl, Nat.le_of_ble_eq_true rfl⟩ hV (⟨rfl, stC_u3 kn0 hc31 hc25 hc26 hc27 (hc23.c (fun i2 j2 q1 q2 q3 q4 => prF_t hpk ⟨hi.1, hi.2.1⟩ ⟨hi.2.2.1, hi.2.2.2⟩ i2 j2 ⟨q1, q2⟩ ⟨q3, q4⟩)) hc28 hc29 hc30 (fun q w1 w2 w3 w4 => prF_o ⟨hi.1, hi.2.1⟩ ⟨hi.2.2.1, hi.2.2.2⟩ w3), fun x q0 => (hf24 x (by omega)).trans (hf15 x (by omega))⟩)
  · refine si_const S dX6_setParted_10 ?_
    refine lv_goto (tgt := 15) hx_ hb_ dX6_setParted_11 (by decide) ?_
    rw [show (1 : Int) = bI B from (bI_t hB).symm]
    refine sk_Vv E hV (As := [.int (sI i), .int (sI j), .int (sI (bI B))]) (rest := []) (kTw l_ G b_ M N (a + 7) 6 6 36 (tvP f) i j (bI B) hx5 (by omega) (by omega)) (cwV 3 S.2.2.2.2 gX6_setParted_X8_set rfl rfl rfl (by decide +kernel) ⟨Nat.le_of_ble_eq_true rfl, Nat.le_of_ble_eq_true rfl⟩) (ci := 6) (hx5).1 rfl rfl rfl hl.1 (Nat.le_of_ble_eq_true rfl) dX6_setParted_15 (c1 := 0) (s1 := 0) ⟨⟨rfl, rfl⟩, by decide, by decide⟩ (fun M32 N33 H locs hp34 hV => ?_)
    obtain ⟨hN36, hc37, hf38⟩ := hp34
    rw [hN36] at hV
    refine lv_aload_n hx_ hb_ dX6_setParted_18 rfl (lv_at hl 0 rfl) ?_
    have hc39 : M32 a = some (sObj 4 [.ref (a + 1), .ref (a + 3), .ref (a + 5), .ref (a + 7), .ref (a + 9), .ref (a + 11), .ref (a + 13), .int (sI (f 571))]) := (hf38 a (by omega)).trans hx1
    refine sc_get (ci := 4) (C := RX6) (T := TX6) (n := 8) S hK hV inX6_ hc39 rfl 3 (by decide) (S.2.2.2.2 _ (List.mem_of_getElem? (i := 1) rfl)) rfl rfl dX6_setParted_19 ?_
    refine lv_iload_n hx_ hb_ dX6_setParted_22 rfl (lv_at hl 2 rfl) ?_
    refine lv_iload_n hx_ hb_ dX6_setParted_23 rfl (lv_at hl 1 rfl) ?_
    refine lv_iload_n hx_ hb_ dX6_setParted_24 rfl (lv_at hl 3 rfl) ?_
    refine sq_eq (tgt := 32) S dX6_setParted_25 (by decide) (fun c40 => absurd c40 (by exact fun q => q hB)) (fun _ => ?_)
    refine si_const S dX6_setParted_28 ?_
    refine lv_goto (tgt := 33) hx_ hb_ dX6_setParted_29 (by decide) ?_
    rw [show (1 : Int) = bI B from (bI_t hB).symm]
    refine sk_Vv E hV (As := [.int (sI j), .int (sI i), .int (sI (bI B))]) (rest := []) (kTw l_ G b_ M32 N (a + 7) 6 6 36 (tvU (tvP f) i j (bI B)) j i (bI B) hc37 (by omega) (by omega)) (cwV 3 S.2.2.2.2 gX6_setParted_X8_set rfl rfl rfl (by decide +kernel) ⟨Nat.le_of_ble_eq_true rfl, Nat.le_of_ble_eq_true rfl⟩) (ci := 6) (hc37).1 rfl rfl rfl hl.1 (Nat.le_of_ble_eq_true rfl) dX6_setParted_33 (c1 := 0) (s1 := 0) ⟨⟨rfl, rfl⟩, by decide, by decide⟩ (fun M41 N42 H locs hp43 hV => ?_)
    obtain ⟨hN45, hc46, hf47⟩ := hp43
    rw [hN45] at hV
    have hc48 : stK G M41 (a + 1) 7 (f 568) 70 (tvS f) := hx2.fr (fun x q8 q9 => (hf47 x (by omega)).trans (hf38 x (by omega)))
    have hc49 : stK G M41 (a + 3) 2 (f 569) 80 (tvC f) := hx3.fr (fun x q8 q9 => (hf47 x (by omega)).trans (hf38 x (by omega)))
    have hc50 : stK G M41 (a + 5) 2 4 8 (tvD f) := hx4.fr (fun x q8 q9 => (hf47 x (by omega)).trans (hf38 x (by omega)))
    have hc51 : stK G M41 (a + 9) 5 (f 570) 300 (tvT f) := hx6.fr (fun x q8 q9 => (hf47 x (by omega)).trans (hf38 x (by omega)))
    have hc52 : stK G M41 (a + 11) 4 (f 572) 80 (tvW f) := hx7.fr (fun x q8 q9 => (hf47 x (by omega)).trans (hf38 x (by omega)))
    have hc53 : stK G M41 (a + 13) 3 (f 573) 24 (tvO f) := hx8.fr (fun x q8 q9 => (hf47 x (by omega)).trans (hf38 x (by omega)))
    have hc54 : M41 a = some (sObj 4 [.ref (a + 1), .ref (a + 3), .ref (a + 5), .ref (a + 7), .ref (a + 9), .ref (a + 11), .ref (a + 13), .int (sI (f 571))]) := (hf47 a (by omega)).trans hc39
    exact sr_v E hQ dX6_setParted_36 ⟨Nat.le_of_ble_eq_true rfl, Nat.le_of_ble_eq_true rfl⟩ hV (⟨rfl, stC_u3 kn0 hc54 hc48 hc49 hc50 (hc46.c (fun i2 j2 q1 q2 q3 q4 => prF_t hpk ⟨hi.1, hi.2.1⟩ ⟨hi.2.2.1, hi.2.2.2⟩ i2 j2 ⟨q1, q2⟩ ⟨q3, q4⟩)) hc51 hc52 hc53 (fun q w1 w2 w3 w4 => prF_o ⟨hi.1, hi.2.1⟩ ⟨hi.2.2.1, hi.2.2.2⟩ w3), fun x q0 => (hf47 x (by omega)).trans (hf38 x (by omega))⟩)
