/-! What calls change, told of the tables. -/
theorem scF_t {f : sF} {p q : Int} (h : 0 ≤ f 569 ∧ f 569 < 40) (i j : Int) (hi : 0 ≤ i ∧ i < f 569 + 1) (hj : 0 ≤ j ∧ j < 2) : tvU (tvU (tvZ (tvC f) (f 569)) (f 569) 0 p) (f 569) 1 q i j = tvC (scF f p q) i j := by
  unfold tvU tvZ tvC scF iup
  rcases (show j = 0 ∨ j = 1 by omega) with rfl | rfl <;> by_cases e9 : i = f 569 <;> (repeat (first | rw [if_pos (by omega)] | rw [if_neg (by omega)]))
theorem usF_t {f : sF} {a : Int} (h : 0 ≤ a ∧ a < f 569 ∧ f 569 ≤ 40) (i j : Int) (hi : 0 ≤ i ∧ i < f 569 - 1) (hj : 0 ≤ j ∧ j < 2) : tvR (tvC f) a i j = tvC (usF f a) i j := by
  unfold tvR tvC usF usK
  rcases (show j = 0 ∨ j = 1 by omega) with rfl | rfl <;> by_cases e9 : i < a <;> (repeat (first | rw [if_pos (by omega)] | rw [if_neg (by omega)]))
  · congr 1; omega
  · congr 1; omega
theorem sdF_t {f : sF} {d z w : Int} (h : 0 ≤ d ∧ d < 4) (i j : Int) (hi : 0 ≤ i ∧ i < 4) (hj : 0 ≤ j ∧ j < 2) : tvU (tvU (tvD f) d 0 z) d 1 w i j = tvD (sdF f d z w) i j := by
  unfold tvU tvD sdF iup
  rcases (show j = 0 ∨ j = 1 by omega) with rfl | rfl <;> by_cases e9 : i = d <;> (repeat (first | rw [if_pos (by omega)] | rw [if_neg (by omega)]))
theorem lyF_t {f : sF} {s d : Int} (h : 0 ≤ s ∧ s < f 568 ∧ f 568 ≤ 10) (i j : Int) (hi : 0 ≤ i ∧ i < f 568) (hj : 0 ≤ j ∧ j < 7) : tvU (tvS f) s 5 d i j = tvS (iup f (50 + s) d) i j := by
  unfold tvU tvS iup
  rcases (show j = 0 ∨ j = 1 ∨ j = 2 ∨ j = 3 ∨ j = 4 ∨ j = 5 ∨ j = 6 by omega) with rfl | rfl | rfl | rfl | rfl | rfl | rfl <;> by_cases e9 : i = s <;> (repeat (first | rw [if_pos (by omega)] | rw [if_neg (by omega)]))
theorem slF_t {f : sF} {s l : Int} (h : 0 ≤ s ∧ s < f 568 ∧ f 568 ≤ 10) (i j : Int) (hi : 0 ≤ i ∧ i < f 568) (hj : 0 ≤ j ∧ j < 7) : tvU (tvS f) s 6 l i j = tvS (slF f s l) i j := by
  unfold tvU tvS slF iup
  rcases (show j = 0 ∨ j = 1 ∨ j = 2 ∨ j = 3 ∨ j = 4 ∨ j = 5 ∨ j = 6 by omega) with rfl | rfl | rfl | rfl | rfl | rfl | rfl <;> by_cases e9 : i = s <;> (repeat (first | rw [if_pos (by omega)] | rw [if_neg (by omega)]))
theorem lyF_b {f : sF} {s d : Int} (i j : Int) : tvU (tvU (tvS f) s 5 d) s 5 (f (50 + s)) i j = tvS f i j := by
  unfold tvU
  by_cases e : i = s ∧ j = 5
  · rw [if_pos e, e.1, e.2, tvS_5]
  · rw [if_neg e, if_neg e]
theorem ofF_t {f : sF} {p g w : Int} (h : 0 ≤ f 573 ∧ f 573 < 8) (i j : Int) (hi : 0 ≤ i ∧ i < f 573 + 1) (hj : 0 ≤ j ∧ j < 3) : tvU (tvU (tvU (tvZ (tvO f) (f 573)) (f 573) 0 p) (f 573) 1 g) (f 573) 2 w i j = tvO (ofF f p g w) i j := by
  unfold tvU tvZ tvO ofF iup
  rcases (show j = 0 ∨ j = 1 ∨ j = 2 by omega) with rfl | rfl | rfl <;> by_cases e9 : i = f 573 <;> (repeat (first | rw [if_pos (by omega)] | rw [if_neg (by omega)]))
theorem shF_t {f : sF} {s x n l d : Int} (h : 0 ≤ f 572 ∧ f 572 < 20) (hd : dat x = d) (i j : Int) (hi : 0 ≤ i ∧ i < f 572 + 1) (hj : 0 ≤ j ∧ j < 4) : tvU (tvU (tvU (tvU (tvZ (tvW f) (f 572)) (f 572) 0 s) (f 572) 1 d) (f 572) 2 n) (f 572) 3 l i j = tvW (shF f s x n l) i j := by
  unfold tvU tvZ tvW shF iup
  rcases (show j = 0 ∨ j = 1 ∨ j = 2 ∨ j = 3 by omega) with rfl | rfl | rfl | rfl <;> by_cases e9 : i = f 572 <;> (repeat (first | rw [if_pos (by omega)] | rw [if_neg (by omega)])) <;> first | done | exact hd.symm
theorem tlF_t {f : sF} {s x h2 d : Int} (h : 0 ≤ f 570 ∧ f 570 < 60) (hd : dat x = d) (i j : Int) (hi : 0 ≤ i ∧ i < f 570 + 1) (hj : 0 ≤ j ∧ j < 5) : tvU (tvU (tvU (tvU (tvU (tvZ (tvT f) (f 570)) (f 570) 0 s) (f 570) 1 d) (f 570) 2 h2) (f 570) 3 (f 571 + 1)) (f 570) 4 (-1) i j = tvT (tlF f s x h2) i j := by
  unfold tvU tvZ tvT tlF iup
  rcases (show j = 0 ∨ j = 1 ∨ j = 2 ∨ j = 3 ∨ j = 4 by omega) with rfl | rfl | rfl | rfl | rfl <;> by_cases e9 : i = f 570 <;> (repeat (first | rw [if_pos (by omega)] | rw [if_neg (by omega)])) <;> first | done | exact hd.symm | (unfold takn; rw [if_pos rfl])
theorem tbF_t {f : sF} {a : Int} (h : 0 ≤ a ∧ a < f 570 ∧ f 570 ≤ 60) (hc : 0 ≤ f 571) (i j : Int) (hi : 0 ≤ i ∧ i < f 570) (hj : 0 ≤ j ∧ j < 5) : tvU (tvT f) a 4 (f 571 + 1) i j = tvT (tbF f a) i j := by
  unfold tvU tvT tbF iup
  rcases (show j = 0 ∨ j = 1 ∨ j = 2 ∨ j = 3 ∨ j = 4 by omega) with rfl | rfl | rfl | rfl | rfl <;> by_cases e9 : i = a <;> (repeat (first | rw [if_pos (by omega)] | rw [if_neg (by omega)])) <;> first | done | (unfold takn; rw [if_neg (by omega)])
theorem coF_t {f : sF} (i j : Int) (hi : 0 ≤ i ∧ i < 0) : tvO f i j = tvO (coF f) i j := by omega
noncomputable def laK (f : sF) (B : Prop) (k : Int) : sF := fun q => if 50 ≤ q ∧ q < 50 + k then laB f B (q - 50) else f q
theorem laK_0 (f : sF) (B : Prop) : laK f B 0 = f := by
  funext q
  unfold laK
  rw [if_neg (by omega)]
theorem laK_s (f : sF) (B : Prop) (k : Int) (hk : 0 ≤ k) : iup (laK f B k) (50 + k) (laB f B k) = laK f B (k + 1) := by
  funext q
  unfold iup laK
  by_cases e : q = 50 + k
  · rw [if_pos e, if_pos (by omega), e]
    congr 1
    omega
  · rw [if_neg e]
    by_cases e2 : 50 ≤ q ∧ q < 50 + k
    · rw [if_pos e2, if_pos (by omega)]
    · rw [if_neg e2, if_neg (by omega)]
theorem laK_o (f : sF) (B : Prop) (k q : Int) (h : q < 50 ∨ 50 + k ≤ q) : laK f B k q = f q := if_neg (by omega)
theorem laK_n (f : sF) (B : Prop) : laK f B (f 568) = laF f B := rfl
/-- the numbers keep to their ranges, piece by piece -/
theorem ok_mk {f g : sF} (h : sOk f) (hN : okN g) (e8 : g 568 = f 568) (e71 : f 571 ≤ g 571)
  (hS : (∀ q, 0 ≤ q → q < 70 → g q = f q) ∨ ∀ s, 0 ≤ s → s < f 568 → okS g s ∧ g s = f s)
  (hC : (g 569 = f 569 ∧ ∀ q, 70 ≤ q → q < 150 → g q = f q) ∨ ∀ k, 0 ≤ k → k < g 569 → okC g k)
  (hD : (∀ q, 150 ≤ q → q < 158 → g q = f q) ∨ ∀ d, 0 ≤ d → d < 4 → okD g d)
  (hP : (∀ q, 158 ≤ q → q < 164 → g q = f q) ∨ ((∀ i, 0 ≤ i → i < 6 → okP g i) ∧ ∀ i j, 0 ≤ i → i < 6 → 0 ≤ j → j < 6 → (tb (g (158 + i)) j ↔ tb (g (158 + j)) i)))
  (hT : (g 570 = f 570 ∧ ∀ q, 164 ≤ q → q < 464 → g q = f q) ∨ ∀ n, 0 ≤ n → n < g 570 → okT g n)
  (hW : (g 572 = f 572 ∧ ∀ q, 464 ≤ q → q < 544 → g q = f q) ∨ ∀ k, 0 ≤ k → k < g 572 → okW g k)
  (hO : (g 573 = f 573 ∧ ∀ q, 544 ≤ q → q < 568 → g q = f q) ∨ ∀ o, 0 ≤ o → o < g 573 → okO g o) : sOk g := by
  have h0 := sOk_N h
  have hS2 : ∀ s, 0 ≤ s → s < f 568 → okS g s ∧ g s = f s := by
    rcases hS with e | e
    · intro s a b
      have h1 := sOk_S h s a b
      have e0 := e s a (by omega)
      refine ⟨?_, e0⟩
      unfold okS
      rw [e0, e (10 + s) (by omega) (by omega), e (20 + s) (by omega) (by omega), e (30 + s) (by omega) (by omega), e (40 + s) (by omega) (by omega), e (50 + s) (by omega) (by omega), e (60 + s) (by omega) (by omega)]
      exact h1
    · exact e
  refine ⟨hN, fun s a b => (hS2 s a (by omega)).1, ?_, ?_, ?_, ?_, ?_, ?_, fun s o a b c d e => sOk_i h s o a (by omega) c (by omega) (by rw [← (hS2 s a (by omega)).2, ← (hS2 o c (by omega)).2]; exact e)⟩
  · rcases hC with ⟨e1, e⟩ | e
    · intro k a b
      unfold okC
      rw [e (70 + k) (by omega) (by omega), e (110 + k) (by omega) (by omega), e8]
      exact sOk_C h k a (by omega)
    · exact e
  · rcases hD with e | e
    · intro k a b
      unfold okD
      rw [e (150 + k) (by omega) (by omega), e (154 + k) (by omega) (by omega)]
      exact sOk_D h k a (by omega)
    · exact e
  · rcases hP with e | e
    · refine ⟨fun k a b => ?_, fun i j a b c d => ?_⟩
      · unfold okP
        rw [e (158 + k) (by omega) (by omega)]
        exact sOk_P h k a (by omega)
      · rw [e (158 + i) (by omega) (by omega), e (158 + j) (by omega) (by omega)]
        exact sOk_Ps h i j a b c d
    · exact e
  · rcases hT with ⟨e1, e⟩ | e
    · intro k a b
      have h1 := sOk_T h k a (by omega)
      unfold okT
      rw [e (164 + k) (by omega) (by omega), e (224 + k) (by omega) (by omega), e (284 + k) (by omega) (by omega), e (344 + k) (by omega) (by omega), e (404 + k) (by omega) (by omega), e8]
      exact ⟨h1.1, h1.2.1, h1.2.2.1, ⟨h1.2.2.2.1.1, Int.le_trans h1.2.2.2.1.2 e71⟩, h1.2.2.2.2.1, Int.le_trans h1.2.2.2.2.2 e71⟩
    · exact e
  · rcases hW with ⟨e1, e⟩ | e
    · intro k a b
      unfold okW
      rw [e (464 + k) (by omega) (by omega), e (484 + k) (by omega) (by omega), e (504 + k) (by omega) (by omega), e (524 + k) (by omega) (by omega), e8]
      exact sOk_W h k a (by omega)
    · exact e
  · rcases hO with ⟨e1, e⟩ | e
    · intro k a b
      unfold okO
      rw [e (544 + k) (by omega) (by omega), e (552 + k) (by omega) (by omega), e (560 + k) (by omega) (by omega)]
      exact sOk_O h k a (by omega)
    · exact e
theorem ok_sc {f : sF} {p q : Int} (h : sOk f) (hf : f 569 < 40) (hp : 0 ≤ p ∧ p < f 568) (hq : 0 ≤ q ∧ q < f 568) (hn : p ≠ q) : sOk (scF f p q) := by
  have h0 := sOk_N h
  have zo : ∀ y9, (y9 < 70 ∨ 150 ≤ y9) → y9 ≠ 569 → (scF f p q) y9 = f y9 := fun y9 a b569 => by unfold scF iup; (repeat (first | rw [if_pos (by omega)] | rw [if_neg (by omega)]))
  have z569 : (scF f p q) 569 = f 569 + 1 := by unfold scF iup; (repeat (first | rw [if_pos (by omega)] | rw [if_neg (by omega)]))
  refine ok_mk h ⟨by rw [zo 568 (by omega) (by omega)]; omega, by rw [z569]; omega, by rw [zo 570 (by omega) (by omega)]; omega, by rw [zo 571 (by omega) (by omega)]; omega, by rw [zo 572 (by omega) (by omega)]; omega, by rw [zo 573 (by omega) (by omega)]; omega⟩ (zo 568 (by omega) (by omega)) (by rw [zo 571 (by omega) (by omega)]; omega) (Or.inl fun y9 a b => zo y9 (by omega) (by omega)) (Or.inr ?_) (Or.inl fun y9 a b => zo y9 (by omega) (by omega)) (Or.inl fun y9 a b => zo y9 (by omega) (by omega)) (Or.inl ⟨zo 570 (by omega) (by omega), fun y9 a b => zo y9 (by omega) (by omega)⟩) (Or.inl ⟨zo 572 (by omega) (by omega), fun y9 a b => zo y9 (by omega) (by omega)⟩) (Or.inl ⟨zo 573 (by omega) (by omega), fun y9 a b => zo y9 (by omega) (by omega)⟩)
  intro k a b
  rw [z569] at b
  by_cases e : k = f 569
  · unfold okC
    rw [(show (scF f p q) (70 + k) = p from by unfold scF iup; (repeat (first | rw [if_pos (by omega)] | rw [if_neg (by omega)]))), (show (scF f p q) (110 + k) = q from by unfold scF iup; (repeat (first | rw [if_pos (by omega)] | rw [if_neg (by omega)]))), zo 568 (by omega) (by omega)]
    exact ⟨hp, hq, hn⟩
  · unfold okC
    rw [(show (scF f p q) (70 + k) = f (70 + k) from by unfold scF iup; (repeat (first | rw [if_pos (by omega)] | rw [if_neg (by omega)]))), (show (scF f p q) (110 + k) = f (110 + k) from by unfold scF iup; (repeat (first | rw [if_pos (by omega)] | rw [if_neg (by omega)]))), zo 568 (by omega) (by omega)]
    exact sOk_C h k a (by omega)
theorem ok_us {f : sF} {a0 : Int} (h : sOk f) (hf : 0 ≤ a0 ∧ a0 < f 569) : sOk (usF f a0) := by
  have h0 := sOk_N h
  have zo : ∀ y9, (y9 < 70 ∨ 150 ≤ y9) → y9 ≠ 569 → (usF f a0) y9 = f y9 := fun y9 a b569 => by unfold usF usK; (repeat (first | rw [if_pos (by omega)] | rw [if_neg (by omega)]))
  have z569 : (usF f a0) 569 = f 569 - 1 := by unfold usF usK; (repeat (first | rw [if_pos (by omega)] | rw [if_neg (by omega)]))
  refine ok_mk h ⟨by rw [zo 568 (by omega) (by omega)]; omega, by rw [z569]; omega, by rw [zo 570 (by omega) (by omega)]; omega, by rw [zo 571 (by omega) (by omega)]; omega, by rw [zo 572 (by omega) (by omega)]; omega, by rw [zo 573 (by omega) (by omega)]; omega⟩ (zo 568 (by omega) (by omega)) (by rw [zo 571 (by omega) (by omega)]; omega) (Or.inl fun y9 a b => zo y9 (by omega) (by omega)) (Or.inr ?_) (Or.inl fun y9 a b => zo y9 (by omega) (by omega)) (Or.inl fun y9 a b => zo y9 (by omega) (by omega)) (Or.inl ⟨zo 570 (by omega) (by omega), fun y9 a b => zo y9 (by omega) (by omega)⟩) (Or.inl ⟨zo 572 (by omega) (by omega), fun y9 a b => zo y9 (by omega) (by omega)⟩) (Or.inl ⟨zo 573 (by omega) (by omega), fun y9 a b => zo y9 (by omega) (by omega)⟩)
  intro k a b
  rw [z569] at b
  by_cases e : k < a0
  · unfold okC
    rw [(show (usF f a0) (70 + k) = f (70 + k) from by unfold usF usK; (repeat (first | rw [if_pos (by omega)] | rw [if_neg (by omega)]))), (show (usF f a0) (110 + k) = f (110 + k) from by unfold usF usK; (repeat (first | rw [if_pos (by omega)] | rw [if_neg (by omega)]))), zo 568 (by omega) (by omega)]
    exact sOk_C h k a (by omega)
  · have e1 : usF f a0 (70 + k) = f (70 + (k + 1)) := by
      unfold usF usK
      rw [if_pos (by omega)]
      congr 1
      omega
    have e2 : usF f a0 (110 + k) = f (110 + (k + 1)) := by
      unfold usF usK
      rw [if_neg (by omega), if_pos (by omega)]
      congr 1
      omega
    unfold okC
    rw [e1, e2, zo 568 (by omega) (by omega)]
    exact sOk_C h (k + 1) (by omega) (by omega)
theorem ok_sd {f : sF} {d z w : Int} (h : sOk f) (hd : 0 ≤ d ∧ d < 4) (hz : 0 ≤ z ∧ z ≤ 99) (hw : 0 ≤ w ∧ w ≤ 999) : sOk (sdF f d z w) := by
  have h0 := sOk_N h
  have zo : ∀ y9, (y9 < 150 ∨ 158 ≤ y9) → (sdF f d z w) y9 = f y9 := fun y9 a => by unfold sdF iup; (repeat (first | rw [if_pos (by omega)] | rw [if_neg (by omega)]))
  refine ok_mk h ⟨by rw [zo 568 (by omega) ]; omega, by rw [zo 569 (by omega) ]; omega, by rw [zo 570 (by omega) ]; omega, by rw [zo 571 (by omega) ]; omega, by rw [zo 572 (by omega) ]; omega, by rw [zo 573 (by omega) ]; omega⟩ (zo 568 (by omega) ) (by rw [zo 571 (by omega) ]; omega) (Or.inl fun y9 a b => zo y9 (by omega) ) (Or.inl ⟨zo 569 (by omega) , fun y9 a b => zo y9 (by omega) ⟩) (Or.inr ?_) (Or.inl fun y9 a b => zo y9 (by omega) ) (Or.inl ⟨zo 570 (by omega) , fun y9 a b => zo y9 (by omega) ⟩) (Or.inl ⟨zo 572 (by omega) , fun y9 a b => zo y9 (by omega) ⟩) (Or.inl ⟨zo 573 (by omega) , fun y9 a b => zo y9 (by omega) ⟩)
  intro k a b
  have hk := sOk_D h k a b
  unfold okD
  by_cases e : k = d
  · rw [(show (sdF f d z w) (150 + k) = z from by unfold sdF iup; (repeat (first | rw [if_pos (by omega)] | rw [if_neg (by omega)]))), (show (sdF f d z w) (154 + k) = w from by unfold sdF iup; (repeat (first | rw [if_pos (by omega)] | rw [if_neg (by omega)])))]
    exact ⟨hz, hw⟩
  · rw [(show (sdF f d z w) (150 + k) = f (150 + k) from by unfold sdF iup; (repeat (first | rw [if_pos (by omega)] | rw [if_neg (by omega)]))), (show (sdF f d z w) (154 + k) = f (154 + k) from by unfold sdF iup; (repeat (first | rw [if_pos (by omega)] | rw [if_neg (by omega)])))]
    exact hk
theorem ok_ly {f : sF} {s d : Int} (h : sOk f) (hs : 0 ≤ s ∧ s < f 568) (hd : -1 ≤ d ∧ d ≤ 3) : sOk (iup f (50 + s) d) := by
  have h0 := sOk_N h
  have zo : ∀ y9, (y9 < 0 ∨ 70 ≤ y9) → (iup f (50 + s) d) y9 = f y9 := fun y9 a => by unfold iup; (repeat (first | rw [if_pos (by omega)] | rw [if_neg (by omega)]))
  refine ok_mk h ⟨by rw [zo 568 (by omega) ]; omega, by rw [zo 569 (by omega) ]; omega, by rw [zo 570 (by omega) ]; omega, by rw [zo 571 (by omega) ]; omega, by rw [zo 572 (by omega) ]; omega, by rw [zo 573 (by omega) ]; omega⟩ (zo 568 (by omega) ) (by rw [zo 571 (by omega) ]; omega) (Or.inr ?_) (Or.inl ⟨zo 569 (by omega) , fun y9 a b => zo y9 (by omega) ⟩) (Or.inl fun y9 a b => zo y9 (by omega) ) (Or.inl fun y9 a b => zo y9 (by omega) ) (Or.inl ⟨zo 570 (by omega) , fun y9 a b => zo y9 (by omega) ⟩) (Or.inl ⟨zo 572 (by omega) , fun y9 a b => zo y9 (by omega) ⟩) (Or.inl ⟨zo 573 (by omega) , fun y9 a b => zo y9 (by omega) ⟩)
  intro k a b
  have hk := sOk_S h k a b
  have e0 : (iup f (50 + s) d) k = f k := by unfold iup; (repeat (first | rw [if_pos (by omega)] | rw [if_neg (by omega)]))
  refine ⟨?_, e0⟩
  unfold okS
  by_cases e : k = s
  · rw [e0, (show (iup f (50 + s) d) (10 + k) = f (10 + k) from by unfold iup; (repeat (first | rw [if_pos (by omega)] | rw [if_neg (by omega)]))), (show (iup f (50 + s) d) (20 + k) = f (20 + k) from by unfold iup; (repeat (first | rw [if_pos (by omega)] | rw [if_neg (by omega)]))), (show (iup f (50 + s) d) (30 + k) = f (30 + k) from by unfold iup; (repeat (first | rw [if_pos (by omega)] | rw [if_neg (by omega)]))), (show (iup f (50 + s) d) (40 + k) = f (40 + k) from by unfold iup; (repeat (first | rw [if_pos (by omega)] | rw [if_neg (by omega)]))), (show (iup f (50 + s) d) (50 + k) = d from by unfold iup; (repeat (first | rw [if_pos (by omega)] | rw [if_neg (by omega)]))), (show (iup f (50 + s) d) (60 + k) = f (60 + k) from by unfold iup; (repeat (first | rw [if_pos (by omega)] | rw [if_neg (by omega)])))]
    omega
  · rw [e0, (show (iup f (50 + s) d) (10 + k) = f (10 + k) from by unfold iup; (repeat (first | rw [if_pos (by omega)] | rw [if_neg (by omega)]))), (show (iup f (50 + s) d) (20 + k) = f (20 + k) from by unfold iup; (repeat (first | rw [if_pos (by omega)] | rw [if_neg (by omega)]))), (show (iup f (50 + s) d) (30 + k) = f (30 + k) from by unfold iup; (repeat (first | rw [if_pos (by omega)] | rw [if_neg (by omega)]))), (show (iup f (50 + s) d) (40 + k) = f (40 + k) from by unfold iup; (repeat (first | rw [if_pos (by omega)] | rw [if_neg (by omega)]))), (show (iup f (50 + s) d) (50 + k) = f (50 + k) from by unfold iup; (repeat (first | rw [if_pos (by omega)] | rw [if_neg (by omega)]))), (show (iup f (50 + s) d) (60 + k) = f (60 + k) from by unfold iup; (repeat (first | rw [if_pos (by omega)] | rw [if_neg (by omega)])))]
    exact hk
theorem ok_sl {f : sF} {s l : Int} (h : sOk f) (hs : 0 ≤ s ∧ s < f 568) (hl : 0 ≤ l ∧ l ≤ 100000) : sOk (slF f s l) := by
  have h0 := sOk_N h
  have zo : ∀ y9, (y9 < 0 ∨ 70 ≤ y9) → (slF f s l) y9 = f y9 := fun y9 a => by unfold slF iup; (repeat (first | rw [if_pos (by omega)] | rw [if_neg (by omega)]))
  refine ok_mk h ⟨by rw [zo 568 (by omega) ]; omega, by rw [zo 569 (by omega) ]; omega, by rw [zo 570 (by omega) ]; omega, by rw [zo 571 (by omega) ]; omega, by rw [zo 572 (by omega) ]; omega, by rw [zo 573 (by omega) ]; omega⟩ (zo 568 (by omega) ) (by rw [zo 571 (by omega) ]; omega) (Or.inr ?_) (Or.inl ⟨zo 569 (by omega) , fun y9 a b => zo y9 (by omega) ⟩) (Or.inl fun y9 a b => zo y9 (by omega) ) (Or.inl fun y9 a b => zo y9 (by omega) ) (Or.inl ⟨zo 570 (by omega) , fun y9 a b => zo y9 (by omega) ⟩) (Or.inl ⟨zo 572 (by omega) , fun y9 a b => zo y9 (by omega) ⟩) (Or.inl ⟨zo 573 (by omega) , fun y9 a b => zo y9 (by omega) ⟩)
  intro k a b
  have hk := sOk_S h k a b
  have e0 : (slF f s l) k = f k := by unfold slF iup; (repeat (first | rw [if_pos (by omega)] | rw [if_neg (by omega)]))
  refine ⟨?_, e0⟩
  unfold okS
  by_cases e : k = s
  · rw [e0, (show (slF f s l) (10 + k) = f (10 + k) from by unfold slF iup; (repeat (first | rw [if_pos (by omega)] | rw [if_neg (by omega)]))), (show (slF f s l) (20 + k) = f (20 + k) from by unfold slF iup; (repeat (first | rw [if_pos (by omega)] | rw [if_neg (by omega)]))), (show (slF f s l) (30 + k) = f (30 + k) from by unfold slF iup; (repeat (first | rw [if_pos (by omega)] | rw [if_neg (by omega)]))), (show (slF f s l) (40 + k) = f (40 + k) from by unfold slF iup; (repeat (first | rw [if_pos (by omega)] | rw [if_neg (by omega)]))), (show (slF f s l) (50 + k) = f (50 + k) from by unfold slF iup; (repeat (first | rw [if_pos (by omega)] | rw [if_neg (by omega)]))), (show (slF f s l) (60 + k) = l from by unfold slF iup; (repeat (first | rw [if_pos (by omega)] | rw [if_neg (by omega)])))]
    omega
  · rw [e0, (show (slF f s l) (10 + k) = f (10 + k) from by unfold slF iup; (repeat (first | rw [if_pos (by omega)] | rw [if_neg (by omega)]))), (show (slF f s l) (20 + k) = f (20 + k) from by unfold slF iup; (repeat (first | rw [if_pos (by omega)] | rw [if_neg (by omega)]))), (show (slF f s l) (30 + k) = f (30 + k) from by unfold slF iup; (repeat (first | rw [if_pos (by omega)] | rw [if_neg (by omega)]))), (show (slF f s l) (40 + k) = f (40 + k) from by unfold slF iup; (repeat (first | rw [if_pos (by omega)] | rw [if_neg (by omega)]))), (show (slF f s l) (50 + k) = f (50 + k) from by unfold slF iup; (repeat (first | rw [if_pos (by omega)] | rw [if_neg (by omega)]))), (show (slF f s l) (60 + k) = f (60 + k) from by unfold slF iup; (repeat (first | rw [if_pos (by omega)] | rw [if_neg (by omega)])))]
    exact hk
theorem ok_tl {f : sF} {s x h2 d : Int} (h : sOk f) (hf : f 570 < 60) (hc : f 571 < 1000) (hs : 0 ≤ s ∧ s < f 568) (hd : isDt d) (hx : x = dayI d + 3652) (hh : 0 ≤ h2 ∧ h2 ≤ 6) : sOk (tlF f s x h2) := by
  have h0 := sOk_N h
  have zo : ∀ y9, (y9 < 164 ∨ 464 ≤ y9) → y9 ≠ 570 → y9 ≠ 571 → (tlF f s x h2) y9 = f y9 := fun y9 a b570 b571 => by unfold tlF iup; (repeat (first | rw [if_pos (by omega)] | rw [if_neg (by omega)]))
  have z570 : (tlF f s x h2) 570 = f 570 + 1 := by unfold tlF iup; (repeat (first | rw [if_pos (by omega)] | rw [if_neg (by omega)]))
  have z571 : (tlF f s x h2) 571 = f 571 + 1 := by unfold tlF iup; (repeat (first | rw [if_pos (by omega)] | rw [if_neg (by omega)]))
  refine ok_mk h ⟨by rw [zo 568 (by omega) (by omega) (by omega)]; omega, by rw [zo 569 (by omega) (by omega) (by omega)]; omega, by rw [z570]; omega, by rw [z571]; omega, by rw [zo 572 (by omega) (by omega) (by omega)]; omega, by rw [zo 573 (by omega) (by omega) (by omega)]; omega⟩ (zo 568 (by omega) (by omega) (by omega)) (by rw [z571]; omega) (Or.inl fun y9 a b => zo y9 (by omega) (by omega) (by omega)) (Or.inl ⟨zo 569 (by omega) (by omega) (by omega), fun y9 a b => zo y9 (by omega) (by omega) (by omega)⟩) (Or.inl fun y9 a b => zo y9 (by omega) (by omega) (by omega)) (Or.inl fun y9 a b => zo y9 (by omega) (by omega) (by omega)) (Or.inr ?_) (Or.inl ⟨zo 572 (by omega) (by omega) (by omega), fun y9 a b => zo y9 (by omega) (by omega) (by omega)⟩) (Or.inl ⟨zo 573 (by omega) (by omega) (by omega), fun y9 a b => zo y9 (by omega) (by omega) (by omega)⟩)
  intro k a b
  rw [z570] at b
  unfold okT
  rw [z571, zo 568 (by omega) (by omega) (by omega)]
  by_cases e : k = f 570
  · rw [(show (tlF f s x h2) (164 + k) = s from by unfold tlF iup; (repeat (first | rw [if_pos (by omega)] | rw [if_neg (by omega)]))), (show (tlF f s x h2) (224 + k) = x from by unfold tlF iup; (repeat (first | rw [if_pos (by omega)] | rw [if_neg (by omega)]))), (show (tlF f s x h2) (284 + k) = h2 from by unfold tlF iup; (repeat (first | rw [if_pos (by omega)] | rw [if_neg (by omega)]))), (show (tlF f s x h2) (344 + k) = f 571 + 1 from by unfold tlF iup; (repeat (first | rw [if_pos (by omega)] | rw [if_neg (by omega)]))), (show (tlF f s x h2) (404 + k) = 0 from by unfold tlF iup; (repeat (first | rw [if_pos (by omega)] | rw [if_neg (by omega)])))]
    have hd2 : dat x = d := by rw [hx]; exact dat_dt hd
    rw [hd2]
    exact ⟨hs, ⟨hd, hx.symm⟩, hh, by omega, by omega⟩
  · have hk := sOk_T h k a (by omega)
    rw [(show (tlF f s x h2) (164 + k) = f (164 + k) from by unfold tlF iup; (repeat (first | rw [if_pos (by omega)] | rw [if_neg (by omega)]))), (show (tlF f s x h2) (224 + k) = f (224 + k) from by unfold tlF iup; (repeat (first | rw [if_pos (by omega)] | rw [if_neg (by omega)]))), (show (tlF f s x h2) (284 + k) = f (284 + k) from by unfold tlF iup; (repeat (first | rw [if_pos (by omega)] | rw [if_neg (by omega)]))), (show (tlF f s x h2) (344 + k) = f (344 + k) from by unfold tlF iup; (repeat (first | rw [if_pos (by omega)] | rw [if_neg (by omega)]))), (show (tlF f s x h2) (404 + k) = f (404 + k) from by unfold tlF iup; (repeat (first | rw [if_pos (by omega)] | rw [if_neg (by omega)])))]
    exact ⟨hk.1, hk.2.1, hk.2.2.1, by omega, by omega⟩
theorem ok_tb {f : sF} {a0 : Int} (h : sOk f) (hc : f 571 < 1000) (ha : 0 ≤ a0 ∧ a0 < f 570) : sOk (tbF f a0) := by
  have h0 := sOk_N h
  have zo : ∀ y9, (y9 < 164 ∨ 464 ≤ y9) → y9 ≠ 571 → (tbF f a0) y9 = f y9 := fun y9 a b571 => by unfold tbF iup; (repeat (first | rw [if_pos (by omega)] | rw [if_neg (by omega)]))
  have z571 : (tbF f a0) 571 = f 571 + 1 := by unfold tbF iup; (repeat (first | rw [if_pos (by omega)] | rw [if_neg (by omega)]))
  refine ok_mk h ⟨by rw [zo 568 (by omega) (by omega)]; omega, by rw [zo 569 (by omega) (by omega)]; omega, by rw [zo 570 (by omega) (by omega)]; omega, by rw [z571]; omega, by rw [zo 572 (by omega) (by omega)]; omega, by rw [zo 573 (by omega) (by omega)]; omega⟩ (zo 568 (by omega) (by omega)) (by rw [z571]; omega) (Or.inl fun y9 a b => zo y9 (by omega) (by omega)) (Or.inl ⟨zo 569 (by omega) (by omega), fun y9 a b => zo y9 (by omega) (by omega)⟩) (Or.inl fun y9 a b => zo y9 (by omega) (by omega)) (Or.inl fun y9 a b => zo y9 (by omega) (by omega)) (Or.inr ?_) (Or.inl ⟨zo 572 (by omega) (by omega), fun y9 a b => zo y9 (by omega) (by omega)⟩) (Or.inl ⟨zo 573 (by omega) (by omega), fun y9 a b => zo y9 (by omega) (by omega)⟩)
  intro k a b
  rw [zo 570 (by omega) (by omega)] at b
  have hk := sOk_T h k a (by omega)
  unfold okT
  rw [z571, zo 568 (by omega) (by omega), (show (tbF f a0) (164 + k) = f (164 + k) from by unfold tbF iup; (repeat (first | rw [if_pos (by omega)] | rw [if_neg (by omega)]))), (show (tbF f a0) (224 + k) = f (224 + k) from by unfold tbF iup; (repeat (first | rw [if_pos (by omega)] | rw [if_neg (by omega)]))), (show (tbF f a0) (284 + k) = f (284 + k) from by unfold tbF iup; (repeat (first | rw [if_pos (by omega)] | rw [if_neg (by omega)]))), (show (tbF f a0) (344 + k) = f (344 + k) from by unfold tbF iup; (repeat (first | rw [if_pos (by omega)] | rw [if_neg (by omega)])))]
  by_cases e : k = a0
  · rw [(show (tbF f a0) (404 + k) = f 571 + 1 from by unfold tbF iup; (repeat (first | rw [if_pos (by omega)] | rw [if_neg (by omega)])))]
    exact ⟨hk.1, hk.2.1, hk.2.2.1, by omega, by omega⟩
  · rw [(show (tbF f a0) (404 + k) = f (404 + k) from by unfold tbF iup; (repeat (first | rw [if_pos (by omega)] | rw [if_neg (by omega)])))]
    exact ⟨hk.1, hk.2.1, hk.2.2.1, by omega, by omega⟩
theorem ok_sh {f : sF} {s x n l d : Int} (h : sOk f) (hf : f 572 < 20) (hs : 0 ≤ s ∧ s < f 568) (hd : isDt d) (hx : x = dayI d + 3652) (hn : 1 ≤ n ∧ n ≤ 400) (hl : 1 ≤ l ∧ l ≤ 1000) (hxn : x + n ≤ 113225) : sOk (shF f s x n l) := by
  have h0 := sOk_N h
  have zo : ∀ y9, (y9 < 464 ∨ 544 ≤ y9) → y9 ≠ 572 → (shF f s x n l) y9 = f y9 := fun y9 a b572 => by unfold shF iup; (repeat (first | rw [if_pos (by omega)] | rw [if_neg (by omega)]))
  have z572 : (shF f s x n l) 572 = f 572 + 1 := by unfold shF iup; (repeat (first | rw [if_pos (by omega)] | rw [if_neg (by omega)]))
  refine ok_mk h ⟨by rw [zo 568 (by omega) (by omega)]; omega, by rw [zo 569 (by omega) (by omega)]; omega, by rw [zo 570 (by omega) (by omega)]; omega, by rw [zo 571 (by omega) (by omega)]; omega, by rw [z572]; omega, by rw [zo 573 (by omega) (by omega)]; omega⟩ (zo 568 (by omega) (by omega)) (by rw [zo 571 (by omega) (by omega)]; omega) (Or.inl fun y9 a b => zo y9 (by omega) (by omega)) (Or.inl ⟨zo 569 (by omega) (by omega), fun y9 a b => zo y9 (by omega) (by omega)⟩) (Or.inl fun y9 a b => zo y9 (by omega) (by omega)) (Or.inl fun y9 a b => zo y9 (by omega) (by omega)) (Or.inl ⟨zo 570 (by omega) (by omega), fun y9 a b => zo y9 (by omega) (by omega)⟩) (Or.inr ?_) (Or.inl ⟨zo 573 (by omega) (by omega), fun y9 a b => zo y9 (by omega) (by omega)⟩)
  intro k a b
  rw [z572] at b
  unfold okW
  rw [zo 568 (by omega) (by omega)]
  by_cases e : k = f 572
  · rw [(show (shF f s x n l) (464 + k) = s from by unfold shF iup; (repeat (first | rw [if_pos (by omega)] | rw [if_neg (by omega)]))), (show (shF f s x n l) (484 + k) = x from by unfold shF iup; (repeat (first | rw [if_pos (by omega)] | rw [if_neg (by omega)]))), (show (shF f s x n l) (504 + k) = n from by unfold shF iup; (repeat (first | rw [if_pos (by omega)] | rw [if_neg (by omega)]))), (show (shF f s x n l) (524 + k) = l from by unfold shF iup; (repeat (first | rw [if_pos (by omega)] | rw [if_neg (by omega)])))]
    have hd2 : dat x = d := by rw [hx]; exact dat_dt hd
    rw [hd2]
    exact ⟨hs, ⟨hd, hx.symm⟩, hn, hl, hxn⟩
  · have hk := sOk_W h k a (by omega)
    rw [(show (shF f s x n l) (464 + k) = f (464 + k) from by unfold shF iup; (repeat (first | rw [if_pos (by omega)] | rw [if_neg (by omega)]))), (show (shF f s x n l) (484 + k) = f (484 + k) from by unfold shF iup; (repeat (first | rw [if_pos (by omega)] | rw [if_neg (by omega)]))), (show (shF f s x n l) (504 + k) = f (504 + k) from by unfold shF iup; (repeat (first | rw [if_pos (by omega)] | rw [if_neg (by omega)]))), (show (shF f s x n l) (524 + k) = f (524 + k) from by unfold shF iup; (repeat (first | rw [if_pos (by omega)] | rw [if_neg (by omega)])))]
    exact hk
theorem ok_of {f : sF} {p g w : Int} (h : sOk f) (hf : f 573 < 8) (hp : 0 ≤ p ∧ p ≤ 4) (hg : 0 ≤ g ∧ g ≤ 5) (hw : 0 ≤ w ∧ w ≤ 5) (hn : g ≠ w) : sOk (ofF f p g w) := by
  have h0 := sOk_N h
  have zo : ∀ y9, (y9 < 544 ∨ 568 ≤ y9) → y9 ≠ 573 → (ofF f p g w) y9 = f y9 := fun y9 a b573 => by unfold ofF iup; (repeat (first | rw [if_pos (by omega)] | rw [if_neg (by omega)]))
  have z573 : (ofF f p g w) 573 = f 573 + 1 := by unfold ofF iup; (repeat (first | rw [if_pos (by omega)] | rw [if_neg (by omega)]))
  refine ok_mk h ⟨by rw [zo 568 (by omega) (by omega)]; omega, by rw [zo 569 (by omega) (by omega)]; omega, by rw [zo 570 (by omega) (by omega)]; omega, by rw [zo 571 (by omega) (by omega)]; omega, by rw [zo 572 (by omega) (by omega)]; omega, by rw [z573]; omega⟩ (zo 568 (by omega) (by omega)) (by rw [zo 571 (by omega) (by omega)]; omega) (Or.inl fun y9 a b => zo y9 (by omega) (by omega)) (Or.inl ⟨zo 569 (by omega) (by omega), fun y9 a b => zo y9 (by omega) (by omega)⟩) (Or.inl fun y9 a b => zo y9 (by omega) (by omega)) (Or.inl fun y9 a b => zo y9 (by omega) (by omega)) (Or.inl ⟨zo 570 (by omega) (by omega), fun y9 a b => zo y9 (by omega) (by omega)⟩) (Or.inl ⟨zo 572 (by omega) (by omega), fun y9 a b => zo y9 (by omega) (by omega)⟩) (Or.inr ?_)
  intro k a b
  rw [z573] at b
  unfold okO
  by_cases e : k = f 573
  · rw [(show (ofF f p g w) (544 + k) = p from by unfold ofF iup; (repeat (first | rw [if_pos (by omega)] | rw [if_neg (by omega)]))), (show (ofF f p g w) (552 + k) = g from by unfold ofF iup; (repeat (first | rw [if_pos (by omega)] | rw [if_neg (by omega)]))), (show (ofF f p g w) (560 + k) = w from by unfold ofF iup; (repeat (first | rw [if_pos (by omega)] | rw [if_neg (by omega)])))]
    exact ⟨hp, hg, hw, hn⟩
  · have hk := sOk_O h k a (by omega)
    rw [(show (ofF f p g w) (544 + k) = f (544 + k) from by unfold ofF iup; (repeat (first | rw [if_pos (by omega)] | rw [if_neg (by omega)]))), (show (ofF f p g w) (552 + k) = f (552 + k) from by unfold ofF iup; (repeat (first | rw [if_pos (by omega)] | rw [if_neg (by omega)]))), (show (ofF f p g w) (560 + k) = f (560 + k) from by unfold ofF iup; (repeat (first | rw [if_pos (by omega)] | rw [if_neg (by omega)])))]
    exact hk
theorem ok_co {f : sF}  (h : sOk f)  : sOk (coF f) := by
  have h0 := sOk_N h
  have zo : ∀ y9, (y9 < 568 ∨ 568 ≤ y9) → y9 ≠ 573 → (coF f) y9 = f y9 := fun y9 a b573 => by unfold coF iup; (repeat (first | rw [if_pos (by omega)] | rw [if_neg (by omega)]))
  have z573 : (coF f) 573 = 0 := by unfold coF iup; (repeat (first | rw [if_pos (by omega)] | rw [if_neg (by omega)]))
  refine ok_mk h ⟨by rw [zo 568 (by omega) (by omega)]; omega, by rw [zo 569 (by omega) (by omega)]; omega, by rw [zo 570 (by omega) (by omega)]; omega, by rw [zo 571 (by omega) (by omega)]; omega, by rw [zo 572 (by omega) (by omega)]; omega, by rw [z573]; omega⟩ (zo 568 (by omega) (by omega)) (by rw [zo 571 (by omega) (by omega)]; omega) (Or.inl fun y9 a b => zo y9 (by omega) (by omega)) (Or.inl ⟨zo 569 (by omega) (by omega), fun y9 a b => zo y9 (by omega) (by omega)⟩) (Or.inl fun y9 a b => zo y9 (by omega) (by omega)) (Or.inl fun y9 a b => zo y9 (by omega) (by omega)) (Or.inl ⟨zo 570 (by omega) (by omega), fun y9 a b => zo y9 (by omega) (by omega)⟩) (Or.inl ⟨zo 572 (by omega) (by omega), fun y9 a b => zo y9 (by omega) (by omega)⟩) (Or.inr ?_)
  intro k a b
  rw [z573] at b
  omega
theorem ok_lk {f : sF} {B : Prop} {k0 : Int} (h : sOk f) (hk : 0 ≤ k0 ∧ k0 ≤ f 568) (hp : ∀ s, 0 ≤ s → s < f 568 → 0 ≤ laB f B s ∧ laB f B s ≤ 3) : sOk (laK f B k0) := by
  have h0 := sOk_N h
  have zo : ∀ y9, (y9 < 50 ∨ 60 ≤ y9) → (laK f B k0) y9 = f y9 := fun y9 a => by unfold laK; (repeat (first | rw [if_pos (by omega)] | rw [if_neg (by omega)]))
  refine ok_mk h ⟨by rw [zo 568 (by omega) ]; omega, by rw [zo 569 (by omega) ]; omega, by rw [zo 570 (by omega) ]; omega, by rw [zo 571 (by omega) ]; omega, by rw [zo 572 (by omega) ]; omega, by rw [zo 573 (by omega) ]; omega⟩ (zo 568 (by omega) ) (by rw [zo 571 (by omega) ]; omega) (Or.inr ?_) (Or.inl ⟨zo 569 (by omega) , fun y9 a b => zo y9 (by omega) ⟩) (Or.inl fun y9 a b => zo y9 (by omega) ) (Or.inl fun y9 a b => zo y9 (by omega) ) (Or.inl ⟨zo 570 (by omega) , fun y9 a b => zo y9 (by omega) ⟩) (Or.inl ⟨zo 572 (by omega) , fun y9 a b => zo y9 (by omega) ⟩) (Or.inl ⟨zo 573 (by omega) , fun y9 a b => zo y9 (by omega) ⟩)
  intro k a b
  have hk := sOk_S h k a b
  have e0 : laK f B k0 k = f k := laK_o f B k0 k (by omega)
  refine ⟨?_, e0⟩
  unfold okS
  rw [e0, laK_o f B k0 (10 + k) (by omega), laK_o f B k0 (20 + k) (by omega), laK_o f B k0 (30 + k) (by omega), laK_o f B k0 (40 + k) (by omega), laK_o f B k0 (60 + k) (by omega)]
  have e5 : -1 ≤ laK f B k0 (50 + k) ∧ laK f B k0 (50 + k) ≤ 3 := by
    unfold laK
    split
    · have := hp k a b
      rw [show 50 + k - 50 = k by omega]
      omega
    · omega
  exact ⟨hk.1, hk.2.1, hk.2.2.1, hk.2.2.2.1, hk.2.2.2.2.1, e5, hk.2.2.2.2.2.2⟩
