/-! A State with a stone raised. -/
theorem ra_st {G : sG} {M M1 : sM} {a : Nat} {f V : sF} {et : Int → Int → Int} {s e : Int} (hok : sOk f) (hst : stC G M a f) (h1 : stK G M1 (a + 1) 7 (f 568) 70 (rwT (tvS f) s et e 4)) (hfr : ∀ x, ¬ (x = a + 1) → ¬ (x = a + 2) → M1 x = M x) (hs : 0 ≤ s ∧ s < f 568) (hV : ∀ r, 0 ≤ r → r < 4 → et e r = V (4 * e + r)) : stC G M1 a (raN f V e s 4) := by
  have hn := (sOk_N hok).1
  obtain ⟨k0, k1, k2, k3, k4, k5, k6, k7⟩ := hst
  have fr : ∀ x, x < a + 1 ∨ a + 3 ≤ x → M1 x = M x := fun x q => hfr x (by omega) (by omega)
  have e568 : raN f V e s 4 568 = f 568 := ra_o 4 (fun x a b => by omega)
  refine stC_u0 (sOk_N hok) ((fr a (by omega)).trans k0) ?_ (k2.fr (fun x q8 q9 => fr x (by omega))) (k3.fr (fun x q8 q9 => fr x (by omega))) (k4.fr (fun x q8 q9 => fr x (by omega))) (k5.fr (fun x q8 q9 => fr x (by omega))) (k6.fr (fun x q8 q9 => fr x (by omega))) (k7.fr (fun x q8 q9 => fr x (by omega))) (fun q a b c d => ra_o 4 (fun x u v => by omega))
  rw [e568]
  refine h1.c (fun i j q1 q2 q3 q4 => ?_)
  by_cases e4 : j < 4
  · exact rwT_ra hn hs hV i j ⟨q1, q2⟩ ⟨q3, e4⟩
  · rw [rwT_o 4 i j (Or.inl (by omega))]
    rcases (show j = 4 ∨ j = 5 ∨ j = 6 by omega) with e5 | e5 | e5
    · rw [e5, tvS_4, tvS_4, ra_o 4 (fun x u v => by omega)]
    · rw [e5, tvS_5, tvS_5, ra_o 4 (fun x u v => by omega)]
    · rw [e5, tvS_6, tvS_6, ra_o 4 (fun x u v => by omega)]
