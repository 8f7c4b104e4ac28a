/-! A State with a stone raised. -/
theorem ra_st {G : sG} {M M1 : sM} {a : Nat} {f V : sF} {et : Int → Int → Int} {s e : Int} (hok : sOk f) (hst : stC G M a f) (h1 : stK G M1 (a + 1) 7 (f 568) 70 (rwT (tvS f) s et e 4)) (hfr : ∀ x, ¬ (x = a + 1) → ¬ (x = a + 2) → M1 x = M x) (hs : 0 ≤ s ∧ s < f 568) (hV : ∀ r, 0 ≤ r → r < 4 → et e r = V (4 * e + r)) : stC G M1 a (raN f V e s 4) := by
  have hn := (sOk_N hok).1
  obtain ⟨k0, k1, k2, k3, k4, k5, k6, k7⟩ := hst
  have fr : ∀ x, x < a + 1 ∨ a + 3 ≤ x → M1 x = M x := fun x q => hfr x (by omega) (by omega)
  have e568 : raN f V e s 4 568 = f 568 := ra_o 4 (fun x a b => by omega)
  refine stC_u0 (sOk_N hok) ((fr a (by omega)).trans k0) ?_ (k2.fr (fun x q8 q9 => fr x (by omega))) (k3.fr (fun x q8 q9 => fr x (by omega))) (k4.fr (fun x q8 q9 => fr x (by omega))) (k5.fr (fun x q8 q9 => fr x (by omega))) (k6.fr (fun x q8 q9 => fr x (by omega))) (k7.fr (fun x q8 q9 => fr x (by omega))) (fun q a b c d => ra_o 4 (fun x u v => by omega))
  rw [e568]
  refine h1.c (fun i j q1 q2 q3 q4 => ?_)
  by_cases e4 : j < 4
  · exact rwT_ra hn hs hV i j ⟨q1, q2⟩ ⟨q3, e4⟩
  · rw [rwT_o 4 i j (Or.inl (by omega))]
    rcases (show j = 4 ∨ j = 5 ∨ j = 6 by omega) with e5 | e5 | e5
    · rw [e5, tvS_4, tvS_4, ra_o 4 (fun x u v => by omega)]
    · rw [e5, tvS_5, tvS_5, ra_o 4 (fun x u v => by omega)]
    · rw [e5, tvS_6, tvS_6, ra_o 4 (fun x u v => by omega)]
/-- the entry that is next in the order of codes -/
theorem rb_en {C : sF} {c x y z : Int} {et : Int → Int → Int} (hds : dsP C c) (hx : 0 ≤ x ∧ x < c) (het : ∀ o, 0 ≤ o → o < c → et o 4 = cod (C o)) (hy : y = if x = 0 then 0 else cod (C (eoI C c (x - 1)))) (h : rbQ et c y c z) : z = eoI C c x := by
  have hS : ∀ o, 0 ≤ o → o < c → 1 ≤ C o ∧ C o < 531441 := hds.1
  have key : ∃ Y, (∀ o, 0 ≤ o → o < c → (y < cod (C o) ↔ Y < C o)) ∧ isum c (leC C Y) = x := by
    by_cases e : x = 0
    · rw [if_pos e] at hy
      refine ⟨0, fun o a b => ?_, ?_⟩
      · have h1 := hS o a b
        have h2 := cod_1 h1
        exact ⟨fun _ => by omega, fun _ => by omega⟩
      · rw [e]
        exact isum_z fun o a b => if_neg (by have := hS o a b; omega)
    · rw [if_neg e] at hy
      have he := eo_i hds (x - 1) (by omega)
      refine ⟨C (eoI C c (x - 1)), fun o a b => ?_, ?_⟩
      · have h1 := hS o a b
        have h2 := hS _ he.1.1 he.1.2
        rw [hy]
        exact cod_lti (by omega) (by omega)
      · rw [np_nx hds he.1, he.2]
        omega
  obtain ⟨Y, k1, k2⟩ := key
  rcases h with ⟨e, h⟩ | ⟨h1, h2, h3⟩
  · have h4 := isum_b (n := c) (g := leC C Y) 1 1 (by omega) (fun o a b => by
      have h5 := h o a b
      rw [het o a b] at h5
      have h6 : ¬ Y < C o := fun w => h5 ((k1 o a b).mpr w)
      unfold leC
      rw [if_pos (by omega)]
      omega)
    omega
  · rw [het z h1.1 h1.2] at h2
    refine eo_u hds h1 ?_
    rw [np_rb (y := Y) ⟨h1, (k1 z h1.1 h1.2).mp h2, fun o a b k => ?_⟩]
    · exact k2
    · have h4 := h3 o a b (by rw [het o a b]; exact (k1 o a b).mpr k)
      rw [het o a b, het z h1.1 h1.2] at h4
      have s1 := hS o a b
      have s2 := hS z h1.1 h1.2
      exact Int.not_lt.mp fun w => by have := cod_lt (v := C o) (w := C z) (by omega) w s2.2; omega
