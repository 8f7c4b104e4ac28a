/-! The class: stones that come, layings, catalogues joined, errors. -/
theorem ltc_lt {t : sF} {n k : Int} (h : 0 ≤ k ∧ k < ltc t n) : ltP t n k := by
  have h4 := (ltc_r t n).2
  unfold ltc at h
  rcases idx_cases (fun i => ¬ ltP t n i) 4 with ⟨a, b⟩ | ⟨a, b, c, d⟩
  · exact Classical.not_not.mp (b k h.1 (by omega))
  · rw [if_neg (by omega)] at h
    exact Classical.not_not.mp (d k h.1 h.2)
theorem ce_c (t : sF) (n : Int) : (isC t n ∧ ceI t n = -1) ∨ (¬ isC t n ∧ ceI t n = ltc t n) := by
  unfold ceI
  by_cases e : isC t n
  · exact Or.inl ⟨e, if_pos e⟩
  · exact Or.inr ⟨e, if_neg e⟩
theorem cf_c {t : sF} {n : Int} (h : isC t n) : cfI t n 0 (min 4 n) = cod (coA t n 0) := by
  have h4 := (ltc_r t n).2
  obtain ⟨h1, h2⟩ := h
  rw [show min 4 n = n by omega]
  exact cf_cod (fun i a b => ltc_lt (by omega)) (Or.inl fun q => by have := q.1; omega) (by omega) (by omega)
theorem rcN_b {t : sF} {n : Int} (hn : 0 ≤ n) : ∀ (F : Nat) (k j c : Int) (C V : sF), 0 ≤ k → k ≤ n → 0 ≤ j → -1 ≤ (rcN t n F k j c C V).1 ∧ (rcN t n F k j c C V).1 ≤ n := by
  intro F
  induction F with
  | zero =>
    intro k j c C V a b d
    show -1 ≤ (0 : Int) ∧ (0 : Int) ≤ n
    omega
  | succ F ih =>
    intro k j c C V hk hkn hj
    have ha := (reE_i (P := wsP t) (n := n) (a := k) hkn).1
    by_cases h1 : n ≤ reE (wsP t) n k
    · rw [rc_end rfl h1]
      show -1 ≤ (if j = 0 then -1 else n) ∧ (if j = 0 then -1 else n) ≤ n
      split <;> omega
    · by_cases h2 : j = 0
      · have he := (reE_i (P := ltP t n) (n := n) (a := reE (wsP t) n k) (by omega)).1
        by_cases h3 : (1 ≤ reE (ltP t n) n (reE (wsP t) n k) - reE (wsP t) n k ∧ reE (ltP t n) n (reE (wsP t) n k) - reE (wsP t) n k ≤ 4) ∧ ¬ ∃ o, 0 ≤ o ∧ o < c ∧ C o = coA t n (reE (wsP t) n k)
        · rw [rc_0t rfl (by omega) h2 rfl h3.1 h3.2]
          exact ih _ _ _ _ _ (by omega) (by omega) (by omega)
        · rw [rc_0f rfl (by omega) h2 rfl h3]
          show -1 ≤ reE (wsP t) n k ∧ reE (wsP t) n k ≤ n
          omega
      · by_cases h4 : j < 5
        · have he := (reE_i (P := dgP t n) (n := n) (a := reE (wsP t) n k) (by omega)).1
          by_cases h3 : (1 ≤ reE (dgP t n) n (reE (wsP t) n k) - reE (wsP t) n k ∧ reE (dgP t n) n (reE (wsP t) n k) - reE (wsP t) n k ≤ 5) ∧ irP (j - 1) (dgV t (reE (wsP t) n k) (reE (dgP t n) n (reE (wsP t) n k) - reE (wsP t) n k).toNat)
          · rw [rc_nt rfl (by omega) (by omega) rfl h3.1 h3.2]
            exact ih _ _ _ _ _ (by omega) (by omega) (by omega)
          · rw [rc_nf rfl (by omega) (by omega) rfl h3]
            show -1 ≤ reE (wsP t) n k ∧ reE (wsP t) n k ≤ n
            omega
        · by_cases h3 : t (reE (wsP t) n k) = 59
          · rw [rc_5t rfl (by omega) (by omega) h3]
            exact ih _ _ _ _ _ (by omega) (by omega) (by omega)
          · rw [rc_5f rfl (by omega) (by omega) h3]
            show -1 ≤ reE (wsP t) n k ∧ reE (wsP t) n k ≤ n
            omega
theorem rcE_b {t : sF} {n : Int} (hn : 0 ≤ n) : -1 ≤ rcE t n ∧ rcE t n ≤ n := rcN_b hn 302 0 0 0 _ _ (by omega) hn (by omega)
def layC (G : sG) (M : sM) (y : Nat) : Prop := ∃ (c co : Int) (Sz Wt He Bs Pr : sF), M y = some (sObj 2 [.ref (y + 1), .ref (y + 2), .ref (y + 3), .ref (y + 4), .ref (y + 5), .int (sI c), .int (sI co)]) ∧ M (y + 1) = some (sArr G 1024 Sz) ∧ M (y + 2) = some (sArr G 1024 Wt) ∧ M (y + 3) = some (sArr G 1024 He) ∧ M (y + 4) = some (sArr G 1024 Bs) ∧ M (y + 5) = some (sArr G 10 Pr)
theorem layC.fr {G : sG} {M M1 : sM} {y : Nat} (h : layC G M y) (hf : ∀ x : Nat, y ≤ x → x < y + 6 → M1 x = M x) : layC G M1 y := by
  obtain ⟨c, co, Sz, Wt, He, Bs, Pr, h0, h1, h2, h3, h4, h5⟩ := h
  exact ⟨c, co, Sz, Wt, He, Bs, Pr, (hf y (by omega) (by omega)).trans h0, (hf (y + 1) (by omega) (by omega)).trans h1, (hf (y + 2) (by omega) (by omega)).trans h2, (hf (y + 3) (by omega) (by omega)).trans h3, (hf (y + 4) (by omega) (by omega)).trans h4, (hf (y + 5) (by omega) (by omega)).trans h5⟩
/-- a State of any content -/
def triC (G : sG) (M : sM) (a : Nat) : Prop := ∃ g, stC G M a g
theorem triC.fr {G : sG} {M M1 : sM} {a : Nat} (h : triC G M a) (hf : ∀ x : Nat, a ≤ x → x < a + 15 → M1 x = M x) : triC G M1 a := by
  obtain ⟨g, h1⟩ := h
  exact ⟨g, h1.fr hf⟩
theorem laB_ok {f : sF} {B : Prop} (h : ∃ p, laP f B p) : lyOk f (laB f B) := by
  have e : laB f B = h.choose := by unfold laB; exact dif_pos h
  rw [e]
  exact h.choose_spec.1

