/-! The class's Catalogue: the entries on the tape. -/
def jn (j : Int) : Int := if j = 0 then 0 else 1
def jm (j : Int) : Int := if j = 0 then 0 else j - 1
theorem jn_r (j : Int) : 0 ≤ jn j ∧ jn j ≤ 1 ∧ (j = 0 → jn j = 0) ∧ (j ≠ 0 → jn j = 1) := by unfold jn; split <;> omega
theorem jm_r (j : Int) : (j = 0 → jm j = 0) ∧ (j ≠ 0 → jm j = j - 1) := by unfold jm; split <;> omega
def enR (c m : Int) (et : Int → Int → Int) (C V : sF) : Prop := (∀ o, 0 ≤ o → o < c → et o 4 = cod (C o)) ∧ ∀ o q, 0 ≤ o → 0 ≤ q → q < 4 → 4 * o + q < m → et o q = V (4 * o + q)
def cbQ (t : sF) (n k j c : Int) : Prop := (0 ≤ c ∧ 0 ≤ j ∧ j ≤ 5 ∧ 0 ≤ k ∧ k ≤ n) ∧ (j = 0 → 9 * c ≤ k) ∧ (j = 1 → 9 * c + 1 ≤ k) ∧ (2 ≤ j → 9 * c + 2 * (j - 1) ≤ k ∧ ¬ dgP t n k)
def ceP (j c ne : Int) (et : Int → Int → Int) (C V : sF) : Prop := ne = min 33 (c + jn j) ∧ (c + jn j ≤ 33 → enR (c + jn j) (4 * c + jm j) et C V) ∧ ∀ o, 0 ≤ o → o < c + jn j → 1 ≤ C o ∧ C o < 531441
def caI (t : sF) (n k j ne : Int) (et : Int → Int → Int) : Prop := ∃ (c : Int) (C V : sF), rcI t n k j c C V ∧ cbQ t n k j c ∧ ceP j c ne et C V
section CA
variable {t : sF} {n k j ne : Int} {et : Int → Int → Int}
theorem ca_0 (ht : tpOk t n) (et : Int → Int → Int) : caI t n 0 0 0 et := by
  have hn1 := ht.1
  have hn2 := ht.2.1
  refine ⟨0, fun _ => 0, fun _ => 0, ri_0 (by omega) _ _, ⟨by omega, fun _ => by omega, fun q => by omega, fun q => by omega⟩, ⟨by have := (jn_r 0).2.2.1 rfl; omega, fun _ => ⟨fun o a b => ?_, fun o q a b c d => ?_⟩, fun o a b => ?_⟩⟩
  · have := (jn_r 0).2.2.1 rfl; omega
  · have := (jm_r 0).1 rfl; omega
  · have := (jn_r 0).2.2.1 rfl; omega
theorem ri_ws {c : Int} {C V : sF} (hk : 0 ≤ k ∧ k ≤ n) (h : rcI t n k j c C V) : rcI t n (reE (wsP t) n k) j c C V := by
  have he := reE_i (P := wsP t) hk.2
  have key : ∀ m : Nat, k + (m : Int) ≤ reE (wsP t) n k → rcI t n (k + (m : Int)) j c C V := by
    intro m
    induction m with
    | zero => intro _; rw [show k + ((0 : Nat) : Int) = k by omega]; exact h
    | succ m ih =>
      intro hm
      rw [show k + ((m + 1 : Nat) : Int) = k + (m : Int) + 1 by omega]
      exact ri_w (by omega) (he.2.1 _ (by omega) (by omega)) (ih (by omega))
  have := key (reE (wsP t) n k - k).toNat (by omega)
  rw [show k + (((reE (wsP t) n k - k).toNat : Nat) : Int) = reE (wsP t) n k by omega] at this
  exact this
theorem ca_end (ht : tpOk t n) (h : caI t n k j ne et) (ha : n ≤ reE (wsP t) n k) : rcE t n = (if j = 0 then -1 else n) ∧ (j = 0 → rcK t n = ne ∧ (0 ≤ ne ∧ ne ≤ 33) ∧ enR ne (4 * ne) et (rcC t n) (rcV t n)) := by
  obtain ⟨c, C, V, h1, h2, h3⟩ := h
  have hn2 := ht.2.1
  have hk := h2.1
  have he := reE_i (P := wsP t) (n := n) (a := k) (by omega)
  have h4 := ri_end ha he.1.2 (ri_ws (by omega) h1)
  refine ⟨h4.1, fun q => ?_⟩
  have h5 := h4.2 q
  have hj := (jn_r j).2.2.1 q
  have hm := (jm_r j).1 q
  have hc := h2.2.1 q
  obtain ⟨e1, e2, e3⟩ := h3
  rw [hj, Int.add_zero] at e1 e2
  rw [hm, Int.add_zero] at e2
  have e4 := e2 (by omega)
  have e5 : ne = c := by omega
  rw [e5]
  refine ⟨h5.1, by omega, fun o a b => ?_, fun o q a b c2 d => ?_⟩
  · rw [e4.1 o a b, h5.2.1 o a b]
  · rw [e4.2 o q a b c2 d, h5.2.2 (4 * o + q) (by omega) d]
theorem tk_ws (hk : 0 ≤ k ∧ k ≤ n) (ha : reE (wsP t) n k < n) : (k ≤ reE (wsP t) n k) ∧ ¬ wsP t (reE (wsP t) n k) := ⟨(reE_i hk.2).1.1, (reE_i hk.2).2.2 ha⟩
theorem re_1 {P : Int → Prop} {a : Int} (ha : a < n) (h : P a) : a < reE P n a ∧ reE P n a ≤ n := by
  have he := reE_i (P := P) (n := n) (a := a) (by omega)
  by_cases e : reE P n a = a
  · have := he.2.2 (by omega)
    rw [e] at this
    exact absurd h this
  · omega
theorem re_2 {P : Int → Prop} {a : Int} (ha : a < n) (h : 1 ≤ reE P n a - a) : P a := (reE_i (P := P) (n := n) (a := a) (by omega)).2.1 a (by omega) (by omega)
theorem tk_cod {a : Int} (ht : tpOk t n) (ha : 0 ≤ a) (h : ltP t n a) (h4 : reE (ltP t n) n a - a ≤ 4) : cfI t n a (reE (ltP t n) n a - a) = cod (coA t n a) := by
  have he := reE_i (P := ltP t n) (n := n) (a := a) (by have := h.1; omega)
  refine cf_cod (fun i x y => he.2.1 i x (by omega)) (Or.inl fun q => ?_) ha (by omega)
  rw [show a + (reE (ltP t n) n a - a) = reE (ltP t n) n a by omega] at q
  exact he.2.2 q.1 q
theorem ca_bad {tk te tv : Int} (ht : tpOk t n) (h : caI t n k j ne et) (ha : reE (wsP t) n k < n) (hx : tkR t n (reE (wsP t) n k) tk te tv) (hd : ¬ dfP j tk tv ne et) : rcE t n = reE (wsP t) n k := by
  obtain ⟨c, C, V, h1, h2, h3⟩ := h
  have hn2 := ht.2.1
  have hk := h2.1
  have hw := tk_ws (t := t) (n := n) (k := k) (by omega) ha
  have h4 := ri_ws (by omega) h1
  have hc0 := h2.2.1
  generalize reE (wsP t) n k = a at ha hx hw h4 ⊢
  refine ri_er h4 ha fun F C2 V2 hC => ?_
  by_cases j0 : j = 0
  · refine rc_0f (ws_0 ha hw.2) ha j0 rfl fun ⟨q1, q2⟩ => hd (Or.inl ?_)
    have l1 := re_2 ha q1.1
    rcases hx with ⟨x1, _⟩ | ⟨x1, x2, x3, x4⟩ | ⟨x1, _⟩ | ⟨_, x1, _⟩
    · omega
    · rw [x2, if_pos q1.2] at x3
      rw [x2, tk_cod ht (by omega) l1 q1.2] at x4
      have hj := (jn_r j).2.2.1 j0
      obtain ⟨e1, e2, e3⟩ := h3
      rw [hj, Int.add_zero] at e1 e2 e3
      have := hc0 j0
      have e4 := e2 (by omega)
      refine ⟨j0, x3, fun ⟨o, o1, o2, o3⟩ => q2 ⟨o, o1, by omega, ?_⟩⟩
      rw [e4.1 o o1 (by omega), x4] at o3
      have r1 := e3 o o1 (by omega)
      have r2 := coA_b t n a
      rw [← hC o o1 (by rw [if_pos j0]; omega)]
      exact (cod_inj (by omega) r2).mp o3
    · have l2 := l1.2; have := x1.2; omega
    · exact absurd l1 x1
  · by_cases j5 : j = 5
    · refine rc_5f (ws_0 ha hw.2) ha (by omega) fun q => hd (Or.inr (Or.inl ⟨j5, ?_⟩))
      rcases hx with ⟨x1, _⟩ | ⟨x1, _⟩ | ⟨x1, _⟩ | ⟨_, _, _, _, x1⟩
      · omega
      · have := x1.2; omega
      · have := x1.2; omega
      · rw [x1, if_pos q]
    · refine rc_nf (ws_0 ha hw.2) ha (by omega) rfl fun ⟨q1, q2⟩ => hd (Or.inr (Or.inr ⟨by omega, ?_⟩))
      have l1 := re_2 ha q1.1
      rcases hx with ⟨x1, _⟩ | ⟨x1, _⟩ | ⟨x1, x2, x3, x4⟩ | ⟨_, _, x1, _⟩
      · omega
      · have l2 := l1.2; have := x1.2; omega
      · rw [x2, if_pos q1.2] at x3
        rw [x2] at x4
        exact ⟨x3, by rw [x4]; exact q2⟩
      · exact absurd l1 x1
theorem ca_ok {tk te tv n9 : Int} {e9 : Int → Int → Int} (ht : tpOk t n) (h : caI t n k j ne et) (ha : reE (wsP t) n k < n) (hx : tkR t n (reE (wsP t) n k) tk te tv) (hd : dfP j tk tv ne et) (hn9 : n9 = if j = 0 then min 33 (ne + 1) else ne) (he9 : e9 = if j = 0 then tvU (tvY et ne) (min 33 (ne + 1) - 1) 4 tv else if j = 5 then et else tvU et (ne - 1) (j - 1) tv) : caI t n te (if j = 5 then 0 else j + 1) n9 e9 ∧ k < te ∧ te ≤ n := by
  obtain ⟨c, C, V, h1, h2, h3⟩ := h
  have hn2 := ht.2.1
  have hk := h2.1
  have hw := tk_ws (t := t) (n := n) (k := k) (by omega) ha
  have h4 := ri_ws (by omega) h1
  obtain ⟨-, b0, b1, b2⟩ := h2
  obtain ⟨e1, e2, e3⟩ := h3
  generalize reE (wsP t) n k = a at ha hx hw h4
  rcases hd with ⟨j0, d1, d2⟩ | ⟨j5, d1⟩ | ⟨j1, d1, d2⟩
  · have hj := (jn_r j).2.2.1 j0
    have hm := (jm_r j).1 j0
    have hb := b0 j0
    rw [hj, Int.add_zero] at e1 e2 e3
    rw [hm, Int.add_zero] at e2
    have e4 := e2 (by omega)
    rw [if_pos j0] at hn9 he9
    rw [if_neg (by omega), show j + 1 = 1 by omega]
    rcases hx with ⟨_, x1⟩ | ⟨x1, x2, x3, x4⟩ | ⟨_, _, x1, _⟩ | ⟨_, _, _, _, x1⟩
    · omega
    · have l1 := re_1 ha x1
      have l4 : te - a ≤ 4 := by
        by_cases q : te - a ≤ 4
        · exact q
        · rw [if_neg q] at x3; omega
      rw [x2] at l4
      rw [x2, tk_cod ht (by omega) x1 l4] at x4
      have r2 := coA_b t n a
      have r3 := coA_p x1
      rw [j0] at h4
      have h5 := ri_0t h4 hw.2 ha x2.symm (by rw [x2]; omega) hk.1 (fun o o1 o2 o3 => d2 ⟨o, o1, by omega, by rw [e4.1 o o1 o2, x4, o3]⟩)
      have jn1 : jn 1 = 1 := rfl
      have jm1 : jm 1 = 0 := rfl
      refine ⟨⟨c, _, V, h5, ⟨by omega, fun q => by omega, fun _ => by omega, fun q => by omega⟩, by rw [jn1]; omega, fun q => ?_, fun o o1 o2 => ?_⟩, by omega, by omega⟩
      · rw [jn1] at q
        rw [jn1, jm1, he9, show min 33 (ne + 1) - 1 = c by omega]
        refine ⟨fun o o1 o2 => ?_, fun o q o1 q1 q2 o2 => ?_⟩
        · unfold tvU tvY iup
          by_cases e : o = c
          · rw [if_pos ⟨e, rfl⟩, if_pos e]; exact x4
          · rw [if_neg (fun w => e w.1), if_neg e, if_neg (fun w => by have := w.2; omega)]
            exact e4.1 o o1 (by omega)
        · unfold tvU tvY
          rw [if_neg (fun w => by have := w.2; omega), if_neg (fun w => by have := w.2; omega)]
          exact e4.2 o q o1 q1 q2 (by omega)
      · rw [jn1] at o2
        unfold iup
        by_cases e : o = c
        · rw [if_pos e]; omega
        · rw [if_neg e]; exact e3 o o1 (by omega)
    · rw [d1] at x1; split at x1 <;> omega
    · rw [d1] at x1; split at x1 <;> omega
  · have jn5 : jn 5 = 1 := rfl
    have jm5 : jm 5 = 4 := rfl
    have jn0 : jn 0 = 0 := rfl
    have jm0 : jm 0 = 0 := rfl
    have hb := b2 (by omega)
    rw [if_pos j5]
    rw [if_neg (by omega)] at hn9 he9
    rw [if_pos j5] at he9
    rw [j5] at h4 e1 e2 e3 hb
    rw [jn5] at e1 e2 e3
    rw [jm5] at e2
    rcases hx with ⟨_, x1⟩ | ⟨_, _, x1, _⟩ | ⟨_, _, x1, _⟩ | ⟨x1, x2, x3, x4, x5⟩
    · omega
    · rw [d1] at x1; split at x1 <;> omega
    · rw [d1] at x1; split at x1 <;> omega
    · have s1 : t a = 59 := by
        by_cases q : t a = 59
        · exact q
        · rw [if_neg q] at x5; omega
      have h5 := ri_5t h4 hw.2 ha s1
      rw [← x4] at h5
      refine ⟨⟨c + 1, C, V, h5, ⟨by omega, fun _ => by omega, fun q => by omega, fun q => by omega⟩, by rw [jn0]; omega, fun q => ?_, fun o o1 o2 => e3 o o1 (by rw [jn0] at o2; omega)⟩, by omega, by omega⟩
      rw [jn0] at q
      rw [jn0, jm0, he9, show c + 1 + 0 = c + 1 by omega, show 4 * (c + 1) + 0 = 4 * c + 4 by omega]
      exact e2 (by omega)
  · have hj := (jn_r j).2.2.2 (by omega)
    have hm := (jm_r j).2 (by omega)
    have hj2 := (jn_r (j + 1)).2.2.2 (by omega)
    have hm2 := (jm_r (j + 1)).2 (by omega)
    rw [hj] at e1 e2 e3
    rw [hm] at e2
    rw [if_neg (by omega)]
    rw [if_neg (by omega)] at hn9 he9
    rw [if_neg (by omega)] at he9
    rcases hx with ⟨_, x1⟩ | ⟨_, _, x1, _⟩ | ⟨x1, x2, x3, x4⟩ | ⟨_, _, _, _, x1⟩
    · omega
    · rw [d1] at x1; split at x1 <;> omega
    · have l1 := re_1 ha x1
      have l4 : te - a ≤ 5 := by
        by_cases q : te - a ≤ 5
        · exact q
        · rw [if_neg q] at x3; omega
      rw [x4] at d2
      have h5 := ri_nt h4 hw.2 ha (by omega) x2.symm (by omega) d2
      rw [← x4] at h5
      have hkd : 2 ≤ j → k < a := fun q => by
        rcases Int.lt_or_le k a with w | w
        · exact w
        · exact absurd (by rw [show k = a by omega]; exact x1) (b2 q).2
      have hed : ¬ dgP t n te := fun q => by
        have := (reE_i (P := dgP t n) (n := n) (a := a) (by omega)).2.2
        rw [← x2] at this
        exact this q.1 q
      refine ⟨⟨c, C, _, h5, ⟨by omega, fun q => by omega, fun q => by omega, fun _ => ⟨?_, hed⟩⟩, by rw [hj2]; omega, fun q => ?_, fun o o1 o2 => e3 o o1 (by rw [hj2] at o2; exact o2)⟩, by omega, by omega⟩
      · by_cases q : 2 ≤ j
        · have := (b2 q).1; have := hkd q; omega
        · have := b1 (by omega); omega
      · rw [hj2] at q
        have e4 := e2 q
        rw [hj2, hm2, he9, show ne - 1 = c by omega, show 4 * c + (j + 1 - 1) = 4 * c + j by omega]
        refine ⟨fun o o1 o2 => ?_, fun o r o1 r1 r2 o2 => ?_⟩
        · unfold tvU
          rw [if_neg (fun w => by have := w.2; omega)]
          exact e4.1 o o1 o2
        · unfold tvU iup
          by_cases e : 4 * o + r = 4 * c + j - 1
          · rw [if_pos (by omega), if_pos e]
          · rw [if_neg (by omega), if_neg e]
            exact e4.2 o r o1 r1 r2 (by omega)
    · rw [d1] at x1; split at x1 <;> omega
end CA
