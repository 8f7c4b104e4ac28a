/-! The class's Catalogue: the entries on the tape. -/
def jn (j : Int) : Int := if j = 0 then 0 else 1
def jm (j : Int) : Int := if j = 0 then 0 else j - 1
theorem jn_r (j : Int) : 0 ≤ jn j ∧ jn j ≤ 1 ∧ (j = 0 → jn j = 0) ∧ (j ≠ 0 → jn j = 1) := by unfold jn; split <;> omega
theorem jm_r (j : Int) : (j = 0 → jm j = 0) ∧ (j ≠ 0 → jm j = j - 1) := by unfold jm; split <;> omega
def enR (c m : Int) (et : Int → Int → Int) (C V : sF) : Prop := (∀ o, 0 ≤ o → o < c → et o 4 = cod (C o)) ∧ ∀ o q, 0 ≤ o → 0 ≤ q → q < 4 → 4 * o + q < m → et o q = V (4 * o + q)
def cbQ (t : sF) (n k j c : Int) : Prop := (0 ≤ c ∧ 0 ≤ j ∧ j ≤ 5 ∧ 0 ≤ k ∧ k ≤ n) ∧ (j = 0 → 9 * c ≤ k) ∧ (j = 1 → 9 * c + 1 ≤ k) ∧ (2 ≤ j → 9 * c + 2 * (j - 1) ≤ k ∧ ¬ dgP t n k)
def ceP (j c ne : Int) (et : Int → Int → Int) (C V : sF) : Prop := ne = min 33 (c + jn j) ∧ (c + jn j ≤ 33 → enR (c + jn j) (4 * c + jm j) et C V) ∧ ∀ o, 0 ≤ o → o < c + jn j → 1 ≤ C o ∧ C o < 531441
def caI (t : sF) (n k j ne : Int) (et : Int → Int → Int) : Prop := ∃ (c : Int) (C V : sF), rcI t n k j c C V ∧ cbQ t n k j c ∧ ceP j c ne et C V
section CA
variable {t : sF} {n k j ne : Int} {et : Int → Int → Int}
theorem ca_0 (ht : tpOk t n) (et : Int → Int → Int) : caI t n 0 0 0 et := by
  have hn1 := ht.1
  have hn2 := ht.2.1
  refine ⟨0, fun _ => 0, fun _ => 0, ri_0 (by omega) _ _, ⟨by omega, fun _ => by omega, fun q => by omega, fun q => by omega⟩, ⟨by have := (jn_r 0).2.2.1 rfl; omega, fun _ => ⟨fun o a b => ?_, fun o q a b c d => ?_⟩, fun o a b => ?_⟩⟩
  · have := (jn_r 0).2.2.1 rfl; omega
  · have := (jm_r 0).1 rfl; omega
  · have := (jn_r 0).2.2.1 rfl; omega
theorem ri_ws {c : Int} {C V : sF} (hk : 0 ≤ k ∧ k ≤ n) (h : rcI t n k j c C V) : rcI t n (reE (wsP t) n k) j c C V := by
  have he := reE_i (P := wsP t) hk.2
  have key : ∀ m : Nat, k + (m : Int) ≤ reE (wsP t) n k → rcI t n (k + (m : Int)) j c C V := by
    intro m
    induction m with
    | zero => intro _; rw [show k + ((0 : Nat) : Int) = k by omega]; exact h
    | succ m ih =>
      intro hm
      rw [show k + ((m + 1 : Nat) : Int) = k + (m : Int) + 1 by omega]
      exact ri_w (by omega) (he.2.1 _ (by omega) (by omega)) (ih (by omega))
  have := key (reE (wsP t) n k - k).toNat (by omega)
  rw [show k + (((reE (wsP t) n k - k).toNat : Nat) : Int) = reE (wsP t) n k by omega] at this
  exact this
theorem ca_end (ht : tpOk t n) (h : caI t n k j ne et) (ha : n ≤ reE (wsP t) n k) : rcE t n = (if j = 0 then -1 else n) ∧ (j = 0 → rcK t n = ne ∧ (0 ≤ ne ∧ ne ≤ 33) ∧ enR ne (4 * ne) et (rcC t n) (rcV t n)) := by
  obtain ⟨c, C, V, h1, h2, h3⟩ := h
  have hn2 := ht.2.1
  have hk := h2.1
  have he := reE_i (P := wsP t) (n := n) (a := k) (by omega)
  have h4 := ri_end ha he.1.2 (ri_ws (by omega) h1)
  refine ⟨h4.1, fun q => ?_⟩
  have h5 := h4.2 q
  have hj := (jn_r j).2.2.1 q
  have hm := (jm_r j).1 q
  have hc := h2.2.1 q
  obtain ⟨e1, e2, e3⟩ := h3
  rw [hj, Int.add_zero] at e1 e2
  rw [hm, Int.add_zero] at e2
  have e4 := e2 (by omega)
  have e5 : ne = c := by omega
  rw [e5]
  refine ⟨h5.1, by omega, fun o a b => ?_, fun o q a b c2 d => ?_⟩
  · rw [e4.1 o a b, h5.2.1 o a b]
  · rw [e4.2 o q a b c2 d, h5.2.2 (4 * o + q) (by omega) d]
theorem tk_ws (hk : 0 ≤ k ∧ k ≤ n) (ha : reE (wsP t) n k < n) : (k ≤ reE (wsP t) n k) ∧ ¬ wsP t (reE (wsP t) n k) := ⟨(reE_i hk.2).1.1, (reE_i hk.2).2.2 ha⟩
theorem re_1 {P : Int → Prop} {a : Int} (ha : a < n) (h : P a) : a < reE P n a ∧ reE P n a ≤ n := by
  have he := reE_i (P := P) (n := n) (a := a) (by omega)
  by_cases e : reE P n a = a
  · have := he.2.2 (by omega)
    rw [e] at this
    exact absurd h this
  · omega
theorem re_2 {P : Int → Prop} {a : Int} (ha : a < n) (h : 1 ≤ reE P n a - a) : P a := (reE_i (P := P) (n := n) (a := a) (by omega)).2.1 a (by omega) (by omega)
theorem tk_cod {a : Int} (ht : tpOk t n) (ha : 0 ≤ a) (h : ltP t n a) (h4 : reE (ltP t n) n a - a ≤ 4) : cfI t n a (reE (ltP t n) n a - a) = cod (coA t n a) := by
  have he := reE_i (P := ltP t n) (n := n) (a := a) (by have := h.1; omega)
  refine cf_cod (fun i x y => he.2.1 i x (by omega)) (Or.inl fun q => ?_) ha (by omega)
  rw [show a + (reE (ltP t n) n a - a) = reE (ltP t n) n a by omega] at q
  exact he.2.2 q.1 q
theorem ca_bad {tk te tv : Int} (ht : tpOk t n) (h : caI t n k j ne et) (ha : reE (wsP t) n k < n) (hx : tkR t n (reE (wsP t) n k) tk te tv) (hd : ¬ dfP j tk tv ne et) : rcE t n = reE (wsP t) n k := by
  obtain ⟨c, C, V, h1, h2, h3⟩ := h
  have hn2 := ht.2.1
  have hk := h2.1
  have hw := tk_ws (t := t) (n := n) (k := k) (by omega) ha
  have h4 := ri_ws (by omega) h1
  have hc0 := h2.2.1
  generalize reE (wsP t) n k = a at ha hx hw h4 ⊢
  refine ri_er h4 ha fun F C2 V2 hC => ?_
  by_cases j0 : j = 0
  · refine rc_0f (ws_0 ha hw.2) ha j0 rfl fun ⟨q1, q2⟩ => hd (Or.inl ?_)
    have l1 := re_2 ha q1.1
    rcases hx with ⟨x1, _⟩ | ⟨x1, x2, x3, x4⟩ | ⟨x1, _⟩ | ⟨_, x1, _⟩
    · omega
    · rw [x2, if_pos q1.2] at x3
      rw [x2, tk_cod ht (by omega) l1 q1.2] at x4
      have hj := (jn_r j).2.2.1 j0
      obtain ⟨e1, e2, e3⟩ := h3
      rw [hj, Int.add_zero] at e1 e2 e3
      have := hc0 j0
      have e4 := e2 (by omega)
      refine ⟨j0, x3, fun ⟨o, o1, o2, o3⟩ => q2 ⟨o, o1, by omega, ?_⟩⟩
      rw [e4.1 o o1 (by omega), x4] at o3
      have r1 := e3 o o1 (by omega)
      have r2 := coA_b t n a
      rw [← hC o o1 (by rw [if_pos j0]; omega)]
      exact (cod_inj (by omega) r2).mp o3
    · have l2 := l1.2; have := x1.2; omega
    · exact absurd l1 x1
  · by_cases j5 : j = 5
    · refine rc_5f (ws_0 ha hw.2) ha (by omega) fun q => hd (Or.inr (Or.inl ⟨j5, ?_⟩))
      rcases hx with ⟨x1, _⟩ | ⟨x1, _⟩ | ⟨x1, _⟩ | ⟨_, _, _, _, x1⟩
      · omega
      · have := x1.2; omega
      · have := x1.2; omega
      · rw [x1, if_pos q]
    · refine rc_nf (ws_0 ha hw.2) ha (by omega) rfl fun ⟨q1, q2⟩ => hd (Or.inr (Or.inr ⟨by omega, ?_⟩))
      have l1 := re_2 ha q1.1
      rcases hx with ⟨x1, _⟩ | ⟨x1, _⟩ | ⟨x1, x2, x3, x4⟩ | ⟨_, _, x1, _⟩
      · omega
      · have l2 := l1.2; have := x1.2; omega
      · rw [x2, if_pos q1.2] at x3
        rw [x2] at x4
        exact ⟨x3, by rw [x4]; exact q2⟩
      · exact absurd l1 x1
theorem ca_ok {tk te tv n9 : Int} {e9 : Int → Int → Int} (ht : tpOk t n) (h : caI t n k j ne et) (ha : reE (wsP t) n k < n) (hx : tkR t n (reE (wsP t) n k) tk te tv) (hd : dfP j tk tv ne et) (hn9 : n9 = if j = 0 then min 33 (ne + 1) else ne) (he9 : e9 = if j = 0 then tvU (tvY et ne) (min 33 (ne + 1) - 1) 4 tv else if j = 5 then et else tvU et (ne - 1) (j - 1) tv) : caI t n te (if j = 5 then 0 else j + 1) n9 e9 ∧ k < te ∧ te ≤ n := by
  obtain ⟨c, C, V, h1, h2, h3⟩ := h
  have hn2 := ht.2.1
  have hk := h2.1
  have hw := tk_ws (t := t) (n := n) (k := k) (by omega) ha
  have h4 := ri_ws (by omega) h1
  obtain ⟨-, b0, b1, b2⟩ := h2
  obtain ⟨e1, e2, e3⟩ := h3
  generalize reE (wsP t) n k = a at ha hx hw h4
  rcases hd with ⟨j0, d1, d2⟩ | ⟨j5, d1⟩ | ⟨j1, d1, d2⟩
  · have hj := (jn_r j).2.2.1 j0
    have hm := (jm_r j).1 j0
    have hb := b0 j0
    rw [hj, Int.add_zero] at e1 e2 e3
    rw [hm, Int.add_zero] at e2
    have e4 := e2 (by omega)
    rw [if_pos j0] at hn9 he9
    rw [if_neg (by omega), show j + 1 = 1 by omega]
    rcases hx with ⟨_, x1⟩ | ⟨x1, x2, x3, x4⟩ | ⟨_, _, x1, _⟩ | ⟨_, _, _, _, x1⟩
    · omega
    · have l1 := re_1 ha x1
      have l4 : te - a ≤ 4 := by
        by_cases q : te - a ≤ 4
        · exact q
        · rw [if_neg q] at x3; omega
      rw [x2] at l4
      rw [x2, tk_cod ht (by omega) x1 l4] at x4
      have r2 := coA_b t n a
      have r3 := coA_p x1
      rw [j0] at h4
      have h5 := ri_0t h4 hw.2 ha x2.symm (by rw [x2]; omega) hk.1 (fun o o1 o2 o3 => d2 ⟨o, o1, by omega, by rw [e4.1 o o1 o2, x4, o3]⟩)
      have jn1 : jn 1 = 1 := rfl
      have jm1 : jm 1 = 0 := rfl
      refine ⟨⟨c, _, V, h5, ⟨by omega, fun q => by omega, fun _ => by omega, fun q => by omega⟩, by rw [jn1]; omega, fun q => ?_, fun o o1 o2 => ?_⟩, by omega, by omega⟩
      · rw [jn1] at q
        rw [jn1, jm1, he9, show min 33 (ne + 1) - 1 = c by omega]
        refine ⟨fun o o1 o2 => ?_, fun o q o1 q1 q2 o2 => ?_⟩
        · unfold tvU tvY iup
          by_cases e : o = c
          · rw [if_pos ⟨e, rfl⟩, if_pos e]; exact x4
          · rw [if_neg (fun w => e w.1), if_neg e, if_neg (fun w => by have := w.2; omega)]
            exact e4.1 o o1 (by omega)
        · unfold tvU tvY
          rw [if_neg (fun w => by have := w.2; omega), if_neg (fun w => by have := w.2; omega)]
          exact e4.2 o q o1 q1 q2 (by omega)
      · rw [jn1] at o2
        unfold iup
        by_cases e : o = c
        · rw [if_pos e]; omega
        · rw [if_neg e]; exact e3 o o1 (by omega)
    · rw [d1] at x1; split at x1 <;> omega
    · rw [d1] at x1; split at x1 <;> omega
  · have jn5 : jn 5 = 1 := rfl
    have jm5 : jm 5 = 4 := rfl
    have jn0 : jn 0 = 0 := rfl
    have jm0 : jm 0 = 0 := rfl
    have hb := b2 (by omega)
    rw [if_pos j5]
    rw [if_neg (by omega)] at hn9 he9
    rw [if_pos j5] at he9
    rw [j5] at h4 e1 e2 e3 hb
    rw [jn5] at e1 e2 e3
    rw [jm5] at e2
    rcases hx with ⟨_, x1⟩ | ⟨_, _, x1, _⟩ | ⟨_, _, x1, _⟩ | ⟨x1, x2, x3, x4, x5⟩
    · omega
    · rw [d1] at x1; split at x1 <;> omega
    · rw [d1] at x1; split at x1 <;> omega
    · have s1 : t a = 59 := by
        by_cases q : t a = 59
        · exact q
        · rw [if_neg q] at x5; omega
      have h5 := ri_5t h4 hw.2 ha s1
      rw [← x4] at h5
      refine ⟨⟨c + 1, C, V, h5, ⟨by omega, fun _ => by omega, fun q => by omega, fun q => by omega⟩, by rw [jn0]; omega, fun q => ?_, fun o o1 o2 => e3 o o1 (by rw [jn0] at o2; omega)⟩, by omega, by omega⟩
      rw [jn0] at q
      rw [jn0, jm0, he9, show c + 1 + 0 = c + 1 by omega, show 4 * (c + 1) + 0 = 4 * c + 4 by omega]
      exact e2 (by omega)
  · have hj := (jn_r j).2.2.2 (by omega)
    have hm := (jm_r j).2 (by omega)
    have hj2 := (jn_r (j + 1)).2.2.2 (by omega)
    have hm2 := (jm_r (j + 1)).2 (by omega)
    rw [hj] at e1 e2 e3
    rw [hm] at e2
    rw [if_neg (by omega)]
    rw [if_neg (by omega)] at hn9 he9
    rw [if_neg (by omega)] at he9
    rcases hx with ⟨_, x1⟩ | ⟨_, _, x1, _⟩ | ⟨x1, x2, x3, x4⟩ | ⟨_, _, _, _, x1⟩
    · omega
    · rw [d1] at x1; split at x1 <;> omega
    · have l1 := re_1 ha x1
      have l4 : te - a ≤ 5 := by
        by_cases q : te - a ≤ 5
        · exact q
        · rw [if_neg q] at x3; omega
      rw [x4] at d2
      have h5 := ri_nt h4 hw.2 ha (by omega) x2.symm (by omega) d2
      rw [← x4] at h5
      have hkd : 2 ≤ j → k < a := fun q => by
        rcases Int.lt_or_le k a with w | w
        · exact w
        · exact absurd (by rw [show k = a by omega]; exact x1) (b2 q).2
      have hed : ¬ dgP t n te := fun q => by
        have := (reE_i (P := dgP t n) (n := n) (a := a) (by omega)).2.2
        rw [← x2] at this
        exact this q.1 q
      refine ⟨⟨c, C, _, h5, ⟨by omega, fun q => by omega, fun q => by omega, fun _ => ⟨?_, hed⟩⟩, by rw [hj2]; omega, fun q => ?_, fun o o1 o2 => e3 o o1 (by rw [hj2] at o2; exact o2)⟩, by omega, by omega⟩
      · by_cases q : 2 ≤ j
        · have := (b2 q).1; have := hkd q; omega
        · have := b1 (by omega); omega
      · rw [hj2] at q
        have e4 := e2 q
        rw [hj2, hm2, he9, show ne - 1 = c by omega, show 4 * c + (j + 1 - 1) = 4 * c + j by omega]
        refine ⟨fun o o1 o2 => ?_, fun o r o1 r1 r2 o2 => ?_⟩
        · unfold tvU
          rw [if_neg (fun w => by have := w.2; omega)]
          exact e4.1 o o1 o2
        · unfold tvU iup
          by_cases e : 4 * o + r = 4 * c + j - 1
          · rw [if_pos (by omega), if_pos e]
          · rw [if_neg (by omega), if_neg e]
            exact e4.2 o r o1 r1 r2 (by omega)
    · rw [d1] at x1; split at x1 <;> omega
theorem ca_he (ht : tpOk t n) (h : caI t n k j ne et) : (0 ≤ ne ∧ ne ≤ 33 ∧ (1 ≤ j → 1 ≤ ne)) ∧ (j = 0 → ∀ o, 0 ≤ o → o < ne → sR (et o 4)) := by
  obtain ⟨c, C, V, h1, h2, h3⟩ := h
  have hn2 := ht.2.1
  have hj := jn_r j
  have hk := h2.1
  have hb := h2.2.1
  obtain ⟨e1, e2, e3⟩ := h3
  refine ⟨⟨by omega, by omega, fun q => by have := hj.2.2.2 (by omega); omega⟩, fun q o a b => ?_⟩
  have h4 := hj.2.2.1 q
  have h5 := hb q
  rw [h4, Int.add_zero] at e1 e2 e3
  have h6 := (e2 (by omega)).1 o a (by omega)
  have h7 := e3 o a (by omega)
  have h8 := cod_r (v := C o) (by omega)
  rw [h6]
  exact ⟨by omega, by omega⟩
theorem tk_r {a tk te tv : Int} (ht : tpOk t n) (ha : 0 ≤ a) (h : tkR t n a tk te tv) : (0 ≤ tk ∧ tk ≤ 4) ∧ (tk = 1 ∨ tk = 2 → sR tv) ∧ (tk = 0 ↔ n ≤ a) := by
  rcases h with ⟨x1, x2⟩ | ⟨x1, x2, x3, x4⟩ | ⟨x1, x2, x3, x4⟩ | ⟨x0, _, _, _, x1⟩
  · exact ⟨by omega, fun q => by omega, by omega⟩
  · have h0 := x1.1
    by_cases q : te - a ≤ 4
    · rw [if_pos q] at x3
      rw [x2] at q
      have r := cod_r (coA_b t n a)
      rw [x2, tk_cod ht ha x1 q] at x4
      exact ⟨by omega, fun _ => ⟨by omega, by omega⟩, by omega⟩
    · rw [if_neg q] at x3
      exact ⟨by omega, fun q => by omega, by omega⟩
  · have h0 := x1.1
    by_cases q : te - a ≤ 5
    · rw [if_pos q] at x3
      have he := reE_i (P := dgP t n) (n := n) (a := a) (by omega)
      have r := dgV_5 (t := t) (n := n) (a := a) (m := te - a) (by omega) (fun i y z => he.2.1 i y (by omega))
      exact ⟨by omega, fun _ => ⟨by omega, by omega⟩, by omega⟩
    · rw [if_neg q] at x3
      exact ⟨by omega, fun q => by omega, by omega⟩
  · refine ⟨?_, fun q => ?_, ?_⟩ <;> (split at x1 <;> omega)
end CA

abbrev rmX1_errorOn : Room := { frames := 5, cells := 0, slots := 0, locals := 130 }
set_option maxHeartbeats 4000000 in
set_option maxRecDepth 100000 in
theorem kX1_errorOn (l_ : Launch) (G : sG) (b_ : Nat) (M : sM) (N : Nat) (q a : Nat) (wc tk ts te tv n e ne : Int) (et : Int → Int → Int) (t : sF) (hq0 : M q = some (sObj 0 [.ref (q + 1), .ref (q + 3), .int (sI wc), .int (sI tk), .int (sI ts), .int (sI te), .int (sI tv)])) (hu : stK G M (q + 1) 5 ne 165 et) (ht0 : M a = some (sObj 7 [.ref (a + 1), .int (sI n), .int (sI e)])) (ht1 : M (a + 1) = some (sArr G 300 t)) (ht : tpOk t n) (hne : a + 2 ≤ q ∨ q + 4 ≤ a) : cI l_ yX1_errorOn wsX1_errorOn rmX1_errorOn G b_ M N [.ref q, .ref a] (fun z_ M1 N1 => ∃ k9 : Int, ∃ s9 : Int, ∃ e9 : Int, ∃ v9 : Int, ∃ n9 : Int, ∃ r9 : Int → Int → Int, z_ = rcE t n ∧ N1 = N ∧ M1 q = some (sObj 0 [.ref (q + 1), .ref (q + 3), .int (sI wc), .int (sI k9), .int (sI s9), .int (sI e9), .int (sI v9)]) ∧ stK G M1 (q + 1) 5 n9 165 r9 ∧ (∀ x : Nat, ¬ (x = q) → ¬ (x = q + 1) → ¬ (x = q + 2) → M1 x = M x) ∧ (0 ≤ n9 ∧ n9 ≤ 33) ∧ (rcE t n = -1 → rcK t n = n9 ∧ enR n9 (4 * n9) r9 (rcC t n) (rcV t n))) := by
  refine sE.ofI (cc := cX1_errorOn) (nL := 4) (ret := (some .int)) (by decide) rfl (Nat.le_of_ble_eq_true rfl) ?_
  intro p_ e_ s_ m_ args_ below_ meth_ c_ ls Q hQ E hl
  have E : sE p_ l_ e_ rmX1_errorOn s_ m_ args_ below_ meth_ c_ cX1_errorOn 4 wsX1_errorOn RX1 "errorOn" (some .int) G b_ M N := E
  have S := E.1
  have hx_ := S.1
  have hb_ := S.2.1
  have hK := E.2.2.2.2.1
  have hV := E.2.2.2.2.2.2
  have hl : lv_has ls 4 [(0, .ref q), (1, .ref a)] := hl
  have inX1_ : ∀ w ∈ wsX10, w ∈ wsX1_errorOn := fun _ h => List.mem_cons_of_mem _ (List.mem_append_left _ (List.mem_append_left _ (List.mem_append_right _ h)))
  have inX8_ : ∀ w ∈ wsX80, w ∈ wsX1_errorOn := fun _ h => List.mem_cons_of_mem _ (List.mem_append_left _ (List.mem_append_right _ h))
  have inX9_ : ∀ w ∈ wsX90, w ∈ wsX1_errorOn := fun _ h => List.mem_cons_of_mem _ (List.mem_append_right _ h)
  have hn1 := ht.1
  have hn2 := ht.2.1
  refine lv_aload_n hx_ hb_ dX1_errorOn_0 rfl (lv_at hl 0 rfl) ?_
  refine sc_get (ci := 0) (C := RX1) (T := TX1) (n := 7) S hK hV inX1_ hq0 rfl 0 (by decide) (S.2.2.2.2 _ (List.mem_of_getElem? (i := 1) rfl)) rfl rfl dX1_errorOn_1 ?_
  refine sk_Vv E hV (As := []) (rest := []) (kTc l_ G b_ M N (q + 1) 5 ne 165 et hu) (cwV 0 S.2.2.2.2 gX1_errorOn_X8_clear rfl rfl rfl (by decide +kernel) ⟨Nat.le_of_ble_eq_true rfl, Nat.le_of_ble_eq_true rfl⟩) (ci := 6) (hu).1 rfl rfl rfl hl.1 (Nat.le_of_ble_eq_true rfl) dX1_errorOn_4 (c1 := 0) (s1 := 0) ⟨⟨rfl, rfl⟩, by decide, by decide⟩ (fun M1 N2 H locs hp3 hV => ?_)
  obtain ⟨hN5, hc6, hf7⟩ := hp3
  rw [hN5] at hV
  refine lv_aload_n hx_ hb_ dX1_errorOn_7 rfl (lv_at hl 0 rfl) ?_
  refine si_const S dX1_errorOn_8 ?_
  have hc8 : M1 q = some (sObj 0 [.ref (q + 1), .ref (q + 3), .int (sI wc), .int (sI tk), .int (sI ts), .int (sI te), .int (sI tv)]) := (hf7 q (by omega)).trans hq0
  refine sc_put (ci := 0) (C := RX1) (T := TX1) (n := 7) S hK hV inX1_ tyX1_ok nmX1 hc8 rfl 5 (by decide) (S.2.2.2.2 _ (List.mem_of_getElem? (i := 2) rfl)) rfl rfl rfl rfl (Nat.le_of_ble_eq_true rfl) dX1_errorOn_9 (fs1 := [.ref (q + 1), .ref (q + 3), .int (sI wc), .int (sI tk), .int (sI ts), .int (sI 0), .int (sI tv)]) rfl (fun M9 H locs hM9 hV => ?_)
  have hc10 : M9 q = some (sObj 0 [.ref (q + 1), .ref (q + 3), .int (sI wc), .int (sI tk), .int (sI ts), .int (sI 0), .int (sI tv)]) := (congrFun hM9 q).trans (va_up_self M1 q _)
  refine si_const S dX1_errorOn_12 ?_
  refine lv_istore_n (lv' := [(2, .int (sI 0)), (0, .ref q), (1, .ref a)]) hx_ hb_ dX1_errorOn_13 rfl hl (by decide) rfl (fun ls hl => ?_)
  refine si_const S dX1_errorOn_14 ?_
  refine lv_istore_n (lv' := [(3, .int (sI 0)), (2, .int (sI 0)), (0, .ref q), (1, .ref a)]) hx_ hb_ dX1_errorOn_15 rfl hl (by decide) rfl (fun ls hl => ?_)
  have L16 : ∀ (fuel : Nat) (j : Int) (st : Int) (tk2 : Int) (ts2 : Int) (te2 : Int) (tv2 : Int) (ne2 : Int) (et2 : Int → Int → Int) (Ml16 : sM) (H : Heap) (locs : List Loc) (ls : Array Slot), ((301 - st).toNat) < fuel → (0 ≤ st ∧ st ≤ te2 ∧ 0 ≤ te2 ∧ te2 ≤ n ∧ 0 ≤ j ∧ j ≤ 5) → (caI t n te2 j ne2 et2) → (Ml16 q = some (sObj 0 [.ref (q + 1), .ref (q + 3), .int (sI wc), .int (sI tk2), .int (sI ts2), .int (sI te2), .int (sI tv2)])) → (stK G Ml16 (q + 1) 5 ne2 165 et2) → (∀ x : Nat, ¬ (x = q) → ¬ (q + 1 ≤ x ∧ x < q + 1 + 2) → Ml16 x = M9 x) → sV G b_ Ml16 N s_ H locs → lv_has ls 4 [(0, .ref q), (1, .ref a), (2, .int (sI j)), (3, .int (sI st))] → W p_ l_ e_ rmX1_errorOn s_ m_ args_ below_ meth_ c_ H locs 0 0 Q (F0 m_ 16 ls []) := by
    intro fuel
    induction fuel with
    | zero => intro j st tk2 ts2 te2 tv2 ne2 et2 Ml16 H locs ls hmu; exact absurd hmu (Nat.not_lt_zero _)
    | succ fuel ih16 =>
      intro j st tk2 ts2 te2 tv2 ne2 et2 Ml16 H locs ls hmu16 hv16_0 hI hm16_0 hm16_1 hfr16 hV hl
      refine lv_iload_n hx_ hb_ dX1_errorOn_16 rfl (lv_at hl 3 rfl) ?_
      refine si_sipush S dX1_errorOn_17 (by decide) ?_
      refine sb_gt (tgt := 85) S dX1_errorOn_20 (by decide) (by omega) (fun c11 => absurd c11 (by omega)) (fun _ => ?_)
      refine lv_aload_n hx_ hb_ dX1_errorOn_23 rfl (lv_at hl 0 rfl) ?_
      refine lv_aload_n hx_ hb_ dX1_errorOn_24 rfl (lv_at hl 1 rfl) ?_
      have hc12 : Ml16 a = some (sObj 7 [.ref (a + 1), .int (sI n), .int (sI e)]) := (((hfr16 a (by omega) (by omega)).trans ((congrFun hM9 a).trans (va_up_ne M1 _ (by omega)))).trans (hf7 a (by omega))).trans ht0
      have hc13 : Ml16 (a + 1) = some (sArr G 300 t) := (((hfr16 (a + 1) (by omega) (by omega)).trans ((congrFun hM9 (a + 1)).trans (va_up_ne M1 _ (by omega)))).trans (hf7 (a + 1) (by omega))).trans ht1
      refine sk_Vv E hV (As := [.ref a]) (rest := []) (kX1_readToken l_ G b_ Ml16 N q a wc tk2 ts2 te2 tv2 n e t hm16_0 hc12 hc13 (ht) (by omega) (by omega)) (cwV 1 S.2.2.2.2 gX1_errorOn_X1_readToken rfl rfl rfl (by decide +kernel) ⟨Nat.le_of_ble_eq_true rfl, Nat.le_of_ble_eq_true rfl⟩) (ci := 0) hm16_0 rfl rfl rfl hl.1 (Nat.le_of_ble_eq_true rfl) dX1_errorOn_25 (c1 := 0) (s1 := 0) ⟨⟨rfl, rfl⟩, by decide, by decide⟩ (fun M14 N15 H locs hp16 hV => ?_)
      obtain ⟨tk918, te919, tv920, hN21, hc22, hf23, htk24⟩ := hp16
      rw [hN21] at hV
      have htr := tk_r ht (by have := reE_i (P := wsP t) (n := n) (a := te2) (by omega); omega) htk24
      have hws := (reE_i (P := wsP t) (n := n) (a := te2) (by omega)).1
      have hhe := ca_he ht hI
      refine lv_aload_n hx_ hb_ dX1_errorOn_28 rfl (lv_at hl 0 rfl) ?_
      refine sc_get (ci := 0) (C := RX1) (T := TX1) (n := 7) S hK hV inX1_ hc22 rfl 3 (by decide) (S.2.2.2.2 _ (List.mem_of_getElem? (i := 3) rfl)) rfl rfl dX1_errorOn_29 ?_
      refine sz_ne (tgt := 48) S dX1_errorOn_32 (by decide) (by omega) (fun c25 => ?_) (fun c25 => ?_)
      · refine lv_aload_n hx_ hb_ dX1_errorOn_48 rfl (lv_at hl 0 rfl) ?_
        refine lv_iload_n hx_ hb_ dX1_errorOn_49 rfl (lv_at hl 2 rfl) ?_
        have hc26 : stK G M14 (q + 1) 5 ne2 165 et2 := hm16_1.fr (fun x q8 q9 => hf23 x (by omega))
        refine sk_VP E hV (As := [.int (sI j)]) (rest := []) (kX1_doesFit l_ G b_ M14 N q wc tk918 (reE (wsP t) n te2) te919 tv920 ne2 et2 j hc22 hc26 (⟨by omega, by omega, ⟨by omega, by omega⟩⟩) (htr.2.1) (by omega) (hhe.2)) (cwV 1 S.2.2.2.2 gX1_errorOn_X1_doesFit rfl rfl rfl (by decide +kernel) ⟨Nat.le_of_ble_eq_true rfl, Nat.le_of_ble_eq_true rfl⟩) (ci := 0) hc22 rfl rfl rfl hl.1 (Nat.le_of_ble_eq_true rfl) dX1_errorOn_50 (c1 := 0) (s1 := 0) ⟨⟨rfl, rfl⟩, by decide, by decide⟩ (fun H locs hV => ?_)
        refine sq_ne (tgt := 61) S dX1_errorOn_53 (by decide) (fun h53 => ?_) (fun h53 => ?_)
        · refine lv_aload_n hx_ hb_ dX1_errorOn_61 rfl (lv_at hl 0 rfl) ?_
          refine lv_iload_n hx_ hb_ dX1_errorOn_62 rfl (lv_at hl 2 rfl) ?_
          refine sk_Vv E hV (As := [.int (sI j)]) (rest := []) (kX1_takeToken l_ G b_ M14 N q wc tk918 (reE (wsP t) n te2) te919 tv920 ne2 et2 j hc22 hc26 (by omega) (by omega)) (cwV 1 S.2.2.2.2 gX1_errorOn_X1_takeToken rfl rfl rfl (by decide +kernel) ⟨Nat.le_of_ble_eq_true rfl, Nat.le_of_ble_eq_true rfl⟩) (ci := 0) hc22 rfl rfl rfl hl.1 (Nat.le_of_ble_eq_true rfl) dX1_errorOn_63 (c1 := 0) (s1 := 0) ⟨⟨rfl, rfl⟩, by decide, by decide⟩ (fun M27 N28 H locs hp29 hV => ?_)
          obtain ⟨n931, e932, hN33, hc34, hf35, hn936, he937⟩ := hp29
          rw [hN33] at hV
          have hok9 := ca_ok ht hI (by omega) htk24 h53 hn936 he937
          refine lv_iload_n hx_ hb_ dX1_errorOn_66 rfl (lv_at hl 2 rfl) ?_
          refine si_const S dX1_errorOn_67 ?_
          refine sb_ne (tgt := 75) S dX1_errorOn_68 (by decide) (by omega) (fun c38 => ?_) (fun c38 => ?_)
          · refine lv_iload_n hx_ hb_ dX1_errorOn_75 rfl (lv_at hl 2 rfl) ?_
            refine si_const S dX1_errorOn_76 ?_
            refine si_add S dX1_errorOn_77 ?_
            refine lv_istore_n (lv' := [(2, .int (sI (j + 1))), (0, .ref q), (1, .ref a), (3, .int (sI st))]) hx_ hb_ dX1_errorOn_78 rfl hl (by decide) rfl (fun ls hl => ?_)
            refine si_inc (lv' := [(3, .int (sI (st + 1))), (2, .int (sI (j + 1))), (0, .ref q), (1, .ref a)]) S dX1_errorOn_79 hl (k := 3) rfl (by decide) rfl (fun ls hl => ?_)
            refine lv_goto (tgt := 16) hx_ hb_ dX1_errorOn_82 (by decide) ?_
            have hc39 : M27 q = some (sObj 0 [.ref (q + 1), .ref (q + 3), .int (sI wc), .int (sI tk918), .int (sI (reE (wsP t) n te2)), .int (sI te919), .int (sI tv920)]) := (hf35 q (by omega) (by omega)).trans hc22
            exact ih16 (j + 1) (st + 1) tk918 (reE (wsP t) n te2) te919 tv920 n931 e932 M27 _ _ _ (by omega) (by omega) (by have h9 := hok9.1; rw [if_neg (by omega)] at h9; exact h9) hc39 hc34 (fun x q0 q1 => ((hf35 x (by omega) (by omega)).trans (hf23 x (by omega))).trans (hfr16 x (by omega) (by omega))) hV (lv_sub hl [2, 3, 1, 0] rfl)
          · refine si_const S dX1_errorOn_71 ?_
            refine lv_goto (tgt := 78) hx_ hb_ dX1_errorOn_72 (by decide) ?_
            refine lv_istore_n (lv' := [(2, .int (sI 0)), (0, .ref q), (1, .ref a), (3, .int (sI st))]) hx_ hb_ dX1_errorOn_78 rfl hl (by decide) rfl (fun ls hl => ?_)
            refine si_inc (lv' := [(3, .int (sI (st + 1))), (2, .int (sI 0)), (0, .ref q), (1, .ref a)]) S dX1_errorOn_79 hl (k := 3) rfl (by decide) rfl (fun ls hl => ?_)
            refine lv_goto (tgt := 16) hx_ hb_ dX1_errorOn_82 (by decide) ?_
            have hc40 : M27 q = some (sObj 0 [.ref (q + 1), .ref (q + 3), .int (sI wc), .int (sI tk918), .int (sI (reE (wsP t) n te2)), .int (sI te919), .int (sI tv920)]) := (hf35 q (by omega) (by omega)).trans hc22
            exact ih16 0 (st + 1) tk918 (reE (wsP t) n te2) te919 tv920 n931 e932 M27 _ _ _ (by omega) (by omega) (by have h9 := hok9.1; rw [if_pos (by omega)] at h9; exact h9) hc40 hc34 (fun x q0 q1 => ((hf35 x (by omega) (by omega)).trans (hf23 x (by omega))).trans (hfr16 x (by omega) (by omega))) hV (lv_sub hl [2, 3, 1, 0] rfl)
        · refine lv_aload_n hx_ hb_ dX1_errorOn_56 rfl (lv_at hl 0 rfl) ?_
          refine sc_get (ci := 0) (C := RX1) (T := TX1) (n := 7) S hK hV inX1_ hc22 rfl 4 (by decide) (S.2.2.2.2 _ (List.mem_of_getElem? (i := 4) rfl)) rfl rfl dX1_errorOn_57 ?_
          exact sr_i E hQ dX1_errorOn_60 ⟨Nat.le_of_ble_eq_true rfl, Nat.le_of_ble_eq_true rfl⟩ hV (⟨tk918, (reE (wsP t) n te2), te919, tv920, ne2, et2, (ca_bad ht hI (by omega) htk24 h53).symm, rfl, hc22, hc26, fun x q0 q1 q2 => (((hf23 x (by omega)).trans (hfr16 x (by omega) (by omega))).trans ((congrFun hM9 x).trans (va_up_ne M1 _ (by omega)))).trans (hf7 x (by omega)), ⟨hhe.1.1, hhe.1.2.1⟩, fun q => by have h9 := ca_bad ht hI (by omega) htk24 h53; omega⟩)
      · refine lv_iload_n hx_ hb_ dX1_errorOn_35 rfl (lv_at hl 2 rfl) ?_
        refine sz_ne (tgt := 43) S dX1_errorOn_36 (by decide) (by omega) (fun c41 => ?_) (fun c41 => ?_)
        · refine lv_aload_n hx_ hb_ dX1_errorOn_43 rfl (lv_at hl 1 rfl) ?_
          have hc42 : M14 a = some (sObj 7 [.ref (a + 1), .int (sI n), .int (sI e)]) := (hf23 a (by omega)).trans hc12
          refine sk_VP E hV (As := []) (rest := []) (kX9_length l_ G b_ M14 N a n e hc42) (cwV 0 S.2.2.2.2 gX1_errorOn_X9_length rfl rfl rfl (by decide +kernel) ⟨Nat.le_of_ble_eq_true rfl, Nat.le_of_ble_eq_true rfl⟩) (ci := 7) hc42 rfl rfl rfl hl.1 (Nat.le_of_ble_eq_true rfl) dX1_errorOn_44 (c1 := 0) (s1 := 0) ⟨⟨rfl, rfl⟩, by decide, by decide⟩ (fun H locs hV => ?_)
          have hc43 : stK G M14 (q + 1) 5 ne2 165 et2 := hm16_1.fr (fun x q8 q9 => hf23 x (by omega))
          exact sr_i E hQ dX1_errorOn_47 ⟨Nat.le_of_ble_eq_true rfl, Nat.le_of_ble_eq_true rfl⟩ hV (⟨tk918, (reE (wsP t) n te2), te919, tv920, ne2, et2, by rw [(ca_end ht hI (by omega)).1, if_neg (by omega)], rfl, hc22, hc43, fun x q0 q1 q2 => (((hf23 x (by omega)).trans (hfr16 x (by omega) (by omega))).trans ((congrFun hM9 x).trans (va_up_ne M1 _ (by omega)))).trans (hf7 x (by omega)), ⟨hhe.1.1, hhe.1.2.1⟩, fun q => by have h8 := ca_end ht hI (by omega); have h9 := h8.1; rw [q] at h9; have h7 := h8.2 (by by_cases q9 : j = 0; exact q9; rw [if_neg q9] at h9; omega); exact ⟨h7.1, h7.2.2⟩⟩)
        · refine si_const S dX1_errorOn_39 ?_
          refine lv_goto (tgt := 47) hx_ hb_ dX1_errorOn_40 (by decide) ?_
          have hc44 : stK G M14 (q + 1) 5 ne2 165 et2 := hm16_1.fr (fun x q8 q9 => hf23 x (by omega))
          exact sr_i E hQ dX1_errorOn_47 ⟨Nat.le_of_ble_eq_true rfl, Nat.le_of_ble_eq_true rfl⟩ hV (⟨tk918, (reE (wsP t) n te2), te919, tv920, ne2, et2, by rw [(ca_end ht hI (by omega)).1, if_pos (by omega)], rfl, hc22, hc44, fun x q0 q1 q2 => (((hf23 x (by omega)).trans (hfr16 x (by omega) (by omega))).trans ((congrFun hM9 x).trans (va_up_ne M1 _ (by omega)))).trans (hf7 x (by omega)), ⟨hhe.1.1, hhe.1.2.1⟩, fun q => by have h8 := ca_end ht hI (by omega); have h9 := h8.1; rw [q] at h9; have h7 := h8.2 (by by_cases q9 : j = 0; exact q9; rw [if_neg q9] at h9; omega); exact ⟨h7.1, h7.2.2⟩⟩)
  have hc45 : stK G M9 (q + 1) 5 0 165 et := hc6.fr (fun x q8 q9 => (congrFun hM9 x).trans (va_up_ne M1 _ (by omega)))
  exact L16 _ 0 0 tk ts 0 tv 0 et M9 _ _ _ (Nat.lt_succ_self _) (by omega) (ca_0 ht et) hc10 hc45 (fun x q0 q1 => rfl) hV (lv_sub hl [2, 3, 1, 0] rfl)
