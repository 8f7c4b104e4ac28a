/-! A stone raised to an entry. -/
def rwT (tv : Int → Int → Int) (s : Int) (et : Int → Int → Int) (e : Int) : Nat → Int → Int → Int
  | 0 => tv
  | j + 1 => tvU (rwT tv s et e j) s (j : Int) (max (tv s (j : Int)) (et e (j : Int)))
theorem rwT_s (tv : Int → Int → Int) (s : Int) (et : Int → Int → Int) (e : Int) {j : Int} (h : 0 ≤ j) : rwT tv s et e (j + 1).toNat = tvU (rwT tv s et e j.toNat) s j (max (tv s j) (et e j)) := by
  rw [show (j + 1).toNat = j.toNat + 1 by omega]
  show tvU (rwT tv s et e j.toNat) s ((j.toNat : Nat) : Int) (max (tv s ((j.toNat : Nat) : Int)) (et e ((j.toNat : Nat) : Int))) = _
  rw [show ((j.toNat : Nat) : Int) = j by omega]
theorem rwT_o {tv et : Int → Int → Int} {s e : Int} : ∀ (k : Nat) (i j : Int), (k : Int) ≤ j ∨ i ≠ s → rwT tv s et e k i j = tv i j := by
  intro k
  induction k with
  | zero => intro i j _; rfl
  | succ k ih =>
    intro i j h
    show tvU (rwT tv s et e k) s (k : Int) _ i j = tv i j
    unfold tvU
    rw [if_neg (fun w => by rcases h with h | h; (have := w.2; omega); exact h w.1)]
    exact ih i j (by rcases h with h | h; (exact Or.inl (by omega)); exact Or.inr h)
theorem rwT_v {tv et : Int → Int → Int} {s e : Int} : ∀ (k : Nat) (j : Int), 0 ≤ j → j < (k : Int) → rwT tv s et e k s j = max (tv s j) (et e j) := by
  intro k
  induction k with
  | zero => intro j a b; omega
  | succ k ih =>
    intro j a b
    show tvU (rwT tv s et e k) s (k : Int) _ s j = _
    unfold tvU
    by_cases q : j = (k : Int)
    · rw [if_pos ⟨rfl, q⟩, q]
    · rw [if_neg (fun w => q w.2)]
      exact ih j a (by omega)
theorem rwT_ra {f V : sF} {s e : Int} {et : Int → Int → Int} (hn : 0 ≤ f 568 ∧ f 568 ≤ 10) (hs : 0 ≤ s ∧ s < f 568) (hV : ∀ r, 0 ≤ r → r < 4 → et e r = V (4 * e + r)) (i j : Int) (hi : 0 ≤ i ∧ i < f 568) (hj : 0 ≤ j ∧ j < 4) : rwT (tvS f) s et e 4 i j = tvS (raN f V e s 4) i j := by
  rw [tvS_v _ i j (by omega)]
  by_cases q : i = s
  · rw [q, rwT_v 4 j hj.1 hj.2, ra_v hj.1 4 hj.2, tvS_v _ s j (by omega), hV j hj.1 hj.2]
  · rw [rwT_o 4 i j (Or.inr q), tvS_v _ i j (by omega), ra_o 4 (fun x a b => by omega)]

abbrev rmX1_raise : Room := { frames := 2, cells := 0, slots := 0, locals := 63 }
set_option maxHeartbeats 4000000 in
set_option maxRecDepth 100000 in
theorem kX1_raise (l_ : Launch) (G : sG) (b_ : Nat) (M : sM) (N : Nat) (q t : Nat) (wc tk ts te tv ne s en r : Int) (et zv : Int → Int → Int) (hq0 : M q = some (sObj 0 [.ref (q + 1), .ref (q + 3), .int (sI wc), .int (sI tk), .int (sI ts), .int (sI te), .int (sI tv)])) (hu : stK G M (q + 1) 5 ne 165 et) (ht : stK G M t 7 r 70 zv) (hne : t + 2 ≤ q ∨ q + 4 ≤ t) (hn : (0 ≤ ne ∧ ne ≤ 33) ∧ 0 ≤ r ∧ r ≤ 10) (hs : (0 ≤ s ∧ s < r) ∧ 0 ≤ en ∧ en < ne) (hr1 : ∀ j, 0 ≤ j → j < 4 → sR (zv s j) ∧ sR (et en j)) : cV l_ yX1_raise wsX1_raise rmX1_raise G b_ M N [.ref q, .ref t, .int (sI s), .int (sI en)] (fun M1 N1 => N1 = N ∧ stK G M1 t 7 r 70 (rwT zv s et en 4) ∧ (∀ x : Nat, ¬ (x = t) → ¬ (x = t + 1) → M1 x = M x)) := by
  refine sE.ofV (cc := cX1_raise) (nL := 5) (ret := none) (by decide) rfl (Nat.le_of_ble_eq_true rfl) ?_
  intro p_ e_ s_ m_ args_ below_ meth_ c_ ls Q hQ E hl
  have E : sE p_ l_ e_ rmX1_raise s_ m_ args_ below_ meth_ c_ cX1_raise 5 wsX1_raise RX1 "raise" none G b_ M N := E
  have S := E.1
  have hx_ := S.1
  have hb_ := S.2.1
  have hK := E.2.2.2.2.1
  have hV := E.2.2.2.2.2.2
  have hl : lv_has ls 5 [(0, .ref q), (1, .ref t), (2, .int (sI s)), (3, .int (sI en))] := hl
  have inX1_ : ∀ w ∈ wsX10, w ∈ wsX1_raise := fun _ h => List.mem_cons_of_mem _ (List.mem_append_left _ (List.mem_append_right _ h))
  have inX8_ : ∀ w ∈ wsX80, w ∈ wsX1_raise := fun _ h => List.mem_cons_of_mem _ (List.mem_append_right _ h)
  refine si_const S dX1_raise_0 ?_
  refine lv_istore (lv' := [(4, .int (sI 0)), (0, .ref q), (1, .ref t), (2, .int (sI s)), (3, .int (sI en))]) hx_ hb_ dX1_raise_1 hl (by decide) rfl (fun ls hl => ?_)
  have L3 : ∀ (fuel : Nat) (j : Int) (tv2 : Int → Int → Int) (Ml3 : sM) (H : Heap) (locs : List Loc) (ls : Array Slot), ((4 - j).toNat) < fuel → (0 ≤ j ∧ j ≤ 4) → (tv2 = rwT zv s et en j.toNat) → (stK G Ml3 t 7 r 70 tv2) → (∀ x : Nat, ¬ (t ≤ x ∧ x < t + 2) → Ml3 x = M x) → sV G b_ Ml3 N s_ H locs → lv_has ls 5 [(0, .ref q), (1, .ref t), (2, .int (sI s)), (3, .int (sI en)), (4, .int (sI j))] → W p_ l_ e_ rmX1_raise s_ m_ args_ below_ meth_ c_ H locs 0 0 Q (F0 m_ 3 ls []) := by
    intro fuel
    induction fuel with
    | zero => intro j tv2 Ml3 H locs ls hmu; exact absurd hmu (Nat.not_lt_zero _)
    | succ fuel ih3 =>
      intro j tv2 Ml3 H locs ls hmu3 hv3_0 hg hm3_0 hfr3 hV hl
      have hgj : ∀ x, tv2 s x = rwT zv s et en j.toNat s x := fun x => by rw [hg]
      refine lv_iload hx_ hb_ dX1_raise_3 (lv_at hl 4 rfl) ?_
      refine si_const S dX1_raise_5 ?_
      refine sb_gt (tgt := 42) S dX1_raise_6 (by decide) (by omega) (fun c1 => ?_) (fun c1 => ?_)
      · exact sr_v E hQ dX1_raise_42 ⟨Nat.le_of_ble_eq_true rfl, Nat.le_of_ble_eq_true rfl⟩ hV (⟨rfl, by rw [show (4 : Nat) = j.toNat by omega, ← hg]; exact hm3_0, fun x q0 q1 => hfr3 x (by omega)⟩)
      · refine lv_aload_n hx_ hb_ dX1_raise_9 rfl (lv_at hl 1 rfl) ?_
        refine lv_iload_n hx_ hb_ dX1_raise_10 rfl (lv_at hl 2 rfl) ?_
        refine lv_iload hx_ hb_ dX1_raise_11 (lv_at hl 4 rfl) ?_
        refine lv_aload_n hx_ hb_ dX1_raise_13 rfl (lv_at hl 1 rfl) ?_
        refine lv_iload_n hx_ hb_ dX1_raise_14 rfl (lv_at hl 2 rfl) ?_
        refine lv_iload hx_ hb_ dX1_raise_15 (lv_at hl 4 rfl) ?_
        refine sk_VP E hV (As := [.int (sI s), .int (sI j)]) (rest := [.int (sI j), .int (sI s), .ref t]) (kTg l_ G b_ Ml3 N t 7 r 70 tv2 s j (tv2 s j) hm3_0 (by omega) (by omega) (rfl)) (cwV 2 S.2.2.2.2 gX1_raise_X8_get rfl rfl rfl (by decide +kernel) ⟨Nat.le_of_ble_eq_true rfl, Nat.le_of_ble_eq_true rfl⟩) (ci := 6) (hm3_0).1 rfl rfl rfl hl.1 (Nat.le_of_ble_eq_true rfl) dX1_raise_17 (c1 := 0) (s1 := 0) ⟨⟨rfl, rfl⟩, by decide, by decide⟩ (fun H locs hV => ?_)
        refine lv_aload_n hx_ hb_ dX1_raise_20 rfl (lv_at hl 0 rfl) ?_
        have hc2 : Ml3 q = some (sObj 0 [.ref (q + 1), .ref (q + 3), .int (sI wc), .int (sI tk), .int (sI ts), .int (sI te), .int (sI tv)]) := (hfr3 q (by omega)).trans hq0
        refine sc_get (ci := 0) (C := RX1) (T := TX1) (n := 7) S hK hV inX1_ hc2 rfl 0 (by decide) (S.2.2.2.2 _ (List.mem_of_getElem? (i := 1) rfl)) rfl rfl dX1_raise_21 ?_
        refine lv_iload_n hx_ hb_ dX1_raise_24 rfl (lv_at hl 3 rfl) ?_
        refine lv_iload hx_ hb_ dX1_raise_25 (lv_at hl 4 rfl) ?_
        have hc3 : stK G Ml3 (q + 1) 5 ne 165 et := hu.fr (fun x q8 q9 => hfr3 x (by omega))
        refine sk_VP E hV (As := [.int (sI en), .int (sI j)]) (rest := [.int (sI (tv2 s j)), .int (sI j), .int (sI s), .ref t]) (kTg l_ G b_ Ml3 N (q + 1) 5 ne 165 et en j (et en j) hc3 (by omega) (by omega) (rfl)) (cwV 2 S.2.2.2.2 gX1_raise_X8_get rfl rfl rfl (by decide +kernel) ⟨Nat.le_of_ble_eq_true rfl, Nat.le_of_ble_eq_true rfl⟩) (ci := 6) (hc3).1 rfl rfl rfl hl.1 (Nat.le_of_ble_eq_true rfl) dX1_raise_27 (c1 := 0) (s1 := 0) ⟨⟨rfl, rfl⟩, by decide, by decide⟩ (fun H locs hV => ?_)
        have hrj := hr1 j (by omega) (by omega)
        rw [show tv2 s j = zv s j by rw [hgj j]; exact rwT_o j.toNat s j (Or.inl (by omega))]
        refine si_max S hl.1 (S.2.2.2.2 _ (List.mem_of_getElem? (i := 2) rfl)) (S.2.2.2.2 _ (List.mem_of_getElem? (i := 3) rfl)) (S.2.2.2.2 _ (List.mem_of_getElem? (i := 4) rfl)) (S.2.2.2.2 _ (List.mem_of_getElem? (i := 5) rfl)) ⟨by decide, Nat.le_of_ble_eq_true rfl, by decide, by decide⟩ (by omega) dX1_raise_30 ?_
        refine sk_Vv E hV (As := [.int (sI s), .int (sI j), .int (sI (max (zv s j) (et en j)))]) (rest := []) (kTw l_ G b_ Ml3 N t 7 r 70 tv2 s j (max (zv s j) (et en j)) hm3_0 (by omega) (by omega)) (cwV 3 S.2.2.2.2 gX1_raise_X8_set rfl rfl rfl (by decide +kernel) ⟨Nat.le_of_ble_eq_true rfl, Nat.le_of_ble_eq_true rfl⟩) (ci := 6) (hm3_0).1 rfl rfl rfl hl.1 (Nat.le_of_ble_eq_true rfl) dX1_raise_33 (c1 := 0) (s1 := 0) ⟨⟨rfl, rfl⟩, by decide, by decide⟩ (fun M4 N5 H locs hp6 hV => ?_)
        obtain ⟨hN8, hc9, hf10⟩ := hp6
        rw [hN8] at hV
        refine si_inc (lv' := [(4, .int (sI (j + 1))), (0, .ref q), (1, .ref t), (2, .int (sI s)), (3, .int (sI en))]) S dX1_raise_36 hl (k := 4) rfl (by decide) rfl (fun ls hl => ?_)
        refine lv_goto (tgt := 3) hx_ hb_ dX1_raise_39 (by decide) ?_
        exact ih3 (j + 1) (tvU tv2 s j (max (zv s j) (et en j))) M4 _ _ _ (by omega) (by omega) (by rw [rwT_s _ _ _ _ (by omega), ← hg]) hc9 (fun x q0 => (hf10 x (by omega)).trans (hfr3 x (by omega))) hV (lv_sub hl [1, 2, 3, 4, 0] rfl)
  exact L3 _ 0 zv M _ _ _ (Nat.lt_succ_self _) (by omega) (rfl) ht (fun x q0 => rfl) hV (lv_sub hl [1, 2, 3, 4, 0] rfl)
