theorem isum_ge {n : Int} {g : Int → Int} (h : ∀ k, 0 ≤ k → k < n → 0 ≤ g k) (i : Int) (hi : 0 ≤ i ∧ i < n) : g i ≤ isum n g := by
  have key : ∀ m : Nat, (m : Int) ≤ n → 0 ≤ isum (m : Int) g ∧ (i < (m : Int) → g i ≤ isum (m : Int) g) := by
    intro m
    induction m with
    | zero => intro _; exact ⟨Int.le_refl _, fun q => by omega⟩
    | succ m ih =>
      intro hm
      have h1 := ih (by omega)
      have h2 := h (m : Int) (by omega) (by omega)
      rw [show ((m + 1 : Nat) : Int) = (m : Int) + 1 by omega, isum_s _ (by omega)]
      refine ⟨by omega, fun q => ?_⟩
      by_cases e : i = (m : Int)
      · rw [e]; omega
      · have := h1.2 (by omega); omega
  have := (key n.toNat (by omega)).2 (by omega)
  rw [show ((n.toNat : Nat) : Int) = n by omega] at this
  exact this
theorem isum_up {n : Int} {g g' : Int → Int} (h : ∀ k, 0 ≤ k → k < n → g k ≤ g' k) (i : Int) (hi : 0 ≤ i ∧ i < n) (h2 : g i + 1 ≤ g' i) : isum n g + 1 ≤ isum n g' := by
  have h3 := isum_ge (g := fun k => g' k - g k) (fun k a b => by have := h k a b; show 0 ≤ g' k - g k; omega) i hi
  have h4 := isum_add (n := n) g (fun k => g' k - g k)
  have h5 : isum n (fun k => g k + (g' k - g k)) = isum n g' := isum_c fun k _ _ => by show g k + (g' k - g k) = g' k; omega
  omega
/-- a row of days cut into stretches on which h is one -/
def segP (h : Int → Int) (c : Int) (D : Int → Int) : Prop := 1 ≤ c ∧ D 0 = -1 ∧ (∀ j, 0 ≤ j → j + 1 < c → D j < D (j + 1) ∧ h (D j) ≠ h (D (j + 1)) ∧ ∀ x, D j ≤ x → x < D (j + 1) → h x = h (D j)) ∧ (∀ x, D (c - 1) ≤ x → h x = h (D (c - 1)))
theorem segP_u {h : Int → Int} {c c2 : Int} {D D2 : Int → Int} (h1 : segP h c D) (h2 : segP h c2 D2) : c = c2 ∧ ∀ j, 0 ≤ j → j < c → D j = D2 j := by
  obtain ⟨a1, a2, a3, a4⟩ := h1
  obtain ⟨b1, b2, b3, b4⟩ := h2
  have key : ∀ m : Nat, ((m : Int) < c ↔ (m : Int) < c2) ∧ ((m : Int) < c → D (m : Int) = D2 (m : Int)) := by
    intro m
    induction m with
    | zero => exact ⟨by omega, fun _ => by rw [show ((0 : Nat) : Int) = 0 from rfl, a2, b2]⟩
    | succ m ih =>
      rw [show ((m + 1 : Nat) : Int) = (m : Int) + 1 by omega]
      by_cases q1 : (m : Int) + 1 < c
      · have e := ih.2 (by omega)
        have p1 := a3 (m : Int) (by omega) q1
        by_cases q2 : (m : Int) + 1 < c2
        · have p2 := b3 (m : Int) (by omega) q2
          refine ⟨⟨fun _ => q2, fun _ => q1⟩, fun _ => ?_⟩
          rcases Int.lt_trichotomy (D ((m : Int) + 1)) (D2 ((m : Int) + 1)) with r | r | r
          · exact absurd (by rw [p2.2.2 (D ((m : Int) + 1)) (by omega) r, e]) p1.2.1
          · exact r
          · exact absurd (by rw [p1.2.2 (D2 ((m : Int) + 1)) (by omega) r, e]) p2.2.1
        · have q3 : c2 - 1 = (m : Int) := by have := ih.1.mp (by omega); omega
          have p2 := b4 (D ((m : Int) + 1)) (by rw [q3]; omega)
          rw [q3] at p2
          exact absurd (by rw [p2, e]) p1.2.1
      · refine ⟨⟨fun q => absurd q q1, fun q2 => ?_⟩, fun q => absurd q q1⟩
        have q4 : (m : Int) < c := ih.1.mpr (by omega)
        have e := ih.2 q4
        have p2 := b3 (m : Int) (by omega) q2
        have q3 : c - 1 = (m : Int) := by omega
        have p1 := a4 (D2 ((m : Int) + 1)) (by rw [q3]; omega)
        rw [q3] at p1
        exact absurd (by rw [p1, e]) p2.2.1
  have k1 := (key (c.toNat)).1
  have k2 := (key (c2.toNat)).1
  refine ⟨by omega, fun j u v => ?_⟩
  have := (key j.toNat).2
  rw [show ((j.toNat : Nat) : Int) = j by omega] at this
  exact this v
noncomputable def segC (h : Int → Int) : Int := @dite Int (∃ c D, segP h c D) (Classical.propDecidable _) (fun q => q.choose) (fun _ => 0)
noncomputable def segD (h : Int → Int) : Int → Int := @dite (Int → Int) (∃ c D, segP h c D) (Classical.propDecidable _) (fun q => q.choose_spec.choose) (fun _ => fun _ => 0)
theorem seg_eq {h : Int → Int} {c : Int} {D : Int → Int} (hs : segP h c D) : segC h = c ∧ ∀ j, 0 ≤ j → j < c → segD h j = D j := by
  have hx : ∃ c D, segP h c D := ⟨c, D, hs⟩
  have e1 : segC h = hx.choose := dif_pos hx
  have e2 : segD h = hx.choose_spec.choose := dif_pos hx
  have h3 := segP_u hs hx.choose_spec.choose_spec
  refine ⟨by rw [e1]; exact h3.1.symm, fun j a b => ?_⟩
  rw [e2]
  exact (h3.2 j a b).symm
/-- told of a stone, known, and later than a day -/
def nxP (f : sF) (s t x n : Int) : Prop := f (164 + n) = s ∧ knP f n t ∧ x < f (224 + n)
theorem hiN_c {f : sF} {s t x y : Int} (m : Nat) (h : ∀ k, 0 ≤ k → k < (m : Int) → (hiP f s x t k ↔ hiP f s y t k)) : hiN f s x t m = hiN f s y t m := by
  induction m with
  | zero => rfl
  | succ m ih =>
    have e := ih (fun k a b => h k a (by omega))
    show pif _ _ _ = pif _ _ _
    rw [e]
    exact pif_c (and_congr_left fun _ => h (m : Int) (by omega) (by omega))
theorem hnd_c {f : sF} {s t x y : Int} (h : ∀ k, 0 ≤ k → k < f 570 → (hiP f s x t k ↔ hiP f s y t k)) : hnd f s x t = hnd f s y t := by
  have e : hiI f s x t (f 570) = hiI f s y t (f 570) := hiN_c _ (fun k a b => h k a (by omega))
  unfold hnd
  rw [e]
/-- between two told days the hand is one -/
theorem hnd_k {f : sF} {s t x y : Int} (h : ∀ n, 0 ≤ n → n < f 570 → nxP f s t x n → y ≤ f (224 + n)) (z : Int) (h1 : x ≤ z) (h2 : z < y) : hnd f s z t = hnd f s x t := by
  refine hnd_c fun k a b => ?_
  unfold hiP
  constructor
  · rintro ⟨c, d, e⟩
    refine ⟨c, ?_, e⟩
    rcases Int.lt_or_le x (f (224 + k)) with q | q
    · have := h k a b ⟨c, e, q⟩; omega
    · exact q
  · rintro ⟨c, d, e⟩
    exact ⟨c, by omega, e⟩
theorem hiN_m {f : sF} {s t x : Int} (m : Nat) (h : ∀ k, 0 ≤ k → k < (m : Int) → ¬ hiP f s x t k) : hiN f s x t m = -1 := by
  induction m with
  | zero => rfl
  | succ m ih =>
    show pif _ _ _ = _
    rw [pif_f (fun q => h (m : Int) (by omega) (by omega) q.1)]
    exact ih (fun k a b => h k a (by omega))
theorem hnd_6 {f : sF} (hok : sOk f) {s t x : Int} (hx : x < 3652) : hnd f s x t = 6 := by
  have h0 := sOk_N hok
  have e : hiI f s x t (f 570) = -1 := hiN_m _ fun k a b q => by have := sOk_T2 hok k a (by omega); have := q.2.1; omega
  unfold hnd
  rw [if_pos e]
def leT (f : sF) (x n : Int) : Int := if f (224 + n) ≤ x then 1 else 0
theorem le_up {f : sF} {x y : Int} (h : x < y) (n : Int) (hn : 0 ≤ n ∧ n < f 570) (e : f (224 + n) = y) : isum (f 570) (leT f x) + 1 ≤ isum (f 570) (leT f y) := by
  refine isum_up (fun k a b => ?_) n hn ?_
  · unfold leT
    by_cases q : f (224 + k) ≤ x
    · rw [if_pos q, if_pos (by omega)]; omega
    · rw [if_neg q]; split <;> omega
  · unfold leT
    rw [if_neg (by omega), if_pos (by omega)]
    omega
theorem le_r {f : sF} (h : sOk f) (x : Int) : 0 ≤ isum (f 570) (leT f x) ∧ isum (f 570) (leT f x) ≤ 60 := by
  have := sOk_N h
  have := isum_bn (n := f 570) (g := leT f x) (hi := 1) (N := 60) (by omega) (by omega) (fun k a b => by unfold leT; split <;> omega)
  omega
/-- what stands when the days up to x are looked at -/
def sgI (h : Int → Int) (c x : Int) (D : Int → Int) : Prop := 1 ≤ c ∧ D 0 = -1 ∧ (∀ j, 0 ≤ j → j + 1 < c → D j < D (j + 1) ∧ h (D j) ≠ h (D (j + 1)) ∧ ∀ z, D j ≤ z → z < D (j + 1) → h z = h (D j)) ∧ D (c - 1) ≤ x ∧ (∀ z, D (c - 1) ≤ z → z ≤ x → h z = h (D (c - 1))) ∧ (∀ j, 1 ≤ j → j < c → 3652 ≤ D j ∧ D j ≤ 113224)
theorem sgI_0 (h : Int → Int) (D : Int → Int) : sgI h 1 (-1) (iup D 0 (-1)) := by
  have e : iup D 0 (-1) 0 = -1 := if_pos rfl
  refine ⟨by omega, e, fun j a b => by omega, by rw [show (1 - 1 : Int) = 0 by omega, e]; omega, fun z a b => ?_, fun j a b => by omega⟩
  rw [show (1 - 1 : Int) = 0 by omega, e] at a ⊢
  rw [show z = -1 by omega]
theorem sgI_e {h : Int → Int} {c x : Int} {D : Int → Int} (hs : sgI h c x D) (hx : ∀ z, x ≤ z → h z = h x) : segP h c D := by
  obtain ⟨a1, a2, a3, a4, a5, a6⟩ := hs
  refine ⟨a1, a2, a3, fun z hz => ?_⟩
  rcases Int.lt_or_le z x with q | q
  · exact a5 z hz (by omega)
  · rw [hx z q]; exact a5 x a4 (Int.le_refl _)
theorem sgI_k {h : Int → Int} {c x y : Int} {D : Int → Int} (hs : sgI h c x D) (hxy : x < y) (hx : ∀ z, x ≤ z → z < y → h z = h x) (hy : h y = h (D (c - 1))) : sgI h c y D := by
  obtain ⟨a1, a2, a3, a4, a5, a6⟩ := hs
  refine ⟨a1, a2, a3, by omega, fun z b1 b2 => ?_, a6⟩
  rcases Int.lt_or_le z x with q | q
  · exact a5 z b1 (by omega)
  · by_cases e : z = y
    · rw [e]; exact hy
    · rw [hx z q (by omega)]; exact a5 x a4 (Int.le_refl _)
theorem sgI_n {h : Int → Int} {c x y : Int} {D : Int → Int} (hs : sgI h c x D) (hxy : x < y) (hr : 3652 ≤ y ∧ y ≤ 113224) (hx : ∀ z, x ≤ z → z < y → h z = h x) (hy : h y ≠ h (D (c - 1))) : sgI h (c + 1) y (iup D c y) := by
  obtain ⟨a1, a2, a3, a4, a5, a6⟩ := hs
  have ec : iup D c y c = y := if_pos rfl
  have eo : ∀ j, j ≠ c → iup D c y j = D j := fun j q => if_neg q
  refine ⟨by omega, by rw [eo 0 (by omega)]; exact a2, fun j b1 b2 => ?_, by rw [show c + 1 - 1 = c by omega, ec]; omega, fun z b1 b2 => ?_, fun j b1 b2 => ?_⟩
  · rw [eo j (by omega)]
    by_cases e : j + 1 = c
    · have ej : j = c - 1 := by omega
      rw [e, ec, ej]
      refine ⟨by omega, fun q => hy q.symm, fun z d1 d2 => ?_⟩
      rcases Int.lt_or_le z x with q | q
      · exact a5 z d1 (by omega)
      · rw [hx z q d2]; exact a5 x a4 (Int.le_refl _)
    · rw [eo (j + 1) e]
      exact a3 j b1 (by omega)
  · rw [show c + 1 - 1 = c by omega, ec] at b1 ⊢
    rw [show z = y by omega]
  · by_cases e : j = c
    · rw [e, ec]; exact hr
    · rw [eo j e]; exact a6 j b1 (by omega)
/-- the next told day, as far as looked at -/
def nxQ (f : sF) (s t x i y : Int) : Prop := (y = -1 ∧ ∀ n, 0 ≤ n → n < i → ¬ nxP f s t x n) ∨ ((∃ n, 0 ≤ n ∧ n < i ∧ nxP f s t x n ∧ f (224 + n) = y) ∧ ∀ n, 0 ≤ n → n < i → nxP f s t x n → y ≤ f (224 + n))
theorem nxQ_n {f : sF} {s t x i y : Int} (hi : 0 ≤ i) (h : nxQ f s t x i y) (q : ¬ nxP f s t x i) : nxQ f s t x (i + 1) y := by
  rcases h with ⟨e, h⟩ | ⟨⟨n, a, b, c, d⟩, h⟩
  · exact Or.inl ⟨e, idx_st h q⟩
  · exact Or.inr ⟨⟨n, a, by omega, c, d⟩, fun n2 u v w => by by_cases e : n2 = i; exact absurd (by rw [← e]; exact w) q; exact h n2 u (by omega) w⟩
theorem nxQ_k {f : sF} {s t x i y : Int} (hi : 0 ≤ i) (h : nxQ f s t x i y) (hy : y ≠ -1) (q : y ≤ f (224 + i)) : nxQ f s t x (i + 1) y := by
  rcases h with ⟨e, h⟩ | ⟨⟨n, a, b, c, d⟩, h⟩
  · exact absurd e hy
  · exact Or.inr ⟨⟨n, a, by omega, c, d⟩, fun n2 u v w => by by_cases e : n2 = i; exact (by rw [e]; exact q); exact h n2 u (by omega) w⟩
theorem nxQ_t {f : sF} {s t x i y : Int} (hx : -1 ≤ x) (hi : 0 ≤ i) (h : nxQ f s t x i y) (hp : nxP f s t x i) (q : y = -1 ∨ f (224 + i) < y) : nxQ f s t x (i + 1) (f (224 + i)) := by
  refine Or.inr ⟨⟨i, hi, by omega, hp, rfl⟩, fun n2 u v w => ?_⟩
  by_cases e : n2 = i
  · rw [e]; exact Int.le_refl _
  · rcases h with ⟨e2, h⟩ | ⟨⟨n, a, b, c, d⟩, h⟩
    · exact absurd w (h n2 u (by omega))
    · have := h n2 u (by omega) w
      rcases q with q | q
      · have := c.2.2
        omega
      · omega

abbrev rmX11_findsStays : Room := { frames := 3, cells := 0, slots := 0, locals := 87 }
set_option maxHeartbeats 4000000 in
set_option maxRecDepth 100000 in
theorem kX11_findsStays (l_ : Launch) (G : sG) (b_ : Nat) (M : sM) (N : Nat) (m : Nat) (th ch tn ea sn nm wn : Int) (f : sF) (D : Int → Int) (s t : Int) (hm0 : M m = some (mO m th ch tn ea sn nm wn)) (hm1 : M (m + 1) = some (sArr G 574 f)) (hm9 : M (m + 9) = some (sArr G 62 D)) (hok : sOk f) (hr : sR s ∧ sR t) : cV l_ yX11_findsStays wsX11_findsStays rmX11_findsStays G b_ M N [.ref m, .int (sI s), .int (sI t)] (fun M1 N1 => ∃ c9 : Int, ∃ D9 : Int → Int, N1 = N ∧ M1 m = some (mO m th ch tn ea c9 nm wn) ∧ M1 (m + 9) = some (sArr G 62 D9) ∧ (∀ x : Nat, ¬ (x = m) → ¬ (x = m + 9) → M1 x = M x) ∧ (segP (fun x => hnd f s x t) c9 D9) ∧ (1 ≤ c9 ∧ c9 ≤ 61) ∧ (∀ j, 1 ≤ j → j < c9 → 3652 ≤ D9 j ∧ D9 j ≤ 113224)) := by
  refine sE.ofV (cc := cX11_findsStays) (nL := 8) (ret := none) (by decide) rfl (Nat.le_of_ble_eq_true rfl) ?_
  intro p_ e_ s_ m_ args_ below_ meth_ c_ ls Q hQ E hl
  have E : sE p_ l_ e_ rmX11_findsStays s_ m_ args_ below_ meth_ c_ cX11_findsStays 8 wsX11_findsStays RX11 "findsStays" none G b_ M N := E
  have S := E.1
  have hx_ := S.1
  have hb_ := S.2.1
  have hK := E.2.2.2.2.1
  have hV := E.2.2.2.2.2.2
  have hl : lv_has ls 8 [(0, .ref m), (1, .int (sI s)), (2, .int (sI t))] := hl
  have inX11_ : ∀ w ∈ wsX110, w ∈ wsX11_findsStays := fun _ h => List.mem_cons_of_mem _ (List.mem_append_right _ h)
  have kn0 := sOk_N hok
  refine lv_aload_n hx_ hb_ dX11_findsStays_0 rfl (lv_at hl 0 rfl) ?_
  refine si_const S dX11_findsStays_1 ?_
  refine sc_put (ci := 9) (C := RX11) (T := TX11) (n := 22) S hK hV inX11_ tyX11_ok nmX11 hm0 rfl 13 (by decide) (S.2.2.2.2 _ (List.mem_of_getElem? (i := 1) rfl)) rfl rfl rfl rfl (Nat.le_of_ble_eq_true rfl) dX11_findsStays_2 (fs1 := [.int (sI th), .ref (m + 1), .ref (m + 2), .int (sI ch), .ref (m + 3), .int (sI tn), .int (sI ea), .ref (m + 4), .ref (m + 5), .ref (m + 6), .ref (m + 7), .ref (m + 8), .ref (m + 9), .int (sI 1), .ref (m + 10), .ref (m + 11), .ref (m + 12), .ref (m + 13), .int (sI nm), .ref (m + 14), .ref (m + 15), .int (sI wn)]) rfl (fun M1 H locs hM1 hV => ?_)
  have hc2 : M1 m = some (mO m th ch tn ea 1 nm wn) := (congrFun hM1 m).trans (va_up_self M m _)
  refine lv_aload_n hx_ hb_ dX11_findsStays_5 rfl (lv_at hl 0 rfl) ?_
  refine sc_get (ci := 9) (C := RX11) (T := TX11) (n := 22) S hK hV inX11_ hc2 rfl 12 (by decide) (S.2.2.2.2 _ (List.mem_of_getElem? (i := 2) rfl)) rfl rfl dX11_findsStays_6 ?_
  refine si_const S dX11_findsStays_9 ?_
  refine si_const S dX11_findsStays_10 ?_
  have hc3 : M1 (m + 9) = some (sArr G 62 D) := ((congrFun hM1 (m + 9)).trans (va_up_ne M _ (by omega))).trans hm9
  refine sc_iast S hK hV hc3 (by omega) dX11_findsStays_11 (fun M4 H locs hM4 hV => ?_)
  have hc5 : M4 (m + 9) = some (sArr G 62 (iup D 0 (-1))) := (congrFun hM4 (m + 9)).trans (va_up_self M1 (m + 9) _)
  refine si_const S dX11_findsStays_12 ?_
  refine lv_istore_n (lv' := [(3, .int (sI (-1))), (0, .ref m), (1, .int (sI s)), (2, .int (sI t))]) hx_ hb_ dX11_findsStays_13 rfl hl (by decide) rfl (fun ls hl => ?_)
  refine si_bipush S dX11_findsStays_14 (by decide) ?_
  refine lv_istore (lv' := [(4, .int (sI 6)), (3, .int (sI (-1))), (0, .ref m), (1, .int (sI s)), (2, .int (sI t))]) hx_ hb_ dX11_findsStays_16 hl (by decide) rfl (fun ls hl => ?_)
  have L18 : ∀ (fuel : Nat) (x : Int) (last : Int) (c : Int) (D2 : Int → Int) (Ml18 : sM) (H : Heap) (locs : List Loc) (ls : Array Slot), ((113224 - x).toNat) < fuel → (-1 ≤ x ∧ x ≤ 113224 ∧ 0 ≤ last ∧ last ≤ 6) → (sgI (fun x => hnd f s x t) c x D2) → (last = hnd f s (D2 (c - 1)) t) → (c ≤ 1 + isum (f 570) (leT f x)) → (Ml18 m = some (mO m th ch tn ea c nm wn)) → (Ml18 (m + 9) = some (sArr G 62 D2)) → (∀ x : Nat, ¬ (x = m) → ¬ (x = m + 9) → Ml18 x = M4 x) → sV G b_ Ml18 N s_ H locs → lv_has ls 8 [(0, .ref m), (1, .int (sI s)), (2, .int (sI t)), (3, .int (sI x)), (4, .int (sI last))] → W p_ l_ e_ rmX11_findsStays s_ m_ args_ below_ meth_ c_ H locs 0 0 Q (F0 m_ 18 ls []) := by
    intro fuel
    induction fuel with
    | zero => intro x last c D2 Ml18 H locs ls hmu; exact absurd hmu (Nat.not_lt_zero _)
    | succ fuel ih18 =>
      intro x last c D2 Ml18 H locs ls hmu18 hv18_0 hg hlast hcl hm18_0 hm18_1 hfr18 hV hl
      have hle := le_r hok x
      have hc1 := hg.1
      refine si_const S dX11_findsStays_18 ?_
      refine lv_istore (lv' := [(5, .int (sI (-1))), (0, .ref m), (1, .int (sI s)), (2, .int (sI t)), (3, .int (sI x)), (4, .int (sI last))]) hx_ hb_ dX11_findsStays_19 hl (by decide) rfl (fun ls hl => ?_)
      refine si_const S dX11_findsStays_21 ?_
      refine lv_istore (lv' := [(6, .int (sI 0)), (5, .int (sI (-1))), (0, .ref m), (1, .int (sI s)), (2, .int (sI t)), (3, .int (sI x)), (4, .int (sI last))]) hx_ hb_ dX11_findsStays_22 hl (by decide) rfl (fun ls hl => ?_)
      have L24 : ∀ (fuel : Nat) (y : Int) (i : Int)  (H : Heap) (locs : List Loc) (ls : Array Slot), ((f 570 - i).toNat) < fuel → (0 ≤ i ∧ i ≤ f 570 ∧ -1 ≤ y ∧ y ≤ 113224) → (nxQ f s t x i y) → sV G b_ Ml18 N s_ H locs → lv_has ls 8 [(0, .ref m), (1, .int (sI s)), (2, .int (sI t)), (3, .int (sI x)), (4, .int (sI last)), (5, .int (sI y)), (6, .int (sI i))] → W p_ l_ e_ rmX11_findsStays s_ m_ args_ below_ meth_ c_ H locs 0 0 Q (F0 m_ 24 ls []) := by
        intro fuel
        induction fuel with
        | zero => intro y i H locs ls hmu; exact absurd hmu (Nat.not_lt_zero _)
        | succ fuel ih24 =>
          intro y i H locs ls hmu24 hv24_0 hv  hV hl
          refine lv_iload hx_ hb_ dX11_findsStays_24 (lv_at hl 6 rfl) ?_
          refine lv_aload_n hx_ hb_ dX11_findsStays_26 rfl (lv_at hl 0 rfl) ?_
          refine sc_get (ci := 9) (C := RX11) (T := TX11) (n := 22) S hK hV inX11_ hm18_0 rfl 1 (by decide) (S.2.2.2.2 _ (List.mem_of_getElem? (i := 3) rfl)) rfl rfl dX11_findsStays_27 ?_
          refine si_sipush S dX11_findsStays_30 (by decide) ?_
          have hc6 : Ml18 (m + 1) = some (sArr G 574 f) := (((hfr18 (m + 1) (by omega) (by omega)).trans ((congrFun hM4 (m + 1)).trans (va_up_ne M1 _ (by omega)))).trans ((congrFun hM1 (m + 1)).trans (va_up_ne M _ (by omega)))).trans hm1
          refine sc_iald S hK hV hc6 (by omega) dX11_findsStays_33 ?_
          refine sb_ge (tgt := 104) S dX11_findsStays_34 (by decide) (by omega) (fun c7 => ?_) (fun c7 => ?_)
          · refine lv_iload hx_ hb_ dX11_findsStays_104 (lv_at hl 5 rfl) ?_
            refine si_const S dX11_findsStays_106 ?_
            refine sb_ne (tgt := 111) S dX11_findsStays_107 (by decide) (by omega) (fun h107 => ?_) (fun h107 => ?_)
            · obtain ⟨⟨n9, hn1, hn2, hn3, hn4⟩, hmin⟩ := hv.resolve_left (fun q => h107 q.1)
              have hxy : x < y := by have := hn3.2.2; omega
              have hy9 := sOk_T2 hok n9 hn1 (by omega)
              have hcn : ∀ z, x ≤ z → z < y → (fun x => hnd f s x t) z = (fun x => hnd f s x t) x := fun z a b => hnd_k (y := y) (fun n u v w => hmin n u (by omega) w) z a b
              have hlu := le_up hxy n9 ⟨hn1, by omega⟩ hn4
              have hle2 := le_r hok y
              have hh := hnd_r hok s y t
              refine lv_iload hx_ hb_ dX11_findsStays_111 (lv_at hl 5 rfl) ?_
              refine lv_istore_n (lv' := [(3, .int (sI y)), (0, .ref m), (1, .int (sI s)), (2, .int (sI t)), (4, .int (sI last)), (5, .int (sI y)), (6, .int (sI i))]) hx_ hb_ dX11_findsStays_113 rfl hl (by decide) rfl (fun ls hl => ?_)
              refine lv_aload_n hx_ hb_ dX11_findsStays_114 rfl (lv_at hl 1 rfl) ?_
              refine lv_iload_n hx_ hb_ dX11_findsStays_115 rfl (lv_at hl 2 rfl) ?_
              refine lv_iload_n hx_ hb_ dX11_findsStays_116 rfl (lv_at hl 0 rfl) ?_
              refine lv_iload_n hx_ hb_ dX11_findsStays_117 rfl (lv_at hl 3 rfl) ?_
              refine sk_VP E hV (As := [.int (sI s), .int (sI y), .int (sI t)]) (rest := []) (kX11_hand l_ G b_ Ml18 N m th ch tn ea c nm wn f s y t hm18_0 hc6 (by omega) (by omega)) (cwV 3 S.2.2.2.2 gX11_findsStays_X11_hand rfl rfl rfl (by decide +kernel) ⟨Nat.le_of_ble_eq_true rfl, Nat.le_of_ble_eq_true rfl⟩) (ci := 9) hm18_0 rfl rfl rfl hl.1 (Nat.le_of_ble_eq_true rfl) dX11_findsStays_118 (c1 := 0) (s1 := 0) ⟨⟨rfl, rfl⟩, by decide, by decide⟩ (fun H locs hV => ?_)
              refine lv_iload hx_ hb_ dX11_findsStays_121 (lv_at hl 4 rfl) ?_
              refine sb_ne (tgt := 129) S dX11_findsStays_123 (by decide) (by omega) (fun h123 => ?_) (fun h123 => ?_)
              · refine lv_aload_n hx_ hb_ dX11_findsStays_129 rfl (lv_at hl 1 rfl) ?_
                refine lv_iload_n hx_ hb_ dX11_findsStays_130 rfl (lv_at hl 2 rfl) ?_
                refine lv_iload_n hx_ hb_ dX11_findsStays_131 rfl (lv_at hl 0 rfl) ?_
                refine lv_iload_n hx_ hb_ dX11_findsStays_132 rfl (lv_at hl 3 rfl) ?_
                refine sk_VP E hV (As := [.int (sI s), .int (sI y), .int (sI t)]) (rest := []) (kX11_hand l_ G b_ Ml18 N m th ch tn ea c nm wn f s y t hm18_0 hc6 (by omega) (by omega)) (cwV 3 S.2.2.2.2 gX11_findsStays_X11_hand rfl rfl rfl (by decide +kernel) ⟨Nat.le_of_ble_eq_true rfl, Nat.le_of_ble_eq_true rfl⟩) (ci := 9) hm18_0 rfl rfl rfl hl.1 (Nat.le_of_ble_eq_true rfl) dX11_findsStays_133 (c1 := 0) (s1 := 0) ⟨⟨rfl, rfl⟩, by decide, by decide⟩ (fun H locs hV => ?_)
                refine lv_istore (lv' := [(4, .int (sI (hnd f s y t))), (3, .int (sI y)), (0, .ref m), (1, .int (sI s)), (2, .int (sI t)), (5, .int (sI y)), (6, .int (sI i))]) hx_ hb_ dX11_findsStays_136 hl (by decide) rfl (fun ls hl => ?_)
                refine lv_aload_n hx_ hb_ dX11_findsStays_138 rfl (lv_at hl 2 rfl) ?_
                refine sc_get (ci := 9) (C := RX11) (T := TX11) (n := 22) S hK hV inX11_ hm18_0 rfl 12 (by decide) (S.2.2.2.2 _ (List.mem_of_getElem? (i := 2) rfl)) rfl rfl dX11_findsStays_139 ?_
                refine lv_aload_n hx_ hb_ dX11_findsStays_142 rfl (lv_at hl 2 rfl) ?_
                refine sc_get (ci := 9) (C := RX11) (T := TX11) (n := 22) S hK hV inX11_ hm18_0 rfl 13 (by decide) (S.2.2.2.2 _ (List.mem_of_getElem? (i := 1) rfl)) rfl rfl dX11_findsStays_143 ?_
                refine lv_iload_n hx_ hb_ dX11_findsStays_146 rfl (lv_at hl 1 rfl) ?_
                refine sc_iast S hK hV hm18_1 (by omega) dX11_findsStays_147 (fun M8 H locs hM8 hV => ?_)
                have hc9 : M8 (m + 9) = some (sArr G 62 (iup D2 c y)) := (congrFun hM8 (m + 9)).trans (va_up_self Ml18 (m + 9) _)
                refine lv_aload_n hx_ hb_ dX11_findsStays_148 rfl (lv_at hl 2 rfl) ?_
                refine lv_dup hx_ hb_ dX11_findsStays_149 rfl ?_
                have hc10 : M8 m = some (mO m th ch tn ea c nm wn) := ((congrFun hM8 m).trans (va_up_ne Ml18 _ (by omega))).trans hm18_0
                refine sc_get (ci := 9) (C := RX11) (T := TX11) (n := 22) S hK hV inX11_ hc10 rfl 13 (by decide) (S.2.2.2.2 _ (List.mem_of_getElem? (i := 1) rfl)) rfl rfl dX11_findsStays_150 ?_
                refine si_const S dX11_findsStays_153 ?_
                refine si_add S dX11_findsStays_154 ?_
                refine sc_put (ci := 9) (C := RX11) (T := TX11) (n := 22) S hK hV inX11_ tyX11_ok nmX11 hc10 rfl 13 (by decide) (S.2.2.2.2 _ (List.mem_of_getElem? (i := 1) rfl)) rfl rfl rfl rfl (Nat.le_of_ble_eq_true rfl) dX11_findsStays_155 (fs1 := [.int (sI th), .ref (m + 1), .ref (m + 2), .int (sI ch), .ref (m + 3), .int (sI tn), .int (sI ea), .ref (m + 4), .ref (m + 5), .ref (m + 6), .ref (m + 7), .ref (m + 8), .ref (m + 9), .int (sI (c + 1)), .ref (m + 10), .ref (m + 11), .ref (m + 12), .ref (m + 13), .int (sI nm), .ref (m + 14), .ref (m + 15), .int (sI wn)]) rfl (fun M11 H locs hM11 hV => ?_)
                have hc12 : M11 m = some (mO m th ch tn ea (c + 1) nm wn) := (congrFun hM11 m).trans (va_up_self M8 m _)
                refine lv_goto (tgt := 18) hx_ hb_ dX11_findsStays_158 (by decide) ?_
                have hc13 : M11 (m + 9) = some (sArr G 62 (iup D2 c y)) := ((congrFun hM11 (m + 9)).trans (va_up_ne M8 _ (by omega))).trans hc9
                exact ih18 y (hnd f s y t) (c + 1) (iup D2 c y) M11 _ _ _ (by omega) (by omega) (by first | exact sgI_k hg hxy hcn (h123.trans hlast) | exact sgI_n hg hxy (by omega) hcn (fun q => h123 (q.trans hlast.symm))) (by first | exact hlast | (rw [show c + 1 - 1 = c by omega, show iup D2 c y c = y from if_pos rfl])) (by omega) hc12 hc13 (fun x q0 q1 => (((congrFun hM11 x).trans (va_up_ne M8 _ (by omega))).trans ((congrFun hM8 x).trans (va_up_ne Ml18 _ (by omega)))).trans (hfr18 x (by omega) (by omega))) hV (lv_sub hl [2, 3, 4, 1, 0] rfl)
              · refine lv_goto (tgt := 18) hx_ hb_ dX11_findsStays_126 (by decide) ?_
                exact ih18 y last c D2 Ml18 _ _ _ (by omega) (by omega) (by first | exact sgI_k hg hxy hcn (h123.trans hlast) | exact sgI_n hg hxy (by omega) hcn (fun q => h123 (q.trans hlast.symm))) (by first | exact hlast | (rw [show c + 1 - 1 = c by omega, show iup D2 c y c = y from if_pos rfl])) (by omega) hm18_0 hm18_1 (fun x q0 q1 => hfr18 x (by omega) (by omega)) hV (lv_sub hl [1, 2, 3, 0, 4] rfl)
            · exact sr_v E hQ dX11_findsStays_110 ⟨Nat.le_of_ble_eq_true rfl, Nat.le_of_ble_eq_true rfl⟩ hV (⟨c, D2, rfl, hm18_0, hm18_1, fun x q0 q1 => ((hfr18 x (by omega) (by omega)).trans ((congrFun hM4 x).trans (va_up_ne M1 _ (by omega)))).trans ((congrFun hM1 x).trans (va_up_ne M _ (by omega))), sgI_e hg (fun z a => hnd_k (y := z + 1) (fun n u v w => by rcases hv with ⟨q1, q2⟩ | ⟨⟨n9, a1, a2, a3, a4⟩, q2⟩; exact absurd w (q2 n u (by omega)); have := sOk_T2 hok n9 a1 (by omega); omega) z a (by omega)), by omega, hg.2.2.2.2.2⟩)
          · refine lv_aload_n hx_ hb_ dX11_findsStays_37 rfl (lv_at hl 0 rfl) ?_
            refine sc_get (ci := 9) (C := RX11) (T := TX11) (n := 22) S hK hV inX11_ hm18_0 rfl 1 (by decide) (S.2.2.2.2 _ (List.mem_of_getElem? (i := 3) rfl)) rfl rfl dX11_findsStays_38 ?_
            refine si_sipush S dX11_findsStays_41 (by decide) ?_
            refine lv_iload hx_ hb_ dX11_findsStays_44 (lv_at hl 6 rfl) ?_
            refine si_add S dX11_findsStays_46 ?_
            refine sc_iald S hK hV hc6 (by omega) dX11_findsStays_47 ?_
            have kn14 : 3652 ≤ f (224 + i) ∧ f (224 + i) ≤ 113224 := (sOk_T2 hok i (by omega) (by omega))
            refine lv_istore (lv' := [(7, .int (sI (f (224 + i)))), (0, .ref m), (1, .int (sI s)), (2, .int (sI t)), (3, .int (sI x)), (4, .int (sI last)), (5, .int (sI y)), (6, .int (sI i))]) hx_ hb_ dX11_findsStays_48 hl (by decide) rfl (fun ls hl => ?_)
            refine lv_aload_n hx_ hb_ dX11_findsStays_50 rfl (lv_at hl 1 rfl) ?_
            refine sc_get (ci := 9) (C := RX11) (T := TX11) (n := 22) S hK hV inX11_ hm18_0 rfl 1 (by decide) (S.2.2.2.2 _ (List.mem_of_getElem? (i := 3) rfl)) rfl rfl dX11_findsStays_51 ?_
            refine si_sipush S dX11_findsStays_54 (by decide) ?_
            refine lv_iload hx_ hb_ dX11_findsStays_57 (lv_at hl 7 rfl) ?_
            refine si_add S dX11_findsStays_59 ?_
            refine sc_iald S hK hV hc6 (by omega) dX11_findsStays_60 ?_
            have kn15 : 0 ≤ f (164 + i) ∧ f (164 + i) < f 568 := (sOk_T hok i (by omega) (by omega)).1
            refine lv_iload_n hx_ hb_ dX11_findsStays_61 rfl (lv_at hl 2 rfl) ?_
            refine sb_ne (tgt := 98) S dX11_findsStays_62 (by decide) (by omega) (fun c16 => ?_) (fun c16 => ?_)
            · refine si_inc (lv' := [(6, .int (sI (i + 1))), (7, .int (sI (f (224 + i)))), (0, .ref m), (1, .int (sI s)), (2, .int (sI t)), (3, .int (sI x)), (4, .int (sI last)), (5, .int (sI y))]) S dX11_findsStays_98 hl (k := 7) rfl (by decide) rfl (fun ls hl => ?_)
              refine lv_goto (tgt := 24) hx_ hb_ dX11_findsStays_101 (by decide) ?_
              exact ih24 y (i + 1) _ _ _ (by omega) (by omega) (by first | exact nxQ_n (by omega) hv (fun h => by obtain ⟨h1, h2, h3⟩ := h; first | omega | exact absurd h2 h72) | exact nxQ_k (by omega) hv (by omega) (by omega) | exact nxQ_t (by omega) (by omega) hv ⟨by omega, by assumption, by omega⟩ (by omega)) hV (lv_sub hl [2, 3, 4, 5, 6, 7, 0] rfl)
            · refine lv_aload_n hx_ hb_ dX11_findsStays_65 rfl (lv_at hl 1 rfl) ?_
              refine lv_iload hx_ hb_ dX11_findsStays_66 (lv_at hl 7 rfl) ?_
              refine lv_iload_n hx_ hb_ dX11_findsStays_68 rfl (lv_at hl 3 rfl) ?_
              refine sk_VP E hV (As := [.int (sI i), .int (sI t)]) (rest := []) (kX11_isKnown l_ G b_ Ml18 N m th ch tn ea c nm wn f i t hm18_0 hc6 (by omega) (by omega) (by omega)) (cwV 2 S.2.2.2.2 gX11_findsStays_X11_isKnown rfl rfl rfl (by decide +kernel) ⟨Nat.le_of_ble_eq_true rfl, Nat.le_of_ble_eq_true rfl⟩) (ci := 9) hm18_0 rfl rfl rfl hl.1 (Nat.le_of_ble_eq_true rfl) dX11_findsStays_69 (c1 := 0) (s1 := 0) ⟨⟨rfl, rfl⟩, by decide, by decide⟩ (fun H locs hV => ?_)
              refine sq_eq (tgt := 98) S dX11_findsStays_72 (by decide) (fun h72 => ?_) (fun h72 => ?_)
              · refine si_inc (lv' := [(6, .int (sI (i + 1))), (7, .int (sI (f (224 + i)))), (0, .ref m), (1, .int (sI s)), (2, .int (sI t)), (3, .int (sI x)), (4, .int (sI last)), (5, .int (sI y))]) S dX11_findsStays_98 hl (k := 7) rfl (by decide) rfl (fun ls hl => ?_)
                refine lv_goto (tgt := 24) hx_ hb_ dX11_findsStays_101 (by decide) ?_
                exact ih24 y (i + 1) _ _ _ (by omega) (by omega) (by first | exact nxQ_n (by omega) hv (fun h => by obtain ⟨h1, h2, h3⟩ := h; first | omega | exact absurd h2 h72) | exact nxQ_k (by omega) hv (by omega) (by omega) | exact nxQ_t (by omega) (by omega) hv ⟨by omega, by assumption, by omega⟩ (by omega)) hV (lv_sub hl [2, 3, 4, 5, 6, 7, 0] rfl)
              · refine lv_iload hx_ hb_ dX11_findsStays_75 (lv_at hl 0 rfl) ?_
                refine lv_iload_n hx_ hb_ dX11_findsStays_77 rfl (lv_at hl 4 rfl) ?_
                refine sb_le (tgt := 98) S dX11_findsStays_78 (by decide) (by omega) (fun c17 => ?_) (fun c17 => ?_)
                · refine si_inc (lv' := [(6, .int (sI (i + 1))), (7, .int (sI (f (224 + i)))), (0, .ref m), (1, .int (sI s)), (2, .int (sI t)), (3, .int (sI x)), (4, .int (sI last)), (5, .int (sI y))]) S dX11_findsStays_98 hl (k := 7) rfl (by decide) rfl (fun ls hl => ?_)
                  refine lv_goto (tgt := 24) hx_ hb_ dX11_findsStays_101 (by decide) ?_
                  exact ih24 y (i + 1) _ _ _ (by omega) (by omega) (by first | exact nxQ_n (by omega) hv (fun h => by obtain ⟨h1, h2, h3⟩ := h; first | omega | exact absurd h2 h72) | exact nxQ_k (by omega) hv (by omega) (by omega) | exact nxQ_t (by omega) (by omega) hv ⟨by omega, by assumption, by omega⟩ (by omega)) hV (lv_sub hl [2, 3, 4, 5, 6, 7, 0] rfl)
                · refine lv_iload hx_ hb_ dX11_findsStays_81 (lv_at hl 6 rfl) ?_
                  refine si_const S dX11_findsStays_83 ?_
                  refine sb_eq (tgt := 94) S dX11_findsStays_84 (by decide) (by omega) (fun c18 => ?_) (fun c18 => ?_)
                  · refine lv_iload hx_ hb_ dX11_findsStays_94 (lv_at hl 0 rfl) ?_
                    refine lv_istore (lv' := [(5, .int (sI (f (224 + i)))), (7, .int (sI (f (224 + i)))), (0, .ref m), (1, .int (sI s)), (2, .int (sI t)), (3, .int (sI x)), (4, .int (sI last)), (6, .int (sI i))]) hx_ hb_ dX11_findsStays_96 hl (by decide) rfl (fun ls hl => ?_)
                    refine si_inc (lv' := [(6, .int (sI (i + 1))), (5, .int (sI (f (224 + i)))), (7, .int (sI (f (224 + i)))), (0, .ref m), (1, .int (sI s)), (2, .int (sI t)), (3, .int (sI x)), (4, .int (sI last))]) S dX11_findsStays_98 hl (k := 7) rfl (by decide) rfl (fun ls hl => ?_)
                    refine lv_goto (tgt := 24) hx_ hb_ dX11_findsStays_101 (by decide) ?_
                    exact ih24 (f (224 + i)) (i + 1) _ _ _ (by omega) (by omega) (by first | exact nxQ_n (by omega) hv (fun h => by obtain ⟨h1, h2, h3⟩ := h; first | omega | exact absurd h2 h72) | exact nxQ_k (by omega) hv (by omega) (by omega) | exact nxQ_t (by omega) (by omega) hv ⟨by omega, by assumption, by omega⟩ (by omega)) hV (lv_sub hl [3, 4, 5, 6, 7, 1, 0] rfl)
                  · refine lv_iload hx_ hb_ dX11_findsStays_87 (lv_at hl 0 rfl) ?_
                    refine lv_iload hx_ hb_ dX11_findsStays_89 (lv_at hl 6 rfl) ?_
                    refine sb_ge (tgt := 98) S dX11_findsStays_91 (by decide) (by omega) (fun c19 => ?_) (fun c19 => ?_)
                    · refine si_inc (lv' := [(6, .int (sI (i + 1))), (7, .int (sI (f (224 + i)))), (0, .ref m), (1, .int (sI s)), (2, .int (sI t)), (3, .int (sI x)), (4, .int (sI last)), (5, .int (sI y))]) S dX11_findsStays_98 hl (k := 7) rfl (by decide) rfl (fun ls hl => ?_)
                      refine lv_goto (tgt := 24) hx_ hb_ dX11_findsStays_101 (by decide) ?_
                      exact ih24 y (i + 1) _ _ _ (by omega) (by omega) (by first | exact nxQ_n (by omega) hv (fun h => by obtain ⟨h1, h2, h3⟩ := h; first | omega | exact absurd h2 h72) | exact nxQ_k (by omega) hv (by omega) (by omega) | exact nxQ_t (by omega) (by omega) hv ⟨by omega, by assumption, by omega⟩ (by omega)) hV (lv_sub hl [2, 3, 4, 5, 6, 7, 0] rfl)
                    · refine lv_iload hx_ hb_ dX11_findsStays_94 (lv_at hl 0 rfl) ?_
                      refine lv_istore (lv' := [(5, .int (sI (f (224 + i)))), (7, .int (sI (f (224 + i)))), (0, .ref m), (1, .int (sI s)), (2, .int (sI t)), (3, .int (sI x)), (4, .int (sI last)), (6, .int (sI i))]) hx_ hb_ dX11_findsStays_96 hl (by decide) rfl (fun ls hl => ?_)
                      refine si_inc (lv' := [(6, .int (sI (i + 1))), (5, .int (sI (f (224 + i)))), (7, .int (sI (f (224 + i)))), (0, .ref m), (1, .int (sI s)), (2, .int (sI t)), (3, .int (sI x)), (4, .int (sI last))]) S dX11_findsStays_98 hl (k := 7) rfl (by decide) rfl (fun ls hl => ?_)
                      refine lv_goto (tgt := 24) hx_ hb_ dX11_findsStays_101 (by decide) ?_
                      exact ih24 (f (224 + i)) (i + 1) _ _ _ (by omega) (by omega) (by first | exact nxQ_n (by omega) hv (fun h => by obtain ⟨h1, h2, h3⟩ := h; first | omega | exact absurd h2 h72) | exact nxQ_k (by omega) hv (by omega) (by omega) | exact nxQ_t (by omega) (by omega) hv ⟨by omega, by assumption, by omega⟩ (by omega)) hV (lv_sub hl [3, 4, 5, 6, 7, 1, 0] rfl)
      exact L24 _ (-1) 0 _ _ _ (Nat.lt_succ_self _) (by omega) (Or.inl ⟨rfl, fun n a b => by omega⟩) hV (lv_sub hl [2, 3, 4, 5, 6, 1, 0] rfl)
  have hc20 : M4 m = some (mO m th ch tn ea 1 nm wn) := ((congrFun hM4 m).trans (va_up_ne M1 _ (by omega))).trans hc2
  exact L18 _ (-1) 6 1 (iup D 0 (-1)) M4 _ _ _ (Nat.lt_succ_self _) (by omega) (sgI_0 _ _) (by rw [show iup D 0 (-1) (1 - 1) = -1 from if_pos rfl]; exact (hnd_6 hok (by omega)).symm) (by have := le_r hok (-1); omega) hc20 hc5 (fun x q0 q1 => rfl) hV (lv_sub hl [2, 3, 4, 1, 0] rfl)

abbrev rmX11_stays : Room := { frames := 4, cells := 0, slots := 0, locals := 114 }
set_option maxHeartbeats 4000000 in
set_option maxRecDepth 100000 in
theorem kX11_stays (l_ : Launch) (G : sG) (b_ : Nat) (M : sM) (N : Nat) (m : Nat) (th ch tn ea sn nm wn : Int) (f : sF) (D : Int → Int) (s t : Int) (hm0 : M m = some (mO m th ch tn ea sn nm wn)) (hm1 : M (m + 1) = some (sArr G 574 f)) (hm9 : M (m + 9) = some (sArr G 62 D)) (hok : sOk f) (hr : sR s ∧ sR t) : cI l_ yX11_stays wsX11_stays rmX11_stays G b_ M N [.ref m, .int (sI s), .int (sI t)] (fun z_ M1 N1 => ∃ c9 : Int, ∃ D9 : Int → Int, N1 = N ∧ M1 (m + 9) = some (sArr G 62 D9) ∧ (∀ x : Nat, ¬ (x = m) → ¬ (x = m + 9) → M1 x = M x) ∧ (((¬ (0 ≤ s ∧ s < f 568)) ∧ z_ = 0 ∧ M1 m = some (mO m 1 ch tn ea c9 nm wn)) ∨ (((0 ≤ s ∧ s < f 568) ∧ ¬ (0 ≤ t ∧ t ≤ f 571)) ∧ z_ = 0 ∧ M1 m = some (mO m 2 ch tn ea c9 nm wn)) ∨ (((0 ≤ s ∧ s < f 568) ∧ 0 ≤ t ∧ t ≤ f 571) ∧ z_ = segC (fun x => hnd f s x t) ∧ M1 m = some (mO m 0 ch tn ea c9 nm wn)))) := by
  refine sE.ofI (cc := cX11_stays) (nL := 3) (ret := (some .int)) (by decide) rfl (Nat.le_of_ble_eq_true rfl) ?_
  intro p_ e_ s_ m_ args_ below_ meth_ c_ ls Q hQ E hl
  have E : sE p_ l_ e_ rmX11_stays s_ m_ args_ below_ meth_ c_ cX11_stays 3 wsX11_stays RX11 "stays" (some .int) G b_ M N := E
  have S := E.1
  have hx_ := S.1
  have hb_ := S.2.1
  have hK := E.2.2.2.2.1
  have hV := E.2.2.2.2.2.2
  have hl : lv_has ls 3 [(0, .ref m), (1, .int (sI s)), (2, .int (sI t))] := hl
  have inX11_ : ∀ w ∈ wsX110, w ∈ wsX11_stays := fun _ h => List.mem_cons_of_mem _ (List.mem_append_right _ h)
  have kn0 := sOk_N hok
  refine lv_aload_n hx_ hb_ dX11_stays_0 rfl (lv_at hl 0 rfl) ?_
  refine si_const S dX11_stays_1 ?_
  refine sc_put (ci := 9) (C := RX11) (T := TX11) (n := 22) S hK hV inX11_ tyX11_ok nmX11 hm0 rfl 0 (by decide) (S.2.2.2.2 _ (List.mem_of_getElem? (i := 1) rfl)) rfl rfl rfl rfl (Nat.le_of_ble_eq_true rfl) dX11_stays_2 (fs1 := [.int (sI 0), .ref (m + 1), .ref (m + 2), .int (sI ch), .ref (m + 3), .int (sI tn), .int (sI ea), .ref (m + 4), .ref (m + 5), .ref (m + 6), .ref (m + 7), .ref (m + 8), .ref (m + 9), .int (sI sn), .ref (m + 10), .ref (m + 11), .ref (m + 12), .ref (m + 13), .int (sI nm), .ref (m + 14), .ref (m + 15), .int (sI wn)]) rfl (fun M1 H locs hM1 hV => ?_)
  have hc2 : M1 m = some (mO m 0 ch tn ea sn nm wn) := (congrFun hM1 m).trans (va_up_self M m _)
  refine lv_aload_n hx_ hb_ dX11_stays_5 rfl (lv_at hl 0 rfl) ?_
  refine lv_iload_n hx_ hb_ dX11_stays_6 rfl (lv_at hl 1 rfl) ?_
  have hc3 : M1 (m + 1) = some (sArr G 574 f) := ((congrFun hM1 (m + 1)).trans (va_up_ne M _ (by omega))).trans hm1
  refine sk_Vi E hV (As := [.int (sI s)]) (rest := []) (kX11_noStone l_ G b_ M1 N m ch tn ea sn nm wn f s hc2 hc3 (by omega) (by omega)) (cwV 1 S.2.2.2.2 gX11_stays_X11_noStone rfl rfl rfl (by decide +kernel) ⟨Nat.le_of_ble_eq_true rfl, Nat.le_of_ble_eq_true rfl⟩) (ci := 9) hc2 rfl rfl rfl hl.1 (Nat.le_of_ble_eq_true rfl) dX11_stays_7 (c1 := 0) (s1 := 0) ⟨⟨rfl, rfl⟩, by decide, by decide⟩ (fun z7 M4 N5 H locs hp6 hV => ?_)
  obtain ⟨hN8, hf9, hq10⟩ := hp6
  rw [hN8] at hV
  rcases hq10 with ⟨c11, ez12, hc13⟩ | ⟨c14, ez15, hc16⟩
  · rw [ez12]
    refine sz_ne (tgt := 34) S dX11_stays_10 (by decide) (by omega) (fun c17 => absurd c17 (by omega)) (fun _ => ?_)
    refine lv_aload_n hx_ hb_ dX11_stays_13 rfl (lv_at hl 0 rfl) ?_
    refine lv_iload_n hx_ hb_ dX11_stays_14 rfl (lv_at hl 2 rfl) ?_
    refine si_const S dX11_stays_15 ?_
    refine lv_aload_n hx_ hb_ dX11_stays_16 rfl (lv_at hl 0 rfl) ?_
    refine sc_get (ci := 9) (C := RX11) (T := TX11) (n := 22) S hK hV inX11_ hc13 rfl 1 (by decide) (S.2.2.2.2 _ (List.mem_of_getElem? (i := 2) rfl)) rfl rfl dX11_stays_17 ?_
    refine si_sipush S dX11_stays_20 (by decide) ?_
    have hc18 : M4 (m + 1) = some (sArr G 574 f) := (hf9 (m + 1) (by omega)).trans hc3
    refine sc_iald S hK hV hc18 (by omega) dX11_stays_23 ?_
    refine sk_SP E hV (As := [.int (sI t), .int (sI 0), .int (sI (f 571))]) (rest := [.ref m]) (kX11_in l_ G b_ M4 N t 0 (f 571) (by omega)) (va_cwS 3 S.2.2.2.2 gX11_stays_X11_in rfl rfl rfl (by decide +kernel) ⟨Nat.le_of_ble_eq_true rfl, Nat.le_of_ble_eq_true rfl⟩) rfl rfl hl.1 (Nat.le_of_ble_eq_true rfl) dX11_stays_24 (c1 := 0) (s1 := 0) ⟨⟨rfl, rfl⟩, by decide, by decide⟩ (fun H locs hV => ?_)
    refine si_const S dX11_stays_27 ?_
    refine sk_Vi E hV (As := [.int (sI (bI (0 ≤ t ∧ t ≤ (f 571)))), .int (sI 2)]) (rest := []) (kX11_fails l_ G b_ M4 N m ch tn ea sn nm wn 2 (0 ≤ t ∧ t ≤ (f 571)) hc13 (by omega)) (cwV 2 S.2.2.2.2 gX11_stays_X11_fails rfl rfl rfl (by decide +kernel) ⟨Nat.le_of_ble_eq_true rfl, Nat.le_of_ble_eq_true rfl⟩) (ci := 9) hc13 rfl rfl rfl hl.1 (Nat.le_of_ble_eq_true rfl) dX11_stays_28 (c1 := 0) (s1 := 0) ⟨⟨rfl, rfl⟩, by decide, by decide⟩ (fun z22 M19 N20 H locs hp21 hV => ?_)
    obtain ⟨hN23, hf24, hq25⟩ := hp21
    rw [hN23] at hV
    rcases hq25 with ⟨c26, ez27, hc28⟩ | ⟨c29, ez30, hc31⟩
    · rw [ez27]
      refine sz_eq (tgt := 36) S dX11_stays_31 (by decide) (by omega) (fun _ => ?_) (fun c32 => absurd c32 (by omega))
      refine lv_aload_n hx_ hb_ dX11_stays_36 rfl (lv_at hl 0 rfl) ?_
      refine lv_iload_n hx_ hb_ dX11_stays_37 rfl (lv_at hl 1 rfl) ?_
      refine lv_iload_n hx_ hb_ dX11_stays_38 rfl (lv_at hl 2 rfl) ?_
      have hc33 : M19 (m + 1) = some (sArr G 574 f) := (hf24 (m + 1) (by omega)).trans hc18
      have hc34 : M19 (m + 9) = some (sArr G 62 D) := (((hf24 (m + 9) (by omega)).trans (hf9 (m + 9) (by omega))).trans ((congrFun hM1 (m + 9)).trans (va_up_ne M _ (by omega)))).trans hm9
      refine sk_Vv E hV (As := [.int (sI s), .int (sI t)]) (rest := []) (kX11_findsStays l_ G b_ M19 N m 0 ch tn ea sn nm wn f D s t hc28 hc33 hc34 (by omega) (by omega)) (cwV 2 S.2.2.2.2 gX11_stays_X11_findsStays rfl rfl rfl (by decide +kernel) ⟨Nat.le_of_ble_eq_true rfl, Nat.le_of_ble_eq_true rfl⟩) (ci := 9) hc28 rfl rfl rfl hl.1 (Nat.le_of_ble_eq_true rfl) dX11_stays_39 (c1 := 0) (s1 := 0) ⟨⟨rfl, rfl⟩, by decide, by decide⟩ (fun M35 N36 H locs hp37 hV => ?_)
      obtain ⟨c939, D940, hN41, hc42, hc43, hf44, hsg45, hc946, hD947⟩ := hp37
      rw [hN41] at hV
      have hse := seg_eq hsg45
      refine lv_aload_n hx_ hb_ dX11_stays_42 rfl (lv_at hl 0 rfl) ?_
      refine sc_get (ci := 9) (C := RX11) (T := TX11) (n := 22) S hK hV inX11_ hc42 rfl 13 (by decide) (S.2.2.2.2 _ (List.mem_of_getElem? (i := 3) rfl)) rfl rfl dX11_stays_43 ?_
      exact sr_i E hQ dX11_stays_46 ⟨Nat.le_of_ble_eq_true rfl, Nat.le_of_ble_eq_true rfl⟩ hV (⟨c939, D940, rfl, hc43, fun x q0 q1 => (((hf44 x (by omega) (by omega)).trans (hf24 x (by omega))).trans (hf9 x (by omega))).trans ((congrFun hM1 x).trans (va_up_ne M _ (by omega))), Or.inr (Or.inr (⟨(by omega), hse.1.symm, hc42⟩))⟩)
    · rw [ez30]
      refine sz_eq (tgt := 36) S dX11_stays_31 (by decide) (by omega) (fun c48 => absurd c48 (by omega)) (fun _ => ?_)
      refine si_const S dX11_stays_34 ?_
      have hc49 : M19 (m + 9) = some (sArr G 62 D) := (((hf24 (m + 9) (by omega)).trans (hf9 (m + 9) (by omega))).trans ((congrFun hM1 (m + 9)).trans (va_up_ne M _ (by omega)))).trans hm9
      exact sr_i E hQ dX11_stays_35 ⟨Nat.le_of_ble_eq_true rfl, Nat.le_of_ble_eq_true rfl⟩ hV (⟨sn, D, rfl, hc49, fun x q0 q1 => ((hf24 x (by omega)).trans (hf9 x (by omega))).trans ((congrFun hM1 x).trans (va_up_ne M _ (by omega))), Or.inr (Or.inl ⟨(by omega), rfl, hc31⟩)⟩)
  · rw [ez15]
    refine sz_ne (tgt := 34) S dX11_stays_10 (by decide) (by omega) (fun _ => ?_) (fun c50 => absurd c50 (by omega))
    refine si_const S dX11_stays_34 ?_
    have hc51 : M4 (m + 9) = some (sArr G 62 D) := ((hf9 (m + 9) (by omega)).trans ((congrFun hM1 (m + 9)).trans (va_up_ne M _ (by omega)))).trans hm9
    exact sr_i E hQ dX11_stays_35 ⟨Nat.le_of_ble_eq_true rfl, Nat.le_of_ble_eq_true rfl⟩ hV (⟨sn, D, rfl, hc51, fun x q0 q1 => (hf9 x (by omega)).trans ((congrFun hM1 x).trans (va_up_ne M _ (by omega))), Or.inl ⟨(by omega), rfl, hc16⟩⟩)

abbrev rmX11_stayAt : Room := { frames := 4, cells := 0, slots := 0, locals := 114 }
set_option maxHeartbeats 4000000 in
set_option maxRecDepth 100000 in
theorem kX11_stayAt (l_ : Launch) (G : sG) (b_ : Nat) (M : sM) (N : Nat) (m : Nat) (th ch tn ea sn nm wn : Int) (f : sF) (D : Int → Int) (s j w : Int) (hm0 : M m = some (mO m th ch tn ea sn nm wn)) (hm1 : M (m + 1) = some (sArr G 574 f)) (hm9 : M (m + 9) = some (sArr G 62 D)) (hok : sOk f) (hr : sR s ∧ sR j ∧ sR w) : cI l_ yX11_stayAt wsX11_stayAt rmX11_stayAt G b_ M N [.ref m, .int (sI s), .int (sI j), .int (sI w)] (fun z_ M1 N1 => ∃ c9 : Int, ∃ D9 : Int → Int, N1 = N ∧ M1 (m + 9) = some (sArr G 62 D9) ∧ (∀ x : Nat, ¬ (x = m) → ¬ (x = m + 9) → M1 x = M x) ∧ (((¬ (0 ≤ s ∧ s < f 568)) ∧ z_ = 0 ∧ M1 m = some (mO m 1 ch tn ea c9 nm wn)) ∨ (((0 ≤ s ∧ s < f 568) ∧ ¬ (0 ≤ j ∧ j < segC (fun x => hnd f s x (f 571)))) ∧ z_ = 0 ∧ M1 m = some (mO m 1 ch tn ea c9 nm wn)) ∨ (((0 ≤ s ∧ s < f 568) ∧ (0 ≤ j ∧ j < segC (fun x => hnd f s x (f 571))) ∧ ¬ (0 ≤ w ∧ w ≤ 2)) ∧ z_ = 0 ∧ M1 m = some (mO m 2 ch tn ea c9 nm wn)) ∨ (((0 ≤ s ∧ s < f 568) ∧ (0 ≤ j ∧ j < segC (fun x => hnd f s x (f 571))) ∧ w = 0) ∧ z_ = hnd f s (segD (fun x => hnd f s x (f 571)) j) (f 571) ∧ M1 m = some (mO m 0 ch tn ea c9 nm wn)) ∨ (((0 ≤ s ∧ s < f 568) ∧ (0 ≤ j ∧ j < segC (fun x => hnd f s x (f 571))) ∧ w = 1) ∧ z_ = (if j = 0 then -1 else dat (segD (fun x => hnd f s x (f 571)) j)) ∧ M1 m = some (mO m 0 ch tn ea c9 nm wn)) ∨ (((0 ≤ s ∧ s < f 568) ∧ (0 ≤ j ∧ j < segC (fun x => hnd f s x (f 571))) ∧ w = 2) ∧ z_ = (if j = segC (fun x => hnd f s x (f 571)) - 1 then -1 else dat (segD (fun x => hnd f s x (f 571)) (j + 1) - 1)) ∧ M1 m = some (mO m 0 ch tn ea c9 nm wn)))) := by
  refine sE.ofI (cc := cX11_stayAt) (nL := 4) (ret := (some .int)) (by decide) rfl (Nat.le_of_ble_eq_true rfl) ?_
  intro p_ e_ s_ m_ args_ below_ meth_ c_ ls Q hQ E hl
  have E : sE p_ l_ e_ rmX11_stayAt s_ m_ args_ below_ meth_ c_ cX11_stayAt 4 wsX11_stayAt RX11 "stayAt" (some .int) G b_ M N := E
  have S := E.1
  have hx_ := S.1
  have hb_ := S.2.1
  have hK := E.2.2.2.2.1
  have hV := E.2.2.2.2.2.2
  have hl : lv_has ls 4 [(0, .ref m), (1, .int (sI s)), (2, .int (sI j)), (3, .int (sI w))] := hl
  have inX11_ : ∀ w ∈ wsX110, w ∈ wsX11_stayAt := fun _ h => List.mem_cons_of_mem _ (List.mem_append_right _ h)
  have kn0 := sOk_N hok
  refine lv_aload_n hx_ hb_ dX11_stayAt_0 rfl (lv_at hl 0 rfl) ?_
  refine si_const S dX11_stayAt_1 ?_
  refine sc_put (ci := 9) (C := RX11) (T := TX11) (n := 22) S hK hV inX11_ tyX11_ok nmX11 hm0 rfl 0 (by decide) (S.2.2.2.2 _ (List.mem_of_getElem? (i := 1) rfl)) rfl rfl rfl rfl (Nat.le_of_ble_eq_true rfl) dX11_stayAt_2 (fs1 := [.int (sI 0), .ref (m + 1), .ref (m + 2), .int (sI ch), .ref (m + 3), .int (sI tn), .int (sI ea), .ref (m + 4), .ref (m + 5), .ref (m + 6), .ref (m + 7), .ref (m + 8), .ref (m + 9), .int (sI sn), .ref (m + 10), .ref (m + 11), .ref (m + 12), .ref (m + 13), .int (sI nm), .ref (m + 14), .ref (m + 15), .int (sI wn)]) rfl (fun M1 H locs hM1 hV => ?_)
  have hc2 : M1 m = some (mO m 0 ch tn ea sn nm wn) := (congrFun hM1 m).trans (va_up_self M m _)
  refine lv_aload_n hx_ hb_ dX11_stayAt_5 rfl (lv_at hl 0 rfl) ?_
  refine lv_iload_n hx_ hb_ dX11_stayAt_6 rfl (lv_at hl 1 rfl) ?_
  have hc3 : M1 (m + 1) = some (sArr G 574 f) := ((congrFun hM1 (m + 1)).trans (va_up_ne M _ (by omega))).trans hm1
  refine sk_Vi E hV (As := [.int (sI s)]) (rest := []) (kX11_noStone l_ G b_ M1 N m ch tn ea sn nm wn f s hc2 hc3 (by omega) (by omega)) (cwV 1 S.2.2.2.2 gX11_stayAt_X11_noStone rfl rfl rfl (by decide +kernel) ⟨Nat.le_of_ble_eq_true rfl, Nat.le_of_ble_eq_true rfl⟩) (ci := 9) hc2 rfl rfl rfl hl.1 (Nat.le_of_ble_eq_true rfl) dX11_stayAt_7 (c1 := 0) (s1 := 0) ⟨⟨rfl, rfl⟩, by decide, by decide⟩ (fun z7 M4 N5 H locs hp6 hV => ?_)
  obtain ⟨hN8, hf9, hq10⟩ := hp6
  rw [hN8] at hV
  rcases hq10 with ⟨c11, ez12, hc13⟩ | ⟨c14, ez15, hc16⟩
  · rw [ez12]
    refine sz_eq (tgt := 15) S dX11_stayAt_10 (by decide) (by omega) (fun _ => ?_) (fun c17 => absurd c17 (by omega))
    refine lv_aload_n hx_ hb_ dX11_stayAt_15 rfl (lv_at hl 0 rfl) ?_
    refine lv_iload_n hx_ hb_ dX11_stayAt_16 rfl (lv_at hl 1 rfl) ?_
    refine lv_aload_n hx_ hb_ dX11_stayAt_17 rfl (lv_at hl 0 rfl) ?_
    refine sc_get (ci := 9) (C := RX11) (T := TX11) (n := 22) S hK hV inX11_ hc13 rfl 1 (by decide) (S.2.2.2.2 _ (List.mem_of_getElem? (i := 2) rfl)) rfl rfl dX11_stayAt_18 ?_
    refine si_sipush S dX11_stayAt_21 (by decide) ?_
    have hc18 : M4 (m + 1) = some (sArr G 574 f) := (hf9 (m + 1) (by omega)).trans hc3
    refine sc_iald S hK hV hc18 (by omega) dX11_stayAt_24 ?_
    have hc19 : M4 (m + 9) = some (sArr G 62 D) := ((hf9 (m + 9) (by omega)).trans ((congrFun hM1 (m + 9)).trans (va_up_ne M _ (by omega)))).trans hm9
    refine sk_Vv E hV (As := [.int (sI s), .int (sI (f 571))]) (rest := []) (kX11_findsStays l_ G b_ M4 N m 0 ch tn ea sn nm wn f D s (f 571) hc13 hc18 hc19 (by omega) (by omega)) (cwV 2 S.2.2.2.2 gX11_stayAt_X11_findsStays rfl rfl rfl (by decide +kernel) ⟨Nat.le_of_ble_eq_true rfl, Nat.le_of_ble_eq_true rfl⟩) (ci := 9) hc13 rfl rfl rfl hl.1 (Nat.le_of_ble_eq_true rfl) dX11_stayAt_25 (c1 := 0) (s1 := 0) ⟨⟨rfl, rfl⟩, by decide, by decide⟩ (fun M20 N21 H locs hp22 hV => ?_)
    obtain ⟨c924, D925, hN26, hc27, hc28, hf29, hsg30, hc931, hD932⟩ := hp22
    rw [hN26] at hV
    have hse := seg_eq hsg30
    have hsg0 := hsg30.2.1
    have hD8 := hD932 j
    have hD7 := hD932 (j + 1)
    refine lv_aload_n hx_ hb_ dX11_stayAt_28 rfl (lv_at hl 0 rfl) ?_
    refine lv_iload_n hx_ hb_ dX11_stayAt_29 rfl (lv_at hl 2 rfl) ?_
    refine si_const S dX11_stayAt_30 ?_
    refine lv_aload_n hx_ hb_ dX11_stayAt_31 rfl (lv_at hl 0 rfl) ?_
    refine sc_get (ci := 9) (C := RX11) (T := TX11) (n := 22) S hK hV inX11_ hc27 rfl 13 (by decide) (S.2.2.2.2 _ (List.mem_of_getElem? (i := 3) rfl)) rfl rfl dX11_stayAt_32 ?_
    refine si_const S dX11_stayAt_35 ?_
    refine si_sub S dX11_stayAt_36 ?_
    refine sk_SP E hV (As := [.int (sI j), .int (sI 0), .int (sI (c924 - 1))]) (rest := [.ref m]) (kX11_in l_ G b_ M20 N j 0 (c924 - 1) (by omega)) (va_cwS 3 S.2.2.2.2 gX11_stayAt_X11_in rfl rfl rfl (by decide +kernel) ⟨Nat.le_of_ble_eq_true rfl, Nat.le_of_ble_eq_true rfl⟩) rfl rfl hl.1 (Nat.le_of_ble_eq_true rfl) dX11_stayAt_37 (c1 := 0) (s1 := 0) ⟨⟨rfl, rfl⟩, by decide, by decide⟩ (fun H locs hV => ?_)
    refine si_const S dX11_stayAt_40 ?_
    refine sk_Vi E hV (As := [.int (sI (bI (0 ≤ j ∧ j ≤ (c924 - 1)))), .int (sI 1)]) (rest := []) (kX11_fails l_ G b_ M20 N m ch tn ea c924 nm wn 1 (0 ≤ j ∧ j ≤ (c924 - 1)) hc27 (by omega)) (cwV 2 S.2.2.2.2 gX11_stayAt_X11_fails rfl rfl rfl (by decide +kernel) ⟨Nat.le_of_ble_eq_true rfl, Nat.le_of_ble_eq_true rfl⟩) (ci := 9) hc27 rfl rfl rfl hl.1 (Nat.le_of_ble_eq_true rfl) dX11_stayAt_41 (c1 := 0) (s1 := 0) ⟨⟨rfl, rfl⟩, by decide, by decide⟩ (fun z36 M33 N34 H locs hp35 hV => ?_)
    obtain ⟨hN37, hf38, hq39⟩ := hp35
    rw [hN37] at hV
    rcases hq39 with ⟨c40, ez41, hc42⟩ | ⟨c43, ez44, hc45⟩
    · rw [ez41]
      refine sz_ne (tgt := 61) S dX11_stayAt_44 (by decide) (by omega) (fun c46 => absurd c46 (by omega)) (fun _ => ?_)
      refine lv_aload_n hx_ hb_ dX11_stayAt_47 rfl (lv_at hl 0 rfl) ?_
      refine lv_iload_n hx_ hb_ dX11_stayAt_48 rfl (lv_at hl 3 rfl) ?_
      refine si_const S dX11_stayAt_49 ?_
      refine si_const S dX11_stayAt_50 ?_
      refine sk_SP E hV (As := [.int (sI w), .int (sI 0), .int (sI 2)]) (rest := [.ref m]) (kX11_in l_ G b_ M33 N w 0 2 (by omega)) (va_cwS 3 S.2.2.2.2 gX11_stayAt_X11_in rfl rfl rfl (by decide +kernel) ⟨Nat.le_of_ble_eq_true rfl, Nat.le_of_ble_eq_true rfl⟩) rfl rfl hl.1 (Nat.le_of_ble_eq_true rfl) dX11_stayAt_51 (c1 := 0) (s1 := 0) ⟨⟨rfl, rfl⟩, by decide, by decide⟩ (fun H locs hV => ?_)
      refine si_const S dX11_stayAt_54 ?_
      refine sk_Vi E hV (As := [.int (sI (bI (0 ≤ w ∧ w ≤ 2))), .int (sI 2)]) (rest := []) (kX11_fails l_ G b_ M33 N m ch tn ea c924 nm wn 2 (0 ≤ w ∧ w ≤ 2) hc42 (by omega)) (cwV 2 S.2.2.2.2 gX11_stayAt_X11_fails rfl rfl rfl (by decide +kernel) ⟨Nat.le_of_ble_eq_true rfl, Nat.le_of_ble_eq_true rfl⟩) (ci := 9) hc42 rfl rfl rfl hl.1 (Nat.le_of_ble_eq_true rfl) dX11_stayAt_55 (c1 := 0) (s1 := 0) ⟨⟨rfl, rfl⟩, by decide, by decide⟩ (fun z50 M47 N48 H locs hp49 hV => ?_)
      obtain ⟨hN51, hf52, hq53⟩ := hp49
      rw [hN51] at hV
      rcases hq53 with ⟨c54, ez55, hc56⟩ | ⟨c57, ez58, hc59⟩
      · rw [ez55]
        refine sz_eq (tgt := 63) S dX11_stayAt_58 (by decide) (by omega) (fun _ => ?_) (fun c60 => absurd c60 (by omega))
        refine lv_iload_n hx_ hb_ dX11_stayAt_63 rfl (lv_at hl 3 rfl) ?_
        refine sz_ne (tgt := 96) S dX11_stayAt_64 (by decide) (by omega) (fun c61 => ?_) (fun c61 => ?_)
        · refine lv_iload_n hx_ hb_ dX11_stayAt_96 rfl (lv_at hl 3 rfl) ?_
          refine si_const S dX11_stayAt_97 ?_
          refine sb_ne (tgt := 119) S dX11_stayAt_98 (by decide) (by omega) (fun c62 => ?_) (fun c62 => ?_)
          · refine lv_iload_n hx_ hb_ dX11_stayAt_119 rfl (lv_at hl 2 rfl) ?_
            refine lv_aload_n hx_ hb_ dX11_stayAt_120 rfl (lv_at hl 0 rfl) ?_
            refine sc_get (ci := 9) (C := RX11) (T := TX11) (n := 22) S hK hV inX11_ hc56 rfl 13 (by decide) (S.2.2.2.2 _ (List.mem_of_getElem? (i := 3) rfl)) rfl rfl dX11_stayAt_121 ?_
            refine si_const S dX11_stayAt_124 ?_
            refine si_sub S dX11_stayAt_125 ?_
            refine sb_ne (tgt := 133) S dX11_stayAt_126 (by decide) (by omega) (fun c63 => ?_) (fun c63 => ?_)
            · refine lv_aload_n hx_ hb_ dX11_stayAt_133 rfl (lv_at hl 0 rfl) ?_
              refine sc_get (ci := 9) (C := RX11) (T := TX11) (n := 22) S hK hV inX11_ hc56 rfl 12 (by decide) (S.2.2.2.2 _ (List.mem_of_getElem? (i := 4) rfl)) rfl rfl dX11_stayAt_134 ?_
              refine lv_iload_n hx_ hb_ dX11_stayAt_137 rfl (lv_at hl 2 rfl) ?_
              refine si_const S dX11_stayAt_138 ?_
              refine si_add S dX11_stayAt_139 ?_
              have hc64 : M47 (m + 9) = some (sArr G 62 D925) := ((hf52 (m + 9) (by omega)).trans (hf38 (m + 9) (by omega))).trans hc28
              refine sc_iald S hK hV hc64 (by omega) dX11_stayAt_140 ?_
              refine si_const S dX11_stayAt_141 ?_
              refine si_sub S dX11_stayAt_142 ?_
              refine sk_SP E hV (As := [.int (sI ((D925 (j + 1)) - 1))]) (rest := []) (kX11_dateOf l_ G b_ M47 N ((D925 (j + 1)) - 1) (by omega)) (va_cwS 1 S.2.2.2.2 gX11_stayAt_X11_dateOf rfl rfl rfl (by decide +kernel) ⟨Nat.le_of_ble_eq_true rfl, Nat.le_of_ble_eq_true rfl⟩) rfl rfl hl.1 (Nat.le_of_ble_eq_true rfl) dX11_stayAt_143 (c1 := 0) (s1 := 0) ⟨⟨rfl, rfl⟩, by decide, by decide⟩ (fun H locs hV => ?_)
              exact sr_i E hQ dX11_stayAt_146 ⟨Nat.le_of_ble_eq_true rfl, Nat.le_of_ble_eq_true rfl⟩ hV (⟨c924, D925, rfl, hc64, fun x q0 q1 => ((((hf52 x (by omega)).trans (hf38 x (by omega))).trans (hf29 x (by omega) (by omega))).trans (hf9 x (by omega))).trans ((congrFun hM1 x).trans (va_up_ne M _ (by omega))), Or.inr (Or.inr (Or.inr (Or.inr (Or.inr (⟨(by rw [hse.1]; omega), by rw [hse.1]; first | rw [if_pos (by omega)] | (rw [if_neg (by omega), hse.2 (j + 1) (by omega) (by omega)]), hc56⟩)))))⟩)
            · refine si_const S dX11_stayAt_129 ?_
              refine lv_goto (tgt := 146) hx_ hb_ dX11_stayAt_130 (by decide) ?_
              have hc65 : M47 (m + 9) = some (sArr G 62 D925) := ((hf52 (m + 9) (by omega)).trans (hf38 (m + 9) (by omega))).trans hc28
              exact sr_i E hQ dX11_stayAt_146 ⟨Nat.le_of_ble_eq_true rfl, Nat.le_of_ble_eq_true rfl⟩ hV (⟨c924, D925, rfl, hc65, fun x q0 q1 => ((((hf52 x (by omega)).trans (hf38 x (by omega))).trans (hf29 x (by omega) (by omega))).trans (hf9 x (by omega))).trans ((congrFun hM1 x).trans (va_up_ne M _ (by omega))), Or.inr (Or.inr (Or.inr (Or.inr (Or.inr (⟨(by rw [hse.1]; omega), by rw [hse.1]; first | rw [if_pos (by omega)] | (rw [if_neg (by omega), hse.2 (j + 1) (by omega) (by omega)]), hc56⟩)))))⟩)
          · refine lv_iload_n hx_ hb_ dX11_stayAt_101 rfl (lv_at hl 2 rfl) ?_
            refine sz_ne (tgt := 109) S dX11_stayAt_102 (by decide) (by omega) (fun c66 => ?_) (fun c66 => ?_)
            · refine lv_aload_n hx_ hb_ dX11_stayAt_109 rfl (lv_at hl 0 rfl) ?_
              refine sc_get (ci := 9) (C := RX11) (T := TX11) (n := 22) S hK hV inX11_ hc56 rfl 12 (by decide) (S.2.2.2.2 _ (List.mem_of_getElem? (i := 4) rfl)) rfl rfl dX11_stayAt_110 ?_
              refine lv_iload_n hx_ hb_ dX11_stayAt_113 rfl (lv_at hl 2 rfl) ?_
              have hc67 : M47 (m + 9) = some (sArr G 62 D925) := ((hf52 (m + 9) (by omega)).trans (hf38 (m + 9) (by omega))).trans hc28
              refine sc_iald S hK hV hc67 (by omega) dX11_stayAt_114 ?_
              refine sk_SP E hV (As := [.int (sI (D925 j))]) (rest := []) (kX11_dateOf l_ G b_ M47 N (D925 j) (by omega)) (va_cwS 1 S.2.2.2.2 gX11_stayAt_X11_dateOf rfl rfl rfl (by decide +kernel) ⟨Nat.le_of_ble_eq_true rfl, Nat.le_of_ble_eq_true rfl⟩) rfl rfl hl.1 (Nat.le_of_ble_eq_true rfl) dX11_stayAt_115 (c1 := 0) (s1 := 0) ⟨⟨rfl, rfl⟩, by decide, by decide⟩ (fun H locs hV => ?_)
              exact sr_i E hQ dX11_stayAt_118 ⟨Nat.le_of_ble_eq_true rfl, Nat.le_of_ble_eq_true rfl⟩ hV (⟨c924, D925, rfl, hc67, fun x q0 q1 => ((((hf52 x (by omega)).trans (hf38 x (by omega))).trans (hf29 x (by omega) (by omega))).trans (hf9 x (by omega))).trans ((congrFun hM1 x).trans (va_up_ne M _ (by omega))), Or.inr (Or.inr (Or.inr (Or.inr (Or.inl ⟨(by rw [hse.1]; omega), by first | rw [if_pos (by omega)] | (rw [if_neg (by omega), hse.2 j (by omega) (by omega)]), hc56⟩))))⟩)
            · refine si_const S dX11_stayAt_105 ?_
              refine lv_goto (tgt := 118) hx_ hb_ dX11_stayAt_106 (by decide) ?_
              have hc68 : M47 (m + 9) = some (sArr G 62 D925) := ((hf52 (m + 9) (by omega)).trans (hf38 (m + 9) (by omega))).trans hc28
              exact sr_i E hQ dX11_stayAt_118 ⟨Nat.le_of_ble_eq_true rfl, Nat.le_of_ble_eq_true rfl⟩ hV (⟨c924, D925, rfl, hc68, fun x q0 q1 => ((((hf52 x (by omega)).trans (hf38 x (by omega))).trans (hf29 x (by omega) (by omega))).trans (hf9 x (by omega))).trans ((congrFun hM1 x).trans (va_up_ne M _ (by omega))), Or.inr (Or.inr (Or.inr (Or.inr (Or.inl ⟨(by rw [hse.1]; omega), by first | rw [if_pos (by omega)] | (rw [if_neg (by omega), hse.2 j (by omega) (by omega)]), hc56⟩))))⟩)
        · refine lv_iload_n hx_ hb_ dX11_stayAt_67 rfl (lv_at hl 2 rfl) ?_
          refine sz_ne (tgt := 76) S dX11_stayAt_68 (by decide) (by omega) (fun c69 => ?_) (fun c69 => ?_)
          · refine lv_aload_n hx_ hb_ dX11_stayAt_76 rfl (lv_at hl 0 rfl) ?_
            refine lv_iload_n hx_ hb_ dX11_stayAt_77 rfl (lv_at hl 1 rfl) ?_
            refine lv_aload_n hx_ hb_ dX11_stayAt_78 rfl (lv_at hl 0 rfl) ?_
            refine sc_get (ci := 9) (C := RX11) (T := TX11) (n := 22) S hK hV inX11_ hc56 rfl 12 (by decide) (S.2.2.2.2 _ (List.mem_of_getElem? (i := 4) rfl)) rfl rfl dX11_stayAt_79 ?_
            refine lv_iload_n hx_ hb_ dX11_stayAt_82 rfl (lv_at hl 2 rfl) ?_
            have hc70 : M47 (m + 9) = some (sArr G 62 D925) := ((hf52 (m + 9) (by omega)).trans (hf38 (m + 9) (by omega))).trans hc28
            refine sc_iald S hK hV hc70 (by omega) dX11_stayAt_83 ?_
            refine lv_aload_n hx_ hb_ dX11_stayAt_84 rfl (lv_at hl 0 rfl) ?_
            refine sc_get (ci := 9) (C := RX11) (T := TX11) (n := 22) S hK hV inX11_ hc56 rfl 1 (by decide) (S.2.2.2.2 _ (List.mem_of_getElem? (i := 2) rfl)) rfl rfl dX11_stayAt_85 ?_
            refine si_sipush S dX11_stayAt_88 (by decide) ?_
            have hc71 : M47 (m + 1) = some (sArr G 574 f) := (((hf52 (m + 1) (by omega)).trans (hf38 (m + 1) (by omega))).trans (hf29 (m + 1) (by omega) (by omega))).trans hc18
            refine sc_iald S hK hV hc71 (by omega) dX11_stayAt_91 ?_
            refine sk_VP E hV (As := [.int (sI s), .int (sI (D925 j)), .int (sI (f 571))]) (rest := []) (kX11_hand l_ G b_ M47 N m 0 ch tn ea c924 nm wn f s (D925 j) (f 571) hc56 hc71 (by omega) (by omega)) (cwV 3 S.2.2.2.2 gX11_stayAt_X11_hand rfl rfl rfl (by decide +kernel) ⟨Nat.le_of_ble_eq_true rfl, Nat.le_of_ble_eq_true rfl⟩) (ci := 9) hc56 rfl rfl rfl hl.1 (Nat.le_of_ble_eq_true rfl) dX11_stayAt_92 (c1 := 0) (s1 := 0) ⟨⟨rfl, rfl⟩, by decide, by decide⟩ (fun H locs hV => ?_)
            exact sr_i E hQ dX11_stayAt_95 ⟨Nat.le_of_ble_eq_true rfl, Nat.le_of_ble_eq_true rfl⟩ hV (⟨c924, D925, rfl, hc70, fun x q0 q1 => ((((hf52 x (by omega)).trans (hf38 x (by omega))).trans (hf29 x (by omega) (by omega))).trans (hf9 x (by omega))).trans ((congrFun hM1 x).trans (va_up_ne M _ (by omega))), Or.inr (Or.inr (Or.inr (Or.inl ⟨(by rw [hse.1]; omega), by first | (rw [hse.2 j (by omega) (by omega)]; done) | (rw [hse.2 j (by omega) (by omega), show j = 0 by omega, hsg0]; exact (hnd_6 hok (by omega)).symm), hc56⟩)))⟩)
          · refine si_bipush S dX11_stayAt_71 (by decide) ?_
            refine lv_goto (tgt := 95) hx_ hb_ dX11_stayAt_73 (by decide) ?_
            have hc72 : M47 (m + 9) = some (sArr G 62 D925) := ((hf52 (m + 9) (by omega)).trans (hf38 (m + 9) (by omega))).trans hc28
            exact sr_i E hQ dX11_stayAt_95 ⟨Nat.le_of_ble_eq_true rfl, Nat.le_of_ble_eq_true rfl⟩ hV (⟨c924, D925, rfl, hc72, fun x q0 q1 => ((((hf52 x (by omega)).trans (hf38 x (by omega))).trans (hf29 x (by omega) (by omega))).trans (hf9 x (by omega))).trans ((congrFun hM1 x).trans (va_up_ne M _ (by omega))), Or.inr (Or.inr (Or.inr (Or.inl ⟨(by rw [hse.1]; omega), by first | (rw [hse.2 j (by omega) (by omega)]; done) | (rw [hse.2 j (by omega) (by omega), show j = 0 by omega, hsg0]; exact (hnd_6 hok (by omega)).symm), hc56⟩)))⟩)
      · rw [ez58]
        refine sz_eq (tgt := 63) S dX11_stayAt_58 (by decide) (by omega) (fun c73 => absurd c73 (by omega)) (fun _ => ?_)
        refine si_const S dX11_stayAt_61 ?_
        have hc74 : M47 (m + 9) = some (sArr G 62 D925) := ((hf52 (m + 9) (by omega)).trans (hf38 (m + 9) (by omega))).trans hc28
        exact sr_i E hQ dX11_stayAt_62 ⟨Nat.le_of_ble_eq_true rfl, Nat.le_of_ble_eq_true rfl⟩ hV (⟨c924, D925, rfl, hc74, fun x q0 q1 => ((((hf52 x (by omega)).trans (hf38 x (by omega))).trans (hf29 x (by omega) (by omega))).trans (hf9 x (by omega))).trans ((congrFun hM1 x).trans (va_up_ne M _ (by omega))), Or.inr (Or.inr (Or.inl ⟨(by rw [hse.1]; omega), rfl, hc59⟩))⟩)
    · rw [ez44]
      refine sz_ne (tgt := 61) S dX11_stayAt_44 (by decide) (by omega) (fun _ => ?_) (fun c75 => absurd c75 (by omega))
      refine si_const S dX11_stayAt_61 ?_
      have hc76 : M33 (m + 9) = some (sArr G 62 D925) := (hf38 (m + 9) (by omega)).trans hc28
      exact sr_i E hQ dX11_stayAt_62 ⟨Nat.le_of_ble_eq_true rfl, Nat.le_of_ble_eq_true rfl⟩ hV (⟨c924, D925, rfl, hc76, fun x q0 q1 => (((hf38 x (by omega)).trans (hf29 x (by omega) (by omega))).trans (hf9 x (by omega))).trans ((congrFun hM1 x).trans (va_up_ne M _ (by omega))), Or.inr (Or.inl ⟨(by rw [hse.1]; omega), rfl, hc45⟩)⟩)
  · rw [ez15]
    refine sz_eq (tgt := 15) S dX11_stayAt_10 (by decide) (by omega) (fun c77 => absurd c77 (by omega)) (fun _ => ?_)
    refine si_const S dX11_stayAt_13 ?_
    have hc78 : M4 (m + 9) = some (sArr G 62 D) := ((hf9 (m + 9) (by omega)).trans ((congrFun hM1 (m + 9)).trans (va_up_ne M _ (by omega)))).trans hm9
    exact sr_i E hQ dX11_stayAt_14 ⟨Nat.le_of_ble_eq_true rfl, Nat.le_of_ble_eq_true rfl⟩ hV (⟨sn, D, rfl, hc78, fun x q0 q1 => (hf9 x (by omega)).trans ((congrFun hM1 x).trans (va_up_ne M _ (by omega))), Or.inl ⟨(by omega), rfl, hc16⟩⟩)
