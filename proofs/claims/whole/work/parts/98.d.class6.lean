/-! The class: stays. -/
def knoC (G : sG) (M : sM) (k : Nat) : Prop := ∃ (c : Int) (F Hn : sF), M k = some (sObj 5 [.ref (k + 1), .ref (k + 2), .int (sI c)]) ∧ M (k + 1) = some (sArr G 61 F) ∧ M (k + 2) = some (sArr G 61 Hn)
theorem knoC.fr {G : sG} {M M1 : sM} {k : Nat} (h : knoC G M k) (hf : ∀ x : Nat, k ≤ x → x < k + 3 → M1 x = M x) : knoC G M1 k := by
  obtain ⟨c, F, Hn, h0, h1, h2⟩ := h
  exact ⟨c, F, Hn, (hf k (by omega) (by omega)).trans h0, (hf (k + 1) (by omega) (by omega)).trans h1, (hf (k + 2) (by omega) (by omega)).trans h2⟩
theorem sk_h {h : Int → Int} {c : Int} {F Hn : sF} (hs : skQ h c F Hn) {J x : Int} (hJ : 0 ≤ J ∧ J < c) (h1 : dF F J ≤ x) (h2 : J + 1 < c → x < dF F (J + 1)) : h x = Hn J := by
  obtain ⟨⟨a1, a2, a3, a4⟩, b1, b2, b3⟩ := hs
  rw [(b3 J hJ.1 hJ.2).1]
  by_cases e : J + 1 < c
  · exact (a3 J hJ.1 e).2.2 x h1 (h2 e)
  · have e2 : J = c - 1 := by omega
    rw [e2] at h1 ⊢
    exact a4 x h1
theorem isum_k {n v : Int} {g : Int → Int} (h0 : 0 ≤ n) (h : ∀ k, 0 ≤ k → k < n → g k = v) : isum n g = n * v := by
  rw [isum_c (g' := fun _ => v) h]
  have := isum_b (n := n) (g := fun _ => v) v v h0 (fun _ _ _ => ⟨Int.le_refl _, Int.le_refl _⟩)
  omega
/-- the last day of the first stays -/
noncomputable def enE (F : sF) (c b J : Int) : Int := if J < c then min b (dF F J - 3653) else b
theorem dw_e (F : sF) (c q a b : Int) : dwI F c q a b = max 0 (enE F c b (q + 1) - (if q = 0 then a else max a (dF F q - 3652)) + 1) := by
  unfold dwI enE
  by_cases e : q < c - 1
  · rw [if_pos e, if_pos (show q + 1 < c by omega)]
  · rw [if_neg e, if_neg (show ¬ q + 1 < c by omega)]
theorem dw_r {F : sF} {c q a b : Int} (h : a ≤ b) : 0 ≤ dwI F c q a b ∧ dwI F c q a b ≤ b - a + 1 := by
  rw [dw_e]
  have h1 : enE F c b (q + 1) ≤ b := by unfold enE; split <;> omega
  have h2 : a ≤ (if q = 0 then a else max a (dF F q - 3652)) := by split <;> omega
  omega
theorem dw_sum {h : Int → Int} {c : Int} {F Hn : sF} (hs : skQ h c F Hn) {a b : Int} (ha : 0 ≤ a) (hab : a ≤ b) (ph : Int → Int) : isum (b - a + 1) (fun k => ph (h (a + 3652 + k))) = isum c (fun j => ph (Hn j) * dwI F c j a b) := by
  have hc := hs.2.1
  have hds := hs.2.2.1
  have key : ∀ n : Nat, (n : Int) + 1 ≤ c → isum (enE F c b ((n : Int) + 1) - a + 1) (fun k => ph (h (a + 3652 + k))) = isum ((n : Int) + 1) (fun j => ph (Hn j) * dwI F c j a b) := by
    intro n
    induction n with
    | zero =>
      intro hn
      rw [show ((0 : Nat) : Int) = 0 from rfl, isum_s _ (show (0 : Int) ≤ 0 by omega), isum_0]
      show isum (enE F c b (0 + 1) - a + 1) _ = 0 + ph (Hn 0) * dwI F c 0 a b
      rw [dw_e, if_pos rfl]
      have hE : 0 + 1 < c → enE F c b (0 + 1) ≤ dF F (0 + 1) - 3653 := fun q => by unfold enE; rw [if_pos q]; omega
      rcases Int.lt_or_le 0 (enE F c b (0 + 1) - a + 1) with e | e
      · rw [isum_k (v := ph (Hn 0)) (by omega) (fun k u v => by rw [sk_h hs (J := 0) ⟨by omega, by omega⟩ (by rw [dF_0 F (by omega)]; omega) (fun q => by have := hE q; omega)]), show max 0 (enE F c b (0 + 1) - a + 1) = enE F c b (0 + 1) - a + 1 by omega, Int.mul_comm]
        omega
      · rw [isum_neg _ e, show max 0 (enE F c b (0 + 1) - a + 1) = 0 by omega, Int.mul_zero]
        rfl
    | succ n ih =>
      intro hn
      have ih := ih (by omega)
      rw [show ((n + 1 : Nat) : Int) = (n : Int) + 1 by omega]
      generalize hJ : (n : Int) + 1 = J at ih hn ⊢
      have hJ1 : J < c := by omega
      rw [isum_s (n := J) _ (by omega), ← ih]
      show _ = _ + ph (Hn J) * dwI F c J a b
      rw [dw_e, if_neg (by omega)]
      have hE0 : enE F c b J = min b (dF F J - 3653) := by unfold enE; rw [if_pos hJ1]
      have hE1 : (J + 1 < c ∧ enE F c b (J + 1) = min b (dF F (J + 1) - 3653) ∧ dF F J < dF F (J + 1)) ∨ (¬ J + 1 < c ∧ enE F c b (J + 1) = b) := by
        unfold enE
        by_cases e : J + 1 < c
        · exact Or.inl ⟨e, if_pos e, dF_lt hds (by omega) (by omega) e⟩
        · exact Or.inr ⟨e, if_neg e⟩
      generalize enE F c b (J + 1) = E1 at hE1 ⊢
      rw [hE0]
      have hd : ∀ x, dF F J ≤ x → x ≤ E1 + 3652 → h x = Hn J := fun x u v => sk_h hs ⟨by omega, hJ1⟩ u (fun q => by omega)
      rcases Int.lt_or_le 0 (E1 - a + 1) with e | e
      · rcases Int.lt_or_le 0 (min b (dF F J - 3653) - a + 1) with e2 | e2
        · rcases Int.lt_or_le (dF F J - 3653) b with e3 | e3
          · have h1 := isum_ap (a := min b (dF F J - 3653) - a + 1) (b := E1 - min b (dF F J - 3653)) (fun k => ph (h (a + 3652 + k))) (by omega) (by omega)
            rw [show min b (dF F J - 3653) - a + 1 + (E1 - min b (dF F J - 3653)) = E1 - a + 1 by omega] at h1
            rw [h1, isum_k (n := E1 - min b (dF F J - 3653)) (v := ph (Hn J)) (by omega) (fun k u v => by rw [hd _ (by omega) (by omega)]), show max 0 (E1 - max a (dF F J - 3652) + 1) = E1 - min b (dF F J - 3653) by omega, Int.mul_comm (ph (Hn J))]
          · rw [show max 0 (E1 - max a (dF F J - 3652) + 1) = 0 by omega, Int.mul_zero, show E1 - a + 1 = min b (dF F J - 3653) - a + 1 by omega]
            omega
        · rw [isum_neg _ e2, isum_k (v := ph (Hn J)) (by omega) (fun k u v => by rw [hd _ (by omega) (by omega)]), show max 0 (E1 - max a (dF F J - 3652) + 1) = E1 - a + 1 by omega, Int.mul_comm]
          omega
      · rw [isum_neg _ e, isum_neg _ (show min b (dF F J - 3653) - a + 1 ≤ 0 by omega), show max 0 (E1 - max a (dF F J - 3652) + 1) = 0 by omega, Int.mul_zero]
        rfl
  have h1 := key (c - 1).toNat (by omega)
  rw [show (((c - 1).toNat : Nat) : Int) + 1 = c by omega] at h1
  rw [← h1]
  unfold enE
  rw [if_neg (by omega)]
def aw1 (v : Int) : Int := if v ≠ 0 then 1 else 0
def fe1 (v : Int) : Int := if v = 6 then 0 else v
theorem aw_s {f : sF} {s a b c : Int} {F Hn : sF} (hs : skQ (fun x => hnd f s x (f 571)) c F Hn) (ha : 0 ≤ a) (hab : a ≤ b) : isum (b - a + 1) (awT f s (a + 3652)) = isum c (fun j => aw1 (Hn j) * dwI F c j a b) := dw_sum hs ha hab aw1
theorem fe_s {f : sF} {s a b c : Int} {F Hn : sF} (hs : skQ (fun x => hnd f s x (f 571)) c F Hn) (ha : 0 ≤ a) (hab : a ≤ b) : isum (b - a + 1) (fdT f s (a + 3652)) = f (40 + s) * isum c (fun j => fe1 (Hn j) * dwI F c j a b) := by
  rw [← dw_sum hs ha hab fe1, isum_mull]
  refine isum_c fun k _ _ => ?_
  unfold fdT fe1
  split
  · rw [Int.mul_zero]
  · rfl
theorem fe_r {c a b : Int} {F Hn : sF} (hH : ∀ j, 0 ≤ j → j < c → 0 ≤ Hn j ∧ Hn j ≤ 6) (hab : a ≤ b ∧ b - a + 1 ≤ 109573) (j : Int) (h : 0 ≤ j ∧ j ≤ c) : 0 ≤ isum j (fun j => fe1 (Hn j) * dwI F c j a b) ∧ isum j (fun j => fe1 (Hn j) * dwI F c j a b) ≤ j * 657438 := by
  have h1 := isum_b (n := j) (g := fun j => fe1 (Hn j) * dwI F c j a b) 0 657438 h.1 (fun k u v => by
    have h2 := hH k u (by omega)
    have h3 := dw_r (F := F) (c := c) (q := k) hab.1
    have h4 : 0 ≤ fe1 (Hn k) ∧ fe1 (Hn k) ≤ 6 := by unfold fe1; split <;> omega
    have h5 : 0 * 0 ≤ fe1 (Hn k) * dwI F c k a b := Int.mul_le_mul h4.1 h3.1 (by omega) h4.1
    have h6 : fe1 (Hn k) * dwI F c k a b ≤ 6 * 109573 := Int.mul_le_mul h4.2 (by omega) h3.1 (by omega)
    exact ⟨by omega, by omega⟩)
  omega

abbrev rmX10_handOn : Room := { frames := 7, cells := 10, slots := 60, locals := 146 }
set_option maxHeartbeats 4000000 in
set_option maxRecDepth 100000 in
theorem kX10_handOn (l_ : Launch) (G : sG) (b_ : Nat) (M : sM) (N : Nat) (c : Nat) (kn ch : Int) (f : sF) (s d t : Int) (hc0 : M c = some (xO c kn ch)) (hst : stC G M (c + 1) f) (hkn : knoC G M (c + 54)) (hlt : l_.stackTraces = false) (hok : sOk f) (hr : sR s ∧ sR d ∧ sR t) : xcI l_ yX10_handOn wsX10_handOn rmX10_handOn G b_ M N [.ref c, .int (sI s), .int (sI d), .int (sI t)] (fun z_ M1 N1 => N1 = N ∧ knoC G M1 (c + 54) ∧ (∀ x : Nat, ¬ (c + 54 ≤ x ∧ x < c + 54 + 3) → M1 x = M x) ∧ ((((0 ≤ s ∧ s < f 568) ∧ isDt d ∧ 0 ≤ t ∧ t ≤ f 571) ∧ z_ = hnd f s (dayI d + 3652) t))) (fun E_ M1 N1 => N ≤ N1 ∧ knoC G M1 (c + 54) ∧ (∀ x : Nat, ¬ (c + 54 ≤ x ∧ x < c + 54 + 3) → M1 x = M x) ∧ (((¬ (0 ≤ s ∧ s < f 568)) ∧ E_ = "java/lang/IndexOutOfBoundsException") ∨ (((0 ≤ s ∧ s < f 568) ∧ ¬ (isDt d ∧ 0 ≤ t ∧ t ≤ f 571)) ∧ E_ = "java/lang/IllegalArgumentException"))) := by
  refine xcE.ofI (cc := cX10_handOn) (nL := 4) (ret := (some .int)) (by decide) rfl (Nat.le_of_ble_eq_true rfl) ?_
  intro p_ e_ s_ m_ args_ below_ meth_ c_ ls Q hQ E hF_ hxt_ hl
  have E : sE p_ l_ e_ rmX10_handOn s_ m_ args_ below_ meth_ c_ cX10_handOn 4 wsX10_handOn RX10 "handOn" (some .int) G b_ M N := E
  have S := E.1
  have hx_ := S.1
  have hb_ := S.2.1
  have hK := E.2.2.2.2.1
  have hV := E.2.2.2.2.2.2
  have hl : lv_has ls 4 [(0, .ref c), (1, .int (sI s)), (2, .int (sI d)), (3, .int (sI t))] := hl
  have inX10_ : ∀ w ∈ wsX100, w ∈ wsX10_handOn := fun _ h => List.mem_cons_of_mem _ (List.mem_append_left _ (List.mem_append_left _ (List.mem_append_left _ (List.mem_append_left _ (List.mem_append_left _ (List.mem_append_right _ h))))))
  have inX6_ : ∀ w ∈ wsX60, w ∈ wsX10_handOn := fun _ h => List.mem_cons_of_mem _ (List.mem_append_left _ (List.mem_append_left _ (List.mem_append_left _ (List.mem_append_left _ (List.mem_append_right _ h)))))
  have inX8_ : ∀ w ∈ wsX80, w ∈ wsX10_handOn := fun _ h => List.mem_cons_of_mem _ (List.mem_append_left _ (List.mem_append_left _ (List.mem_append_left _ (List.mem_append_right _ h))))
  have inX7_ : ∀ w ∈ wsX70, w ∈ wsX10_handOn := fun _ h => List.mem_cons_of_mem _ (List.mem_append_left _ (List.mem_append_left _ (List.mem_append_right _ h)))
  have hbN : b_ ≤ N := by have h1 := hV.1.1; have h2 := hV.2.2; omega
  have kn0 := sOk_N hok
  have hkn2 := hkn
  obtain ⟨c0, F0_, H0_, h54, h55, h56⟩ := hkn2
  refine lv_aload_n hx_ hb_ dX10_handOn_0 rfl (lv_at hl 0 rfl) ?_
  refine lv_iload_n hx_ hb_ dX10_handOn_1 rfl (lv_at hl 1 rfl) ?_
  refine xk_Vv E hF_ hxt_ hQ hV (As := [.int (sI s)]) (rest := []) (kX10_needStone l_ G b_ M N c kn ch f s hc0 hst (by omega) (by omega) (by omega)) (cwV 1 S.2.2.2.2 gX10_handOn_X10_needStone rfl rfl rfl (by decide +kernel) ⟨Nat.le_of_ble_eq_true rfl, Nat.le_of_ble_eq_true rfl⟩) (ci := 8) hc0 rfl rfl rfl hl.1 (Nat.le_of_ble_eq_true rfl) dX10_handOn_2 (c1 := 1) (s1 := 6) ⟨⟨rfl, rfl⟩, by decide, by decide⟩ ⟨Nat.le_of_ble_eq_true rfl, Nat.le_of_ble_eq_true rfl⟩ ?_ (fun M1 N2 H locs hp3 hV => ?_)
  · rintro E9 M9 N9 ⟨hN5, hf6, hq7⟩
    rcases hq7 with ⟨c8, ee9⟩
    · have hc10 : knoC G M9 (c + 54) := hkn.fr (fun x q8 q9 => hf6 x )
      exact ⟨by omega, hc10, fun x q0 => hf6 x , Or.inl ⟨(by first | exact c8 | omega), ee9⟩⟩
  obtain ⟨hN11, hf12, hq13⟩ := hp3
  rw [hN11] at hV
  rcases hq13 with c14
  · refine lv_iload_n hx_ hb_ dX10_handOn_5 rfl (lv_at hl 2 rfl) ?_
    refine xk_Sv E hF_ hxt_ hQ hV (As := [.int (sI d)]) (rest := []) (kX10_needDate l_ G b_ M1 N d (by omega) (by omega)) (va_cwS 1 S.2.2.2.2 gX10_handOn_X10_needDate rfl rfl rfl (by decide +kernel) ⟨Nat.le_of_ble_eq_true rfl, Nat.le_of_ble_eq_true rfl⟩) rfl rfl hl.1 (Nat.le_of_ble_eq_true rfl) dX10_handOn_6 (c1 := 2) (s1 := 12) ⟨⟨rfl, rfl⟩, by decide, by decide⟩ ⟨Nat.le_of_ble_eq_true rfl, Nat.le_of_ble_eq_true rfl⟩ ?_ (fun M15 N16 H locs hp17 hV => ?_)
    · rintro E9 M9 N9 ⟨hN19, hf20, hq21⟩
      rcases hq21 with ⟨c22, ee23⟩
      · have hc24 : knoC G M9 (c + 54) := hkn.fr (fun x q8 q9 => (hf20 x ).trans (hf12 x ))
        exact ⟨by omega, hc24, fun x q0 => (hf20 x ).trans (hf12 x ), Or.inr (⟨(⟨by omega, fun h => c22 h.1⟩), ee23⟩)⟩
    obtain ⟨hN25, hf26, hq27⟩ := hp17
    rw [hN25] at hV
    rcases hq27 with c28
    · refine lv_iload_n hx_ hb_ dX10_handOn_9 rfl (lv_at hl 3 rfl) ?_
      refine si_const S dX10_handOn_10 ?_
      refine lv_aload_n hx_ hb_ dX10_handOn_11 rfl (lv_at hl 0 rfl) ?_
      have hc29 : M15 c = some (xO c kn ch) := ((hf26 c ).trans (hf12 c )).trans hc0
      refine sc_get (ci := 8) (C := RX10) (T := TX10) (n := 11) S hK hV inX10_ hc29 rfl 0 (by decide) (S.2.2.2.2 _ (List.mem_of_getElem? (i := 1) rfl)) rfl rfl dX10_handOn_12 ?_
      have hc30 : stC G M15 (c + 1) f := hst.fr (fun x q8 q9 => (hf26 x ).trans (hf12 x ))
      refine sc_getN (ci := 4) (C := RX6) (T := TX6) (n := 8) S hK hV inX6_ (hc30).1 rfl 7 (by decide) (E.2.2.2.2.2.1.1.2.1 _ (List.mem_of_getElem? (i := 14) rfl)) rfl rfl dX10_handOn_15 ?_
      refine xk_Sv E hF_ hxt_ hQ hV (As := [.int (sI t), .int (sI 0), .int (sI (f 571))]) (rest := []) (kX10_needRange l_ G b_ M15 N t 0 (f 571) (by omega) (by omega)) (va_cwS 3 S.2.2.2.2 gX10_handOn_X10_needRange rfl rfl rfl (by decide +kernel) ⟨Nat.le_of_ble_eq_true rfl, Nat.le_of_ble_eq_true rfl⟩) rfl rfl hl.1 (Nat.le_of_ble_eq_true rfl) dX10_handOn_18 (c1 := 3) (s1 := 18) ⟨⟨rfl, rfl⟩, by decide, by decide⟩ ⟨Nat.le_of_ble_eq_true rfl, Nat.le_of_ble_eq_true rfl⟩ ?_ (fun M31 N32 H locs hp33 hV => ?_)
      · rintro E9 M9 N9 ⟨hN35, hf36, hq37⟩
        rcases hq37 with ⟨c38, ee39⟩
        · have hc40 : knoC G M9 (c + 54) := hkn.fr (fun x q8 q9 => ((hf36 x ).trans (hf26 x )).trans (hf12 x ))
          exact ⟨by omega, hc40, fun x q0 => ((hf36 x ).trans (hf26 x )).trans (hf12 x ), Or.inr (⟨(⟨by omega, fun h => c38 h.2⟩), ee39⟩)⟩
      obtain ⟨hN41, hf42, hq43⟩ := hp33
      rw [hN41] at hV
      rcases hq43 with c44
      · refine lv_aload_n hx_ hb_ dX10_handOn_21 rfl (lv_at hl 0 rfl) ?_
        have hc45 : M31 c = some (xO c kn ch) := (hf42 c ).trans hc29
        refine sc_get (ci := 8) (C := RX10) (T := TX10) (n := 11) S hK hV inX10_ hc45 rfl 9 (by decide) (S.2.2.2.2 _ (List.mem_of_getElem? (i := 2) rfl)) rfl rfl dX10_handOn_22 ?_
        refine lv_aload_n hx_ hb_ dX10_handOn_25 rfl (lv_at hl 0 rfl) ?_
        refine sc_get (ci := 8) (C := RX10) (T := TX10) (n := 11) S hK hV inX10_ hc45 rfl 0 (by decide) (S.2.2.2.2 _ (List.mem_of_getElem? (i := 1) rfl)) rfl rfl dX10_handOn_26 ?_
        refine lv_iload_n hx_ hb_ dX10_handOn_29 rfl (lv_at hl 1 rfl) ?_
        refine lv_iload_n hx_ hb_ dX10_handOn_30 rfl (lv_at hl 3 rfl) ?_
        have hc46 : M31 (c + 54) = some (sObj 5 [.ref (c + 55), .ref (c + 56), .int (sI c0)]) := (((hf42 (c + 54) ).trans (hf26 (c + 54) )).trans (hf12 (c + 54) )).trans h54
        have hc47 : M31 (c + 55) = some (sArr G 61 F0_) := (((hf42 (c + 55) ).trans (hf26 (c + 55) )).trans (hf12 (c + 55) )).trans h55
        have hc48 : M31 (c + 56) = some (sArr G 61 H0_) := (((hf42 (c + 56) ).trans (hf26 (c + 56) )).trans (hf12 (c + 56) )).trans h56
        have hc49 : stC G M31 (c + 1) f := hc30.fr (fun x q8 q9 => hf42 x )
        refine sk_Vv E hV (As := [.ref (c + 1), .int (sI s), .int (sI t)]) (rest := []) (kX7_lookAt l_ G b_ M31 N (c + 54) (c + 1) c0 F0_ H0_ f s t hc46 hc47 hc48 hc49 (by omega) (by omega) (by omega)) (cwV 3 S.2.2.2.2 gX10_handOn_X7_lookAt rfl rfl rfl (by decide +kernel) ⟨Nat.le_of_ble_eq_true rfl, Nat.le_of_ble_eq_true rfl⟩) (ci := 5) hc46 rfl rfl rfl hl.1 (Nat.le_of_ble_eq_true rfl) dX10_handOn_31 (c1 := 3) (s1 := 18) ⟨⟨rfl, rfl⟩, by decide, by decide⟩ (fun M50 N51 H locs hp52 hV => ?_)
        obtain ⟨c954, F955, H956, hN57, hc58, hc59, hc60, hf61, hsk962⟩ := hp52
        rw [hN57] at hV
        have hsk9 := hsk962
        have hseg := seg_eq hsk9.1
        have hskc := hsk9.2.1
        refine lv_aload_n hx_ hb_ dX10_handOn_34 rfl (lv_at hl 0 rfl) ?_
        have hc63 : M50 c = some (xO c kn ch) := (hf61 c (by omega) (by omega) (by omega)).trans hc45
        refine sc_get (ci := 8) (C := RX10) (T := TX10) (n := 11) S hK hV inX10_ hc63 rfl 9 (by decide) (S.2.2.2.2 _ (List.mem_of_getElem? (i := 2) rfl)) rfl rfl dX10_handOn_35 ?_
        refine lv_iload_n hx_ hb_ dX10_handOn_38 rfl (lv_at hl 2 rfl) ?_
        refine sk_VP E hV (As := [.int (sI d)]) (rest := []) (kX7_handAt l_ G b_ M50 N (c + 54) c954 F955 H956 (fun x => hnd f s x t) d hc58 hc59 hc60 (hsk9) (by assumption)) (cwV 1 S.2.2.2.2 gX10_handOn_X7_handAt rfl rfl rfl (by decide +kernel) ⟨Nat.le_of_ble_eq_true rfl, Nat.le_of_ble_eq_true rfl⟩) (ci := 5) hc58 rfl rfl rfl hl.1 (Nat.le_of_ble_eq_true rfl) dX10_handOn_39 (c1 := 3) (s1 := 18) ⟨⟨rfl, rfl⟩, by decide, by decide⟩ (fun H locs hV => ?_)
        exact xr_i E hQ dX10_handOn_42 ⟨Nat.le_of_ble_eq_true rfl, Nat.le_of_ble_eq_true rfl⟩ hV (⟨rfl, ⟨_, _, _, hc58, hc59, hc60⟩, fun x q0 => (((hf61 x (by omega) (by omega) (by omega)).trans (hf42 x )).trans (hf26 x )).trans (hf12 x ), ⟨(⟨by omega, by assumption, by omega⟩), rfl⟩⟩)

abbrev rmX10_stays : Room := { frames := 7, cells := 10, slots := 60, locals := 122 }
set_option maxHeartbeats 4000000 in
set_option maxRecDepth 100000 in
theorem kX10_stays (l_ : Launch) (G : sG) (b_ : Nat) (M : sM) (N : Nat) (c : Nat) (kn ch : Int) (f : sF) (s t : Int) (hc0 : M c = some (xO c kn ch)) (hst : stC G M (c + 1) f) (hkn : knoC G M (c + 54)) (hlt : l_.stackTraces = false) (hok : sOk f) (hr : sR s ∧ sR t) : xcI l_ yX10_stays wsX10_stays rmX10_stays G b_ M N [.ref c, .int (sI s), .int (sI t)] (fun z_ M1 N1 => N1 = N ∧ knoC G M1 (c + 54) ∧ (∀ x : Nat, ¬ (c + 54 ≤ x ∧ x < c + 54 + 3) → M1 x = M x) ∧ ((((0 ≤ s ∧ s < f 568) ∧ 0 ≤ t ∧ t ≤ f 571) ∧ z_ = segC (fun x => hnd f s x t)))) (fun E_ M1 N1 => N ≤ N1 ∧ knoC G M1 (c + 54) ∧ (∀ x : Nat, ¬ (c + 54 ≤ x ∧ x < c + 54 + 3) → M1 x = M x) ∧ (((¬ (0 ≤ s ∧ s < f 568)) ∧ E_ = "java/lang/IndexOutOfBoundsException") ∨ (((0 ≤ s ∧ s < f 568) ∧ ¬ (0 ≤ t ∧ t ≤ f 571)) ∧ E_ = "java/lang/IllegalArgumentException"))) := by
  refine xcE.ofI (cc := cX10_stays) (nL := 3) (ret := (some .int)) (by decide) rfl (Nat.le_of_ble_eq_true rfl) ?_
  intro p_ e_ s_ m_ args_ below_ meth_ c_ ls Q hQ E hF_ hxt_ hl
  have E : sE p_ l_ e_ rmX10_stays s_ m_ args_ below_ meth_ c_ cX10_stays 3 wsX10_stays RX10 "stays" (some .int) G b_ M N := E
  have S := E.1
  have hx_ := S.1
  have hb_ := S.2.1
  have hK := E.2.2.2.2.1
  have hV := E.2.2.2.2.2.2
  have hl : lv_has ls 3 [(0, .ref c), (1, .int (sI s)), (2, .int (sI t))] := hl
  have inX10_ : ∀ w ∈ wsX100, w ∈ wsX10_stays := fun _ h => List.mem_cons_of_mem _ (List.mem_append_left _ (List.mem_append_left _ (List.mem_append_left _ (List.mem_append_left _ (List.mem_append_left _ (List.mem_append_right _ h))))))
  have inX6_ : ∀ w ∈ wsX60, w ∈ wsX10_stays := fun _ h => List.mem_cons_of_mem _ (List.mem_append_left _ (List.mem_append_left _ (List.mem_append_left _ (List.mem_append_left _ (List.mem_append_right _ h)))))
  have inX8_ : ∀ w ∈ wsX80, w ∈ wsX10_stays := fun _ h => List.mem_cons_of_mem _ (List.mem_append_left _ (List.mem_append_left _ (List.mem_append_left _ (List.mem_append_right _ h))))
  have inX7_ : ∀ w ∈ wsX70, w ∈ wsX10_stays := fun _ h => List.mem_cons_of_mem _ (List.mem_append_left _ (List.mem_append_left _ (List.mem_append_right _ h)))
  have hbN : b_ ≤ N := by have h1 := hV.1.1; have h2 := hV.2.2; omega
  have kn0 := sOk_N hok
  have hkn2 := hkn
  obtain ⟨c0, F0_, H0_, h54, h55, h56⟩ := hkn2
  refine lv_aload_n hx_ hb_ dX10_stays_0 rfl (lv_at hl 0 rfl) ?_
  refine lv_iload_n hx_ hb_ dX10_stays_1 rfl (lv_at hl 1 rfl) ?_
  refine xk_Vv E hF_ hxt_ hQ hV (As := [.int (sI s)]) (rest := []) (kX10_needStone l_ G b_ M N c kn ch f s hc0 hst (by omega) (by omega) (by omega)) (cwV 1 S.2.2.2.2 gX10_stays_X10_needStone rfl rfl rfl (by decide +kernel) ⟨Nat.le_of_ble_eq_true rfl, Nat.le_of_ble_eq_true rfl⟩) (ci := 8) hc0 rfl rfl rfl hl.1 (Nat.le_of_ble_eq_true rfl) dX10_stays_2 (c1 := 1) (s1 := 6) ⟨⟨rfl, rfl⟩, by decide, by decide⟩ ⟨Nat.le_of_ble_eq_true rfl, Nat.le_of_ble_eq_true rfl⟩ ?_ (fun M1 N2 H locs hp3 hV => ?_)
  · rintro E9 M9 N9 ⟨hN5, hf6, hq7⟩
    rcases hq7 with ⟨c8, ee9⟩
    · have hc10 : knoC G M9 (c + 54) := hkn.fr (fun x q8 q9 => hf6 x )
      exact ⟨by omega, hc10, fun x q0 => hf6 x , Or.inl ⟨(by first | exact c8 | omega), ee9⟩⟩
  obtain ⟨hN11, hf12, hq13⟩ := hp3
  rw [hN11] at hV
  rcases hq13 with c14
  · refine lv_iload_n hx_ hb_ dX10_stays_5 rfl (lv_at hl 2 rfl) ?_
    refine si_const S dX10_stays_6 ?_
    refine lv_aload_n hx_ hb_ dX10_stays_7 rfl (lv_at hl 0 rfl) ?_
    have hc15 : M1 c = some (xO c kn ch) := (hf12 c ).trans hc0
    refine sc_get (ci := 8) (C := RX10) (T := TX10) (n := 11) S hK hV inX10_ hc15 rfl 0 (by decide) (S.2.2.2.2 _ (List.mem_of_getElem? (i := 1) rfl)) rfl rfl dX10_stays_8 ?_
    have hc16 : stC G M1 (c + 1) f := hst.fr (fun x q8 q9 => hf12 x )
    refine sc_getN (ci := 4) (C := RX6) (T := TX6) (n := 8) S hK hV inX6_ (hc16).1 rfl 7 (by decide) (E.2.2.2.2.2.1.1.2.1 _ (List.mem_of_getElem? (i := 14) rfl)) rfl rfl dX10_stays_11 ?_
    refine xk_Sv E hF_ hxt_ hQ hV (As := [.int (sI t), .int (sI 0), .int (sI (f 571))]) (rest := []) (kX10_needRange l_ G b_ M1 N t 0 (f 571) (by omega) (by omega)) (va_cwS 3 S.2.2.2.2 gX10_stays_X10_needRange rfl rfl rfl (by decide +kernel) ⟨Nat.le_of_ble_eq_true rfl, Nat.le_of_ble_eq_true rfl⟩) rfl rfl hl.1 (Nat.le_of_ble_eq_true rfl) dX10_stays_14 (c1 := 2) (s1 := 12) ⟨⟨rfl, rfl⟩, by decide, by decide⟩ ⟨Nat.le_of_ble_eq_true rfl, Nat.le_of_ble_eq_true rfl⟩ ?_ (fun M17 N18 H locs hp19 hV => ?_)
    · rintro E9 M9 N9 ⟨hN21, hf22, hq23⟩
      rcases hq23 with ⟨c24, ee25⟩
      · have hc26 : knoC G M9 (c + 54) := hkn.fr (fun x q8 q9 => (hf22 x ).trans (hf12 x ))
        exact ⟨by omega, hc26, fun x q0 => (hf22 x ).trans (hf12 x ), Or.inr (⟨(by first | exact c24 | omega), ee25⟩)⟩
    obtain ⟨hN27, hf28, hq29⟩ := hp19
    rw [hN27] at hV
    rcases hq29 with c30
    · refine lv_aload_n hx_ hb_ dX10_stays_17 rfl (lv_at hl 0 rfl) ?_
      have hc31 : M17 c = some (xO c kn ch) := (hf28 c ).trans hc15
      refine sc_get (ci := 8) (C := RX10) (T := TX10) (n := 11) S hK hV inX10_ hc31 rfl 9 (by decide) (S.2.2.2.2 _ (List.mem_of_getElem? (i := 2) rfl)) rfl rfl dX10_stays_18 ?_
      refine lv_aload_n hx_ hb_ dX10_stays_21 rfl (lv_at hl 0 rfl) ?_
      refine sc_get (ci := 8) (C := RX10) (T := TX10) (n := 11) S hK hV inX10_ hc31 rfl 0 (by decide) (S.2.2.2.2 _ (List.mem_of_getElem? (i := 1) rfl)) rfl rfl dX10_stays_22 ?_
      refine lv_iload_n hx_ hb_ dX10_stays_25 rfl (lv_at hl 1 rfl) ?_
      refine lv_iload_n hx_ hb_ dX10_stays_26 rfl (lv_at hl 2 rfl) ?_
      have hc32 : M17 (c + 54) = some (sObj 5 [.ref (c + 55), .ref (c + 56), .int (sI c0)]) := ((hf28 (c + 54) ).trans (hf12 (c + 54) )).trans h54
      have hc33 : M17 (c + 55) = some (sArr G 61 F0_) := ((hf28 (c + 55) ).trans (hf12 (c + 55) )).trans h55
      have hc34 : M17 (c + 56) = some (sArr G 61 H0_) := ((hf28 (c + 56) ).trans (hf12 (c + 56) )).trans h56
      have hc35 : stC G M17 (c + 1) f := hc16.fr (fun x q8 q9 => hf28 x )
      refine sk_Vv E hV (As := [.ref (c + 1), .int (sI s), .int (sI t)]) (rest := []) (kX7_lookAt l_ G b_ M17 N (c + 54) (c + 1) c0 F0_ H0_ f s t hc32 hc33 hc34 hc35 (by omega) (by omega) (by omega)) (cwV 3 S.2.2.2.2 gX10_stays_X7_lookAt rfl rfl rfl (by decide +kernel) ⟨Nat.le_of_ble_eq_true rfl, Nat.le_of_ble_eq_true rfl⟩) (ci := 5) hc32 rfl rfl rfl hl.1 (Nat.le_of_ble_eq_true rfl) dX10_stays_27 (c1 := 2) (s1 := 12) ⟨⟨rfl, rfl⟩, by decide, by decide⟩ (fun M36 N37 H locs hp38 hV => ?_)
      obtain ⟨c940, F941, H942, hN43, hc44, hc45, hc46, hf47, hsk948⟩ := hp38
      rw [hN43] at hV
      have hsk9 := hsk948
      have hseg := seg_eq hsk9.1
      have hskc := hsk9.2.1
      refine lv_aload_n hx_ hb_ dX10_stays_30 rfl (lv_at hl 0 rfl) ?_
      have hc49 : M36 c = some (xO c kn ch) := (hf47 c (by omega) (by omega) (by omega)).trans hc31
      refine sc_get (ci := 8) (C := RX10) (T := TX10) (n := 11) S hK hV inX10_ hc49 rfl 9 (by decide) (S.2.2.2.2 _ (List.mem_of_getElem? (i := 2) rfl)) rfl rfl dX10_stays_31 ?_
      refine sk_VP E hV (As := []) (rest := []) (kX7_size l_ G b_ M36 N (c + 54) c940 hc44) (cwV 0 S.2.2.2.2 gX10_stays_X7_size rfl rfl rfl (by decide +kernel) ⟨Nat.le_of_ble_eq_true rfl, Nat.le_of_ble_eq_true rfl⟩) (ci := 5) hc44 rfl rfl rfl hl.1 (Nat.le_of_ble_eq_true rfl) dX10_stays_34 (c1 := 2) (s1 := 12) ⟨⟨rfl, rfl⟩, by decide, by decide⟩ (fun H locs hV => ?_)
      exact xr_i E hQ dX10_stays_37 ⟨Nat.le_of_ble_eq_true rfl, Nat.le_of_ble_eq_true rfl⟩ hV (⟨rfl, ⟨_, _, _, hc44, hc45, hc46⟩, fun x q0 => ((hf47 x (by omega) (by omega) (by omega)).trans (hf28 x )).trans (hf12 x ), ⟨(by omega), hseg.1.symm⟩⟩)

abbrev rmX10_stayAt : Room := { frames := 7, cells := 10, slots := 60, locals := 146 }
set_option maxHeartbeats 4000000 in
set_option maxRecDepth 100000 in
theorem kX10_stayAt (l_ : Launch) (G : sG) (b_ : Nat) (M : sM) (N : Nat) (c : Nat) (kn ch : Int) (f : sF) (s j v : Int) (hc0 : M c = some (xO c kn ch)) (hst : stC G M (c + 1) f) (hkn : knoC G M (c + 54)) (hlt : l_.stackTraces = false) (hok : sOk f) (hr : sR s ∧ sR j ∧ sR v) : xcI l_ yX10_stayAt wsX10_stayAt rmX10_stayAt G b_ M N [.ref c, .int (sI s), .int (sI j), .int (sI v)] (fun z_ M1 N1 => N1 = N ∧ knoC G M1 (c + 54) ∧ (∀ x : Nat, ¬ (c + 54 ≤ x ∧ x < c + 54 + 3) → M1 x = M x) ∧ ((((0 ≤ s ∧ s < f 568) ∧ (0 ≤ j ∧ j < segC (fun x => hnd f s x (f 571))) ∧ v = 0) ∧ z_ = hnd f s (segD (fun x => hnd f s x (f 571)) j) (f 571)) ∨ (((0 ≤ s ∧ s < f 568) ∧ (0 ≤ j ∧ j < segC (fun x => hnd f s x (f 571))) ∧ v = 1) ∧ z_ = (if j = 0 then -1 else dat (segD (fun x => hnd f s x (f 571)) j))) ∨ (((0 ≤ s ∧ s < f 568) ∧ (0 ≤ j ∧ j < segC (fun x => hnd f s x (f 571))) ∧ v = 2) ∧ z_ = (if j = segC (fun x => hnd f s x (f 571)) - 1 then -1 else dat (segD (fun x => hnd f s x (f 571)) (j + 1) - 1))))) (fun E_ M1 N1 => N ≤ N1 ∧ knoC G M1 (c + 54) ∧ (∀ x : Nat, ¬ (c + 54 ≤ x ∧ x < c + 54 + 3) → M1 x = M x) ∧ (((¬ (0 ≤ s ∧ s < f 568)) ∧ E_ = "java/lang/IndexOutOfBoundsException") ∨ (((0 ≤ s ∧ s < f 568) ∧ ¬ (0 ≤ j ∧ j < segC (fun x => hnd f s x (f 571)))) ∧ E_ = "java/lang/IndexOutOfBoundsException") ∨ (((0 ≤ s ∧ s < f 568) ∧ (0 ≤ j ∧ j < segC (fun x => hnd f s x (f 571))) ∧ ¬ (0 ≤ v ∧ v ≤ 2)) ∧ E_ = "java/lang/IllegalArgumentException"))) := by
  refine xcE.ofI (cc := cX10_stayAt) (nL := 4) (ret := (some .int)) (by decide) rfl (Nat.le_of_ble_eq_true rfl) ?_
  intro p_ e_ s_ m_ args_ below_ meth_ c_ ls Q hQ E hF_ hxt_ hl
  have E : sE p_ l_ e_ rmX10_stayAt s_ m_ args_ below_ meth_ c_ cX10_stayAt 4 wsX10_stayAt RX10 "stayAt" (some .int) G b_ M N := E
  have S := E.1
  have hx_ := S.1
  have hb_ := S.2.1
  have hK := E.2.2.2.2.1
  have hV := E.2.2.2.2.2.2
  have hl : lv_has ls 4 [(0, .ref c), (1, .int (sI s)), (2, .int (sI j)), (3, .int (sI v))] := hl
  have inX10_ : ∀ w ∈ wsX100, w ∈ wsX10_stayAt := fun _ h => List.mem_cons_of_mem _ (List.mem_append_left _ (List.mem_append_left _ (List.mem_append_left _ (List.mem_append_left _ (List.mem_append_left _ (List.mem_append_right _ h))))))
  have inX6_ : ∀ w ∈ wsX60, w ∈ wsX10_stayAt := fun _ h => List.mem_cons_of_mem _ (List.mem_append_left _ (List.mem_append_left _ (List.mem_append_left _ (List.mem_append_left _ (List.mem_append_right _ h)))))
  have inX8_ : ∀ w ∈ wsX80, w ∈ wsX10_stayAt := fun _ h => List.mem_cons_of_mem _ (List.mem_append_left _ (List.mem_append_left _ (List.mem_append_left _ (List.mem_append_right _ h))))
  have inX7_ : ∀ w ∈ wsX70, w ∈ wsX10_stayAt := fun _ h => List.mem_cons_of_mem _ (List.mem_append_left _ (List.mem_append_left _ (List.mem_append_right _ h)))
  have hbN : b_ ≤ N := by have h1 := hV.1.1; have h2 := hV.2.2; omega
  have kn0 := sOk_N hok
  have hkn2 := hkn
  obtain ⟨c0, F0_, H0_, h54, h55, h56⟩ := hkn2
  refine lv_aload_n hx_ hb_ dX10_stayAt_0 rfl (lv_at hl 0 rfl) ?_
  refine lv_iload_n hx_ hb_ dX10_stayAt_1 rfl (lv_at hl 1 rfl) ?_
  refine xk_Vv E hF_ hxt_ hQ hV (As := [.int (sI s)]) (rest := []) (kX10_needStone l_ G b_ M N c kn ch f s hc0 hst (by omega) (by omega) (by omega)) (cwV 1 S.2.2.2.2 gX10_stayAt_X10_needStone rfl rfl rfl (by decide +kernel) ⟨Nat.le_of_ble_eq_true rfl, Nat.le_of_ble_eq_true rfl⟩) (ci := 8) hc0 rfl rfl rfl hl.1 (Nat.le_of_ble_eq_true rfl) dX10_stayAt_2 (c1 := 1) (s1 := 6) ⟨⟨rfl, rfl⟩, by decide, by decide⟩ ⟨Nat.le_of_ble_eq_true rfl, Nat.le_of_ble_eq_true rfl⟩ ?_ (fun M1 N2 H locs hp3 hV => ?_)
  · rintro E9 M9 N9 ⟨hN5, hf6, hq7⟩
    rcases hq7 with ⟨c8, ee9⟩
    · have hc10 : knoC G M9 (c + 54) := hkn.fr (fun x q8 q9 => hf6 x )
      exact ⟨by omega, hc10, fun x q0 => hf6 x , Or.inl ⟨(by first | exact c8 | omega), ee9⟩⟩
  obtain ⟨hN11, hf12, hq13⟩ := hp3
  rw [hN11] at hV
  rcases hq13 with c14
  · refine lv_aload_n hx_ hb_ dX10_stayAt_5 rfl (lv_at hl 0 rfl) ?_
    have hc15 : M1 c = some (xO c kn ch) := (hf12 c ).trans hc0
    refine sc_get (ci := 8) (C := RX10) (T := TX10) (n := 11) S hK hV inX10_ hc15 rfl 9 (by decide) (S.2.2.2.2 _ (List.mem_of_getElem? (i := 3) rfl)) rfl rfl dX10_stayAt_6 ?_
    refine lv_aload_n hx_ hb_ dX10_stayAt_9 rfl (lv_at hl 0 rfl) ?_
    refine sc_get (ci := 8) (C := RX10) (T := TX10) (n := 11) S hK hV inX10_ hc15 rfl 0 (by decide) (S.2.2.2.2 _ (List.mem_of_getElem? (i := 4) rfl)) rfl rfl dX10_stayAt_10 ?_
    refine lv_iload_n hx_ hb_ dX10_stayAt_13 rfl (lv_at hl 1 rfl) ?_
    refine lv_aload_n hx_ hb_ dX10_stayAt_14 rfl (lv_at hl 0 rfl) ?_
    refine sc_get (ci := 8) (C := RX10) (T := TX10) (n := 11) S hK hV inX10_ hc15 rfl 0 (by decide) (S.2.2.2.2 _ (List.mem_of_getElem? (i := 4) rfl)) rfl rfl dX10_stayAt_15 ?_
    have hc16 : stC G M1 (c + 1) f := hst.fr (fun x q8 q9 => hf12 x )
    refine sc_getN (ci := 4) (C := RX6) (T := TX6) (n := 8) S hK hV inX6_ (hc16).1 rfl 7 (by decide) (E.2.2.2.2.2.1.1.2.1 _ (List.mem_of_getElem? (i := 14) rfl)) rfl rfl dX10_stayAt_18 ?_
    have hc17 : M1 (c + 54) = some (sObj 5 [.ref (c + 55), .ref (c + 56), .int (sI c0)]) := (hf12 (c + 54) ).trans h54
    have hc18 : M1 (c + 55) = some (sArr G 61 F0_) := (hf12 (c + 55) ).trans h55
    have hc19 : M1 (c + 56) = some (sArr G 61 H0_) := (hf12 (c + 56) ).trans h56
    refine sk_Vv E hV (As := [.ref (c + 1), .int (sI s), .int (sI (f 571))]) (rest := []) (kX7_lookAt l_ G b_ M1 N (c + 54) (c + 1) c0 F0_ H0_ f s (f 571) hc17 hc18 hc19 hc16 (by omega) (by omega) (by omega)) (cwV 3 S.2.2.2.2 gX10_stayAt_X7_lookAt rfl rfl rfl (by decide +kernel) ⟨Nat.le_of_ble_eq_true rfl, Nat.le_of_ble_eq_true rfl⟩) (ci := 5) hc17 rfl rfl rfl hl.1 (Nat.le_of_ble_eq_true rfl) dX10_stayAt_21 (c1 := 1) (s1 := 6) ⟨⟨rfl, rfl⟩, by decide, by decide⟩ (fun M20 N21 H locs hp22 hV => ?_)
    obtain ⟨c924, F925, H926, hN27, hc28, hc29, hc30, hf31, hsk932⟩ := hp22
    rw [hN27] at hV
    have hsk9 := hsk932
    have hseg := seg_eq hsk9.1
    have hskc := hsk9.2.1
    refine lv_iload_n hx_ hb_ dX10_stayAt_24 rfl (lv_at hl 2 rfl) ?_
    have hsg1 := hseg.1
    refine sz_lt (tgt := 39) S dX10_stayAt_25 (by decide) (by omega) (fun c33 => ?_) (fun c33 => ?_)
    · exact xt_W (own := RX10) (rest := []) E hF_ hxt_ hQ hlt (ik := 173) (is := 269) (ic := 177) (cls := "java/lang/IndexOutOfBoundsException") (text := "no such stay") (by decide +kernel) xg_IO (List.mem_of_getElem? (i := 1) rfl) (List.mem_of_getElem? (i := 2) rfl) (fun _ h => List.mem_cons_of_mem _ (List.mem_append_left _ (List.mem_append_right _ h))) (List.mem_of_getElem? (i := 16) rfl) hl.1 dX10_stayAt_39 dX10_stayAt_42 dX10_stayAt_43 dX10_stayAt_46 dX10_stayAt_49 ⟨Nat.le_of_ble_eq_true rfl, Nat.le_of_ble_eq_true rfl, Nat.le_of_ble_eq_true rfl, Nat.le_of_ble_eq_true rfl⟩ ⟨Nat.le_of_ble_eq_true rfl, Nat.le_of_ble_eq_true rfl⟩ hV (fun N9 h9 => ⟨by omega, ⟨_, _, _, hc28, hc29, hc30⟩, fun x q0 => (hf31 x (by omega) (by omega) (by omega)).trans (hf12 x ), Or.inr (Or.inl ⟨(by first | omega | assumption), rfl⟩)⟩)
    · refine lv_iload_n hx_ hb_ dX10_stayAt_28 rfl (lv_at hl 2 rfl) ?_
      refine lv_aload_n hx_ hb_ dX10_stayAt_29 rfl (lv_at hl 0 rfl) ?_
      have hc34 : M20 c = some (xO c kn ch) := (hf31 c (by omega) (by omega) (by omega)).trans hc15
      refine sc_get (ci := 8) (C := RX10) (T := TX10) (n := 11) S hK hV inX10_ hc34 rfl 9 (by decide) (S.2.2.2.2 _ (List.mem_of_getElem? (i := 3) rfl)) rfl rfl dX10_stayAt_30 ?_
      refine sk_VP E hV (As := []) (rest := [.int (sI j)]) (kX7_size l_ G b_ M20 N (c + 54) c924 hc28) (cwV 0 S.2.2.2.2 gX10_stayAt_X7_size rfl rfl rfl (by decide +kernel) ⟨Nat.le_of_ble_eq_true rfl, Nat.le_of_ble_eq_true rfl⟩) (ci := 5) hc28 rfl rfl rfl hl.1 (Nat.le_of_ble_eq_true rfl) dX10_stayAt_33 (c1 := 1) (s1 := 6) ⟨⟨rfl, rfl⟩, by decide, by decide⟩ (fun H locs hV => ?_)
      refine sb_lt (tgt := 50) S dX10_stayAt_36 (by decide) (by omega) (fun c35 => ?_) (fun c35 => ?_)
      · refine lv_iload_n hx_ hb_ dX10_stayAt_50 rfl (lv_at hl 3 rfl) ?_
        refine si_const S dX10_stayAt_51 ?_
        refine si_const S dX10_stayAt_52 ?_
        refine xk_Sv E hF_ hxt_ hQ hV (As := [.int (sI v), .int (sI 0), .int (sI 2)]) (rest := []) (kX10_needRange l_ G b_ M20 N v 0 2 (by omega) (by omega)) (va_cwS 3 S.2.2.2.2 gX10_stayAt_X10_needRange rfl rfl rfl (by decide +kernel) ⟨Nat.le_of_ble_eq_true rfl, Nat.le_of_ble_eq_true rfl⟩) rfl rfl hl.1 (Nat.le_of_ble_eq_true rfl) dX10_stayAt_53 (c1 := 2) (s1 := 12) ⟨⟨rfl, rfl⟩, by decide, by decide⟩ ⟨Nat.le_of_ble_eq_true rfl, Nat.le_of_ble_eq_true rfl⟩ ?_ (fun M36 N37 H locs hp38 hV => ?_)
        · rintro E9 M9 N9 ⟨hN40, hf41, hq42⟩
          rcases hq42 with ⟨c43, ee44⟩
          · have hc45 : M9 (c + 54) = some (sObj 5 [.ref (c + 55), .ref (c + 56), .int (sI c924)]) := (hf41 (c + 54) ).trans hc28
            have hc46 : M9 (c + 55) = some (sArr G 61 F925) := (hf41 (c + 55) ).trans hc29
            have hc47 : M9 (c + 56) = some (sArr G 61 H926) := (hf41 (c + 56) ).trans hc30
            exact ⟨by omega, ⟨_, _, _, hc45, hc46, hc47⟩, fun x q0 => ((hf41 x ).trans (hf31 x (by omega) (by omega) (by omega))).trans (hf12 x ), Or.inr (Or.inr (⟨(by first | exact c43 | omega), ee44⟩))⟩
        obtain ⟨hN48, hf49, hq50⟩ := hp38
        rw [hN48] at hV
        rcases hq50 with c51
        · refine lv_iload_n hx_ hb_ dX10_stayAt_56 rfl (lv_at hl 3 rfl) ?_
          refine sz_ne (tgt := 69) S dX10_stayAt_57 (by decide) (by omega) (fun c52 => ?_) (fun c52 => ?_)
          · refine lv_iload_n hx_ hb_ dX10_stayAt_69 rfl (lv_at hl 3 rfl) ?_
            refine si_const S dX10_stayAt_70 ?_
            refine sb_ne (tgt := 85) S dX10_stayAt_71 (by decide) (by omega) (fun c53 => ?_) (fun c53 => ?_)
            · refine lv_aload_n hx_ hb_ dX10_stayAt_85 rfl (lv_at hl 0 rfl) ?_
              have hc54 : M36 c = some (xO c kn ch) := (hf49 c ).trans hc34
              refine sc_get (ci := 8) (C := RX10) (T := TX10) (n := 11) S hK hV inX10_ hc54 rfl 9 (by decide) (S.2.2.2.2 _ (List.mem_of_getElem? (i := 3) rfl)) rfl rfl dX10_stayAt_86 ?_
              refine lv_iload_n hx_ hb_ dX10_stayAt_89 rfl (lv_at hl 2 rfl) ?_
              have hc55 : M36 (c + 54) = some (sObj 5 [.ref (c + 55), .ref (c + 56), .int (sI c924)]) := (hf49 (c + 54) ).trans hc28
              have hc56 : M36 (c + 55) = some (sArr G 61 F925) := (hf49 (c + 55) ).trans hc29
              refine sk_VP E hV (As := [.int (sI j)]) (rest := []) (kX7_lastOf l_ G b_ M36 N (c + 54) c924 F925 H926 (fun x => hnd f s x (f 571)) j hc55 hc56 (hsk9) (by omega)) (cwV 1 S.2.2.2.2 gX10_stayAt_X7_lastOf rfl rfl rfl (by decide +kernel) ⟨Nat.le_of_ble_eq_true rfl, Nat.le_of_ble_eq_true rfl⟩) (ci := 5) hc55 rfl rfl rfl hl.1 (Nat.le_of_ble_eq_true rfl) dX10_stayAt_90 (c1 := 2) (s1 := 12) ⟨⟨rfl, rfl⟩, by decide, by decide⟩ (fun H locs hV => ?_)
              have hc57 : M36 (c + 56) = some (sArr G 61 H926) := (hf49 (c + 56) ).trans hc30
              exact xr_i E hQ dX10_stayAt_93 ⟨Nat.le_of_ble_eq_true rfl, Nat.le_of_ble_eq_true rfl⟩ hV (⟨rfl, ⟨_, _, _, hc55, hc56, hc57⟩, fun x q0 => ((hf49 x ).trans (hf31 x (by omega) (by omega) (by omega))).trans (hf12 x ), Or.inr (Or.inr (⟨(by omega), by
                by_cases e9 : j < c924 - 1
                · rw [if_pos e9, if_neg (by omega), hseg.2 (j + 1) (by omega) (by omega)]
                · rw [if_neg e9, if_pos (by omega)]⟩))⟩)
            · refine lv_aload_n hx_ hb_ dX10_stayAt_74 rfl (lv_at hl 0 rfl) ?_
              have hc58 : M36 c = some (xO c kn ch) := (hf49 c ).trans hc34
              refine sc_get (ci := 8) (C := RX10) (T := TX10) (n := 11) S hK hV inX10_ hc58 rfl 9 (by decide) (S.2.2.2.2 _ (List.mem_of_getElem? (i := 3) rfl)) rfl rfl dX10_stayAt_75 ?_
              refine lv_iload_n hx_ hb_ dX10_stayAt_78 rfl (lv_at hl 2 rfl) ?_
              have hc59 : M36 (c + 54) = some (sObj 5 [.ref (c + 55), .ref (c + 56), .int (sI c924)]) := (hf49 (c + 54) ).trans hc28
              have hc60 : M36 (c + 55) = some (sArr G 61 F925) := (hf49 (c + 55) ).trans hc29
              refine sk_VP E hV (As := [.int (sI j)]) (rest := []) (kX7_firstOf l_ G b_ M36 N (c + 54) c924 F925 j hc59 hc60 (by omega)) (cwV 1 S.2.2.2.2 gX10_stayAt_X7_firstOf rfl rfl rfl (by decide +kernel) ⟨Nat.le_of_ble_eq_true rfl, Nat.le_of_ble_eq_true rfl⟩) (ci := 5) hc59 rfl rfl rfl hl.1 (Nat.le_of_ble_eq_true rfl) dX10_stayAt_79 (c1 := 2) (s1 := 12) ⟨⟨rfl, rfl⟩, by decide, by decide⟩ (fun H locs hV => ?_)
              refine lv_goto (tgt := 93) hx_ hb_ dX10_stayAt_82 (by decide) ?_
              have hc61 : M36 (c + 56) = some (sArr G 61 H926) := (hf49 (c + 56) ).trans hc30
              exact xr_i E hQ dX10_stayAt_93 ⟨Nat.le_of_ble_eq_true rfl, Nat.le_of_ble_eq_true rfl⟩ hV (⟨rfl, ⟨_, _, _, hc59, hc60, hc61⟩, fun x q0 => ((hf49 x ).trans (hf31 x (by omega) (by omega) (by omega))).trans (hf12 x ), Or.inr (Or.inl ⟨(by omega), by
                by_cases e9 : j = 0
                · rw [if_pos e9, e9]; exact hsk9.2.2.1.1
                · rw [if_neg e9, hseg.2 j (by omega) (by omega)]; exact (dF_r hsk9.2.2.1 (by omega) (by omega)).2.2.2⟩)⟩)
          · refine lv_aload_n hx_ hb_ dX10_stayAt_60 rfl (lv_at hl 0 rfl) ?_
            have hc62 : M36 c = some (xO c kn ch) := (hf49 c ).trans hc34
            refine sc_get (ci := 8) (C := RX10) (T := TX10) (n := 11) S hK hV inX10_ hc62 rfl 9 (by decide) (S.2.2.2.2 _ (List.mem_of_getElem? (i := 3) rfl)) rfl rfl dX10_stayAt_61 ?_
            refine lv_iload_n hx_ hb_ dX10_stayAt_64 rfl (lv_at hl 2 rfl) ?_
            have hc63 : M36 (c + 54) = some (sObj 5 [.ref (c + 55), .ref (c + 56), .int (sI c924)]) := (hf49 (c + 54) ).trans hc28
            have hc64 : M36 (c + 56) = some (sArr G 61 H926) := (hf49 (c + 56) ).trans hc30
            refine sk_VP E hV (As := [.int (sI j)]) (rest := []) (kX7_handOf l_ G b_ M36 N (c + 54) c924 H926 j hc63 hc64 (by omega)) (cwV 1 S.2.2.2.2 gX10_stayAt_X7_handOf rfl rfl rfl (by decide +kernel) ⟨Nat.le_of_ble_eq_true rfl, Nat.le_of_ble_eq_true rfl⟩) (ci := 5) hc63 rfl rfl rfl hl.1 (Nat.le_of_ble_eq_true rfl) dX10_stayAt_65 (c1 := 2) (s1 := 12) ⟨⟨rfl, rfl⟩, by decide, by decide⟩ (fun H locs hV => ?_)
            have hc65 : M36 (c + 55) = some (sArr G 61 F925) := (hf49 (c + 55) ).trans hc29
            exact xr_i E hQ dX10_stayAt_68 ⟨Nat.le_of_ble_eq_true rfl, Nat.le_of_ble_eq_true rfl⟩ hV (⟨rfl, ⟨_, _, _, hc63, hc65, hc64⟩, fun x q0 => ((hf49 x ).trans (hf31 x (by omega) (by omega) (by omega))).trans (hf12 x ), Or.inl ⟨(by omega), by rw [hseg.2 j (by omega) (by omega)]; exact (hsk9.2.2.2 j (by omega) (by omega)).1⟩⟩)
      · exact xt_W (own := RX10) (rest := []) E hF_ hxt_ hQ hlt (ik := 173) (is := 269) (ic := 177) (cls := "java/lang/IndexOutOfBoundsException") (text := "no such stay") (by decide +kernel) xg_IO (List.mem_of_getElem? (i := 1) rfl) (List.mem_of_getElem? (i := 2) rfl) (fun _ h => List.mem_cons_of_mem _ (List.mem_append_left _ (List.mem_append_right _ h))) (List.mem_of_getElem? (i := 16) rfl) hl.1 dX10_stayAt_39 dX10_stayAt_42 dX10_stayAt_43 dX10_stayAt_46 dX10_stayAt_49 ⟨Nat.le_of_ble_eq_true rfl, Nat.le_of_ble_eq_true rfl, Nat.le_of_ble_eq_true rfl, Nat.le_of_ble_eq_true rfl⟩ ⟨Nat.le_of_ble_eq_true rfl, Nat.le_of_ble_eq_true rfl⟩ hV (fun N9 h9 => ⟨by omega, ⟨_, _, _, hc28, hc29, hc30⟩, fun x q0 => (hf31 x (by omega) (by omega) (by omega)).trans (hf12 x ), Or.inr (Or.inl ⟨(by first | omega | assumption), rfl⟩)⟩)

abbrev rmX10_away : Room := { frames := 8, cells := 10, slots := 60, locals := 171 }
set_option maxHeartbeats 4000000 in
set_option maxRecDepth 100000 in
theorem kX10_away (l_ : Launch) (G : sG) (b_ : Nat) (M : sM) (N : Nat) (c : Nat) (kn ch : Int) (f : sF) (s a b : Int) (hc0 : M c = some (xO c kn ch)) (hst : stC G M (c + 1) f) (hkn : knoC G M (c + 54)) (hlt : l_.stackTraces = false) (hok : sOk f) (hr : sR s ∧ sR a ∧ sR b) : xcI l_ yX10_away wsX10_away rmX10_away G b_ M N [.ref c, .int (sI s), .int (sI a), .int (sI b)] (fun z_ M1 N1 => N1 = N ∧ knoC G M1 (c + 54) ∧ (∀ x : Nat, ¬ (c + 54 ≤ x ∧ x < c + 54 + 3) → M1 x = M x) ∧ ((((0 ≤ s ∧ s < f 568) ∧ isDt a ∧ isDt b ∧ a ≤ b) ∧ z_ = isum (dayI b - dayI a + 1) (awT f s (dayI a + 3652))))) (fun E_ M1 N1 => N ≤ N1 ∧ knoC G M1 (c + 54) ∧ (∀ x : Nat, ¬ (c + 54 ≤ x ∧ x < c + 54 + 3) → M1 x = M x) ∧ (((¬ (0 ≤ s ∧ s < f 568)) ∧ E_ = "java/lang/IndexOutOfBoundsException") ∨ (((0 ≤ s ∧ s < f 568) ∧ ¬ (isDt a ∧ isDt b ∧ a ≤ b)) ∧ E_ = "java/lang/IllegalArgumentException"))) := by
  refine xcE.ofI (cc := cX10_away) (nL := 6) (ret := (some .int)) (by decide) rfl (Nat.le_of_ble_eq_true rfl) ?_
  intro p_ e_ s_ m_ args_ below_ meth_ c_ ls Q hQ E hF_ hxt_ hl
  have E : sE p_ l_ e_ rmX10_away s_ m_ args_ below_ meth_ c_ cX10_away 6 wsX10_away RX10 "away" (some .int) G b_ M N := E
  have S := E.1
  have hx_ := S.1
  have hb_ := S.2.1
  have hK := E.2.2.2.2.1
  have hV := E.2.2.2.2.2.2
  have hl : lv_has ls 6 [(0, .ref c), (1, .int (sI s)), (2, .int (sI a)), (3, .int (sI b))] := hl
  have inX10_ : ∀ w ∈ wsX100, w ∈ wsX10_away := fun _ h => List.mem_cons_of_mem _ (List.mem_append_left _ (List.mem_append_left _ (List.mem_append_left _ (List.mem_append_left _ (List.mem_append_left _ (List.mem_append_right _ h))))))
  have inX6_ : ∀ w ∈ wsX60, w ∈ wsX10_away := fun _ h => List.mem_cons_of_mem _ (List.mem_append_left _ (List.mem_append_left _ (List.mem_append_left _ (List.mem_append_left _ (List.mem_append_right _ h)))))
  have inX8_ : ∀ w ∈ wsX80, w ∈ wsX10_away := fun _ h => List.mem_cons_of_mem _ (List.mem_append_left _ (List.mem_append_left _ (List.mem_append_left _ (List.mem_append_right _ h))))
  have inX7_ : ∀ w ∈ wsX70, w ∈ wsX10_away := fun _ h => List.mem_cons_of_mem _ (List.mem_append_left _ (List.mem_append_left _ (List.mem_append_right _ h)))
  have hbN : b_ ≤ N := by have h1 := hV.1.1; have h2 := hV.2.2; omega
  have kn0 := sOk_N hok
  have hkn2 := hkn
  obtain ⟨c0, F0_, H0_, h54, h55, h56⟩ := hkn2
  refine lv_aload_n hx_ hb_ dX10_away_0 rfl (lv_at hl 0 rfl) ?_
  refine lv_iload_n hx_ hb_ dX10_away_1 rfl (lv_at hl 1 rfl) ?_
  refine xk_Vv E hF_ hxt_ hQ hV (As := [.int (sI s)]) (rest := []) (kX10_needStone l_ G b_ M N c kn ch f s hc0 hst (by omega) (by omega) (by omega)) (cwV 1 S.2.2.2.2 gX10_away_X10_needStone rfl rfl rfl (by decide +kernel) ⟨Nat.le_of_ble_eq_true rfl, Nat.le_of_ble_eq_true rfl⟩) (ci := 8) hc0 rfl rfl rfl hl.1 (Nat.le_of_ble_eq_true rfl) dX10_away_2 (c1 := 1) (s1 := 6) ⟨⟨rfl, rfl⟩, by decide, by decide⟩ ⟨Nat.le_of_ble_eq_true rfl, Nat.le_of_ble_eq_true rfl⟩ ?_ (fun M1 N2 H locs hp3 hV => ?_)
  · rintro E9 M9 N9 ⟨hN5, hf6, hq7⟩
    rcases hq7 with ⟨c8, ee9⟩
    · have hc10 : knoC G M9 (c + 54) := hkn.fr (fun x q8 q9 => hf6 x )
      exact ⟨by omega, hc10, fun x q0 => hf6 x , Or.inl ⟨(by first | exact c8 | omega), ee9⟩⟩
  obtain ⟨hN11, hf12, hq13⟩ := hp3
  rw [hN11] at hV
  rcases hq13 with c14
  · refine lv_iload_n hx_ hb_ dX10_away_5 rfl (lv_at hl 2 rfl) ?_
    refine lv_iload_n hx_ hb_ dX10_away_6 rfl (lv_at hl 3 rfl) ?_
    refine xk_Sv E hF_ hxt_ hQ hV (As := [.int (sI a), .int (sI b)]) (rest := []) (kX10_needDates l_ G b_ M1 N a b (by omega) (by omega)) (va_cwS 2 S.2.2.2.2 gX10_away_X10_needDates rfl rfl rfl (by decide +kernel) ⟨Nat.le_of_ble_eq_true rfl, Nat.le_of_ble_eq_true rfl⟩) rfl rfl hl.1 (Nat.le_of_ble_eq_true rfl) dX10_away_7 (c1 := 4) (s1 := 24) ⟨⟨rfl, rfl⟩, by decide, by decide⟩ ⟨Nat.le_of_ble_eq_true rfl, Nat.le_of_ble_eq_true rfl⟩ ?_ (fun M15 N16 H locs hp17 hV => ?_)
    · rintro E9 M9 N9 ⟨hN19, hf20, hq21⟩
      rcases hq21 with ⟨c22, ee23⟩
      · have hc24 : knoC G M9 (c + 54) := hkn.fr (fun x q8 q9 => (hf20 x ).trans (hf12 x ))
        exact ⟨by omega, hc24, fun x q0 => (hf20 x ).trans (hf12 x ), Or.inr (⟨(⟨by omega, c22⟩), ee23⟩)⟩
    obtain ⟨hN25, hf26, hq27⟩ := hp17
    rw [hN25] at hV
    rcases hq27 with c28
    · have hda := dayI_r (show isDt a from (show isDt a ∧ isDt b ∧ a ≤ b by assumption).1)
      have hdb := dayI_r (show isDt b from (show isDt a ∧ isDt b ∧ a ≤ b by assumption).2.1)
      have hdab := (dayI_le (isDt_x (show isDt a ∧ isDt b ∧ a ≤ b by assumption).1) (isDt_x (show isDt a ∧ isDt b ∧ a ≤ b by assumption).2.1)).mpr (show isDt a ∧ isDt b ∧ a ≤ b by assumption).2.2
      refine lv_aload_n hx_ hb_ dX10_away_10 rfl (lv_at hl 0 rfl) ?_
      have hc29 : M15 c = some (xO c kn ch) := ((hf26 c ).trans (hf12 c )).trans hc0
      refine sc_get (ci := 8) (C := RX10) (T := TX10) (n := 11) S hK hV inX10_ hc29 rfl 9 (by decide) (S.2.2.2.2 _ (List.mem_of_getElem? (i := 1) rfl)) rfl rfl dX10_away_11 ?_
      refine lv_aload_n hx_ hb_ dX10_away_14 rfl (lv_at hl 0 rfl) ?_
      refine sc_get (ci := 8) (C := RX10) (T := TX10) (n := 11) S hK hV inX10_ hc29 rfl 0 (by decide) (S.2.2.2.2 _ (List.mem_of_getElem? (i := 2) rfl)) rfl rfl dX10_away_15 ?_
      refine lv_iload_n hx_ hb_ dX10_away_18 rfl (lv_at hl 1 rfl) ?_
      refine lv_aload_n hx_ hb_ dX10_away_19 rfl (lv_at hl 0 rfl) ?_
      refine sc_get (ci := 8) (C := RX10) (T := TX10) (n := 11) S hK hV inX10_ hc29 rfl 0 (by decide) (S.2.2.2.2 _ (List.mem_of_getElem? (i := 2) rfl)) rfl rfl dX10_away_20 ?_
      have hc30 : stC G M15 (c + 1) f := hst.fr (fun x q8 q9 => (hf26 x ).trans (hf12 x ))
      refine sc_getN (ci := 4) (C := RX6) (T := TX6) (n := 8) S hK hV inX6_ (hc30).1 rfl 7 (by decide) (E.2.2.2.2.2.1.1.2.1 _ (List.mem_of_getElem? (i := 14) rfl)) rfl rfl dX10_away_23 ?_
      have hc31 : M15 (c + 54) = some (sObj 5 [.ref (c + 55), .ref (c + 56), .int (sI c0)]) := ((hf26 (c + 54) ).trans (hf12 (c + 54) )).trans h54
      have hc32 : M15 (c + 55) = some (sArr G 61 F0_) := ((hf26 (c + 55) ).trans (hf12 (c + 55) )).trans h55
      have hc33 : M15 (c + 56) = some (sArr G 61 H0_) := ((hf26 (c + 56) ).trans (hf12 (c + 56) )).trans h56
      refine sk_Vv E hV (As := [.ref (c + 1), .int (sI s), .int (sI (f 571))]) (rest := []) (kX7_lookAt l_ G b_ M15 N (c + 54) (c + 1) c0 F0_ H0_ f s (f 571) hc31 hc32 hc33 hc30 (by omega) (by omega) (by omega)) (cwV 3 S.2.2.2.2 gX10_away_X7_lookAt rfl rfl rfl (by decide +kernel) ⟨Nat.le_of_ble_eq_true rfl, Nat.le_of_ble_eq_true rfl⟩) (ci := 5) hc31 rfl rfl rfl hl.1 (Nat.le_of_ble_eq_true rfl) dX10_away_26 (c1 := 4) (s1 := 24) ⟨⟨rfl, rfl⟩, by decide, by decide⟩ (fun M34 N35 H locs hp36 hV => ?_)
      obtain ⟨c938, F939, H940, hN41, hc42, hc43, hc44, hf45, hsk946⟩ := hp36
      rw [hN41] at hV
      have hsk9 := hsk946
      have hseg := seg_eq hsk9.1
      have hskc := hsk9.2.1
      refine si_const S dX10_away_29 ?_
      refine lv_istore (lv' := [(4, .int (sI 0)), (0, .ref c), (1, .int (sI s)), (2, .int (sI a)), (3, .int (sI b))]) hx_ hb_ dX10_away_30 hl (by decide) rfl (fun ls hl => ?_)
      refine si_const S dX10_away_32 ?_
      refine lv_istore (lv' := [(5, .int (sI 0)), (4, .int (sI 0)), (0, .ref c), (1, .int (sI s)), (2, .int (sI a)), (3, .int (sI b))]) hx_ hb_ dX10_away_33 hl (by decide) rfl (fun ls hl => ?_)
      have L35 : ∀ (fuel : Nat) (z : Int) (j : Int)  (H : Heap) (locs : List Loc) (ls : Array Slot), ((c938 - j).toNat) < fuel → (0 ≤ j ∧ j ≤ c938) → (z = isum j (fun q => aw1 (H940 q) * dwI F939 c938 q (dayI a) (dayI b))) → sV G b_ M34 N s_ H locs → lv_has ls 6 [(0, .ref c), (2, .int (sI a)), (3, .int (sI b)), (4, .int (sI z)), (5, .int (sI j))] → W p_ l_ e_ rmX10_away s_ m_ args_ below_ meth_ c_ H locs 4 24 Q (F0 m_ 35 ls []) := by
        intro fuel
        induction fuel with
        | zero => intro z j H locs ls hmu; exact absurd hmu (Nat.not_lt_zero _)
        | succ fuel ih35 =>
          intro z j H locs ls hmu35 hv35_0 hz  hV hl
          refine lv_iload hx_ hb_ dX10_away_35 (lv_at hl 4 rfl) ?_
          refine lv_aload_n hx_ hb_ dX10_away_37 rfl (lv_at hl 0 rfl) ?_
          have hc47 : M34 c = some (xO c kn ch) := (hf45 c (by omega) (by omega) (by omega)).trans hc29
          refine sc_get (ci := 8) (C := RX10) (T := TX10) (n := 11) S hK hV inX10_ hc47 rfl 9 (by decide) (S.2.2.2.2 _ (List.mem_of_getElem? (i := 1) rfl)) rfl rfl dX10_away_38 ?_
          refine sk_VP E hV (As := []) (rest := [.int (sI j)]) (kX7_size l_ G b_ M34 N (c + 54) c938 hc42) (cwV 0 S.2.2.2.2 gX10_away_X7_size rfl rfl rfl (by decide +kernel) ⟨Nat.le_of_ble_eq_true rfl, Nat.le_of_ble_eq_true rfl⟩) (ci := 5) hc42 rfl rfl rfl hl.1 (Nat.le_of_ble_eq_true rfl) dX10_away_41 (c1 := 4) (s1 := 24) ⟨⟨rfl, rfl⟩, by decide, by decide⟩ (fun H locs hV => ?_)
          refine sb_ge (tgt := 87) S dX10_away_44 (by decide) (by omega) (fun c48 => ?_) (fun c48 => ?_)
          · refine lv_iload hx_ hb_ dX10_away_87 (lv_at hl 3 rfl) ?_
            exact xr_i E hQ dX10_away_89 ⟨Nat.le_of_ble_eq_true rfl, Nat.le_of_ble_eq_true rfl⟩ hV (⟨rfl, ⟨_, _, _, hc42, hc43, hc44⟩, fun x q0 => ((hf45 x (by omega) (by omega) (by omega)).trans (hf26 x )).trans (hf12 x ), ⟨(⟨by omega, by assumption⟩), by rw [aw_s hsk9 (by omega) hdab, hz, show j = c938 by omega]⟩⟩)
          · refine lv_aload_n hx_ hb_ dX10_away_47 rfl (lv_at hl 0 rfl) ?_
            refine sc_get (ci := 8) (C := RX10) (T := TX10) (n := 11) S hK hV inX10_ hc47 rfl 9 (by decide) (S.2.2.2.2 _ (List.mem_of_getElem? (i := 1) rfl)) rfl rfl dX10_away_48 ?_
            refine lv_iload hx_ hb_ dX10_away_51 (lv_at hl 4 rfl) ?_
            refine sk_VP E hV (As := [.int (sI j)]) (rest := []) (kX7_handOf l_ G b_ M34 N (c + 54) c938 H940 j hc42 hc44 (by omega)) (cwV 1 S.2.2.2.2 gX10_away_X7_handOf rfl rfl rfl (by decide +kernel) ⟨Nat.le_of_ble_eq_true rfl, Nat.le_of_ble_eq_true rfl⟩) (ci := 5) hc42 rfl rfl rfl hl.1 (Nat.le_of_ble_eq_true rfl) dX10_away_53 (c1 := 4) (s1 := 24) ⟨⟨rfl, rfl⟩, by decide, by decide⟩ (fun H locs hV => ?_)
            have hHj := (hsk9.2.2.2 j (by omega) (by omega)).2
            refine sz_eq (tgt := 81) S dX10_away_56 (by decide) (by omega) (fun c49 => ?_) (fun c49 => ?_)
            · refine si_inc (lv' := [(5, .int (sI (j + 1))), (0, .ref c), (2, .int (sI a)), (3, .int (sI b)), (4, .int (sI z))]) S dX10_away_81 hl (k := 4) rfl (by decide) rfl (fun ls hl => ?_)
              refine lv_goto (tgt := 35) hx_ hb_ dX10_away_84 (by decide) ?_
              exact ih35 z (j + 1) _ _ _ (by omega) (by omega) (by rw [isum_s _ (by omega), ← hz]; show _ = z + aw1 (H940 j) * dwI F939 c938 j (dayI a) (dayI b); unfold aw1; rw [if_neg (by omega), Int.zero_mul, Int.add_zero]) hV (lv_sub hl [1, 2, 3, 4, 0] rfl)
            · refine lv_iload hx_ hb_ dX10_away_59 (lv_at hl 3 rfl) ?_
              refine lv_aload_n hx_ hb_ dX10_away_61 rfl (lv_at hl 0 rfl) ?_
              refine sc_get (ci := 8) (C := RX10) (T := TX10) (n := 11) S hK hV inX10_ hc47 rfl 9 (by decide) (S.2.2.2.2 _ (List.mem_of_getElem? (i := 1) rfl)) rfl rfl dX10_away_62 ?_
              refine lv_iload hx_ hb_ dX10_away_65 (lv_at hl 4 rfl) ?_
              refine lv_iload_n hx_ hb_ dX10_away_67 rfl (lv_at hl 1 rfl) ?_
              refine sk_SP E hV (As := [.int (sI a)]) (rest := [.int (sI j), .ref (c + 54), .int (sI z)]) (kX0_dayOf l_ G b_ M34 N a (by omega)) (va_cwS 1 S.2.2.2.2 gX10_away_X0_dayOf rfl rfl rfl (by decide +kernel) ⟨Nat.le_of_ble_eq_true rfl, Nat.le_of_ble_eq_true rfl⟩) rfl rfl hl.1 (Nat.le_of_ble_eq_true rfl) dX10_away_68 (c1 := 4) (s1 := 24) ⟨⟨rfl, rfl⟩, by decide, by decide⟩ (fun H locs hV => ?_)
              refine lv_iload_n hx_ hb_ dX10_away_71 rfl (lv_at hl 2 rfl) ?_
              refine sk_SP E hV (As := [.int (sI b)]) (rest := [.int (sI (dayI a)), .int (sI j), .ref (c + 54), .int (sI z)]) (kX0_dayOf l_ G b_ M34 N b (by omega)) (va_cwS 1 S.2.2.2.2 gX10_away_X0_dayOf rfl rfl rfl (by decide +kernel) ⟨Nat.le_of_ble_eq_true rfl, Nat.le_of_ble_eq_true rfl⟩) rfl rfl hl.1 (Nat.le_of_ble_eq_true rfl) dX10_away_72 (c1 := 4) (s1 := 24) ⟨⟨rfl, rfl⟩, by decide, by decide⟩ (fun H locs hV => ?_)
              refine sk_VP E hV (As := [.int (sI j), .int (sI (dayI a)), .int (sI (dayI b))]) (rest := [.int (sI z)]) (kX7_daysWithin l_ G b_ M34 N (c + 54) c938 F939 H940 (fun x => hnd f s x (f 571)) j (dayI a) (dayI b) hc42 hc43 hc44 (hsk9) (by omega) (by omega)) (cwV 3 S.2.2.2.2 gX10_away_X7_daysWithin rfl rfl rfl (by decide +kernel) ⟨Nat.le_of_ble_eq_true rfl, Nat.le_of_ble_eq_true rfl⟩) (ci := 5) hc42 rfl rfl rfl hl.1 (Nat.le_of_ble_eq_true rfl) dX10_away_75 (c1 := 4) (s1 := 24) ⟨⟨rfl, rfl⟩, by decide, by decide⟩ (fun H locs hV => ?_)
              refine si_add S dX10_away_78 ?_
              refine lv_istore (lv' := [(4, .int (sI (z + (dwI F939 c938 j (dayI a) (dayI b))))), (0, .ref c), (2, .int (sI a)), (3, .int (sI b)), (5, .int (sI j))]) hx_ hb_ dX10_away_79 hl (by decide) rfl (fun ls hl => ?_)
              refine si_inc (lv' := [(5, .int (sI (j + 1))), (4, .int (sI (z + (dwI F939 c938 j (dayI a) (dayI b))))), (0, .ref c), (2, .int (sI a)), (3, .int (sI b))]) S dX10_away_81 hl (k := 4) rfl (by decide) rfl (fun ls hl => ?_)
              refine lv_goto (tgt := 35) hx_ hb_ dX10_away_84 (by decide) ?_
              exact ih35 (z + (dwI F939 c938 j (dayI a) (dayI b))) (j + 1) _ _ _ (by omega) (by omega) (by rw [isum_s _ (by omega), ← hz]; show _ = z + aw1 (H940 j) * dwI F939 c938 j (dayI a) (dayI b); unfold aw1; rw [if_pos (by omega), Int.one_mul]) hV (lv_sub hl [2, 3, 4, 1, 0] rfl)
      exact L35 _ 0 0 _ _ _ (Nat.lt_succ_self _) (by omega) (rfl) hV (lv_sub hl [2, 4, 5, 1, 0] rfl)

abbrev rmX10_fee : Room := { frames := 8, cells := 10, slots := 60, locals := 171 }
set_option maxHeartbeats 4000000 in
set_option maxRecDepth 100000 in
theorem kX10_fee (l_ : Launch) (G : sG) (b_ : Nat) (M : sM) (N : Nat) (c : Nat) (kn ch : Int) (f : sF) (s a b : Int) (hc0 : M c = some (xO c kn ch)) (hst : stC G M (c + 1) f) (hkn : knoC G M (c + 54)) (hlt : l_.stackTraces = false) (hok : sOk f) (hr : sR s ∧ sR a ∧ sR b) : xcL l_ yX10_fee wsX10_fee rmX10_fee G b_ M N [.ref c, .int (sI s), .int (sI a), .int (sI b)] (fun z_ M1 N1 => N1 = N ∧ knoC G M1 (c + 54) ∧ (∀ x : Nat, ¬ (c + 54 ≤ x ∧ x < c + 54 + 3) → M1 x = M x) ∧ ((((0 ≤ s ∧ s < f 568) ∧ isDt a ∧ isDt b ∧ a ≤ b) ∧ z_ = isum (dayI b - dayI a + 1) (fdT f s (dayI a + 3652)) / 1000))) (fun E_ M1 N1 => N ≤ N1 ∧ knoC G M1 (c + 54) ∧ (∀ x : Nat, ¬ (c + 54 ≤ x ∧ x < c + 54 + 3) → M1 x = M x) ∧ (((¬ (0 ≤ s ∧ s < f 568)) ∧ E_ = "java/lang/IndexOutOfBoundsException") ∨ (((0 ≤ s ∧ s < f 568) ∧ ¬ (isDt a ∧ isDt b ∧ a ≤ b)) ∧ E_ = "java/lang/IllegalArgumentException"))) := by
  refine xcE.ofL (cc := cX10_fee) (nL := 8) (ret := (some .long)) (by decide) rfl (Nat.le_of_ble_eq_true rfl) ?_
  intro p_ e_ s_ m_ args_ below_ meth_ c_ ls Q hQ E hF_ hxt_ hl
  have E : sE p_ l_ e_ rmX10_fee s_ m_ args_ below_ meth_ c_ cX10_fee 8 wsX10_fee RX10 "fee" (some .long) G b_ M N := E
  have S := E.1
  have hx_ := S.1
  have hb_ := S.2.1
  have hK := E.2.2.2.2.1
  have hV := E.2.2.2.2.2.2
  have hl : lv_has ls 8 [(0, .ref c), (1, .int (sI s)), (2, .int (sI a)), (3, .int (sI b))] := hl
  have inX10_ : ∀ w ∈ wsX100, w ∈ wsX10_fee := fun _ h => List.mem_cons_of_mem _ (List.mem_append_left _ (List.mem_append_left _ (List.mem_append_left _ (List.mem_append_left _ (List.mem_append_left _ (List.mem_append_right _ h))))))
  have inX6_ : ∀ w ∈ wsX60, w ∈ wsX10_fee := fun _ h => List.mem_cons_of_mem _ (List.mem_append_left _ (List.mem_append_left _ (List.mem_append_left _ (List.mem_append_left _ (List.mem_append_right _ h)))))
  have inX8_ : ∀ w ∈ wsX80, w ∈ wsX10_fee := fun _ h => List.mem_cons_of_mem _ (List.mem_append_left _ (List.mem_append_left _ (List.mem_append_left _ (List.mem_append_right _ h))))
  have inX7_ : ∀ w ∈ wsX70, w ∈ wsX10_fee := fun _ h => List.mem_cons_of_mem _ (List.mem_append_left _ (List.mem_append_left _ (List.mem_append_right _ h)))
  have hbN : b_ ≤ N := by have h1 := hV.1.1; have h2 := hV.2.2; omega
  have kn0 := sOk_N hok
  have hkn2 := hkn
  obtain ⟨c0, F0_, H0_, h54, h55, h56⟩ := hkn2
  refine lv_aload_n hx_ hb_ dX10_fee_0 rfl (lv_at hl 0 rfl) ?_
  refine lv_iload_n hx_ hb_ dX10_fee_1 rfl (lv_at hl 1 rfl) ?_
  refine xk_Vv E hF_ hxt_ hQ hV (As := [.int (sI s)]) (rest := []) (kX10_needStone l_ G b_ M N c kn ch f s hc0 hst (by omega) (by omega) (by omega)) (cwV 1 S.2.2.2.2 gX10_fee_X10_needStone rfl rfl rfl (by decide +kernel) ⟨Nat.le_of_ble_eq_true rfl, Nat.le_of_ble_eq_true rfl⟩) (ci := 8) hc0 rfl rfl rfl hl.1 (Nat.le_of_ble_eq_true rfl) dX10_fee_2 (c1 := 1) (s1 := 6) ⟨⟨rfl, rfl⟩, by decide, by decide⟩ ⟨Nat.le_of_ble_eq_true rfl, Nat.le_of_ble_eq_true rfl⟩ ?_ (fun M1 N2 H locs hp3 hV => ?_)
  · rintro E9 M9 N9 ⟨hN5, hf6, hq7⟩
    rcases hq7 with ⟨c8, ee9⟩
    · have hc10 : knoC G M9 (c + 54) := hkn.fr (fun x q8 q9 => hf6 x )
      exact ⟨by omega, hc10, fun x q0 => hf6 x , Or.inl ⟨(by first | exact c8 | omega), ee9⟩⟩
  obtain ⟨hN11, hf12, hq13⟩ := hp3
  rw [hN11] at hV
  rcases hq13 with c14
  · refine lv_iload_n hx_ hb_ dX10_fee_5 rfl (lv_at hl 2 rfl) ?_
    refine lv_iload_n hx_ hb_ dX10_fee_6 rfl (lv_at hl 3 rfl) ?_
    refine xk_Sv E hF_ hxt_ hQ hV (As := [.int (sI a), .int (sI b)]) (rest := []) (kX10_needDates l_ G b_ M1 N a b (by omega) (by omega)) (va_cwS 2 S.2.2.2.2 gX10_fee_X10_needDates rfl rfl rfl (by decide +kernel) ⟨Nat.le_of_ble_eq_true rfl, Nat.le_of_ble_eq_true rfl⟩) rfl rfl hl.1 (Nat.le_of_ble_eq_true rfl) dX10_fee_7 (c1 := 4) (s1 := 24) ⟨⟨rfl, rfl⟩, by decide, by decide⟩ ⟨Nat.le_of_ble_eq_true rfl, Nat.le_of_ble_eq_true rfl⟩ ?_ (fun M15 N16 H locs hp17 hV => ?_)
    · rintro E9 M9 N9 ⟨hN19, hf20, hq21⟩
      rcases hq21 with ⟨c22, ee23⟩
      · have hc24 : knoC G M9 (c + 54) := hkn.fr (fun x q8 q9 => (hf20 x ).trans (hf12 x ))
        exact ⟨by omega, hc24, fun x q0 => (hf20 x ).trans (hf12 x ), Or.inr (⟨(⟨by omega, c22⟩), ee23⟩)⟩
    obtain ⟨hN25, hf26, hq27⟩ := hp17
    rw [hN25] at hV
    rcases hq27 with c28
    · have hda := dayI_r (show isDt a from (show isDt a ∧ isDt b ∧ a ≤ b by assumption).1)
      have hdb := dayI_r (show isDt b from (show isDt a ∧ isDt b ∧ a ≤ b by assumption).2.1)
      have hdab := (dayI_le (isDt_x (show isDt a ∧ isDt b ∧ a ≤ b by assumption).1) (isDt_x (show isDt a ∧ isDt b ∧ a ≤ b by assumption).2.1)).mpr (show isDt a ∧ isDt b ∧ a ≤ b by assumption).2.2
      refine lv_aload_n hx_ hb_ dX10_fee_10 rfl (lv_at hl 0 rfl) ?_
      have hc29 : M15 c = some (xO c kn ch) := ((hf26 c ).trans (hf12 c )).trans hc0
      refine sc_get (ci := 8) (C := RX10) (T := TX10) (n := 11) S hK hV inX10_ hc29 rfl 9 (by decide) (S.2.2.2.2 _ (List.mem_of_getElem? (i := 1) rfl)) rfl rfl dX10_fee_11 ?_
      refine lv_aload_n hx_ hb_ dX10_fee_14 rfl (lv_at hl 0 rfl) ?_
      refine sc_get (ci := 8) (C := RX10) (T := TX10) (n := 11) S hK hV inX10_ hc29 rfl 0 (by decide) (S.2.2.2.2 _ (List.mem_of_getElem? (i := 2) rfl)) rfl rfl dX10_fee_15 ?_
      refine lv_iload_n hx_ hb_ dX10_fee_18 rfl (lv_at hl 1 rfl) ?_
      refine lv_aload_n hx_ hb_ dX10_fee_19 rfl (lv_at hl 0 rfl) ?_
      refine sc_get (ci := 8) (C := RX10) (T := TX10) (n := 11) S hK hV inX10_ hc29 rfl 0 (by decide) (S.2.2.2.2 _ (List.mem_of_getElem? (i := 2) rfl)) rfl rfl dX10_fee_20 ?_
      have hc30 : stC G M15 (c + 1) f := hst.fr (fun x q8 q9 => (hf26 x ).trans (hf12 x ))
      refine sc_getN (ci := 4) (C := RX6) (T := TX6) (n := 8) S hK hV inX6_ (hc30).1 rfl 7 (by decide) (E.2.2.2.2.2.1.1.2.1 _ (List.mem_of_getElem? (i := 14) rfl)) rfl rfl dX10_fee_23 ?_
      have hc31 : M15 (c + 54) = some (sObj 5 [.ref (c + 55), .ref (c + 56), .int (sI c0)]) := ((hf26 (c + 54) ).trans (hf12 (c + 54) )).trans h54
      have hc32 : M15 (c + 55) = some (sArr G 61 F0_) := ((hf26 (c + 55) ).trans (hf12 (c + 55) )).trans h55
      have hc33 : M15 (c + 56) = some (sArr G 61 H0_) := ((hf26 (c + 56) ).trans (hf12 (c + 56) )).trans h56
      refine sk_Vv E hV (As := [.ref (c + 1), .int (sI s), .int (sI (f 571))]) (rest := []) (kX7_lookAt l_ G b_ M15 N (c + 54) (c + 1) c0 F0_ H0_ f s (f 571) hc31 hc32 hc33 hc30 (by omega) (by omega) (by omega)) (cwV 3 S.2.2.2.2 gX10_fee_X7_lookAt rfl rfl rfl (by decide +kernel) ⟨Nat.le_of_ble_eq_true rfl, Nat.le_of_ble_eq_true rfl⟩) (ci := 5) hc31 rfl rfl rfl hl.1 (Nat.le_of_ble_eq_true rfl) dX10_fee_26 (c1 := 4) (s1 := 24) ⟨⟨rfl, rfl⟩, by decide, by decide⟩ (fun M34 N35 H locs hp36 hV => ?_)
      obtain ⟨c938, F939, H940, hN41, hc42, hc43, hc44, hf45, hsk946⟩ := hp36
      rw [hN41] at hV
      have hsk9 := hsk946
      have hseg := seg_eq hsk9.1
      have hskc := hsk9.2.1
      refine sl_const S (z := 0) dX10_fee_29 (by decide) ?_
      refine lv_lstore (lv' := [(4, .long (sL 0)), (0, .ref c), (1, .int (sI s)), (2, .int (sI a)), (3, .int (sI b))]) hx_ hb_ dX10_fee_30 hl (by decide) rfl (fun ls hl => ?_)
      refine si_const S dX10_fee_32 ?_
      refine lv_istore (lv' := [(6, .int (sI 0)), (4, .long (sL 0)), (0, .ref c), (1, .int (sI s)), (2, .int (sI a)), (3, .int (sI b))]) hx_ hb_ dX10_fee_33 hl (by decide) rfl (fun ls hl => ?_)
      have L35 : ∀ (fuel : Nat) (z : Int) (j : Int)  (H : Heap) (locs : List Loc) (ls : Array Slot), ((c938 - j).toNat) < fuel → (0 ≤ j ∧ j ≤ c938) → (z = isum j (fun q => fe1 (H940 q) * dwI F939 c938 q (dayI a) (dayI b))) → sV G b_ M34 N s_ H locs → lv_has ls 8 [(0, .ref c), (1, .int (sI s)), (2, .int (sI a)), (3, .int (sI b)), (4, .long (sL z)), (6, .int (sI j))] → W p_ l_ e_ rmX10_fee s_ m_ args_ below_ meth_ c_ H locs 4 24 Q (F0 m_ 35 ls []) := by
        intro fuel
        induction fuel with
        | zero => intro z j H locs ls hmu; exact absurd hmu (Nat.not_lt_zero _)
        | succ fuel ih35 =>
          intro z j H locs ls hmu35 hv35_0 hz  hV hl
          refine lv_iload hx_ hb_ dX10_fee_35 (lv_at hl 5 rfl) ?_
          refine lv_aload_n hx_ hb_ dX10_fee_37 rfl (lv_at hl 0 rfl) ?_
          have hc47 : M34 c = some (xO c kn ch) := (hf45 c (by omega) (by omega) (by omega)).trans hc29
          refine sc_get (ci := 8) (C := RX10) (T := TX10) (n := 11) S hK hV inX10_ hc47 rfl 9 (by decide) (S.2.2.2.2 _ (List.mem_of_getElem? (i := 1) rfl)) rfl rfl dX10_fee_38 ?_
          refine sk_VP E hV (As := []) (rest := [.int (sI j)]) (kX7_size l_ G b_ M34 N (c + 54) c938 hc42) (cwV 0 S.2.2.2.2 gX10_fee_X7_size rfl rfl rfl (by decide +kernel) ⟨Nat.le_of_ble_eq_true rfl, Nat.le_of_ble_eq_true rfl⟩) (ci := 5) hc42 rfl rfl rfl hl.1 (Nat.le_of_ble_eq_true rfl) dX10_fee_41 (c1 := 4) (s1 := 24) ⟨⟨rfl, rfl⟩, by decide, by decide⟩ (fun H locs hV => ?_)
          refine sb_ge (tgt := 98) S dX10_fee_44 (by decide) (by omega) (fun c48 => ?_) (fun c48 => ?_)
          · refine lv_lload hx_ hb_ dX10_fee_98 (lv_at hl 4 rfl) ?_
            refine lv_aload_n hx_ hb_ dX10_fee_100 rfl (lv_at hl 0 rfl) ?_
            refine sc_get (ci := 8) (C := RX10) (T := TX10) (n := 11) S hK hV inX10_ hc47 rfl 0 (by decide) (S.2.2.2.2 _ (List.mem_of_getElem? (i := 2) rfl)) rfl rfl dX10_fee_101 ?_
            have hc49 : stC G M34 (c + 1) f := hc30.fr (fun x q8 q9 => hf45 x (by omega) (by omega) (by omega))
            refine sc_getN (ci := 4) (C := RX6) (T := TX6) (n := 8) S hK hV inX6_ (hc49).1 rfl 0 (by decide) (E.2.2.2.2.2.1.1.2.1 _ (List.mem_of_getElem? (i := 3) rfl)) rfl rfl dX10_fee_104 ?_
            refine lv_iload_n hx_ hb_ dX10_fee_107 rfl (lv_at hl 1 rfl) ?_
            refine si_const S dX10_fee_108 ?_
            refine sk_VP E hV (As := [.int (sI s), .int (sI 3)]) (rest := [.long (sL z)]) (kTg l_ G b_ M34 N (c + 2) 7 (f 568) 70 (tvS f) s 3 (f (40 + s)) ((hc49).2.1) (by omega) (by omega) (tvS_3 f s)) (cwV 2 S.2.2.2.2 gX10_fee_X8_get rfl rfl rfl (by decide +kernel) ⟨Nat.le_of_ble_eq_true rfl, Nat.le_of_ble_eq_true rfl⟩) (ci := 6) ((hc49).2.1).1 rfl rfl rfl hl.1 (Nat.le_of_ble_eq_true rfl) dX10_fee_109 (c1 := 4) (s1 := 24) ⟨⟨rfl, rfl⟩, by decide, by decide⟩ (fun H locs hV => ?_)
            have kn50 : 0 ≤ f (40 + s) ∧ f (40 + s) ≤ 10000 := (sOk_S hok s (by omega) (by omega)).2.2.2.2.1
            refine sl_i2l S dX10_fee_112 (by omega) ?_
            have hvs := (sOk_S hok s (by omega) (by omega)).2.2.2.2.1
            have hfe := fe_r (F := F939) (c := c938) (fun q u v => (hsk9.2.2.2 q u v).2) (a := dayI a) (b := dayI b) (by omega) j (by omega)
            rw [← hz] at hfe
            have hzv : 0 * 0 ≤ z * f (40 + s) := Int.mul_le_mul hfe.1 hvs.1 (by omega) hfe.1
            have hzw : z * f (40 + s) ≤ 657438000 * 10000 := Int.mul_le_mul (by omega) hvs.2 hvs.1 (by omega)
            refine sl_mul S dX10_fee_113 ?_
            refine sl_ldc2 S (1000) (S.2.2.2.2 _ (List.mem_of_getElem? (i := 3) rfl)) (by decide) dX10_fee_114 ?_
            refine sl_div S dX10_fee_117 (by omega) ?_
            exact xr_l E hQ dX10_fee_118 ⟨Nat.le_of_ble_eq_true rfl, Nat.le_of_ble_eq_true rfl⟩ hV (⟨rfl, ⟨_, _, _, hc42, hc43, hc44⟩, fun x q0 => ((hf45 x (by omega) (by omega) (by omega)).trans (hf26 x )).trans (hf12 x ), ⟨(⟨by omega, by assumption⟩), by rw [fe_s hsk9 (by omega) hdab, hz, show j = c938 by omega, Int.mul_comm]⟩⟩)
          · refine lv_aload_n hx_ hb_ dX10_fee_47 rfl (lv_at hl 0 rfl) ?_
            refine sc_get (ci := 8) (C := RX10) (T := TX10) (n := 11) S hK hV inX10_ hc47 rfl 9 (by decide) (S.2.2.2.2 _ (List.mem_of_getElem? (i := 1) rfl)) rfl rfl dX10_fee_48 ?_
            refine lv_iload hx_ hb_ dX10_fee_51 (lv_at hl 5 rfl) ?_
            refine sk_VP E hV (As := [.int (sI j)]) (rest := []) (kX7_handOf l_ G b_ M34 N (c + 54) c938 H940 j hc42 hc44 (by omega)) (cwV 1 S.2.2.2.2 gX10_fee_X7_handOf rfl rfl rfl (by decide +kernel) ⟨Nat.le_of_ble_eq_true rfl, Nat.le_of_ble_eq_true rfl⟩) (ci := 5) hc42 rfl rfl rfl hl.1 (Nat.le_of_ble_eq_true rfl) dX10_fee_53 (c1 := 4) (s1 := 24) ⟨⟨rfl, rfl⟩, by decide, by decide⟩ (fun H locs hV => ?_)
            refine lv_istore (lv' := [(7, .int (sI (H940 j))), (0, .ref c), (1, .int (sI s)), (2, .int (sI a)), (3, .int (sI b)), (4, .long (sL z)), (6, .int (sI j))]) hx_ hb_ dX10_fee_56 hl (by decide) rfl (fun ls hl => ?_)
            have hHj := (hsk9.2.2.2 j (by omega) (by omega)).2
            refine lv_iload hx_ hb_ dX10_fee_58 (lv_at hl 0 rfl) ?_
            refine si_bipush S dX10_fee_60 (by decide) ?_
            refine sb_eq (tgt := 92) S dX10_fee_62 (by decide) (by omega) (fun c51 => ?_) (fun c51 => ?_)
            · refine si_inc (lv' := [(6, .int (sI (j + 1))), (7, .int (sI (H940 j))), (0, .ref c), (1, .int (sI s)), (2, .int (sI a)), (3, .int (sI b)), (4, .long (sL z))]) S dX10_fee_92 hl (k := 6) rfl (by decide) rfl (fun ls hl => ?_)
              refine lv_goto (tgt := 35) hx_ hb_ dX10_fee_95 (by decide) ?_
              exact ih35 z (j + 1) _ _ _ (by omega) (by omega) (by rw [isum_s _ (by omega), ← hz]; show _ = z + fe1 (H940 j) * dwI F939 c938 j (dayI a) (dayI b); unfold fe1; rw [if_pos (by omega), Int.zero_mul, Int.add_zero]) hV (lv_sub hl [2, 3, 4, 5, 6, 0] rfl)
            · refine lv_lload hx_ hb_ dX10_fee_65 (lv_at hl 5 rfl) ?_
              refine lv_iload hx_ hb_ dX10_fee_67 (lv_at hl 0 rfl) ?_
              refine sl_i2l S dX10_fee_69 (by omega) ?_
              refine lv_aload_n hx_ hb_ dX10_fee_70 rfl (lv_at hl 1 rfl) ?_
              refine sc_get (ci := 8) (C := RX10) (T := TX10) (n := 11) S hK hV inX10_ hc47 rfl 9 (by decide) (S.2.2.2.2 _ (List.mem_of_getElem? (i := 1) rfl)) rfl rfl dX10_fee_71 ?_
              refine lv_iload hx_ hb_ dX10_fee_74 (lv_at hl 6 rfl) ?_
              refine lv_iload_n hx_ hb_ dX10_fee_76 rfl (lv_at hl 3 rfl) ?_
              refine sk_SP E hV (As := [.int (sI a)]) (rest := [.int (sI j), .ref (c + 54), .long (sL (H940 j)), .long (sL z)]) (kX0_dayOf l_ G b_ M34 N a (by omega)) (va_cwS 1 S.2.2.2.2 gX10_fee_X0_dayOf rfl rfl rfl (by decide +kernel) ⟨Nat.le_of_ble_eq_true rfl, Nat.le_of_ble_eq_true rfl⟩) rfl rfl hl.1 (Nat.le_of_ble_eq_true rfl) dX10_fee_77 (c1 := 4) (s1 := 24) ⟨⟨rfl, rfl⟩, by decide, by decide⟩ (fun H locs hV => ?_)
              refine lv_iload_n hx_ hb_ dX10_fee_80 rfl (lv_at hl 4 rfl) ?_
              refine sk_SP E hV (As := [.int (sI b)]) (rest := [.int (sI (dayI a)), .int (sI j), .ref (c + 54), .long (sL (H940 j)), .long (sL z)]) (kX0_dayOf l_ G b_ M34 N b (by omega)) (va_cwS 1 S.2.2.2.2 gX10_fee_X0_dayOf rfl rfl rfl (by decide +kernel) ⟨Nat.le_of_ble_eq_true rfl, Nat.le_of_ble_eq_true rfl⟩) rfl rfl hl.1 (Nat.le_of_ble_eq_true rfl) dX10_fee_81 (c1 := 4) (s1 := 24) ⟨⟨rfl, rfl⟩, by decide, by decide⟩ (fun H locs hV => ?_)
              refine sk_VP E hV (As := [.int (sI j), .int (sI (dayI a)), .int (sI (dayI b))]) (rest := [.long (sL (H940 j)), .long (sL z)]) (kX7_daysWithin l_ G b_ M34 N (c + 54) c938 F939 H940 (fun x => hnd f s x (f 571)) j (dayI a) (dayI b) hc42 hc43 hc44 (hsk9) (by omega) (by omega)) (cwV 3 S.2.2.2.2 gX10_fee_X7_daysWithin rfl rfl rfl (by decide +kernel) ⟨Nat.le_of_ble_eq_true rfl, Nat.le_of_ble_eq_true rfl⟩) (ci := 5) hc42 rfl rfl rfl hl.1 (Nat.le_of_ble_eq_true rfl) dX10_fee_84 (c1 := 4) (s1 := 24) ⟨⟨rfl, rfl⟩, by decide, by decide⟩ (fun H locs hV => ?_)
              have hdw := dw_r (F := F939) (c := c938) (q := j) hdab
              refine sl_i2l S dX10_fee_87 (by omega) ?_
              refine sl_mul S dX10_fee_88 ?_
              refine sl_add S dX10_fee_89 ?_
              refine lv_lstore (lv' := [(4, .long (sL (z + ((H940 j) * (dwI F939 c938 j (dayI a) (dayI b)))))), (7, .int (sI (H940 j))), (0, .ref c), (1, .int (sI s)), (2, .int (sI a)), (3, .int (sI b)), (6, .int (sI j))]) hx_ hb_ dX10_fee_90 hl (by decide) rfl (fun ls hl => ?_)
              refine si_inc (lv' := [(6, .int (sI (j + 1))), (4, .long (sL (z + ((H940 j) * (dwI F939 c938 j (dayI a) (dayI b)))))), (7, .int (sI (H940 j))), (0, .ref c), (1, .int (sI s)), (2, .int (sI a)), (3, .int (sI b))]) S dX10_fee_92 hl (k := 6) rfl (by decide) rfl (fun ls hl => ?_)
              refine lv_goto (tgt := 35) hx_ hb_ dX10_fee_95 (by decide) ?_
              exact ih35 (z + ((H940 j) * (dwI F939 c938 j (dayI a) (dayI b)))) (j + 1) _ _ _ (by omega) (by omega) (by rw [isum_s _ (by omega), ← hz]; show _ = z + fe1 (H940 j) * dwI F939 c938 j (dayI a) (dayI b); unfold fe1; rw [if_neg (by omega)]) hV (lv_sub hl [3, 4, 5, 6, 1, 0] rfl)
      exact L35 _ 0 0 _ _ _ (Nat.lt_succ_self _) (by omega) (rfl) hV (lv_sub hl [2, 3, 4, 5, 1, 0] rfl)

abbrev rmX10_inHand : Room := { frames := 7, cells := 10, slots := 60, locals := 146 }
set_option maxHeartbeats 4000000 in
set_option maxRecDepth 100000 in
theorem kX10_inHand (l_ : Launch) (G : sG) (b_ : Nat) (M : sM) (N : Nat) (c : Nat) (kn ch : Int) (f : sF) (h d : Int) (hc0 : M c = some (xO c kn ch)) (hst : stC G M (c + 1) f) (hkn : knoC G M (c + 54)) (hlt : l_.stackTraces = false) (hok : sOk f) (hr : sR h ∧ sR d) : xcI l_ yX10_inHand wsX10_inHand rmX10_inHand G b_ M N [.ref c, .int (sI h), .int (sI d)] (fun z_ M1 N1 => N1 = N ∧ knoC G M1 (c + 54) ∧ (∀ x : Nat, ¬ (c + 54 ≤ x ∧ x < c + 54 + 3) → M1 x = M x) ∧ ((((0 ≤ h ∧ h ≤ 6) ∧ isDt d) ∧ z_ = isum (f 568) (ihT f h (dayI d + 3652))))) (fun E_ M1 N1 => N ≤ N1 ∧ knoC G M1 (c + 54) ∧ (∀ x : Nat, ¬ (c + 54 ≤ x ∧ x < c + 54 + 3) → M1 x = M x) ∧ (((¬ ((0 ≤ h ∧ h ≤ 6) ∧ isDt d)) ∧ E_ = "java/lang/IllegalArgumentException"))) := by
  refine xcE.ofI (cc := cX10_inHand) (nL := 5) (ret := (some .int)) (by decide) rfl (Nat.le_of_ble_eq_true rfl) ?_
  intro p_ e_ s_ m_ args_ below_ meth_ c_ ls Q hQ E hF_ hxt_ hl
  have E : sE p_ l_ e_ rmX10_inHand s_ m_ args_ below_ meth_ c_ cX10_inHand 5 wsX10_inHand RX10 "inHand" (some .int) G b_ M N := E
  have S := E.1
  have hx_ := S.1
  have hb_ := S.2.1
  have hK := E.2.2.2.2.1
  have hV := E.2.2.2.2.2.2
  have hl : lv_has ls 5 [(0, .ref c), (1, .int (sI h)), (2, .int (sI d))] := hl
  have inX10_ : ∀ w ∈ wsX100, w ∈ wsX10_inHand := fun _ h => List.mem_cons_of_mem _ (List.mem_append_left _ (List.mem_append_left _ (List.mem_append_left _ (List.mem_append_left _ (List.mem_append_right _ h)))))
  have inX6_ : ∀ w ∈ wsX60, w ∈ wsX10_inHand := fun _ h => List.mem_cons_of_mem _ (List.mem_append_left _ (List.mem_append_left _ (List.mem_append_left _ (List.mem_append_right _ h))))
  have inX8_ : ∀ w ∈ wsX80, w ∈ wsX10_inHand := fun _ h => List.mem_cons_of_mem _ (List.mem_append_left _ (List.mem_append_left _ (List.mem_append_right _ h)))
  have inX7_ : ∀ w ∈ wsX70, w ∈ wsX10_inHand := fun _ h => List.mem_cons_of_mem _ (List.mem_append_left _ (List.mem_append_right _ h))
  have hbN : b_ ≤ N := by have h1 := hV.1.1; have h2 := hV.2.2; omega
  have kn0 := sOk_N hok
  have hkn2 := hkn
  obtain ⟨c0, F0_, H0_, h54, h55, h56⟩ := hkn2
  refine lv_iload_n hx_ hb_ dX10_inHand_0 rfl (lv_at hl 1 rfl) ?_
  refine si_const S dX10_inHand_1 ?_
  refine si_bipush S dX10_inHand_2 (by decide) ?_
  refine xk_Sv E hF_ hxt_ hQ hV (As := [.int (sI h), .int (sI 0), .int (sI 6)]) (rest := []) (kX10_needRange l_ G b_ M N h 0 6 (by omega) (by omega)) (va_cwS 3 S.2.2.2.2 gX10_inHand_X10_needRange rfl rfl rfl (by decide +kernel) ⟨Nat.le_of_ble_eq_true rfl, Nat.le_of_ble_eq_true rfl⟩) rfl rfl hl.1 (Nat.le_of_ble_eq_true rfl) dX10_inHand_4 (c1 := 1) (s1 := 6) ⟨⟨rfl, rfl⟩, by decide, by decide⟩ ⟨Nat.le_of_ble_eq_true rfl, Nat.le_of_ble_eq_true rfl⟩ ?_ (fun M1 N2 H locs hp3 hV => ?_)
  · rintro E9 M9 N9 ⟨hN5, hf6, hq7⟩
    rcases hq7 with ⟨c8, ee9⟩
    · have hc10 : knoC G M9 (c + 54) := hkn.fr (fun x q8 q9 => hf6 x )
      exact ⟨by omega, hc10, fun x q0 => hf6 x , ⟨(fun h => c8 h.1), ee9⟩⟩
  obtain ⟨hN11, hf12, hq13⟩ := hp3
  rw [hN11] at hV
  rcases hq13 with c14
  · refine lv_iload_n hx_ hb_ dX10_inHand_7 rfl (lv_at hl 2 rfl) ?_
    refine xk_Sv E hF_ hxt_ hQ hV (As := [.int (sI d)]) (rest := []) (kX10_needDate l_ G b_ M1 N d (by omega) (by omega)) (va_cwS 1 S.2.2.2.2 gX10_inHand_X10_needDate rfl rfl rfl (by decide +kernel) ⟨Nat.le_of_ble_eq_true rfl, Nat.le_of_ble_eq_true rfl⟩) rfl rfl hl.1 (Nat.le_of_ble_eq_true rfl) dX10_inHand_8 (c1 := 2) (s1 := 12) ⟨⟨rfl, rfl⟩, by decide, by decide⟩ ⟨Nat.le_of_ble_eq_true rfl, Nat.le_of_ble_eq_true rfl⟩ ?_ (fun M15 N16 H locs hp17 hV => ?_)
    · rintro E9 M9 N9 ⟨hN19, hf20, hq21⟩
      rcases hq21 with ⟨c22, ee23⟩
      · have hc24 : knoC G M9 (c + 54) := hkn.fr (fun x q8 q9 => (hf20 x ).trans (hf12 x ))
        exact ⟨by omega, hc24, fun x q0 => (hf20 x ).trans (hf12 x ), ⟨(fun h => c22 h.2), ee23⟩⟩
    obtain ⟨hN25, hf26, hq27⟩ := hp17
    rw [hN25] at hV
    rcases hq27 with c28
    · refine si_const S dX10_inHand_11 ?_
      refine lv_istore_n (lv' := [(3, .int (sI 0)), (0, .ref c), (1, .int (sI h)), (2, .int (sI d))]) hx_ hb_ dX10_inHand_12 rfl hl (by decide) rfl (fun ls hl => ?_)
      refine si_const S dX10_inHand_13 ?_
      refine lv_istore (lv' := [(4, .int (sI 0)), (3, .int (sI 0)), (0, .ref c), (1, .int (sI h)), (2, .int (sI d))]) hx_ hb_ dX10_inHand_14 hl (by decide) rfl (fun ls hl => ?_)
      have L16 : ∀ (fuel : Nat) (z : Int) (j : Int) (c1 : Int) (F1 : Int → Int) (H1 : Int → Int) (Ml16 : sM) (H : Heap) (locs : List Loc) (ls : Array Slot), ((f 568 - j).toNat) < fuel → (0 ≤ j ∧ j ≤ f 568 ∧ 0 ≤ z ∧ z ≤ j) → (z = isum j (ihT f h (dayI d + 3652))) → (Ml16 (c + 54) = some (sObj 5 [.ref (c + 55), .ref (c + 56), .int (sI c1)])) → (Ml16 (c + 55) = some (sArr G 61 F1)) → (Ml16 (c + 56) = some (sArr G 61 H1)) → (∀ x : Nat, ¬ (c + 54 ≤ x ∧ x < c + 54 + 3) → Ml16 x = M15 x) → sV G b_ Ml16 N s_ H locs → lv_has ls 5 [(0, .ref c), (1, .int (sI h)), (2, .int (sI d)), (3, .int (sI z)), (4, .int (sI j))] → W p_ l_ e_ rmX10_inHand s_ m_ args_ below_ meth_ c_ H locs 2 12 Q (F0 m_ 16 ls []) := by
        intro fuel
        induction fuel with
        | zero => intro z j c1 F1 H1 Ml16 H locs ls hmu; exact absurd hmu (Nat.not_lt_zero _)
        | succ fuel ih16 =>
          intro z j c1 F1 H1 Ml16 H locs ls hmu16 hv16_0 hz hm16_0 hm16_1 hm16_2 hfr16 hV hl
          refine lv_iload hx_ hb_ dX10_inHand_16 (lv_at hl 4 rfl) ?_
          refine lv_aload_n hx_ hb_ dX10_inHand_18 rfl (lv_at hl 0 rfl) ?_
          have hc29 : Ml16 c = some (xO c kn ch) := (((hfr16 c (by omega)).trans (hf26 c )).trans (hf12 c )).trans hc0
          refine sc_get (ci := 8) (C := RX10) (T := TX10) (n := 11) S hK hV inX10_ hc29 rfl 0 (by decide) (S.2.2.2.2 _ (List.mem_of_getElem? (i := 1) rfl)) rfl rfl dX10_inHand_19 ?_
          have hc30 : stC G Ml16 (c + 1) f := hst.fr (fun x q8 q9 => ((hfr16 x (by omega)).trans (hf26 x )).trans (hf12 x ))
          refine sc_getN (ci := 4) (C := RX6) (T := TX6) (n := 8) S hK hV inX6_ (hc30).1 rfl 0 (by decide) (E.2.2.2.2.2.1.1.2.1 _ (List.mem_of_getElem? (i := 3) rfl)) rfl rfl dX10_inHand_22 ?_
          refine sk_VP E hV (As := []) (rest := [.int (sI j)]) (kTs l_ G b_ Ml16 N (c + 2) 7 (f 568) 70 (tvS f) ((hc30).2.1)) (cwV 0 S.2.2.2.2 gX10_inHand_X8_size rfl rfl rfl (by decide +kernel) ⟨Nat.le_of_ble_eq_true rfl, Nat.le_of_ble_eq_true rfl⟩) (ci := 6) ((hc30).2.1).1 rfl rfl rfl hl.1 (Nat.le_of_ble_eq_true rfl) dX10_inHand_25 (c1 := 2) (s1 := 12) ⟨⟨rfl, rfl⟩, by decide, by decide⟩ (fun H locs hV => ?_)
          refine sb_ge (tgt := 72) S dX10_inHand_28 (by decide) (by omega) (fun c31 => ?_) (fun c31 => ?_)
          · refine lv_iload_n hx_ hb_ dX10_inHand_72 rfl (lv_at hl 3 rfl) ?_
            exact xr_i E hQ dX10_inHand_73 ⟨Nat.le_of_ble_eq_true rfl, Nat.le_of_ble_eq_true rfl⟩ hV (⟨rfl, ⟨_, _, _, hm16_0, hm16_1, hm16_2⟩, fun x q0 => ((hfr16 x (by omega)).trans (hf26 x )).trans (hf12 x ), ⟨(⟨by omega, by assumption⟩), by rw [hz, show j = f 568 by omega]⟩⟩)
          · refine lv_aload_n hx_ hb_ dX10_inHand_31 rfl (lv_at hl 0 rfl) ?_
            refine sc_get (ci := 8) (C := RX10) (T := TX10) (n := 11) S hK hV inX10_ hc29 rfl 9 (by decide) (S.2.2.2.2 _ (List.mem_of_getElem? (i := 2) rfl)) rfl rfl dX10_inHand_32 ?_
            refine lv_aload_n hx_ hb_ dX10_inHand_35 rfl (lv_at hl 0 rfl) ?_
            refine sc_get (ci := 8) (C := RX10) (T := TX10) (n := 11) S hK hV inX10_ hc29 rfl 0 (by decide) (S.2.2.2.2 _ (List.mem_of_getElem? (i := 1) rfl)) rfl rfl dX10_inHand_36 ?_
            refine lv_iload hx_ hb_ dX10_inHand_39 (lv_at hl 4 rfl) ?_
            refine lv_aload_n hx_ hb_ dX10_inHand_41 rfl (lv_at hl 0 rfl) ?_
            refine sc_get (ci := 8) (C := RX10) (T := TX10) (n := 11) S hK hV inX10_ hc29 rfl 0 (by decide) (S.2.2.2.2 _ (List.mem_of_getElem? (i := 1) rfl)) rfl rfl dX10_inHand_42 ?_
            refine sc_getN (ci := 4) (C := RX6) (T := TX6) (n := 8) S hK hV inX6_ (hc30).1 rfl 7 (by decide) (E.2.2.2.2.2.1.1.2.1 _ (List.mem_of_getElem? (i := 14) rfl)) rfl rfl dX10_inHand_45 ?_
            refine sk_Vv E hV (As := [.ref (c + 1), .int (sI j), .int (sI (f 571))]) (rest := []) (kX7_lookAt l_ G b_ Ml16 N (c + 54) (c + 1) c1 F1 H1 f j (f 571) hm16_0 hm16_1 hm16_2 hc30 (by omega) (by omega) (by omega)) (cwV 3 S.2.2.2.2 gX10_inHand_X7_lookAt rfl rfl rfl (by decide +kernel) ⟨Nat.le_of_ble_eq_true rfl, Nat.le_of_ble_eq_true rfl⟩) (ci := 5) hm16_0 rfl rfl rfl hl.1 (Nat.le_of_ble_eq_true rfl) dX10_inHand_48 (c1 := 2) (s1 := 12) ⟨⟨rfl, rfl⟩, by decide, by decide⟩ (fun M32 N33 H locs hp34 hV => ?_)
            obtain ⟨c936, F937, H938, hN39, hc40, hc41, hc42, hf43, hsk944⟩ := hp34
            rw [hN39] at hV
            have hsk9 := hsk944
            have hseg := seg_eq hsk9.1
            have hskc := hsk9.2.1
            refine lv_aload_n hx_ hb_ dX10_inHand_51 rfl (lv_at hl 0 rfl) ?_
            have hc45 : M32 c = some (xO c kn ch) := (hf43 c (by omega) (by omega) (by omega)).trans hc29
            refine sc_get (ci := 8) (C := RX10) (T := TX10) (n := 11) S hK hV inX10_ hc45 rfl 9 (by decide) (S.2.2.2.2 _ (List.mem_of_getElem? (i := 2) rfl)) rfl rfl dX10_inHand_52 ?_
            refine lv_iload_n hx_ hb_ dX10_inHand_55 rfl (lv_at hl 2 rfl) ?_
            refine sk_VP E hV (As := [.int (sI d)]) (rest := []) (kX7_handAt l_ G b_ M32 N (c + 54) c936 F937 H938 (fun x => hnd f j x (f 571)) d hc40 hc41 hc42 (hsk9) (by assumption)) (cwV 1 S.2.2.2.2 gX10_inHand_X7_handAt rfl rfl rfl (by decide +kernel) ⟨Nat.le_of_ble_eq_true rfl, Nat.le_of_ble_eq_true rfl⟩) (ci := 5) hc40 rfl rfl rfl hl.1 (Nat.le_of_ble_eq_true rfl) dX10_inHand_56 (c1 := 2) (s1 := 12) ⟨⟨rfl, rfl⟩, by decide, by decide⟩ (fun H locs hV => ?_)
            have hhr := hnd_r hok j (dayI d + 3652) (f 571)
            show W _ _ _ _ _ _ _ _ _ _ _ _ _ _ _ (F0 _ _ _ [.int (sI (hnd f j (dayI d + 3652) (f 571)))])
            refine lv_iload_n hx_ hb_ dX10_inHand_59 rfl (lv_at hl 1 rfl) ?_
            refine sb_ne (tgt := 66) S dX10_inHand_60 (by decide) (by omega) (fun c46 => ?_) (fun c46 => ?_)
            · refine si_inc (lv' := [(4, .int (sI (j + 1))), (0, .ref c), (1, .int (sI h)), (2, .int (sI d)), (3, .int (sI z))]) S dX10_inHand_66 hl (k := 4) rfl (by decide) rfl (fun ls hl => ?_)
              refine lv_goto (tgt := 16) hx_ hb_ dX10_inHand_69 (by decide) ?_
              exact ih16 z (j + 1) c936 F937 H938 M32 _ _ _ (by omega) (by omega) (by rw [isum_s _ (by omega), ← hz]; show _ = z + (if hnd f j (dayI d + 3652) (f 571) = h then 1 else 0); rw [if_neg (by omega), Int.add_zero]) hc40 hc41 hc42 (fun x q0 => (hf43 x (by omega) (by omega) (by omega)).trans (hfr16 x (by omega))) hV (lv_sub hl [1, 2, 3, 4, 0] rfl)
            · refine si_inc (lv' := [(3, .int (sI (z + 1))), (0, .ref c), (1, .int (sI h)), (2, .int (sI d)), (4, .int (sI j))]) S dX10_inHand_63 hl (k := 3) rfl (by decide) rfl (fun ls hl => ?_)
              refine si_inc (lv' := [(4, .int (sI (j + 1))), (3, .int (sI (z + 1))), (0, .ref c), (1, .int (sI h)), (2, .int (sI d))]) S dX10_inHand_66 hl (k := 4) rfl (by decide) rfl (fun ls hl => ?_)
              refine lv_goto (tgt := 16) hx_ hb_ dX10_inHand_69 (by decide) ?_
              exact ih16 (z + 1) (j + 1) c936 F937 H938 M32 _ _ _ (by omega) (by omega) (by rw [isum_s _ (by omega), ← hz]; show _ = z + (if hnd f j (dayI d + 3652) (f 571) = h then 1 else 0); rw [if_pos (by omega)]) hc40 hc41 hc42 (fun x q0 => (hf43 x (by omega) (by omega) (by omega)).trans (hfr16 x (by omega))) hV (lv_sub hl [2, 3, 4, 1, 0] rfl)
      have hc47 : M15 (c + 54) = some (sObj 5 [.ref (c + 55), .ref (c + 56), .int (sI c0)]) := ((hf26 (c + 54) ).trans (hf12 (c + 54) )).trans h54
      have hc48 : M15 (c + 55) = some (sArr G 61 F0_) := ((hf26 (c + 55) ).trans (hf12 (c + 55) )).trans h55
      have hc49 : M15 (c + 56) = some (sArr G 61 H0_) := ((hf26 (c + 56) ).trans (hf12 (c + 56) )).trans h56
      exact L16 _ 0 0 c0 F0_ H0_ M15 _ _ _ (Nat.lt_succ_self _) (by omega) (rfl) hc47 hc48 hc49 (fun x q0 => rfl) hV (lv_sub hl [2, 3, 4, 1, 0] rfl)
