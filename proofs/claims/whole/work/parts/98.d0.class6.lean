/-! The class: stays. -/
def knoC (G : sG) (M : sM) (k : Nat) : Prop := ∃ (c : Int) (F Hn : sF), M k = some (sObj 5 [.ref (k + 1), .ref (k + 2), .int (sI c)]) ∧ M (k + 1) = some (sArr G 61 F) ∧ M (k + 2) = some (sArr G 61 Hn)
theorem knoC.fr {G : sG} {M M1 : sM} {k : Nat} (h : knoC G M k) (hf : ∀ x : Nat, k ≤ x → x < k + 3 → M1 x = M x) : knoC G M1 k := by
  obtain ⟨c, F, Hn, h0, h1, h2⟩ := h
  exact ⟨c, F, Hn, (hf k (by omega) (by omega)).trans h0, (hf (k + 1) (by omega) (by omega)).trans h1, (hf (k + 2) (by omega) (by omega)).trans h2⟩
theorem sk_h {h : Int → Int} {c : Int} {F Hn : sF} (hs : skQ h c F Hn) {J x : Int} (hJ : 0 ≤ J ∧ J < c) (h1 : dF F J ≤ x) (h2 : J + 1 < c → x < dF F (J + 1)) : h x = Hn J := by
  obtain ⟨⟨a1, a2, a3, a4⟩, b1, b2, b3⟩ := hs
  rw [(b3 J hJ.1 hJ.2).1]
  by_cases e : J + 1 < c
  · exact (a3 J hJ.1 e).2.2 x h1 (h2 e)
  · have e2 : J = c - 1 := by omega
    rw [e2] at h1 ⊢
    exact a4 x h1
theorem isum_k {n v : Int} {g : Int → Int} (h0 : 0 ≤ n) (h : ∀ k, 0 ≤ k → k < n → g k = v) : isum n g = n * v := by
  rw [isum_c (g' := fun _ => v) h]
  have := isum_b (n := n) (g := fun _ => v) v v h0 (fun _ _ _ => ⟨Int.le_refl _, Int.le_refl _⟩)
  omega
/-- the last day of the first stays -/
noncomputable def enE (F : sF) (c b J : Int) : Int := if J < c then min b (dF F J - 3653) else b
theorem dw_e (F : sF) (c q a b : Int) : dwI F c q a b = max 0 (enE F c b (q + 1) - (if q = 0 then a else max a (dF F q - 3652)) + 1) := by
  unfold dwI enE
  by_cases e : q < c - 1
  · rw [if_pos e, if_pos (show q + 1 < c by omega)]
  · rw [if_neg e, if_neg (show ¬ q + 1 < c by omega)]
theorem dw_r {F : sF} {c q a b : Int} (h : a ≤ b) : 0 ≤ dwI F c q a b ∧ dwI F c q a b ≤ b - a + 1 := by
  rw [dw_e]
  have h1 : enE F c b (q + 1) ≤ b := by unfold enE; split <;> omega
  have h2 : a ≤ (if q = 0 then a else max a (dF F q - 3652)) := by split <;> omega
  omega
theorem dw_sum {h : Int → Int} {c : Int} {F Hn : sF} (hs : skQ h c F Hn) {a b : Int} (ha : 0 ≤ a) (hab : a ≤ b) (ph : Int → Int) : isum (b - a + 1) (fun k => ph (h (a + 3652 + k))) = isum c (fun j => ph (Hn j) * dwI F c j a b) := by
  have hc := hs.2.1
  have hds := hs.2.2.1
  have key : ∀ n : Nat, (n : Int) + 1 ≤ c → isum (enE F c b ((n : Int) + 1) - a + 1) (fun k => ph (h (a + 3652 + k))) = isum ((n : Int) + 1) (fun j => ph (Hn j) * dwI F c j a b) := by
    intro n
    induction n with
    | zero =>
      intro hn
      rw [show ((0 : Nat) : Int) = 0 from rfl, isum_s _ (show (0 : Int) ≤ 0 by omega), isum_0]
      show isum (enE F c b (0 + 1) - a + 1) _ = 0 + ph (Hn 0) * dwI F c 0 a b
      rw [dw_e, if_pos rfl]
      have hE : 0 + 1 < c → enE F c b (0 + 1) ≤ dF F (0 + 1) - 3653 := fun q => by unfold enE; rw [if_pos q]; omega
      rcases Int.lt_or_le 0 (enE F c b (0 + 1) - a + 1) with e | e
      · rw [isum_k (v := ph (Hn 0)) (by omega) (fun k u v => by rw [sk_h hs (J := 0) ⟨by omega, by omega⟩ (by rw [dF_0 F (by omega)]; omega) (fun q => by have := hE q; omega)]), show max 0 (enE F c b (0 + 1) - a + 1) = enE F c b (0 + 1) - a + 1 by omega, Int.mul_comm]
        omega
      · rw [isum_neg _ e, show max 0 (enE F c b (0 + 1) - a + 1) = 0 by omega, Int.mul_zero]
        rfl
    | succ n ih =>
      intro hn
      have ih := ih (by omega)
      rw [show ((n + 1 : Nat) : Int) = (n : Int) + 1 by omega]
      generalize hJ : (n : Int) + 1 = J at ih hn ⊢
      have hJ1 : J < c := by omega
      rw [isum_s (n := J) _ (by omega), ← ih]
      show _ = _ + ph (Hn J) * dwI F c J a b
      rw [dw_e, if_neg (by omega)]
      have hE0 : enE F c b J = min b (dF F J - 3653) := by unfold enE; rw [if_pos hJ1]
      have hE1 : (J + 1 < c ∧ enE F c b (J + 1) = min b (dF F (J + 1) - 3653) ∧ dF F J < dF F (J + 1)) ∨ (¬ J + 1 < c ∧ enE F c b (J + 1) = b) := by
        unfold enE
        by_cases e : J + 1 < c
        · exact Or.inl ⟨e, if_pos e, dF_lt hds (by omega) (by omega) e⟩
        · exact Or.inr ⟨e, if_neg e⟩
      generalize enE F c b (J + 1) = E1 at hE1 ⊢
      rw [hE0]
      have hd : ∀ x, dF F J ≤ x → x ≤ E1 + 3652 → h x = Hn J := fun x u v => sk_h hs ⟨by omega, hJ1⟩ u (fun q => by omega)
      rcases Int.lt_or_le 0 (E1 - a + 1) with e | e
      · rcases Int.lt_or_le 0 (min b (dF F J - 3653) - a + 1) with e2 | e2
        · rcases Int.lt_or_le (dF F J - 3653) b with e3 | e3
          · have h1 := isum_ap (a := min b (dF F J - 3653) - a + 1) (b := E1 - min b (dF F J - 3653)) (fun k => ph (h (a + 3652 + k))) (by omega) (by omega)
            rw [show min b (dF F J - 3653) - a + 1 + (E1 - min b (dF F J - 3653)) = E1 - a + 1 by omega] at h1
            rw [h1, isum_k (n := E1 - min b (dF F J - 3653)) (v := ph (Hn J)) (by omega) (fun k u v => by rw [hd _ (by omega) (by omega)]), show max 0 (E1 - max a (dF F J - 3652) + 1) = E1 - min b (dF F J - 3653) by omega, Int.mul_comm (ph (Hn J))]
          · rw [show max 0 (E1 - max a (dF F J - 3652) + 1) = 0 by omega, Int.mul_zero, show E1 - a + 1 = min b (dF F J - 3653) - a + 1 by omega]
            omega
        · rw [isum_neg _ e2, isum_k (v := ph (Hn J)) (by omega) (fun k u v => by rw [hd _ (by omega) (by omega)]), show max 0 (E1 - max a (dF F J - 3652) + 1) = E1 - a + 1 by omega, Int.mul_comm]
          omega
      · rw [isum_neg _ e, isum_neg _ (show min b (dF F J - 3653) - a + 1 ≤ 0 by omega), show max 0 (E1 - max a (dF F J - 3652) + 1) = 0 by omega, Int.mul_zero]
        rfl
  have h1 := key (c - 1).toNat (by omega)
  rw [show (((c - 1).toNat : Nat) : Int) + 1 = c by omega] at h1
  rw [← h1]
  unfold enE
  rw [if_neg (by omega)]
def aw1 (v : Int) : Int := if v ≠ 0 then 1 else 0
def fe1 (v : Int) : Int := if v = 6 then 0 else v
theorem aw_s {f : sF} {s a b c : Int} {F Hn : sF} (hs : skQ (fun x => hnd f s x (f 571)) c F Hn) (ha : 0 ≤ a) (hab : a ≤ b) : isum (b - a + 1) (awT f s (a + 3652)) = isum c (fun j => aw1 (Hn j) * dwI F c j a b) := dw_sum hs ha hab aw1
theorem fe_s {f : sF} {s a b c : Int} {F Hn : sF} (hs : skQ (fun x => hnd f s x (f 571)) c F Hn) (ha : 0 ≤ a) (hab : a ≤ b) : isum (b - a + 1) (fdT f s (a + 3652)) = f (40 + s) * isum c (fun j => fe1 (Hn j) * dwI F c j a b) := by
  rw [← dw_sum hs ha hab fe1, isum_mull]
  refine isum_c fun k _ _ => ?_
  unfold fdT fe1
  split
  · rw [Int.mul_zero]
  · rfl
theorem fe_r {c a b : Int} {F Hn : sF} (hH : ∀ j, 0 ≤ j → j < c → 0 ≤ Hn j ∧ Hn j ≤ 6) (hab : a ≤ b ∧ b - a + 1 ≤ 109573) (j : Int) (h : 0 ≤ j ∧ j ≤ c) : 0 ≤ isum j (fun j => fe1 (Hn j) * dwI F c j a b) ∧ isum j (fun j => fe1 (Hn j) * dwI F c j a b) ≤ j * 657438 := by
  have h1 := isum_b (n := j) (g := fun j => fe1 (Hn j) * dwI F c j a b) 0 657438 h.1 (fun k u v => by
    have h2 := hH k u (by omega)
    have h3 := dw_r (F := F) (c := c) (q := k) hab.1
    have h4 : 0 ≤ fe1 (Hn k) ∧ fe1 (Hn k) ≤ 6 := by unfold fe1; split <;> omega
    have h5 : 0 * 0 ≤ fe1 (Hn k) * dwI F c k a b := Int.mul_le_mul h4.1 h3.1 (by omega) h4.1
    have h6 : fe1 (Hn k) * dwI F c k a b ≤ 6 * 109573 := Int.mul_le_mul h4.2 (by omega) h3.1 (by omega)
    exact ⟨by omega, by omega⟩)
  omega

abbrev rmX10_handOn : Room := { frames := 7, cells := 10, slots := 60, locals := 146 }
set_option maxHeartbeats 4000000 in
set_option maxRecDepth 100000 in
theorem kX10_handOn (l_ : Launch) (G : sG) (b_ : Nat) (M : sM) (N : Nat) (c : Nat) (kn ch : Int) (f : sF) (s d t : Int) (hc0 : M c = some (xO c kn ch)) (hst : stC G M (c + 1) f) (hkn : knoC G M (c + 54)) (hlt : l_.stackTraces = false) (hok : sOk f) (hr : sR s ∧ sR d ∧ sR t) : xcI l_ yX10_handOn wsX10_handOn rmX10_handOn G b_ M N [.ref c, .int (sI s), .int (sI d), .int (sI t)] (fun z_ M1 N1 => N1 = N ∧ knoC G M1 (c + 54) ∧ (∀ x : Nat, ¬ (c + 54 ≤ x ∧ x < c + 54 + 3) → M1 x = M x) ∧ ((((0 ≤ s ∧ s < f 568) ∧ isDt d ∧ 0 ≤ t ∧ t ≤ f 571) ∧ z_ = hnd f s (dayI d + 3652) t))) (fun E_ M1 N1 => N ≤ N1 ∧ knoC G M1 (c + 54) ∧ (∀ x : Nat, ¬ (c + 54 ≤ x ∧ x < c + 54 + 3) → M1 x = M x) ∧ (((¬ (0 ≤ s ∧ s < f 568)) ∧ E_ = "java/lang/IndexOutOfBoundsException") ∨ (((0 ≤ s ∧ s < f 568) ∧ ¬ (isDt d ∧ 0 ≤ t ∧ t ≤ f 571)) ∧ E_ = "java/lang/IllegalArgumentException"))) := by
  refine xcE.ofI (cc := cX10_handOn) (nL := 4) (ret := (some .int)) (by decide) rfl (Nat.le_of_ble_eq_true rfl) ?_
  intro p_ e_ s_ m_ args_ below_ meth_ c_ ls Q hQ E hF_ hxt_ hl
  have E : sE p_ l_ e_ rmX10_handOn s_ m_ args_ below_ meth_ c_ cX10_handOn 4 wsX10_handOn RX10 "handOn" (some .int) G b_ M N := E
  have S := E.1
  have hx_ := S.1
  have hb_ := S.2.1
  have hK := E.2.2.2.2.1
  have hV := E.2.2.2.2.2.2
  have hl : lv_has ls 4 [(0, .ref c), (1, .int (sI s)), (2, .int (sI d)), (3, .int (sI t))] := hl
  have inX10_ : ∀ w ∈ wsX100, w ∈ wsX10_handOn := fun _ h => List.mem_cons_of_mem _ (List.mem_append_left _ (List.mem_append_left _ (List.mem_append_left _ (List.mem_append_left _ (List.mem_append_left _ (List.mem_append_right _ h))))))
  have inX6_ : ∀ w ∈ wsX60, w ∈ wsX10_handOn := fun _ h => List.mem_cons_of_mem _ (List.mem_append_left _ (List.mem_append_left _ (List.mem_append_left _ (List.mem_append_left _ (List.mem_append_right _ h)))))
  have inX8_ : ∀ w ∈ wsX80, w ∈ wsX10_handOn := fun _ h => List.mem_cons_of_mem _ (List.mem_append_left _ (List.mem_append_left _ (List.mem_append_left _ (List.mem_append_right _ h))))
  have inX7_ : ∀ w ∈ wsX70, w ∈ wsX10_handOn := fun _ h => List.mem_cons_of_mem _ (List.mem_append_left _ (List.mem_append_left _ (List.mem_append_right _ h)))
  have hbN : b_ ≤ N := by have h1 := hV.1.1; have h2 := hV.2.2; omega
  have kn0 := sOk_N hok
  have hkn2 := hkn
  obtain ⟨c0, F0_, H0_, h54, h55, h56⟩ := hkn2
  refine lv_aload_n hx_ hb_ dX10_handOn_0 rfl (lv_at hl 0 rfl) ?_
  refine lv_iload_n hx_ hb_ dX10_handOn_1 rfl (lv_at hl 1 rfl) ?_
  refine xk_Vv E hF_ hxt_ hQ hV (As := [.int (sI s)]) (rest := []) (kX10_needStone l_ G b_ M N c kn ch f s hc0 hst (by omega) (by omega) (by omega)) (cwV 1 S.2.2.2.2 gX10_handOn_X10_needStone rfl rfl rfl (by decide +kernel) ⟨Nat.le_of_ble_eq_true rfl, Nat.le_of_ble_eq_true rfl⟩) (ci := 8) hc0 rfl rfl rfl hl.1 (Nat.le_of_ble_eq_true rfl) dX10_handOn_2 (c1 := 1) (s1 := 6) ⟨⟨rfl, rfl⟩, by decide, by decide⟩ ⟨Nat.le_of_ble_eq_true rfl, Nat.le_of_ble_eq_true rfl⟩ ?_ (fun M1 N2 H locs hp3 hV => ?_)
  · rintro E9 M9 N9 ⟨hN5, hf6, hq7⟩
    rcases hq7 with ⟨c8, ee9⟩
    · have hc10 : knoC G M9 (c + 54) := hkn.fr (fun x q8 q9 => hf6 x )
      exact ⟨by omega, hc10, fun x q0 => hf6 x , Or.inl ⟨(by first | exact c8 | omega), ee9⟩⟩
  obtain ⟨hN11, hf12, hq13⟩ := hp3
  rw [hN11] at hV
  rcases hq13 with c14
  · refine lv_iload_n hx_ hb_ dX10_handOn_5 rfl (lv_at hl 2 rfl) ?_
    refine xk_Sv E hF_ hxt_ hQ hV (As := [.int (sI d)]) (rest := []) (kX10_needDate l_ G b_ M1 N d (by omega) (by omega)) (va_cwS 1 S.2.2.2.2 gX10_handOn_X10_needDate rfl rfl rfl (by decide +kernel) ⟨Nat.le_of_ble_eq_true rfl, Nat.le_of_ble_eq_true rfl⟩) rfl rfl hl.1 (Nat.le_of_ble_eq_true rfl) dX10_handOn_6 (c1 := 2) (s1 := 12) ⟨⟨rfl, rfl⟩, by decide, by decide⟩ ⟨Nat.le_of_ble_eq_true rfl, Nat.le_of_ble_eq_true rfl⟩ ?_ (fun M15 N16 H locs hp17 hV => ?_)
    · rintro E9 M9 N9 ⟨hN19, hf20, hq21⟩
      rcases hq21 with ⟨c22, ee23⟩
      · have hc24 : knoC G M9 (c + 54) := hkn.fr (fun x q8 q9 => (hf20 x ).trans (hf12 x ))
        exact ⟨by omega, hc24, fun x q0 => (hf20 x ).trans (hf12 x ), Or.inr (⟨(⟨by omega, fun h => c22 h.1⟩), ee23⟩)⟩
    obtain ⟨hN25, hf26, hq27⟩ := hp17
    rw [hN25] at hV
    rcases hq27 with c28
    · refine lv_iload_n hx_ hb_ dX10_handOn_9 rfl (lv_at hl 3 rfl) ?_
      refine si_const S dX10_handOn_10 ?_
      refine lv_aload_n hx_ hb_ dX10_handOn_11 rfl (lv_at hl 0 rfl) ?_
      have hc29 : M15 c = some (xO c kn ch) := ((hf26 c ).trans (hf12 c )).trans hc0
      refine sc_get (ci := 8) (C := RX10) (T := TX10) (n := 11) S hK hV inX10_ hc29 rfl 0 (by decide) (S.2.2.2.2 _ (List.mem_of_getElem? (i := 1) rfl)) rfl rfl dX10_handOn_12 ?_
      have hc30 : stC G M15 (c + 1) f := hst.fr (fun x q8 q9 => (hf26 x ).trans (hf12 x ))
      refine sc_getN (ci := 4) (C := RX6) (T := TX6) (n := 8) S hK hV inX6_ (hc30).1 rfl 7 (by decide) (E.2.2.2.2.2.1.1.2.1 _ (List.mem_of_getElem? (i := 14) rfl)) rfl rfl dX10_handOn_15 ?_
      refine xk_Sv E hF_ hxt_ hQ hV (As := [.int (sI t), .int (sI 0), .int (sI (f 571))]) (rest := []) (kX10_needRange l_ G b_ M15 N t 0 (f 571) (by omega) (by omega)) (va_cwS 3 S.2.2.2.2 gX10_handOn_X10_needRange rfl rfl rfl (by decide +kernel) ⟨Nat.le_of_ble_eq_true rfl, Nat.le_of_ble_eq_true rfl⟩) rfl rfl hl.1 (Nat.le_of_ble_eq_true rfl) dX10_handOn_18 (c1 := 3) (s1 := 18) ⟨⟨rfl, rfl⟩, by decide, by decide⟩ ⟨Nat.le_of_ble_eq_true rfl, Nat.le_of_ble_eq_true rfl⟩ ?_ (fun M31 N32 H locs hp33 hV => ?_)
      · rintro E9 M9 N9 ⟨hN35, hf36, hq37⟩
        rcases hq37 with ⟨c38, ee39⟩
        · have hc40 : knoC G M9 (c + 54) := hkn.fr (fun x q8 q9 => ((hf36 x ).trans (hf26 x )).trans (hf12 x ))
          exact ⟨by omega, hc40, fun x q0 => ((hf36 x ).trans (hf26 x )).trans (hf12 x ), Or.inr (⟨(⟨by omega, fun h => c38 h.2⟩), ee39⟩)⟩
      obtain ⟨hN41, hf42, hq43⟩ := hp33
      rw [hN41] at hV
      rcases hq43 with c44
      · refine lv_aload_n hx_ hb_ dX10_handOn_21 rfl (lv_at hl 0 rfl) ?_
        have hc45 : M31 c = some (xO c kn ch) := (hf42 c ).trans hc29
        refine sc_get (ci := 8) (C := RX10) (T := TX10) (n := 11) S hK hV inX10_ hc45 rfl 9 (by decide) (S.2.2.2.2 _ (List.mem_of_getElem? (i := 2) rfl)) rfl rfl dX10_handOn_22 ?_
        refine lv_aload_n hx_ hb_ dX10_handOn_25 rfl (lv_at hl 0 rfl) ?_
        refine sc_get (ci := 8) (C := RX10) (T := TX10) (n := 11) S hK hV inX10_ hc45 rfl 0 (by decide) (S.2.2.2.2 _ (List.mem_of_getElem? (i := 1) rfl)) rfl rfl dX10_handOn_26 ?_
        refine lv_iload_n hx_ hb_ dX10_handOn_29 rfl (lv_at hl 1 rfl) ?_
        refine lv_iload_n hx_ hb_ dX10_handOn_30 rfl (lv_at hl 3 rfl) ?_
        have hc46 : M31 (c + 54) = some (sObj 5 [.ref (c + 55), .ref (c + 56), .int (sI c0)]) := (((hf42 (c + 54) ).trans (hf26 (c + 54) )).trans (hf12 (c + 54) )).trans h54
        have hc47 : M31 (c + 55) = some (sArr G 61 F0_) := (((hf42 (c + 55) ).trans (hf26 (c + 55) )).trans (hf12 (c + 55) )).trans h55
        have hc48 : M31 (c + 56) = some (sArr G 61 H0_) := (((hf42 (c + 56) ).trans (hf26 (c + 56) )).trans (hf12 (c + 56) )).trans h56
        have hc49 : stC G M31 (c + 1) f := hc30.fr (fun x q8 q9 => hf42 x )
        refine sk_Vv E hV (As := [.ref (c + 1), .int (sI s), .int (sI t)]) (rest := []) (kX7_lookAt l_ G b_ M31 N (c + 54) (c + 1) c0 F0_ H0_ f s t hc46 hc47 hc48 hc49 (by omega) (by omega) (by omega)) (cwV 3 S.2.2.2.2 gX10_handOn_X7_lookAt rfl rfl rfl (by decide +kernel) ⟨Nat.le_of_ble_eq_true rfl, Nat.le_of_ble_eq_true rfl⟩) (ci := 5) hc46 rfl rfl rfl hl.1 (Nat.le_of_ble_eq_true rfl) dX10_handOn_31 (c1 := 3) (s1 := 18) ⟨⟨rfl, rfl⟩, by decide, by decide⟩ (fun M50 N51 H locs hp52 hV => ?_)
        obtain ⟨c954, F955, H956, hN57, hc58, hc59, hc60, hf61, hsk962⟩ := hp52
        rw [hN57] at hV
        have hsk9 := hsk962
        have hseg := seg_eq hsk9.1
        have hskc := hsk9.2.1
        refine lv_aload_n hx_ hb_ dX10_handOn_34 rfl (lv_at hl 0 rfl) ?_
        have hc63 : M50 c = some (xO c kn ch) := (hf61 c (by omega) (by omega) (by omega)).trans hc45
        refine sc_get (ci := 8) (C := RX10) (T := TX10) (n := 11) S hK hV inX10_ hc63 rfl 9 (by decide) (S.2.2.2.2 _ (List.mem_of_getElem? (i := 2) rfl)) rfl rfl dX10_handOn_35 ?_
        refine lv_iload_n hx_ hb_ dX10_handOn_38 rfl (lv_at hl 2 rfl) ?_
        refine sk_VP E hV (As := [.int (sI d)]) (rest := []) (kX7_handAt l_ G b_ M50 N (c + 54) c954 F955 H956 (fun x => hnd f s x t) d hc58 hc59 hc60 (hsk9) (by assumption)) (cwV 1 S.2.2.2.2 gX10_handOn_X7_handAt rfl rfl rfl (by decide +kernel) ⟨Nat.le_of_ble_eq_true rfl, Nat.le_of_ble_eq_true rfl⟩) (ci := 5) hc58 rfl rfl rfl hl.1 (Nat.le_of_ble_eq_true rfl) dX10_handOn_39 (c1 := 3) (s1 := 18) ⟨⟨rfl, rfl⟩, by decide, by decide⟩ (fun H locs hV => ?_)
        exact xr_i E hQ dX10_handOn_42 ⟨Nat.le_of_ble_eq_true rfl, Nat.le_of_ble_eq_true rfl⟩ hV (⟨rfl, ⟨_, _, _, hc58, hc59, hc60⟩, fun x q0 => (((hf61 x (by omega) (by omega) (by omega)).trans (hf42 x )).trans (hf26 x )).trans (hf12 x ), ⟨(⟨by omega, by assumption, by omega⟩), rfl⟩⟩)

abbrev rmX10_stays : Room := { frames := 7, cells := 10, slots := 60, locals := 122 }
set_option maxHeartbeats 4000000 in
set_option maxRecDepth 100000 in
theorem kX10_stays (l_ : Launch) (G : sG) (b_ : Nat) (M : sM) (N : Nat) (c : Nat) (kn ch : Int) (f : sF) (s t : Int) (hc0 : M c = some (xO c kn ch)) (hst : stC G M (c + 1) f) (hkn : knoC G M (c + 54)) (hlt : l_.stackTraces = false) (hok : sOk f) (hr : sR s ∧ sR t) : xcI l_ yX10_stays wsX10_stays rmX10_stays G b_ M N [.ref c, .int (sI s), .int (sI t)] (fun z_ M1 N1 => N1 = N ∧ knoC G M1 (c + 54) ∧ (∀ x : Nat, ¬ (c + 54 ≤ x ∧ x < c + 54 + 3) → M1 x = M x) ∧ ((((0 ≤ s ∧ s < f 568) ∧ 0 ≤ t ∧ t ≤ f 571) ∧ z_ = segC (fun x => hnd f s x t)))) (fun E_ M1 N1 => N ≤ N1 ∧ knoC G M1 (c + 54) ∧ (∀ x : Nat, ¬ (c + 54 ≤ x ∧ x < c + 54 + 3) → M1 x = M x) ∧ (((¬ (0 ≤ s ∧ s < f 568)) ∧ E_ = "java/lang/IndexOutOfBoundsException") ∨ (((0 ≤ s ∧ s < f 568) ∧ ¬ (0 ≤ t ∧ t ≤ f 571)) ∧ E_ = "java/lang/IllegalArgumentException"))) := by
  refine xcE.ofI (cc := cX10_stays) (nL := 3) (ret := (some .int)) (by decide) rfl (Nat.le_of_ble_eq_true rfl) ?_
  intro p_ e_ s_ m_ args_ below_ meth_ c_ ls Q hQ E hF_ hxt_ hl
  have E : sE p_ l_ e_ rmX10_stays s_ m_ args_ below_ meth_ c_ cX10_stays 3 wsX10_stays RX10 "stays" (some .int) G b_ M N := E
  have S := E.1
  have hx_ := S.1
  have hb_ := S.2.1
  have hK := E.2.2.2.2.1
  have hV := E.2.2.2.2.2.2
  have hl : lv_has ls 3 [(0, .ref c), (1, .int (sI s)), (2, .int (sI t))] := hl
  have inX10_ : ∀ w ∈ wsX100, w ∈ wsX10_stays := fun _ h => List.mem_cons_of_mem _ (List.mem_append_left _ (List.mem_append_left _ (List.mem_append_left _ (List.mem_append_left _ (List.mem_append_left _ (List.mem_append_right _ h))))))
  have inX6_ : ∀ w ∈ wsX60, w ∈ wsX10_stays := fun _ h => List.mem_cons_of_mem _ (List.mem_append_left _ (List.mem_append_left _ (List.mem_append_left _ (List.mem_append_left _ (List.mem_append_right _ h)))))
  have inX8_ : ∀ w ∈ wsX80, w ∈ wsX10_stays := fun _ h => List.mem_cons_of_mem _ (List.mem_append_left _ (List.mem_append_left _ (List.mem_append_left _ (List.mem_append_right _ h))))
  have inX7_ : ∀ w ∈ wsX70, w ∈ wsX10_stays := fun _ h => List.mem_cons_of_mem _ (List.mem_append_left _ (List.mem_append_left _ (List.mem_append_right _ h)))
  have hbN : b_ ≤ N := by have h1 := hV.1.1; have h2 := hV.2.2; omega
  have kn0 := sOk_N hok
  have hkn2 := hkn
  obtain ⟨c0, F0_, H0_, h54, h55, h56⟩ := hkn2
  refine lv_aload_n hx_ hb_ dX10_stays_0 rfl (lv_at hl 0 rfl) ?_
  refine lv_iload_n hx_ hb_ dX10_stays_1 rfl (lv_at hl 1 rfl) ?_
  refine xk_Vv E hF_ hxt_ hQ hV (As := [.int (sI s)]) (rest := []) (kX10_needStone l_ G b_ M N c kn ch f s hc0 hst (by omega) (by omega) (by omega)) (cwV 1 S.2.2.2.2 gX10_stays_X10_needStone rfl rfl rfl (by decide +kernel) ⟨Nat.le_of_ble_eq_true rfl, Nat.le_of_ble_eq_true rfl⟩) (ci := 8) hc0 rfl rfl rfl hl.1 (Nat.le_of_ble_eq_true rfl) dX10_stays_2 (c1 := 1) (s1 := 6) ⟨⟨rfl, rfl⟩, by decide, by decide⟩ ⟨Nat.le_of_ble_eq_true rfl, Nat.le_of_ble_eq_true rfl⟩ ?_ (fun M1 N2 H locs hp3 hV => ?_)
  · rintro E9 M9 N9 ⟨hN5, hf6, hq7⟩
    rcases hq7 with ⟨c8, ee9⟩
    · have hc10 : knoC G M9 (c + 54) := hkn.fr (fun x q8 q9 => hf6 x )
      exact ⟨by omega, hc10, fun x q0 => hf6 x , Or.inl ⟨(by first | exact c8 | omega), ee9⟩⟩
  obtain ⟨hN11, hf12, hq13⟩ := hp3
  rw [hN11] at hV
  rcases hq13 with c14
  · refine lv_iload_n hx_ hb_ dX10_stays_5 rfl (lv_at hl 2 rfl) ?_
    refine si_const S dX10_stays_6 ?_
    refine lv_aload_n hx_ hb_ dX10_stays_7 rfl (lv_at hl 0 rfl) ?_
    have hc15 : M1 c = some (xO c kn ch) := (hf12 c ).trans hc0
    refine sc_get (ci := 8) (C := RX10) (T := TX10) (n := 11) S hK hV inX10_ hc15 rfl 0 (by decide) (S.2.2.2.2 _ (List.mem_of_getElem? (i := 1) rfl)) rfl rfl dX10_stays_8 ?_
    have hc16 : stC G M1 (c + 1) f := hst.fr (fun x q8 q9 => hf12 x )
    refine sc_getN (ci := 4) (C := RX6) (T := TX6) (n := 8) S hK hV inX6_ (hc16).1 rfl 7 (by decide) (E.2.2.2.2.2.1.1.2.1 _ (List.mem_of_getElem? (i := 14) rfl)) rfl rfl dX10_stays_11 ?_
    refine xk_Sv E hF_ hxt_ hQ hV (As := [.int (sI t), .int (sI 0), .int (sI (f 571))]) (rest := []) (kX10_needRange l_ G b_ M1 N t 0 (f 571) (by omega) (by omega)) (va_cwS 3 S.2.2.2.2 gX10_stays_X10_needRange rfl rfl rfl (by decide +kernel) ⟨Nat.le_of_ble_eq_true rfl, Nat.le_of_ble_eq_true rfl⟩) rfl rfl hl.1 (Nat.le_of_ble_eq_true rfl) dX10_stays_14 (c1 := 2) (s1 := 12) ⟨⟨rfl, rfl⟩, by decide, by decide⟩ ⟨Nat.le_of_ble_eq_true rfl, Nat.le_of_ble_eq_true rfl⟩ ?_ (fun M17 N18 H locs hp19 hV => ?_)
    · rintro E9 M9 N9 ⟨hN21, hf22, hq23⟩
      rcases hq23 with ⟨c24, ee25⟩
      · have hc26 : knoC G M9 (c + 54) := hkn.fr (fun x q8 q9 => (hf22 x ).trans (hf12 x ))
        exact ⟨by omega, hc26, fun x q0 => (hf22 x ).trans (hf12 x ), Or.inr (⟨(by first | exact c24 | omega), ee25⟩)⟩
    obtain ⟨hN27, hf28, hq29⟩ := hp19
    rw [hN27] at hV
    rcases hq29 with c30
    · refine lv_aload_n hx_ hb_ dX10_stays_17 rfl (lv_at hl 0 rfl) ?_
      have hc31 : M17 c = some (xO c kn ch) := (hf28 c ).trans hc15
      refine sc_get (ci := 8) (C := RX10) (T := TX10) (n := 11) S hK hV inX10_ hc31 rfl 9 (by decide) (S.2.2.2.2 _ (List.mem_of_getElem? (i := 2) rfl)) rfl rfl dX10_stays_18 ?_
      refine lv_aload_n hx_ hb_ dX10_stays_21 rfl (lv_at hl 0 rfl) ?_
      refine sc_get (ci := 8) (C := RX10) (T := TX10) (n := 11) S hK hV inX10_ hc31 rfl 0 (by decide) (S.2.2.2.2 _ (List.mem_of_getElem? (i := 1) rfl)) rfl rfl dX10_stays_22 ?_
      refine lv_iload_n hx_ hb_ dX10_stays_25 rfl (lv_at hl 1 rfl) ?_
      refine lv_iload_n hx_ hb_ dX10_stays_26 rfl (lv_at hl 2 rfl) ?_
      have hc32 : M17 (c + 54) = some (sObj 5 [.ref (c + 55), .ref (c + 56), .int (sI c0)]) := ((hf28 (c + 54) ).trans (hf12 (c + 54) )).trans h54
      have hc33 : M17 (c + 55) = some (sArr G 61 F0_) := ((hf28 (c + 55) ).trans (hf12 (c + 55) )).trans h55
      have hc34 : M17 (c + 56) = some (sArr G 61 H0_) := ((hf28 (c + 56) ).trans (hf12 (c + 56) )).trans h56
      have hc35 : stC G M17 (c + 1) f := hc16.fr (fun x q8 q9 => hf28 x )
      refine sk_Vv E hV (As := [.ref (c + 1), .int (sI s), .int (sI t)]) (rest := []) (kX7_lookAt l_ G b_ M17 N (c + 54) (c + 1) c0 F0_ H0_ f s t hc32 hc33 hc34 hc35 (by omega) (by omega) (by omega)) (cwV 3 S.2.2.2.2 gX10_stays_X7_lookAt rfl rfl rfl (by decide +kernel) ⟨Nat.le_of_ble_eq_true rfl, Nat.le_of_ble_eq_true rfl⟩) (ci := 5) hc32 rfl rfl rfl hl.1 (Nat.le_of_ble_eq_true rfl) dX10_stays_27 (c1 := 2) (s1 := 12) ⟨⟨rfl, rfl⟩, by decide, by decide⟩ (fun M36 N37 H locs hp38 hV => ?_)
      obtain ⟨c940, F941, H942, hN43, hc44, hc45, hc46, hf47, hsk948⟩ := hp38
      rw [hN43] at hV
      have hsk9 := hsk948
      have hseg := seg_eq hsk9.1
      have hskc := hsk9.2.1
      refine lv_aload_n hx_ hb_ dX10_stays_30 rfl (lv_at hl 0 rfl) ?_
      have hc49 : M36 c = some (xO c kn ch) := (hf47 c (by omega) (by omega) (by omega)).trans hc31
      refine sc_get (ci := 8) (C := RX10) (T := TX10) (n := 11) S hK hV inX10_ hc49 rfl 9 (by decide) (S.2.2.2.2 _ (List.mem_of_getElem? (i := 2) rfl)) rfl rfl dX10_stays_31 ?_
      refine sk_VP E hV (As := []) (rest := []) (kX7_size l_ G b_ M36 N (c + 54) c940 hc44) (cwV 0 S.2.2.2.2 gX10_stays_X7_size rfl rfl rfl (by decide +kernel) ⟨Nat.le_of_ble_eq_true rfl, Nat.le_of_ble_eq_true rfl⟩) (ci := 5) hc44 rfl rfl rfl hl.1 (Nat.le_of_ble_eq_true rfl) dX10_stays_34 (c1 := 2) (s1 := 12) ⟨⟨rfl, rfl⟩, by decide, by decide⟩ (fun H locs hV => ?_)
      exact xr_i E hQ dX10_stays_37 ⟨Nat.le_of_ble_eq_true rfl, Nat.le_of_ble_eq_true rfl⟩ hV (⟨rfl, ⟨_, _, _, hc44, hc45, hc46⟩, fun x q0 => ((hf47 x (by omega) (by omega) (by omega)).trans (hf28 x )).trans (hf12 x ), ⟨(by omega), hseg.1.symm⟩⟩)

