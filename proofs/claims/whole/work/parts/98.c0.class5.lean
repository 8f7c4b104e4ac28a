/-! The class: orders. -/
def orfC (G : sG) (M : sM) (o : Nat) : Prop := ∃ (L c : Int) (Fr So Ha Ah Be At Pa Rc Rs : sF), M o = some (sObj 3 [.ref (o + 1), .ref (o + 2), .ref (o + 3), .ref (o + 4), .ref (o + 5), .ref (o + 6), .ref (o + 7), .ref (o + 8), .ref (o + 9), .int (sI L), .int (sI c)]) ∧ M (o + 1) = some (sArr G 10 Fr) ∧ M (o + 2) = some (sArr G 10 So) ∧ M (o + 3) = some (sArr G 10 Ha) ∧ M (o + 4) = some (sArr G 1024 Ah) ∧ M (o + 5) = some (sArr G 1024 Be) ∧ M (o + 6) = some (sArr G 100 At) ∧ M (o + 7) = some (sArr G 100 Pa) ∧ M (o + 8) = some (sArr G 11 Rc) ∧ M (o + 9) = some (sArr G 10 Rs) ∧ odQ c L So Ha Ah At Pa Rs ∧ -1 ≤ c ∧ c ≤ 10
theorem orfC.fr {G : sG} {M M1 : sM} {o : Nat} (h : orfC G M o) (hf : ∀ x : Nat, o ≤ x → x < o + 10 → M1 x = M x) : orfC G M1 o := by
  obtain ⟨L, c, Fr, So, Ha, Ah, Be, At, Pa, Rc, Rs, h0, h1, h2, h3, h4, h5, h6, h7, h8, h9, hq⟩ := h
  exact ⟨L, c, Fr, So, Ha, Ah, Be, At, Pa, Rc, Rs, (hf o (by omega) (by omega)).trans h0, (hf (o + 1) (by omega) (by omega)).trans h1, (hf (o + 2) (by omega) (by omega)).trans h2, (hf (o + 3) (by omega) (by omega)).trans h3, (hf (o + 4) (by omega) (by omega)).trans h4, (hf (o + 5) (by omega) (by omega)).trans h5, (hf (o + 6) (by omega) (by omega)).trans h6, (hf (o + 7) (by omega) (by omega)).trans h7, (hf (o + 8) (by omega) (by omega)).trans h8, (hf (o + 9) (by omega) (by omega)).trans h9, hq⟩
theorem rk_z {f : sF} (hn : 0 ≤ f 568 ∧ f 568 ≤ 10) {a r : Int} (ha : 0 ≤ a ∧ a < f 568) (hr : f 568 ≤ r) : rkI f a r = 0 := by
  have hp9 := p2_10 (n := f 568) hn.2
  unfold rkI
  refine isum_z fun u b c => ?_
  show pif (pcI u = r) (edF f u a) 0 = 0
  by_cases q : nxS f u a
  · have h5 := nx_lt (n := f 568) ⟨b, c⟩ ha (by omega) q.1
    have h6 := p2_p a
    have h7 := (pc_le (n := f 568) (u := u + p2 a) (by omega) (by omega)).2
    rw [pc_add (by omega) (by omega) q.1] at h7
    exact pif_f (by omega)
  · rw [edF_f q]
    rcases pif_cases (pcI u = r) 0 0 with ⟨-, e⟩ | ⟨-, e⟩ <;> exact e
theorem rn_x {g : Prop} {K : Int → Int} {n : Int} (h0 : 0 ≤ n) (hz : ∀ r, n ≤ r → K r = 0) : ∀ k : Nat, rnI g K (n + k) = rnI g K n := by
  intro k
  induction k with
  | zero => rw [show n + ((0 : Nat) : Int) = n by omega]
  | succ k ih =>
    rw [show n + ((k + 1 : Nat) : Int) = n + (k : Int) + 1 by omega, rnI_s _ _ _ (by omega), pif_f (fun q => by have := q.2; rw [hz _ (by omega)] at this; omega)]
    exact ih
theorem nt_no {f : sF} (h : f 568 < 2) : ntM f = -1 ∧ ntT f = -1 := nt_eq (a := f 568) (b := 0) (by omega) (Or.inl ⟨rfl, rfl, fun x y q => by unfold ntQ at q; omega⟩)
theorem nt_x {f : sF} {B : Prop} (h : ¬ totI f = 0) : pif B (ntM f) (ntT f) = pif (totI f = 0 ∨ f 568 < 2) (-1) (pif B (ntM f) (ntT f)) := by
  by_cases e : f 568 < 2
  · rw [pif_t (Or.inr e), (nt_no e).1, (nt_no e).2]
    rcases pif_cases B (-1) (-1) with ⟨-, q⟩ | ⟨-, q⟩ <;> exact q
  · exact (pif_f (fun q => by rcases q with q | q <;> omega)).symm

abbrev rmX10_ring : Room := { frames := 5, cells := 8, slots := 50, locals := 135 }
set_option maxHeartbeats 4000000 in
set_option maxRecDepth 100000 in
theorem kX10_ring (l_ : Launch) (G : sG) (b_ : Nat) (M : sM) (N : Nat) (c : Nat) (kn ch : Int) (f : sF) (hc0 : M c = some (xO c kn ch)) (hst : stC G M (c + 1) f) (hft : orfC G M (c + 38)) (hok : sOk f) : cI l_ yX10_ring wsX10_ring rmX10_ring G b_ M N [.ref c] (fun z_ M1 N1 => z_ = rgL f ∧ N1 = N ∧ orfC G M1 (c + 38) ∧ (∀ x : Nat, ¬ (c + 38 ≤ x ∧ x < c + 38 + 10) → M1 x = M x)) := by
  refine sE.ofI (cc := cX10_ring) (nL := 1) (ret := (some .int)) (by decide) rfl (Nat.le_of_ble_eq_true rfl) ?_
  intro p_ e_ s_ m_ args_ below_ meth_ c_ ls Q hQ E hl
  have E : sE p_ l_ e_ rmX10_ring s_ m_ args_ below_ meth_ c_ cX10_ring 1 wsX10_ring RX10 "ring" (some .int) G b_ M N := E
  have S := E.1
  have hx_ := S.1
  have hb_ := S.2.1
  have hK := E.2.2.2.2.1
  have hV := E.2.2.2.2.2.2
  have hl : lv_has ls 1 [(0, .ref c)] := hl
  have inX10_ : ∀ w ∈ wsX100, w ∈ wsX10_ring := fun _ h => List.mem_cons_of_mem _ (List.mem_append_left _ (List.mem_append_left _ (List.mem_append_left _ (List.mem_append_right _ h))))
  have inX6_ : ∀ w ∈ wsX60, w ∈ wsX10_ring := fun _ h => List.mem_cons_of_mem _ (List.mem_append_left _ (List.mem_append_left _ (List.mem_append_right _ h)))
  have inX5_ : ∀ w ∈ wsX50, w ∈ wsX10_ring := fun _ h => List.mem_cons_of_mem _ (List.mem_append_left _ (List.mem_append_right _ h))
  have inX8_ : ∀ w ∈ wsX80, w ∈ wsX10_ring := fun _ h => List.mem_cons_of_mem _ (List.mem_append_right _ h)
  have hbN : b_ ≤ N := by have h1 := hV.1.1; have h2 := hV.2.2; omega
  have kn0 := sOk_N hok
  have hft2 := hft
  obtain ⟨L0, c0, Fr, So, Ha, Ah, Be, At, Pa, Rc, Rs, h38, h39, h40, h41, h42, h43, h44, h45, h46, h47, hq0, hcr⟩ := hft2
  refine lv_aload_n hx_ hb_ dX10_ring_0 rfl (lv_at hl 0 rfl) ?_
  refine sc_get (ci := 8) (C := RX10) (T := TX10) (n := 11) S hK hV inX10_ hc0 rfl 7 (by decide) (S.2.2.2.2 _ (List.mem_of_getElem? (i := 1) rfl)) rfl rfl dX10_ring_1 ?_
  refine lv_aload_n hx_ hb_ dX10_ring_4 rfl (lv_at hl 0 rfl) ?_
  refine sc_get (ci := 8) (C := RX10) (T := TX10) (n := 11) S hK hV inX10_ hc0 rfl 0 (by decide) (S.2.2.2.2 _ (List.mem_of_getElem? (i := 2) rfl)) rfl rfl dX10_ring_5 ?_
  refine sk_Vv E hV (As := [.ref (c + 1)]) (rest := []) (kX5_lookAt l_ G b_ M N (c + 38) (c + 1) L0 c0 Fr So Ha Ah Be At Pa Rc Rs f h38 h39 h40 h41 h42 h43 h44 h45 h46 h47 hst (by omega) (by omega) (hq0) (hcr)) (cwV 1 S.2.2.2.2 gX10_ring_X5_lookAt rfl rfl rfl (by decide +kernel) ⟨Nat.le_of_ble_eq_true rfl, Nat.le_of_ble_eq_true rfl⟩) (ci := 3) h38 rfl rfl rfl hl.1 (Nat.le_of_ble_eq_true rfl) dX10_ring_8 (c1 := 0) (s1 := 0) ⟨⟨rfl, rfl⟩, by decide, by decide⟩ (fun M1 N2 H locs hp3 hV => ?_)
  obtain ⟨L95, F96, S97, H98, W99, B910, A911, P912, R913, G914, hN15, hc16, hc17, hc18, hc19, hc20, hc21, hc22, hc23, hc24, hc25, hf26, hd927⟩ := hp3
  rw [hN15] at hV
  have hod := hd927
  have hod2 := hod
  obtain ⟨od1, od2, od3, od4, od5, od6, od7⟩ := hod2
  have hrg := rg_eq (fi_rg hok od7)
  have hrl := hrg.1
  have hfr := fi_r (by omega) od7
  refine lv_aload_n hx_ hb_ dX10_ring_11 rfl (lv_at hl 0 rfl) ?_
  have hc28 : M1 c = some (xO c kn ch) := (hf26 c (by omega) (by omega) (by omega) (by omega) (by omega) (by omega) (by omega) (by omega) (by omega) (by omega)).trans hc0
  refine sc_get (ci := 8) (C := RX10) (T := TX10) (n := 11) S hK hV inX10_ hc28 rfl 7 (by decide) (S.2.2.2.2 _ (List.mem_of_getElem? (i := 1) rfl)) rfl rfl dX10_ring_12 ?_
  refine sk_VP E hV (As := []) (rest := []) (kX5_ringSize l_ G b_ M1 N (c + 38) L95 (f 568) hc16) (cwV 0 S.2.2.2.2 gX10_ring_X5_ringSize rfl rfl rfl (by decide +kernel) ⟨Nat.le_of_ble_eq_true rfl, Nat.le_of_ble_eq_true rfl⟩) (ci := 3) hc16 rfl rfl rfl hl.1 (Nat.le_of_ble_eq_true rfl) dX10_ring_15 (c1 := 0) (s1 := 0) ⟨⟨rfl, rfl⟩, by decide, by decide⟩ (fun H locs hV => ?_)
  exact sr_i E hQ dX10_ring_18 ⟨Nat.le_of_ble_eq_true rfl, Nat.le_of_ble_eq_true rfl⟩ hV (⟨hrg.1.symm, rfl, ⟨_, _, _, _, _, _, _, _, _, _, _, hc16, hc17, hc18, hc19, hc20, hc21, hc22, hc23, hc24, hc25, od_q hod, by omega, by omega⟩, fun x q0 => hf26 x (by omega) (by omega) (by omega) (by omega) (by omega) (by omega) (by omega) (by omega) (by omega) (by omega)⟩)

abbrev rmX10_ringAt : Room := { frames := 6, cells := 8, slots := 50, locals := 135 }
set_option maxHeartbeats 4000000 in
set_option maxRecDepth 100000 in
theorem kX10_ringAt (l_ : Launch) (G : sG) (b_ : Nat) (M : sM) (N : Nat) (c : Nat) (kn ch : Int) (f : sF) (p : Int) (hc0 : M c = some (xO c kn ch)) (hst : stC G M (c + 1) f) (hft : orfC G M (c + 38)) (hlt : l_.stackTraces = false) (hok : sOk f) (hr : sR p) : xcI l_ yX10_ringAt wsX10_ringAt rmX10_ringAt G b_ M N [.ref c, .int (sI p)] (fun z_ M1 N1 => N1 = N ∧ orfC G M1 (c + 38) ∧ (∀ x : Nat, ¬ (c + 38 ≤ x ∧ x < c + 38 + 10) → M1 x = M x) ∧ (((0 ≤ p ∧ p < rgL f) ∧ z_ = rgS f p))) (fun E_ M1 N1 => N ≤ N1 ∧ orfC G M1 (c + 38) ∧ (∀ x : Nat, ¬ (c + 38 ≤ x ∧ x < c + 38 + 10) → M1 x = M x) ∧ (((¬ (0 ≤ p ∧ p < rgL f)) ∧ E_ = "java/lang/IndexOutOfBoundsException"))) := by
  refine xcE.ofI (cc := cX10_ringAt) (nL := 2) (ret := (some .int)) (by decide) rfl (Nat.le_of_ble_eq_true rfl) ?_
  intro p_ e_ s_ m_ args_ below_ meth_ c_ ls Q hQ E hF_ hxt_ hl
  have E : sE p_ l_ e_ rmX10_ringAt s_ m_ args_ below_ meth_ c_ cX10_ringAt 2 wsX10_ringAt RX10 "ringAt" (some .int) G b_ M N := E
  have S := E.1
  have hx_ := S.1
  have hb_ := S.2.1
  have hK := E.2.2.2.2.1
  have hV := E.2.2.2.2.2.2
  have hl : lv_has ls 2 [(0, .ref c), (1, .int (sI p))] := hl
  have inX10_ : ∀ w ∈ wsX100, w ∈ wsX10_ringAt := fun _ h => List.mem_cons_of_mem _ (List.mem_append_left _ (List.mem_append_left _ (List.mem_append_left _ (List.mem_append_left _ (List.mem_append_right _ h)))))
  have inX6_ : ∀ w ∈ wsX60, w ∈ wsX10_ringAt := fun _ h => List.mem_cons_of_mem _ (List.mem_append_left _ (List.mem_append_left _ (List.mem_append_left _ (List.mem_append_right _ h))))
  have inX5_ : ∀ w ∈ wsX50, w ∈ wsX10_ringAt := fun _ h => List.mem_cons_of_mem _ (List.mem_append_left _ (List.mem_append_left _ (List.mem_append_right _ h)))
  have inX8_ : ∀ w ∈ wsX80, w ∈ wsX10_ringAt := fun _ h => List.mem_cons_of_mem _ (List.mem_append_left _ (List.mem_append_right _ h))
  have hbN : b_ ≤ N := by have h1 := hV.1.1; have h2 := hV.2.2; omega
  have kn0 := sOk_N hok
  have hft2 := hft
  obtain ⟨L0, c0, Fr, So, Ha, Ah, Be, At, Pa, Rc, Rs, h38, h39, h40, h41, h42, h43, h44, h45, h46, h47, hq0, hcr⟩ := hft2
  refine lv_aload_n hx_ hb_ dX10_ringAt_0 rfl (lv_at hl 0 rfl) ?_
  refine sc_get (ci := 8) (C := RX10) (T := TX10) (n := 11) S hK hV inX10_ hc0 rfl 7 (by decide) (S.2.2.2.2 _ (List.mem_of_getElem? (i := 3) rfl)) rfl rfl dX10_ringAt_1 ?_
  refine lv_aload_n hx_ hb_ dX10_ringAt_4 rfl (lv_at hl 0 rfl) ?_
  refine sc_get (ci := 8) (C := RX10) (T := TX10) (n := 11) S hK hV inX10_ hc0 rfl 0 (by decide) (S.2.2.2.2 _ (List.mem_of_getElem? (i := 4) rfl)) rfl rfl dX10_ringAt_5 ?_
  refine sk_Vv E hV (As := [.ref (c + 1)]) (rest := []) (kX5_lookAt l_ G b_ M N (c + 38) (c + 1) L0 c0 Fr So Ha Ah Be At Pa Rc Rs f h38 h39 h40 h41 h42 h43 h44 h45 h46 h47 hst (by omega) (by omega) (hq0) (hcr)) (cwV 1 S.2.2.2.2 gX10_ringAt_X5_lookAt rfl rfl rfl (by decide +kernel) ⟨Nat.le_of_ble_eq_true rfl, Nat.le_of_ble_eq_true rfl⟩) (ci := 3) h38 rfl rfl rfl hl.1 (Nat.le_of_ble_eq_true rfl) dX10_ringAt_8 (c1 := 0) (s1 := 0) ⟨⟨rfl, rfl⟩, by decide, by decide⟩ (fun M1 N2 H locs hp3 hV => ?_)
  obtain ⟨L95, F96, S97, H98, W99, B910, A911, P912, R913, G914, hN15, hc16, hc17, hc18, hc19, hc20, hc21, hc22, hc23, hc24, hc25, hf26, hd927⟩ := hp3
  rw [hN15] at hV
  have hod := hd927
  have hod2 := hod
  obtain ⟨od1, od2, od3, od4, od5, od6, od7⟩ := hod2
  have hrg := rg_eq (fi_rg hok od7)
  have hrl := hrg.1
  have hfr := fi_r (by omega) od7
  refine lv_iload_n hx_ hb_ dX10_ringAt_11 rfl (lv_at hl 1 rfl) ?_
  refine sz_lt (tgt := 26) S dX10_ringAt_12 (by decide) (by omega) (fun c28 => ?_) (fun c28 => ?_)
  · exact xt_S (own := RX10) (rest := []) E hF_ hxt_ hQ hlt (ik := 173) (is := 188) (ic := 177) (cls := "java/lang/IndexOutOfBoundsException") (text := "no such place in a ring") (by decide +kernel) xg_IO (List.mem_of_getElem? (i := 1) rfl) (List.mem_of_getElem? (i := 2) rfl) (fun _ h => List.mem_cons_of_mem _ (List.mem_append_right _ h)) (List.mem_of_getElem? (i := 8) rfl) hl.1 dX10_ringAt_26 dX10_ringAt_29 dX10_ringAt_30 dX10_ringAt_32 dX10_ringAt_35 ⟨Nat.le_of_ble_eq_true rfl, Nat.le_of_ble_eq_true rfl, Nat.le_of_ble_eq_true rfl, Nat.le_of_ble_eq_true rfl⟩ ⟨Nat.le_of_ble_eq_true rfl, Nat.le_of_ble_eq_true rfl⟩ hV (fun N9 h9 => ⟨by omega, ⟨_, _, _, _, _, _, _, _, _, _, _, hc16, hc17, hc18, hc19, hc20, hc21, hc22, hc23, hc24, hc25, od_q hod, by omega, by omega⟩, fun x q0 => hf26 x (by omega) (by omega) (by omega) (by omega) (by omega) (by omega) (by omega) (by omega) (by omega) (by omega), ⟨(by first | omega | assumption), rfl⟩⟩)
  · refine lv_iload_n hx_ hb_ dX10_ringAt_15 rfl (lv_at hl 1 rfl) ?_
    refine lv_aload_n hx_ hb_ dX10_ringAt_16 rfl (lv_at hl 0 rfl) ?_
    have hc29 : M1 c = some (xO c kn ch) := (hf26 c (by omega) (by omega) (by omega) (by omega) (by omega) (by omega) (by omega) (by omega) (by omega) (by omega)).trans hc0
    refine sc_get (ci := 8) (C := RX10) (T := TX10) (n := 11) S hK hV inX10_ hc29 rfl 7 (by decide) (S.2.2.2.2 _ (List.mem_of_getElem? (i := 3) rfl)) rfl rfl dX10_ringAt_17 ?_
    refine sk_VP E hV (As := []) (rest := [.int (sI p)]) (kX5_ringSize l_ G b_ M1 N (c + 38) L95 (f 568) hc16) (cwV 0 S.2.2.2.2 gX10_ringAt_X5_ringSize rfl rfl rfl (by decide +kernel) ⟨Nat.le_of_ble_eq_true rfl, Nat.le_of_ble_eq_true rfl⟩) (ci := 3) hc16 rfl rfl rfl hl.1 (Nat.le_of_ble_eq_true rfl) dX10_ringAt_20 (c1 := 0) (s1 := 0) ⟨⟨rfl, rfl⟩, by decide, by decide⟩ (fun H locs hV => ?_)
    refine sb_lt (tgt := 36) S dX10_ringAt_23 (by decide) (by omega) (fun c30 => ?_) (fun c30 => ?_)
    · refine lv_aload_n hx_ hb_ dX10_ringAt_36 rfl (lv_at hl 0 rfl) ?_
      refine sc_get (ci := 8) (C := RX10) (T := TX10) (n := 11) S hK hV inX10_ hc29 rfl 7 (by decide) (S.2.2.2.2 _ (List.mem_of_getElem? (i := 3) rfl)) rfl rfl dX10_ringAt_37 ?_
      refine lv_iload_n hx_ hb_ dX10_ringAt_40 rfl (lv_at hl 1 rfl) ?_
      refine sk_VP E hV (As := [.int (sI p)]) (rest := []) (kX5_ringStone l_ G b_ M1 N (c + 38) L95 (f 568) G914 p hc16 hc25 (by omega)) (cwV 1 S.2.2.2.2 gX10_ringAt_X5_ringStone rfl rfl rfl (by decide +kernel) ⟨Nat.le_of_ble_eq_true rfl, Nat.le_of_ble_eq_true rfl⟩) (ci := 3) hc16 rfl rfl rfl hl.1 (Nat.le_of_ble_eq_true rfl) dX10_ringAt_41 (c1 := 0) (s1 := 0) ⟨⟨rfl, rfl⟩, by decide, by decide⟩ (fun H locs hV => ?_)
      exact xr_i E hQ dX10_ringAt_44 ⟨Nat.le_of_ble_eq_true rfl, Nat.le_of_ble_eq_true rfl⟩ hV (⟨rfl, ⟨_, _, _, _, _, _, _, _, _, _, _, hc16, hc17, hc18, hc19, hc20, hc21, hc22, hc23, hc24, hc25, od_q hod, by omega, by omega⟩, fun x q0 => hf26 x (by omega) (by omega) (by omega) (by omega) (by omega) (by omega) (by omega) (by omega) (by omega) (by omega), ⟨(by omega), (hrg.2.1 p (by omega) (by omega)).symm⟩⟩)
    · exact xt_S (own := RX10) (rest := []) E hF_ hxt_ hQ hlt (ik := 173) (is := 188) (ic := 177) (cls := "java/lang/IndexOutOfBoundsException") (text := "no such place in a ring") (by decide +kernel) xg_IO (List.mem_of_getElem? (i := 1) rfl) (List.mem_of_getElem? (i := 2) rfl) (fun _ h => List.mem_cons_of_mem _ (List.mem_append_right _ h)) (List.mem_of_getElem? (i := 8) rfl) hl.1 dX10_ringAt_26 dX10_ringAt_29 dX10_ringAt_30 dX10_ringAt_32 dX10_ringAt_35 ⟨Nat.le_of_ble_eq_true rfl, Nat.le_of_ble_eq_true rfl, Nat.le_of_ble_eq_true rfl, Nat.le_of_ble_eq_true rfl⟩ ⟨Nat.le_of_ble_eq_true rfl, Nat.le_of_ble_eq_true rfl⟩ hV (fun N9 h9 => ⟨by omega, ⟨_, _, _, _, _, _, _, _, _, _, _, hc16, hc17, hc18, hc19, hc20, hc21, hc22, hc23, hc24, hc25, od_q hod, by omega, by omega⟩, fun x q0 => hf26 x (by omega) (by omega) (by omega) (by omega) (by omega) (by omega) (by omega) (by omega) (by omega) (by omega), ⟨(by first | omega | assumption), rfl⟩⟩)

abbrev rmX10_orders : Room := { frames := 5, cells := 8, slots := 50, locals := 135 }
set_option maxHeartbeats 4000000 in
set_option maxRecDepth 100000 in
theorem kX10_orders (l_ : Launch) (G : sG) (b_ : Nat) (M : sM) (N : Nat) (c : Nat) (kn ch : Int) (f : sF) (hc0 : M c = some (xO c kn ch)) (hst : stC G M (c + 1) f) (hft : orfC G M (c + 38)) (hok : sOk f) : cI l_ yX10_orders wsX10_orders rmX10_orders G b_ M N [.ref c] (fun z_ M1 N1 => z_ = totI f ∧ N1 = N ∧ orfC G M1 (c + 38) ∧ (∀ x : Nat, ¬ (c + 38 ≤ x ∧ x < c + 38 + 10) → M1 x = M x)) := by
  refine sE.ofI (cc := cX10_orders) (nL := 1) (ret := (some .int)) (by decide) rfl (Nat.le_of_ble_eq_true rfl) ?_
  intro p_ e_ s_ m_ args_ below_ meth_ c_ ls Q hQ E hl
  have E : sE p_ l_ e_ rmX10_orders s_ m_ args_ below_ meth_ c_ cX10_orders 1 wsX10_orders RX10 "orders" (some .int) G b_ M N := E
  have S := E.1
  have hx_ := S.1
  have hb_ := S.2.1
  have hK := E.2.2.2.2.1
  have hV := E.2.2.2.2.2.2
  have hl : lv_has ls 1 [(0, .ref c)] := hl
  have inX10_ : ∀ w ∈ wsX100, w ∈ wsX10_orders := fun _ h => List.mem_cons_of_mem _ (List.mem_append_left _ (List.mem_append_left _ (List.mem_append_left _ (List.mem_append_right _ h))))
  have inX6_ : ∀ w ∈ wsX60, w ∈ wsX10_orders := fun _ h => List.mem_cons_of_mem _ (List.mem_append_left _ (List.mem_append_left _ (List.mem_append_right _ h)))
  have inX5_ : ∀ w ∈ wsX50, w ∈ wsX10_orders := fun _ h => List.mem_cons_of_mem _ (List.mem_append_left _ (List.mem_append_right _ h))
  have inX8_ : ∀ w ∈ wsX80, w ∈ wsX10_orders := fun _ h => List.mem_cons_of_mem _ (List.mem_append_right _ h)
  have hbN : b_ ≤ N := by have h1 := hV.1.1; have h2 := hV.2.2; omega
  have kn0 := sOk_N hok
  have hft2 := hft
  obtain ⟨L0, c0, Fr, So, Ha, Ah, Be, At, Pa, Rc, Rs, h38, h39, h40, h41, h42, h43, h44, h45, h46, h47, hq0, hcr⟩ := hft2
  refine lv_aload_n hx_ hb_ dX10_orders_0 rfl (lv_at hl 0 rfl) ?_
  refine sc_get (ci := 8) (C := RX10) (T := TX10) (n := 11) S hK hV inX10_ hc0 rfl 7 (by decide) (S.2.2.2.2 _ (List.mem_of_getElem? (i := 1) rfl)) rfl rfl dX10_orders_1 ?_
  refine lv_aload_n hx_ hb_ dX10_orders_4 rfl (lv_at hl 0 rfl) ?_
  refine sc_get (ci := 8) (C := RX10) (T := TX10) (n := 11) S hK hV inX10_ hc0 rfl 0 (by decide) (S.2.2.2.2 _ (List.mem_of_getElem? (i := 2) rfl)) rfl rfl dX10_orders_5 ?_
  refine sk_Vv E hV (As := [.ref (c + 1)]) (rest := []) (kX5_lookAt l_ G b_ M N (c + 38) (c + 1) L0 c0 Fr So Ha Ah Be At Pa Rc Rs f h38 h39 h40 h41 h42 h43 h44 h45 h46 h47 hst (by omega) (by omega) (hq0) (hcr)) (cwV 1 S.2.2.2.2 gX10_orders_X5_lookAt rfl rfl rfl (by decide +kernel) ⟨Nat.le_of_ble_eq_true rfl, Nat.le_of_ble_eq_true rfl⟩) (ci := 3) h38 rfl rfl rfl hl.1 (Nat.le_of_ble_eq_true rfl) dX10_orders_8 (c1 := 0) (s1 := 0) ⟨⟨rfl, rfl⟩, by decide, by decide⟩ (fun M1 N2 H locs hp3 hV => ?_)
  obtain ⟨L95, F96, S97, H98, W99, B910, A911, P912, R913, G914, hN15, hc16, hc17, hc18, hc19, hc20, hc21, hc22, hc23, hc24, hc25, hf26, hd927⟩ := hp3
  rw [hN15] at hV
  have hod := hd927
  have hod2 := hod
  obtain ⟨od1, od2, od3, od4, od5, od6, od7⟩ := hod2
  have hrg := rg_eq (fi_rg hok od7)
  have hrl := hrg.1
  have hfr := fi_r (by omega) od7
  refine lv_aload_n hx_ hb_ dX10_orders_11 rfl (lv_at hl 0 rfl) ?_
  have hc28 : M1 c = some (xO c kn ch) := (hf26 c (by omega) (by omega) (by omega) (by omega) (by omega) (by omega) (by omega) (by omega) (by omega) (by omega)).trans hc0
  refine sc_get (ci := 8) (C := RX10) (T := TX10) (n := 11) S hK hV inX10_ hc28 rfl 7 (by decide) (S.2.2.2.2 _ (List.mem_of_getElem? (i := 1) rfl)) rfl rfl dX10_orders_12 ?_
  refine sk_VP E hV (As := []) (rest := []) (kX5_total l_ G b_ M1 N (c + 38) L95 W99 f hc16 hc20 (by omega) (od4)) (cwV 0 S.2.2.2.2 gX10_orders_X5_total rfl rfl rfl (by decide +kernel) ⟨Nat.le_of_ble_eq_true rfl, Nat.le_of_ble_eq_true rfl⟩) (ci := 3) hc16 rfl rfl rfl hl.1 (Nat.le_of_ble_eq_true rfl) dX10_orders_15 (c1 := 0) (s1 := 0) ⟨⟨rfl, rfl⟩, by decide, by decide⟩ (fun H locs hV => ?_)
  exact sr_i E hQ dX10_orders_18 ⟨Nat.le_of_ble_eq_true rfl, Nat.le_of_ble_eq_true rfl⟩ hV (⟨rfl, rfl, ⟨_, _, _, _, _, _, _, _, _, _, _, hc16, hc17, hc18, hc19, hc20, hc21, hc22, hc23, hc24, hc25, od_q hod, by omega, by omega⟩, fun x q0 => hf26 x (by omega) (by omega) (by omega) (by omega) (by omega) (by omega) (by omega) (by omega) (by omega) (by omega)⟩)

