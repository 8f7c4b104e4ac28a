/-! The class: exchange, what is written, the checksum. -/
def excC (G : sG) (M : sM) (e : Nat) : Prop := ∃ (c pl : Int) (C gv : sF), M e = some (sObj 1 [.ref (e + 1), .ref (e + 2), .int (sI c), .int (sI pl)]) ∧ M (e + 1) = some (sArr G 256 C) ∧ M (e + 2) = some (sArr G 8 gv)
theorem excC.fr {G : sG} {M M1 : sM} {e : Nat} (h : excC G M e) (hf : ∀ x : Nat, e ≤ x → x < e + 3 → M1 x = M x) : excC G M1 e := by
  obtain ⟨c, pl, C, gv, h0, h1, h2⟩ := h
  exact ⟨c, pl, C, gv, (hf e (by omega) (by omega)).trans h0, (hf (e + 1) (by omega) (by omega)).trans h1, (hf (e + 2) (by omega) (by omega)).trans h2⟩
/-- the catalogue: wc signs are written, T -/
def catC (G : sG) (M : sM) (q : Nat) (wc : Int) (T : sF) : Prop := ∃ (tk ts te tv ne : Int) (et : Int → Int → Int), M q = some (sObj 0 [.ref (q + 1), .ref (q + 3), .int (sI wc), .int (sI tk), .int (sI ts), .int (sI te), .int (sI tv)]) ∧ stK G M (q + 1) 5 ne 165 et ∧ M (q + 3) = some (sArC G 180 T)
theorem catC.fr {G : sG} {M M1 : sM} {q : Nat} {wc : Int} {T : sF} (h : catC G M q wc T) (hf : ∀ x : Nat, q ≤ x → x < q + 4 → M1 x = M x) : catC G M1 q wc T := by
  obtain ⟨tk, ts, te, tv, ne, et, h0, h1, h2⟩ := h
  exact ⟨tk, ts, te, tv, ne, et, (hf q (by omega) (by omega)).trans h0, h1.fr (fun x a b => hf x (by omega) (by omega)), (hf (q + 3) (by omega) (by omega)).trans h2⟩

abbrev rmX10_plan : Room := { frames := 5, cells := 8, slots := 50, locals := 135 }
set_option maxHeartbeats 4000000 in
set_option maxRecDepth 100000 in
theorem kX10_plan (l_ : Launch) (G : sG) (b_ : Nat) (M : sM) (N : Nat) (c : Nat) (kn ch : Int) (f : sF) (hc0 : M c = some (xO c kn ch)) (hst : stC G M (c + 1) f) (hex : excC G M (c + 57)) (hok : sOk f) : cI l_ yX10_plan wsX10_plan rmX10_plan G b_ M N [.ref c] (fun z_ M1 N1 => z_ = plnM f ∧ N1 = N ∧ excC G M1 (c + 57) ∧ (∀ x : Nat, ¬ (c + 57 ≤ x ∧ x < c + 57 + 3) → M1 x = M x)) := by
  refine sE.ofI (cc := cX10_plan) (nL := 1) (ret := (some .int)) (by decide) rfl (Nat.le_of_ble_eq_true rfl) ?_
  intro p_ e_ s_ m_ args_ below_ meth_ c_ ls Q hQ E hl
  have E : sE p_ l_ e_ rmX10_plan s_ m_ args_ below_ meth_ c_ cX10_plan 1 wsX10_plan RX10 "plan" (some .int) G b_ M N := E
  have S := E.1
  have hx_ := S.1
  have hb_ := S.2.1
  have hK := E.2.2.2.2.1
  have hV := E.2.2.2.2.2.2
  have hl : lv_has ls 1 [(0, .ref c)] := hl
  have inX10_ : ∀ w ∈ wsX100, w ∈ wsX10_plan := fun _ h => List.mem_cons_of_mem _ (List.mem_append_left _ (List.mem_append_left _ (List.mem_append_left _ (List.mem_append_right _ h))))
  have inX6_ : ∀ w ∈ wsX60, w ∈ wsX10_plan := fun _ h => List.mem_cons_of_mem _ (List.mem_append_left _ (List.mem_append_left _ (List.mem_append_right _ h)))
  have inX2_ : ∀ w ∈ wsX20, w ∈ wsX10_plan := fun _ h => List.mem_cons_of_mem _ (List.mem_append_left _ (List.mem_append_right _ h))
  have inX8_ : ∀ w ∈ wsX80, w ∈ wsX10_plan := fun _ h => List.mem_cons_of_mem _ (List.mem_append_right _ h)
  have hbN : b_ ≤ N := by have h1 := hV.1.1; have h2 := hV.2.2; omega
  have kn0 := sOk_N hok
  have hex2 := hex
  obtain ⟨c0, pl0, C0, gv0, h57, h58, h59⟩ := hex2
  refine lv_aload_n hx_ hb_ dX10_plan_0 rfl (lv_at hl 0 rfl) ?_
  refine sc_get (ci := 8) (C := RX10) (T := TX10) (n := 11) S hK hV inX10_ hc0 rfl 10 (by decide) (S.2.2.2.2 _ (List.mem_of_getElem? (i := 1) rfl)) rfl rfl dX10_plan_1 ?_
  refine lv_aload_n hx_ hb_ dX10_plan_4 rfl (lv_at hl 0 rfl) ?_
  refine sc_get (ci := 8) (C := RX10) (T := TX10) (n := 11) S hK hV inX10_ hc0 rfl 0 (by decide) (S.2.2.2.2 _ (List.mem_of_getElem? (i := 2) rfl)) rfl rfl dX10_plan_5 ?_
  refine sc_getN (ci := 4) (C := RX6) (T := TX6) (n := 8) S hK hV inX6_ (hst).1 rfl 6 (by decide) (E.2.2.2.2.2.1.1.2.1 _ (List.mem_of_getElem? (i := 13) rfl)) rfl rfl dX10_plan_8 ?_
  refine sk_Vv E hV (As := [.ref (c + 14)]) (rest := []) (kX2_lookAt l_ G b_ M N (c + 57) (c + 14) pl0 c0 C0 gv0 f h57 h58 h59 ((hst).2.2.2.2.2.2.2) (by omega) (by omega)) (cwV 1 S.2.2.2.2 gX10_plan_X2_lookAt rfl rfl rfl (by decide +kernel) ⟨Nat.le_of_ble_eq_true rfl, Nat.le_of_ble_eq_true rfl⟩) (ci := 1) h57 rfl rfl rfl hl.1 (Nat.le_of_ble_eq_true rfl) dX10_plan_11 (c1 := 0) (s1 := 0) ⟨⟨rfl, rfl⟩, by decide, by decide⟩ (fun M1 N2 H locs hp3 hV => ?_)
  obtain ⟨C95, g96, hN7, hc8, hc9, hc10, hf11, hg912, hop13⟩ := hp3
  rw [hN7] at hV
  have hgv := hg912
  have hop := hop13
  refine lv_aload_n hx_ hb_ dX10_plan_14 rfl (lv_at hl 0 rfl) ?_
  have hc14 : M1 c = some (xO c kn ch) := (hf11 c (by omega) (by omega) (by omega)).trans hc0
  refine sc_get (ci := 8) (C := RX10) (T := TX10) (n := 11) S hK hV inX10_ hc14 rfl 10 (by decide) (S.2.2.2.2 _ (List.mem_of_getElem? (i := 1) rfl)) rfl rfl dX10_plan_15 ?_
  refine sk_VP E hV (As := []) (rest := []) (kX2_inPlan l_ G b_ M1 N (c + 57) (f 573) (plnM f) hc8) (cwV 0 S.2.2.2.2 gX10_plan_X2_inPlan rfl rfl rfl (by decide +kernel) ⟨Nat.le_of_ble_eq_true rfl, Nat.le_of_ble_eq_true rfl⟩) (ci := 1) hc8 rfl rfl rfl hl.1 (Nat.le_of_ble_eq_true rfl) dX10_plan_18 (c1 := 0) (s1 := 0) ⟨⟨rfl, rfl⟩, by decide, by decide⟩ (fun H locs hV => ?_)
  exact sr_i E hQ dX10_plan_21 ⟨Nat.le_of_ble_eq_true rfl, Nat.le_of_ble_eq_true rfl⟩ hV (⟨rfl, rfl, ⟨_, _, _, _, hc8, hc9, hc10⟩, fun x q0 => hf11 x (by omega) (by omega) (by omega)⟩)

abbrev rmX10_getsFrom : Room := { frames := 6, cells := 8, slots := 50, locals := 135 }
set_option maxHeartbeats 4000000 in
set_option maxRecDepth 100000 in
theorem kX10_getsFrom (l_ : Launch) (G : sG) (b_ : Nat) (M : sM) (N : Nat) (c : Nat) (kn ch : Int) (f : sF) (o : Int) (hc0 : M c = some (xO c kn ch)) (hst : stC G M (c + 1) f) (hex : excC G M (c + 57)) (hlt : l_.stackTraces = false) (hok : sOk f) (hr : sR o) : xcI l_ yX10_getsFrom wsX10_getsFrom rmX10_getsFrom G b_ M N [.ref c, .int (sI o)] (fun z_ M1 N1 => N1 = N ∧ excC G M1 (c + 57) ∧ (∀ x : Nat, ¬ (c + 57 ≤ x ∧ x < c + 57 + 3) → M1 x = M x) ∧ (((0 ≤ o ∧ o < f 573) ∧ z_ = (if plnB f o = 8 then -1 else plnB f o)))) (fun E_ M1 N1 => N ≤ N1 ∧ excC G M1 (c + 57) ∧ (∀ x : Nat, ¬ (c + 57 ≤ x ∧ x < c + 57 + 3) → M1 x = M x) ∧ (((¬ (0 ≤ o ∧ o < f 573)) ∧ E_ = "java/lang/IndexOutOfBoundsException"))) := by
  refine xcE.ofI (cc := cX10_getsFrom) (nL := 2) (ret := (some .int)) (by decide) rfl (Nat.le_of_ble_eq_true rfl) ?_
  intro p_ e_ s_ m_ args_ below_ meth_ c_ ls Q hQ E hF_ hxt_ hl
  have E : sE p_ l_ e_ rmX10_getsFrom s_ m_ args_ below_ meth_ c_ cX10_getsFrom 2 wsX10_getsFrom RX10 "getsFrom" (some .int) G b_ M N := E
  have S := E.1
  have hx_ := S.1
  have hb_ := S.2.1
  have hK := E.2.2.2.2.1
  have hV := E.2.2.2.2.2.2
  have hl : lv_has ls 2 [(0, .ref c), (1, .int (sI o))] := hl
  have inX10_ : ∀ w ∈ wsX100, w ∈ wsX10_getsFrom := fun _ h => List.mem_cons_of_mem _ (List.mem_append_left _ (List.mem_append_left _ (List.mem_append_left _ (List.mem_append_left _ (List.mem_append_right _ h)))))
  have inX6_ : ∀ w ∈ wsX60, w ∈ wsX10_getsFrom := fun _ h => List.mem_cons_of_mem _ (List.mem_append_left _ (List.mem_append_left _ (List.mem_append_left _ (List.mem_append_right _ h))))
  have inX8_ : ∀ w ∈ wsX80, w ∈ wsX10_getsFrom := fun _ h => List.mem_cons_of_mem _ (List.mem_append_left _ (List.mem_append_left _ (List.mem_append_right _ h)))
  have inX2_ : ∀ w ∈ wsX20, w ∈ wsX10_getsFrom := fun _ h => List.mem_cons_of_mem _ (List.mem_append_left _ (List.mem_append_right _ h))
  have hbN : b_ ≤ N := by have h1 := hV.1.1; have h2 := hV.2.2; omega
  have kn0 := sOk_N hok
  have hex2 := hex
  obtain ⟨c0, pl0, C0, gv0, h57, h58, h59⟩ := hex2
  refine lv_aload_n hx_ hb_ dX10_getsFrom_0 rfl (lv_at hl 0 rfl) ?_
  refine sc_get (ci := 8) (C := RX10) (T := TX10) (n := 11) S hK hV inX10_ hc0 rfl 0 (by decide) (S.2.2.2.2 _ (List.mem_of_getElem? (i := 3) rfl)) rfl rfl dX10_getsFrom_1 ?_
  refine sc_getN (ci := 4) (C := RX6) (T := TX6) (n := 8) S hK hV inX6_ (hst).1 rfl 6 (by decide) (E.2.2.2.2.2.1.1.2.1 _ (List.mem_of_getElem? (i := 13) rfl)) rfl rfl dX10_getsFrom_4 ?_
  refine lv_iload_n hx_ hb_ dX10_getsFrom_7 rfl (lv_at hl 1 rfl) ?_
  refine sk_VP E hV (As := [.int (sI o)]) (rest := []) (kTh l_ G b_ M N (c + 14) 3 (f 573) 24 (tvO f) o ((hst).2.2.2.2.2.2.2) (by omega)) (cwV 1 S.2.2.2.2 gX10_getsFrom_X8_has rfl rfl rfl (by decide +kernel) ⟨Nat.le_of_ble_eq_true rfl, Nat.le_of_ble_eq_true rfl⟩) (ci := 6) ((hst).2.2.2.2.2.2.2).1 rfl rfl rfl hl.1 (Nat.le_of_ble_eq_true rfl) dX10_getsFrom_8 (c1 := 0) (s1 := 0) ⟨⟨rfl, rfl⟩, by decide, by decide⟩ (fun H locs hV => ?_)
  refine sq_ne (tgt := 25) S dX10_getsFrom_11 (by decide) (fun c1 => ?_) (fun c1 => ?_)
  · refine lv_aload_n hx_ hb_ dX10_getsFrom_25 rfl (lv_at hl 0 rfl) ?_
    refine sc_get (ci := 8) (C := RX10) (T := TX10) (n := 11) S hK hV inX10_ hc0 rfl 10 (by decide) (S.2.2.2.2 _ (List.mem_of_getElem? (i := 4) rfl)) rfl rfl dX10_getsFrom_26 ?_
    refine lv_aload_n hx_ hb_ dX10_getsFrom_29 rfl (lv_at hl 0 rfl) ?_
    refine sc_get (ci := 8) (C := RX10) (T := TX10) (n := 11) S hK hV inX10_ hc0 rfl 0 (by decide) (S.2.2.2.2 _ (List.mem_of_getElem? (i := 3) rfl)) rfl rfl dX10_getsFrom_30 ?_
    refine sc_getN (ci := 4) (C := RX6) (T := TX6) (n := 8) S hK hV inX6_ (hst).1 rfl 6 (by decide) (E.2.2.2.2.2.1.1.2.1 _ (List.mem_of_getElem? (i := 13) rfl)) rfl rfl dX10_getsFrom_33 ?_
    refine sk_Vv E hV (As := [.ref (c + 14)]) (rest := []) (kX2_lookAt l_ G b_ M N (c + 57) (c + 14) pl0 c0 C0 gv0 f h57 h58 h59 ((hst).2.2.2.2.2.2.2) (by omega) (by omega)) (cwV 1 S.2.2.2.2 gX10_getsFrom_X2_lookAt rfl rfl rfl (by decide +kernel) ⟨Nat.le_of_ble_eq_true rfl, Nat.le_of_ble_eq_true rfl⟩) (ci := 1) h57 rfl rfl rfl hl.1 (Nat.le_of_ble_eq_true rfl) dX10_getsFrom_36 (c1 := 0) (s1 := 0) ⟨⟨rfl, rfl⟩, by decide, by decide⟩ (fun M2 N3 H locs hp4 hV => ?_)
    obtain ⟨C96, g97, hN8, hc9, hc10, hc11, hf12, hg913, hop14⟩ := hp4
    rw [hN8] at hV
    have hgv := hg913
    have hop := hop14
    refine lv_aload_n hx_ hb_ dX10_getsFrom_39 rfl (lv_at hl 0 rfl) ?_
    have hc15 : M2 c = some (xO c kn ch) := (hf12 c (by omega) (by omega) (by omega)).trans hc0
    refine sc_get (ci := 8) (C := RX10) (T := TX10) (n := 11) S hK hV inX10_ hc15 rfl 10 (by decide) (S.2.2.2.2 _ (List.mem_of_getElem? (i := 4) rfl)) rfl rfl dX10_getsFrom_40 ?_
    refine lv_iload_n hx_ hb_ dX10_getsFrom_43 rfl (lv_at hl 1 rfl) ?_
    refine sk_VP E hV (As := [.int (sI o)]) (rest := []) (kX2_giverOf l_ G b_ M2 N (c + 57) (f 573) (plnM f) g97 o hc9 hc11 (by omega)) (cwV 1 S.2.2.2.2 gX10_getsFrom_X2_giverOf rfl rfl rfl (by decide +kernel) ⟨Nat.le_of_ble_eq_true rfl, Nat.le_of_ble_eq_true rfl⟩) (ci := 1) hc9 rfl rfl rfl hl.1 (Nat.le_of_ble_eq_true rfl) dX10_getsFrom_44 (c1 := 0) (s1 := 0) ⟨⟨rfl, rfl⟩, by decide, by decide⟩ (fun H locs hV => ?_)
    exact xr_i E hQ dX10_getsFrom_47 ⟨Nat.le_of_ble_eq_true rfl, Nat.le_of_ble_eq_true rfl⟩ hV (⟨rfl, ⟨_, _, _, _, hc9, hc10, hc11⟩, fun x q0 => hf12 x (by omega) (by omega) (by omega), ⟨(by omega), hgv o (by omega) (by omega)⟩⟩)
  · exact xt_W (own := RX10) (rest := []) E hF_ hxt_ hQ hlt (ik := 173) (is := 335) (ic := 177) (cls := "java/lang/IndexOutOfBoundsException") (text := "no such offer") (by decide +kernel) xg_IO (List.mem_of_getElem? (i := 1) rfl) (List.mem_of_getElem? (i := 2) rfl) (fun _ h => List.mem_cons_of_mem _ (List.mem_append_right _ h)) (List.mem_of_getElem? (i := 22) rfl) hl.1 dX10_getsFrom_14 dX10_getsFrom_17 dX10_getsFrom_18 dX10_getsFrom_21 dX10_getsFrom_24 ⟨Nat.le_of_ble_eq_true rfl, Nat.le_of_ble_eq_true rfl, Nat.le_of_ble_eq_true rfl, Nat.le_of_ble_eq_true rfl⟩ ⟨Nat.le_of_ble_eq_true rfl, Nat.le_of_ble_eq_true rfl⟩ hV (fun N9 h9 => ⟨by omega, hex, fun x q0 => rfl, ⟨(by first | omega | assumption), rfl⟩⟩)

abbrev rmX10_rings : Room := { frames := 5, cells := 8, slots := 50, locals := 135 }
set_option maxHeartbeats 4000000 in
set_option maxRecDepth 100000 in
theorem kX10_rings (l_ : Launch) (G : sG) (b_ : Nat) (M : sM) (N : Nat) (c : Nat) (kn ch : Int) (f : sF) (hc0 : M c = some (xO c kn ch)) (hst : stC G M (c + 1) f) (hex : excC G M (c + 57)) (hok : sOk f) : cI l_ yX10_rings wsX10_rings rmX10_rings G b_ M N [.ref c] (fun z_ M1 N1 => z_ = rgI f ∧ N1 = N ∧ excC G M1 (c + 57) ∧ (∀ x : Nat, ¬ (c + 57 ≤ x ∧ x < c + 57 + 3) → M1 x = M x)) := by
  refine sE.ofI (cc := cX10_rings) (nL := 1) (ret := (some .int)) (by decide) rfl (Nat.le_of_ble_eq_true rfl) ?_
  intro p_ e_ s_ m_ args_ below_ meth_ c_ ls Q hQ E hl
  have E : sE p_ l_ e_ rmX10_rings s_ m_ args_ below_ meth_ c_ cX10_rings 1 wsX10_rings RX10 "rings" (some .int) G b_ M N := E
  have S := E.1
  have hx_ := S.1
  have hb_ := S.2.1
  have hK := E.2.2.2.2.1
  have hV := E.2.2.2.2.2.2
  have hl : lv_has ls 1 [(0, .ref c)] := hl
  have inX10_ : ∀ w ∈ wsX100, w ∈ wsX10_rings := fun _ h => List.mem_cons_of_mem _ (List.mem_append_left _ (List.mem_append_left _ (List.mem_append_left _ (List.mem_append_right _ h))))
  have inX6_ : ∀ w ∈ wsX60, w ∈ wsX10_rings := fun _ h => List.mem_cons_of_mem _ (List.mem_append_left _ (List.mem_append_left _ (List.mem_append_right _ h)))
  have inX2_ : ∀ w ∈ wsX20, w ∈ wsX10_rings := fun _ h => List.mem_cons_of_mem _ (List.mem_append_left _ (List.mem_append_right _ h))
  have inX8_ : ∀ w ∈ wsX80, w ∈ wsX10_rings := fun _ h => List.mem_cons_of_mem _ (List.mem_append_right _ h)
  have hbN : b_ ≤ N := by have h1 := hV.1.1; have h2 := hV.2.2; omega
  have kn0 := sOk_N hok
  have hex2 := hex
  obtain ⟨c0, pl0, C0, gv0, h57, h58, h59⟩ := hex2
  refine lv_aload_n hx_ hb_ dX10_rings_0 rfl (lv_at hl 0 rfl) ?_
  refine sc_get (ci := 8) (C := RX10) (T := TX10) (n := 11) S hK hV inX10_ hc0 rfl 10 (by decide) (S.2.2.2.2 _ (List.mem_of_getElem? (i := 1) rfl)) rfl rfl dX10_rings_1 ?_
  refine lv_aload_n hx_ hb_ dX10_rings_4 rfl (lv_at hl 0 rfl) ?_
  refine sc_get (ci := 8) (C := RX10) (T := TX10) (n := 11) S hK hV inX10_ hc0 rfl 0 (by decide) (S.2.2.2.2 _ (List.mem_of_getElem? (i := 2) rfl)) rfl rfl dX10_rings_5 ?_
  refine sc_getN (ci := 4) (C := RX6) (T := TX6) (n := 8) S hK hV inX6_ (hst).1 rfl 6 (by decide) (E.2.2.2.2.2.1.1.2.1 _ (List.mem_of_getElem? (i := 13) rfl)) rfl rfl dX10_rings_8 ?_
  refine sk_Vv E hV (As := [.ref (c + 14)]) (rest := []) (kX2_lookAt l_ G b_ M N (c + 57) (c + 14) pl0 c0 C0 gv0 f h57 h58 h59 ((hst).2.2.2.2.2.2.2) (by omega) (by omega)) (cwV 1 S.2.2.2.2 gX10_rings_X2_lookAt rfl rfl rfl (by decide +kernel) ⟨Nat.le_of_ble_eq_true rfl, Nat.le_of_ble_eq_true rfl⟩) (ci := 1) h57 rfl rfl rfl hl.1 (Nat.le_of_ble_eq_true rfl) dX10_rings_11 (c1 := 0) (s1 := 0) ⟨⟨rfl, rfl⟩, by decide, by decide⟩ (fun M1 N2 H locs hp3 hV => ?_)
  obtain ⟨C95, g96, hN7, hc8, hc9, hc10, hf11, hg912, hop13⟩ := hp3
  rw [hN7] at hV
  have hgv := hg912
  have hop := hop13
  refine lv_aload_n hx_ hb_ dX10_rings_14 rfl (lv_at hl 0 rfl) ?_
  have hc14 : M1 c = some (xO c kn ch) := (hf11 c (by omega) (by omega) (by omega)).trans hc0
  refine sc_get (ci := 8) (C := RX10) (T := TX10) (n := 11) S hK hV inX10_ hc14 rfl 10 (by decide) (S.2.2.2.2 _ (List.mem_of_getElem? (i := 1) rfl)) rfl rfl dX10_rings_15 ?_
  refine sk_VP E hV (As := []) (rest := []) (kX2_countRings l_ G b_ M1 N (c + 57) (plnM f) f g96 hc8 hc10 (by omega) (hgv) (hop)) (cwV 0 S.2.2.2.2 gX10_rings_X2_countRings rfl rfl rfl (by decide +kernel) ⟨Nat.le_of_ble_eq_true rfl, Nat.le_of_ble_eq_true rfl⟩) (ci := 1) hc8 rfl rfl rfl hl.1 (Nat.le_of_ble_eq_true rfl) dX10_rings_18 (c1 := 0) (s1 := 0) ⟨⟨rfl, rfl⟩, by decide, by decide⟩ (fun H locs hV => ?_)
  exact sr_i E hQ dX10_rings_21 ⟨Nat.le_of_ble_eq_true rfl, Nat.le_of_ble_eq_true rfl⟩ hV (⟨rfl, rfl, ⟨_, _, _, _, hc8, hc9, hc10⟩, fun x q0 => hf11 x (by omega) (by omega) (by omega)⟩)

abbrev rmX10_write : Room := { frames := 4, cells := 8, slots := 50, locals := 112 }
set_option maxHeartbeats 4000000 in
set_option maxRecDepth 100000 in
theorem kX10_write (l_ : Launch) (G : sG) (b_ : Nat) (M : sM) (N : Nat) (c : Nat) (kn ch : Int) (f : sF) (wc : Int) (T : sF) (hc0 : M c = some (xO c kn ch)) (hst : stC G M (c + 1) f) (hct : catC G M (c + 34) wc T) (hok : sOk f) : cI l_ yX10_write wsX10_write rmX10_write G b_ M N [.ref c] (fun z_ M1 N1 => ∃ w9 : Int, ∃ T9 : Int → Int, z_ = (wrS f (f 568).toNat).1 ∧ N1 = N ∧ catC G M1 (c + 34) w9 T9 ∧ (∀ x : Nat, ¬ (c + 34 ≤ x ∧ x < c + 34 + 4) → M1 x = M x) ∧ (wrE (wrS f (f 568).toNat) w9 T9 ∧ 0 ≤ w9 ∧ w9 ≤ 180)) := by
  refine sE.ofI (cc := cX10_write) (nL := 1) (ret := (some .int)) (by decide) rfl (Nat.le_of_ble_eq_true rfl) ?_
  intro p_ e_ s_ m_ args_ below_ meth_ c_ ls Q hQ E hl
  have E : sE p_ l_ e_ rmX10_write s_ m_ args_ below_ meth_ c_ cX10_write 1 wsX10_write RX10 "write" (some .int) G b_ M N := E
  have S := E.1
  have hx_ := S.1
  have hb_ := S.2.1
  have hK := E.2.2.2.2.1
  have hV := E.2.2.2.2.2.2
  have hl : lv_has ls 1 [(0, .ref c)] := hl
  have inX10_ : ∀ w ∈ wsX100, w ∈ wsX10_write := fun _ h => List.mem_cons_of_mem _ (List.mem_append_left _ (List.mem_append_left _ (List.mem_append_left _ (List.mem_append_right _ h))))
  have inX1_ : ∀ w ∈ wsX10, w ∈ wsX10_write := fun _ h => List.mem_cons_of_mem _ (List.mem_append_left _ (List.mem_append_left _ (List.mem_append_right _ h)))
  have inX6_ : ∀ w ∈ wsX60, w ∈ wsX10_write := fun _ h => List.mem_cons_of_mem _ (List.mem_append_left _ (List.mem_append_right _ h))
  have inX8_ : ∀ w ∈ wsX80, w ∈ wsX10_write := fun _ h => List.mem_cons_of_mem _ (List.mem_append_right _ h)
  have hbN : b_ ≤ N := by have h1 := hV.1.1; have h2 := hV.2.2; omega
  have kn0 := sOk_N hok
  have hct2 := hct
  obtain ⟨tk0, ts0, te0, tv0, ne0, et0, h34, h35, h37⟩ := hct2
  refine lv_aload_n hx_ hb_ dX10_write_0 rfl (lv_at hl 0 rfl) ?_
  refine sc_get (ci := 8) (C := RX10) (T := TX10) (n := 11) S hK hV inX10_ hc0 rfl 6 (by decide) (S.2.2.2.2 _ (List.mem_of_getElem? (i := 1) rfl)) rfl rfl dX10_write_1 ?_
  refine lv_aload_n hx_ hb_ dX10_write_4 rfl (lv_at hl 0 rfl) ?_
  refine sc_get (ci := 8) (C := RX10) (T := TX10) (n := 11) S hK hV inX10_ hc0 rfl 0 (by decide) (S.2.2.2.2 _ (List.mem_of_getElem? (i := 2) rfl)) rfl rfl dX10_write_5 ?_
  refine sk_Vi E hV (As := [.ref (c + 1)]) (rest := []) (kX1_writeOut l_ G b_ M N (c + 34) (c + 1) wc tk0 ts0 te0 tv0 T f h34 h37 hst (by omega) (by omega)) (cwV 1 S.2.2.2.2 gX10_write_X1_writeOut rfl rfl rfl (by decide +kernel) ⟨Nat.le_of_ble_eq_true rfl, Nat.le_of_ble_eq_true rfl⟩) (ci := 0) h34 rfl rfl rfl hl.1 (Nat.le_of_ble_eq_true rfl) dX10_write_8 (c1 := 0) (s1 := 0) ⟨⟨rfl, rfl⟩, by decide, by decide⟩ (fun z4 M1 N2 H locs hp3 hV => ?_)
  obtain ⟨w95, T96, ez7, hN8, hc9, hc10, hf11, hE912⟩ := hp3
  rw [hN8] at hV
  rw [ez7]
  have hwr := hE912
  have hc13 : stK G M1 (c + 35) 5 ne0 165 et0 := h35.fr (fun x q8 q9 => hf11 x (by omega) (by omega))
  exact sr_i E hQ dX10_write_11 ⟨Nat.le_of_ble_eq_true rfl, Nat.le_of_ble_eq_true rfl⟩ hV (⟨_, _, rfl, rfl, ⟨_, _, _, _, _, _, hc9, hc13, hc10⟩, fun x q0 => hf11 x (by omega) (by omega), hwr⟩)

abbrev rmX10_writtenAt : Room := { frames := 6, cells := 8, slots := 50, locals := 100 }
set_option maxHeartbeats 4000000 in
set_option maxRecDepth 100000 in
theorem kX10_writtenAt (l_ : Launch) (G : sG) (b_ : Nat) (M : sM) (N : Nat) (c : Nat) (kn ch : Int) (wc : Int) (T : sF) (i : Int) (hc0 : M c = some (xO c kn ch)) (hct : catC G M (c + 34) wc T) (hlt : l_.stackTraces = false) (hwc : 0 ≤ wc ∧ wc ≤ 180) (hT : ∀ q, 0 ≤ q → q < wc → 0 ≤ T q ∧ T q < 65536) (hr : sR i) : xcI l_ yX10_writtenAt wsX10_writtenAt rmX10_writtenAt G b_ M N [.ref c, .int (sI i)] (fun z_ M1 N1 => N1 = N ∧ (∀ x : Nat, M1 x = M x) ∧ (((0 ≤ i ∧ i < wc) ∧ z_ = T i))) (fun E_ M1 N1 => N ≤ N1 ∧ (∀ x : Nat, M1 x = M x) ∧ (((¬ (0 ≤ i ∧ i < wc)) ∧ E_ = "java/lang/IndexOutOfBoundsException"))) := by
  refine xcE.ofI (cc := cX10_writtenAt) (nL := 2) (ret := (some .char)) (by decide) rfl (Nat.le_of_ble_eq_true rfl) ?_
  intro p_ e_ s_ m_ args_ below_ meth_ c_ ls Q hQ E hF_ hxt_ hl
  have E : sE p_ l_ e_ rmX10_writtenAt s_ m_ args_ below_ meth_ c_ cX10_writtenAt 2 wsX10_writtenAt RX10 "writtenAt" (some .char) G b_ M N := E
  have S := E.1
  have hx_ := S.1
  have hb_ := S.2.1
  have hK := E.2.2.2.2.1
  have hV := E.2.2.2.2.2.2
  have hl : lv_has ls 2 [(0, .ref c), (1, .int (sI i))] := hl
  have inX10_ : ∀ w ∈ wsX100, w ∈ wsX10_writtenAt := fun _ h => List.mem_cons_of_mem _ (List.mem_append_left _ (List.mem_append_left _ (List.mem_append_right _ h)))
  have inX1_ : ∀ w ∈ wsX10, w ∈ wsX10_writtenAt := fun _ h => List.mem_cons_of_mem _ (List.mem_append_left _ (List.mem_append_right _ h))
  have hbN : b_ ≤ N := by have h1 := hV.1.1; have h2 := hV.2.2; omega
  have hct2 := hct
  obtain ⟨tk0, ts0, te0, tv0, ne0, et0, h34, h35, h37⟩ := hct2
  refine lv_iload_n hx_ hb_ dX10_writtenAt_0 rfl (lv_at hl 1 rfl) ?_
  refine sz_lt (tgt := 15) S dX10_writtenAt_1 (by decide) (by omega) (fun c1 => ?_) (fun c1 => ?_)
  · exact xt_W (own := RX10) (rest := []) E hF_ hxt_ hQ hlt (ik := 173) (is := 368) (ic := 177) (cls := "java/lang/IndexOutOfBoundsException") (text := "no such sign") (by decide +kernel) xg_IO (List.mem_of_getElem? (i := 1) rfl) (List.mem_of_getElem? (i := 2) rfl) (fun _ h => List.mem_cons_of_mem _ (List.mem_append_right _ h)) (List.mem_of_getElem? (i := 25) rfl) hl.1 dX10_writtenAt_15 dX10_writtenAt_18 dX10_writtenAt_19 dX10_writtenAt_22 dX10_writtenAt_25 ⟨Nat.le_of_ble_eq_true rfl, Nat.le_of_ble_eq_true rfl, Nat.le_of_ble_eq_true rfl, Nat.le_of_ble_eq_true rfl⟩ ⟨Nat.le_of_ble_eq_true rfl, Nat.le_of_ble_eq_true rfl⟩ hV (fun N9 h9 => ⟨by omega, fun x  => rfl, ⟨(by first | omega | assumption), rfl⟩⟩)
  · refine lv_iload_n hx_ hb_ dX10_writtenAt_4 rfl (lv_at hl 1 rfl) ?_
    refine lv_aload_n hx_ hb_ dX10_writtenAt_5 rfl (lv_at hl 0 rfl) ?_
    refine sc_get (ci := 8) (C := RX10) (T := TX10) (n := 11) S hK hV inX10_ hc0 rfl 6 (by decide) (S.2.2.2.2 _ (List.mem_of_getElem? (i := 3) rfl)) rfl rfl dX10_writtenAt_6 ?_
    refine sk_VP E hV (As := []) (rest := [.int (sI i)]) (kX1_signs l_ G b_ M N (c + 34) wc tk0 ts0 te0 tv0 h34) (cwV 0 S.2.2.2.2 gX10_writtenAt_X1_signs rfl rfl rfl (by decide +kernel) ⟨Nat.le_of_ble_eq_true rfl, Nat.le_of_ble_eq_true rfl⟩) (ci := 0) h34 rfl rfl rfl hl.1 (Nat.le_of_ble_eq_true rfl) dX10_writtenAt_9 (c1 := 0) (s1 := 0) ⟨⟨rfl, rfl⟩, by decide, by decide⟩ (fun H locs hV => ?_)
    refine sb_lt (tgt := 26) S dX10_writtenAt_12 (by decide) (by omega) (fun c2 => ?_) (fun c2 => ?_)
    · refine lv_aload_n hx_ hb_ dX10_writtenAt_26 rfl (lv_at hl 0 rfl) ?_
      refine sc_get (ci := 8) (C := RX10) (T := TX10) (n := 11) S hK hV inX10_ hc0 rfl 6 (by decide) (S.2.2.2.2 _ (List.mem_of_getElem? (i := 3) rfl)) rfl rfl dX10_writtenAt_27 ?_
      refine lv_iload_n hx_ hb_ dX10_writtenAt_30 rfl (lv_at hl 1 rfl) ?_
      refine sk_VP E hV (As := [.int (sI i)]) (rest := []) (kX1_signAt l_ G b_ M N (c + 34) wc tk0 ts0 te0 tv0 T i h34 h37 (by omega) (by omega) (hT)) (cwV 1 S.2.2.2.2 gX10_writtenAt_X1_signAt rfl rfl rfl (by decide +kernel) ⟨Nat.le_of_ble_eq_true rfl, Nat.le_of_ble_eq_true rfl⟩) (ci := 0) h34 rfl rfl rfl hl.1 (Nat.le_of_ble_eq_true rfl) dX10_writtenAt_31 (c1 := 0) (s1 := 0) ⟨⟨rfl, rfl⟩, by decide, by decide⟩ (fun H locs hV => ?_)
      rw [if_pos (show 0 ≤ i ∧ i < wc by omega)]
      have hTi := hT i (by omega) (by omega)
      exact xr_c E hQ (by omega) dX10_writtenAt_34 ⟨Nat.le_of_ble_eq_true rfl, Nat.le_of_ble_eq_true rfl⟩ hV (⟨rfl, fun x  => rfl, ⟨(by omega), rfl⟩⟩)
    · exact xt_W (own := RX10) (rest := []) E hF_ hxt_ hQ hlt (ik := 173) (is := 368) (ic := 177) (cls := "java/lang/IndexOutOfBoundsException") (text := "no such sign") (by decide +kernel) xg_IO (List.mem_of_getElem? (i := 1) rfl) (List.mem_of_getElem? (i := 2) rfl) (fun _ h => List.mem_cons_of_mem _ (List.mem_append_right _ h)) (List.mem_of_getElem? (i := 25) rfl) hl.1 dX10_writtenAt_15 dX10_writtenAt_18 dX10_writtenAt_19 dX10_writtenAt_22 dX10_writtenAt_25 ⟨Nat.le_of_ble_eq_true rfl, Nat.le_of_ble_eq_true rfl, Nat.le_of_ble_eq_true rfl, Nat.le_of_ble_eq_true rfl⟩ ⟨Nat.le_of_ble_eq_true rfl, Nat.le_of_ble_eq_true rfl⟩ hV (fun N9 h9 => ⟨by omega, fun x  => rfl, ⟨(by first | omega | assumption), rfl⟩⟩)

abbrev rmX10_checksum : Room := { frames := 2, cells := 0, slots := 0, locals := 63 }
set_option maxHeartbeats 4000000 in
set_option maxRecDepth 100000 in
theorem kX10_checksum (l_ : Launch) (G : sG) (b_ : Nat) (M : sM) (N : Nat) (c : Nat) (kn ch : Int) (f : sF) (hc0 : M c = some (xO c kn ch)) (hst : stC G M (c + 1) f) (hok : sOk f) : cP l_ yX10_checksum wsX10_checksum rmX10_checksum G b_ M N [.ref c] (chN f (f 568).toNat) := by
  refine sE.ofI (cc := cX10_checksum) (nL := 3) (ret := (some .int)) (by decide) rfl (Nat.le_of_ble_eq_true rfl) ?_
  intro p_ e_ s_ m_ args_ below_ meth_ c_ ls Q hQ E hl
  have E : sE p_ l_ e_ rmX10_checksum s_ m_ args_ below_ meth_ c_ cX10_checksum 3 wsX10_checksum RX10 "checksum" (some .int) G b_ M N := E
  have S := E.1
  have hx_ := S.1
  have hb_ := S.2.1
  have hK := E.2.2.2.2.1
  have hV := E.2.2.2.2.2.2
  have hl : lv_has ls 3 [(0, .ref c)] := hl
  have inX10_ : ∀ w ∈ wsX100, w ∈ wsX10_checksum := fun _ h => List.mem_cons_of_mem _ (List.mem_append_left _ (List.mem_append_left _ (List.mem_append_right _ h)))
  have inX6_ : ∀ w ∈ wsX60, w ∈ wsX10_checksum := fun _ h => List.mem_cons_of_mem _ (List.mem_append_left _ (List.mem_append_right _ h))
  have inX8_ : ∀ w ∈ wsX80, w ∈ wsX10_checksum := fun _ h => List.mem_cons_of_mem _ (List.mem_append_right _ h)
  have kn0 := sOk_N hok
  refine si_bipush S dX10_checksum_0 (by decide) ?_
  refine lv_istore_n (lv' := [(1, .int (sI 17)), (0, .ref c)]) hx_ hb_ dX10_checksum_2 rfl hl (by decide) rfl (fun ls hl => ?_)
  refine si_const S dX10_checksum_3 ?_
  refine lv_istore_n (lv' := [(2, .int (sI 0)), (1, .int (sI 17)), (0, .ref c)]) hx_ hb_ dX10_checksum_4 rfl hl (by decide) rfl (fun ls hl => ?_)
  have L5 : ∀ (fuel : Nat) (z : Int) (i : Int)  (H : Heap) (locs : List Loc) (ls : Array Slot), ((f 568 - i).toNat) < fuel → (0 ≤ i ∧ i ≤ f 568) → (z = chN f i.toNat) → sV G b_ M N s_ H locs → lv_has ls 3 [(0, .ref c), (1, .int (sI z)), (2, .int (sI i))] → W p_ l_ e_ rmX10_checksum s_ m_ args_ below_ meth_ c_ H locs 0 0 Q (F0 m_ 5 ls []) := by
    intro fuel
    induction fuel with
    | zero => intro z i H locs ls hmu; exact absurd hmu (Nat.not_lt_zero _)
    | succ fuel ih5 =>
      intro z i H locs ls hmu5 hv5_0 hz  hV hl
      refine lv_iload_n hx_ hb_ dX10_checksum_5 rfl (lv_at hl 2 rfl) ?_
      refine lv_aload_n hx_ hb_ dX10_checksum_6 rfl (lv_at hl 0 rfl) ?_
      refine sc_get (ci := 8) (C := RX10) (T := TX10) (n := 11) S hK hV inX10_ hc0 rfl 0 (by decide) (S.2.2.2.2 _ (List.mem_of_getElem? (i := 1) rfl)) rfl rfl dX10_checksum_7 ?_
      refine sc_getN (ci := 4) (C := RX6) (T := TX6) (n := 8) S hK hV inX6_ (hst).1 rfl 0 (by decide) (E.2.2.2.2.2.1.1.2.1 _ (List.mem_of_getElem? (i := 3) rfl)) rfl rfl dX10_checksum_10 ?_
      refine sk_VP E hV (As := []) (rest := [.int (sI i)]) (kTs l_ G b_ M N (c + 2) 7 (f 568) 70 (tvS f) ((hst).2.1)) (cwV 0 S.2.2.2.2 gX10_checksum_X8_size rfl rfl rfl (by decide +kernel) ⟨Nat.le_of_ble_eq_true rfl, Nat.le_of_ble_eq_true rfl⟩) (ci := 6) ((hst).2.1).1 rfl rfl rfl hl.1 (Nat.le_of_ble_eq_true rfl) dX10_checksum_13 (c1 := 0) (s1 := 0) ⟨⟨rfl, rfl⟩, by decide, by decide⟩ (fun H locs hV => ?_)
      refine sb_ge (tgt := 95) S dX10_checksum_16 (by decide) (by omega) (fun c1 => ?_) (fun c1 => ?_)
      · refine lv_iload_n hx_ hb_ dX10_checksum_95 rfl (lv_at hl 1 rfl) ?_
        exact sr_i E hQ dX10_checksum_96 ⟨Nat.le_of_ble_eq_true rfl, Nat.le_of_ble_eq_true rfl⟩ hV (⟨by rw [hz, show i = f 568 by omega], rfl, rfl⟩)
      · refine si_bipush S dX10_checksum_19 (by decide) ?_
        refine lv_iload_n hx_ hb_ dX10_checksum_21 rfl (lv_at hl 1 rfl) ?_
        refine si_mul S dX10_checksum_22 ?_
        refine lv_aload_n hx_ hb_ dX10_checksum_23 rfl (lv_at hl 0 rfl) ?_
        refine sc_get (ci := 8) (C := RX10) (T := TX10) (n := 11) S hK hV inX10_ hc0 rfl 0 (by decide) (S.2.2.2.2 _ (List.mem_of_getElem? (i := 1) rfl)) rfl rfl dX10_checksum_24 ?_
        refine sc_getN (ci := 4) (C := RX6) (T := TX6) (n := 8) S hK hV inX6_ (hst).1 rfl 0 (by decide) (E.2.2.2.2.2.1.1.2.1 _ (List.mem_of_getElem? (i := 3) rfl)) rfl rfl dX10_checksum_27 ?_
        refine lv_iload_n hx_ hb_ dX10_checksum_30 rfl (lv_at hl 2 rfl) ?_
        refine si_const S dX10_checksum_31 ?_
        refine sk_VP E hV (As := [.int (sI i), .int (sI 0)]) (rest := [.int (sI (31 * z))]) (kTg l_ G b_ M N (c + 2) 7 (f 568) 70 (tvS f) i 0 (f (10 + i)) ((hst).2.1) (by omega) (by omega) (tvS_0 f i)) (cwV 2 S.2.2.2.2 gX10_checksum_X8_get rfl rfl rfl (by decide +kernel) ⟨Nat.le_of_ble_eq_true rfl, Nat.le_of_ble_eq_true rfl⟩) (ci := 6) ((hst).2.1).1 rfl rfl rfl hl.1 (Nat.le_of_ble_eq_true rfl) dX10_checksum_32 (c1 := 0) (s1 := 0) ⟨⟨rfl, rfl⟩, by decide, by decide⟩ (fun H locs hV => ?_)
        have kn2 : 0 ≤ f (10 + i) ∧ f (10 + i) ≤ 5 := (sOk_S hok i (by omega) (by omega)).2.1
        refine si_add S dX10_checksum_35 ?_
        refine lv_aload_n hx_ hb_ dX10_checksum_36 rfl (lv_at hl 0 rfl) ?_
        refine sc_get (ci := 8) (C := RX10) (T := TX10) (n := 11) S hK hV inX10_ hc0 rfl 0 (by decide) (S.2.2.2.2 _ (List.mem_of_getElem? (i := 1) rfl)) rfl rfl dX10_checksum_37 ?_
        refine sc_getN (ci := 4) (C := RX6) (T := TX6) (n := 8) S hK hV inX6_ (hst).1 rfl 0 (by decide) (E.2.2.2.2.2.1.1.2.1 _ (List.mem_of_getElem? (i := 3) rfl)) rfl rfl dX10_checksum_40 ?_
        refine lv_iload_n hx_ hb_ dX10_checksum_43 rfl (lv_at hl 2 rfl) ?_
        refine si_const S dX10_checksum_44 ?_
        refine sk_VP E hV (As := [.int (sI i), .int (sI 1)]) (rest := [.int (sI ((31 * z) + (f (10 + i))))]) (kTg l_ G b_ M N (c + 2) 7 (f 568) 70 (tvS f) i 1 (f (20 + i)) ((hst).2.1) (by omega) (by omega) (tvS_1 f i)) (cwV 2 S.2.2.2.2 gX10_checksum_X8_get rfl rfl rfl (by decide +kernel) ⟨Nat.le_of_ble_eq_true rfl, Nat.le_of_ble_eq_true rfl⟩) (ci := 6) ((hst).2.1).1 rfl rfl rfl hl.1 (Nat.le_of_ble_eq_true rfl) dX10_checksum_45 (c1 := 0) (s1 := 0) ⟨⟨rfl, rfl⟩, by decide, by decide⟩ (fun H locs hV => ?_)
        have kn3 : 1 ≤ f (20 + i) ∧ f (20 + i) ≤ 9 := (sOk_S hok i (by omega) (by omega)).2.2.1
        refine si_add S dX10_checksum_48 ?_
        refine lv_aload_n hx_ hb_ dX10_checksum_49 rfl (lv_at hl 0 rfl) ?_
        refine sc_get (ci := 8) (C := RX10) (T := TX10) (n := 11) S hK hV inX10_ hc0 rfl 0 (by decide) (S.2.2.2.2 _ (List.mem_of_getElem? (i := 1) rfl)) rfl rfl dX10_checksum_50 ?_
        refine sc_getN (ci := 4) (C := RX6) (T := TX6) (n := 8) S hK hV inX6_ (hst).1 rfl 0 (by decide) (E.2.2.2.2.2.1.1.2.1 _ (List.mem_of_getElem? (i := 3) rfl)) rfl rfl dX10_checksum_53 ?_
        refine lv_iload_n hx_ hb_ dX10_checksum_56 rfl (lv_at hl 2 rfl) ?_
        refine si_const S dX10_checksum_57 ?_
        refine sk_VP E hV (As := [.int (sI i), .int (sI 2)]) (rest := [.int (sI (((31 * z) + (f (10 + i))) + (f (20 + i))))]) (kTg l_ G b_ M N (c + 2) 7 (f 568) 70 (tvS f) i 2 (f (30 + i)) ((hst).2.1) (by omega) (by omega) (tvS_2 f i)) (cwV 2 S.2.2.2.2 gX10_checksum_X8_get rfl rfl rfl (by decide +kernel) ⟨Nat.le_of_ble_eq_true rfl, Nat.le_of_ble_eq_true rfl⟩) (ci := 6) ((hst).2.1).1 rfl rfl rfl hl.1 (Nat.le_of_ble_eq_true rfl) dX10_checksum_58 (c1 := 0) (s1 := 0) ⟨⟨rfl, rfl⟩, by decide, by decide⟩ (fun H locs hV => ?_)
        have kn4 : 1 ≤ f (30 + i) ∧ f (30 + i) ≤ 99 := (sOk_S hok i (by omega) (by omega)).2.2.2.1
        refine si_add S dX10_checksum_61 ?_
        refine lv_aload_n hx_ hb_ dX10_checksum_62 rfl (lv_at hl 0 rfl) ?_
        refine sc_get (ci := 8) (C := RX10) (T := TX10) (n := 11) S hK hV inX10_ hc0 rfl 0 (by decide) (S.2.2.2.2 _ (List.mem_of_getElem? (i := 1) rfl)) rfl rfl dX10_checksum_63 ?_
        refine sc_getN (ci := 4) (C := RX6) (T := TX6) (n := 8) S hK hV inX6_ (hst).1 rfl 0 (by decide) (E.2.2.2.2.2.1.1.2.1 _ (List.mem_of_getElem? (i := 3) rfl)) rfl rfl dX10_checksum_66 ?_
        refine lv_iload_n hx_ hb_ dX10_checksum_69 rfl (lv_at hl 2 rfl) ?_
        refine si_const S dX10_checksum_70 ?_
        refine sk_VP E hV (As := [.int (sI i), .int (sI 3)]) (rest := [.int (sI ((((31 * z) + (f (10 + i))) + (f (20 + i))) + (f (30 + i))))]) (kTg l_ G b_ M N (c + 2) 7 (f 568) 70 (tvS f) i 3 (f (40 + i)) ((hst).2.1) (by omega) (by omega) (tvS_3 f i)) (cwV 2 S.2.2.2.2 gX10_checksum_X8_get rfl rfl rfl (by decide +kernel) ⟨Nat.le_of_ble_eq_true rfl, Nat.le_of_ble_eq_true rfl⟩) (ci := 6) ((hst).2.1).1 rfl rfl rfl hl.1 (Nat.le_of_ble_eq_true rfl) dX10_checksum_71 (c1 := 0) (s1 := 0) ⟨⟨rfl, rfl⟩, by decide, by decide⟩ (fun H locs hV => ?_)
        have kn5 : 0 ≤ f (40 + i) ∧ f (40 + i) ≤ 10000 := (sOk_S hok i (by omega) (by omega)).2.2.2.2.1
        refine si_add S dX10_checksum_74 ?_
        refine lv_aload_n hx_ hb_ dX10_checksum_75 rfl (lv_at hl 0 rfl) ?_
        refine sc_get (ci := 8) (C := RX10) (T := TX10) (n := 11) S hK hV inX10_ hc0 rfl 0 (by decide) (S.2.2.2.2 _ (List.mem_of_getElem? (i := 1) rfl)) rfl rfl dX10_checksum_76 ?_
        refine sc_getN (ci := 4) (C := RX6) (T := TX6) (n := 8) S hK hV inX6_ (hst).1 rfl 0 (by decide) (E.2.2.2.2.2.1.1.2.1 _ (List.mem_of_getElem? (i := 3) rfl)) rfl rfl dX10_checksum_79 ?_
        refine lv_iload_n hx_ hb_ dX10_checksum_82 rfl (lv_at hl 2 rfl) ?_
        refine si_const S dX10_checksum_83 ?_
        refine sk_VP E hV (As := [.int (sI i), .int (sI 5)]) (rest := [.int (sI (((((31 * z) + (f (10 + i))) + (f (20 + i))) + (f (30 + i))) + (f (40 + i))))]) (kTg l_ G b_ M N (c + 2) 7 (f 568) 70 (tvS f) i 5 (f (50 + i)) ((hst).2.1) (by omega) (by omega) (tvS_5 f i)) (cwV 2 S.2.2.2.2 gX10_checksum_X8_get rfl rfl rfl (by decide +kernel) ⟨Nat.le_of_ble_eq_true rfl, Nat.le_of_ble_eq_true rfl⟩) (ci := 6) ((hst).2.1).1 rfl rfl rfl hl.1 (Nat.le_of_ble_eq_true rfl) dX10_checksum_84 (c1 := 0) (s1 := 0) ⟨⟨rfl, rfl⟩, by decide, by decide⟩ (fun H locs hV => ?_)
        have kn6 : -1 ≤ f (50 + i) ∧ f (50 + i) ≤ 3 := (sOk_S hok i (by omega) (by omega)).2.2.2.2.2.1
        refine si_add S dX10_checksum_87 ?_
        refine lv_istore_n (lv' := [(1, .int (sI ((((((31 * z) + (f (10 + i))) + (f (20 + i))) + (f (30 + i))) + (f (40 + i))) + (f (50 + i))))), (0, .ref c), (2, .int (sI i))]) hx_ hb_ dX10_checksum_88 rfl hl (by decide) rfl (fun ls hl => ?_)
        refine si_inc (lv' := [(2, .int (sI (i + 1))), (1, .int (sI ((((((31 * z) + (f (10 + i))) + (f (20 + i))) + (f (30 + i))) + (f (40 + i))) + (f (50 + i))))), (0, .ref c)]) S dX10_checksum_89 hl (k := 2) rfl (by decide) rfl (fun ls hl => ?_)
        refine lv_goto (tgt := 5) hx_ hb_ dX10_checksum_92 (by decide) ?_
        exact ih5 ((((((31 * z) + (f (10 + i))) + (f (20 + i))) + (f (30 + i))) + (f (40 + i))) + (f (50 + i))) (i + 1) _ _ _ (by omega) (by omega) (by rw [chN_s f i (by omega), ← hz]) hV (lv_sub hl [2, 1, 0] rfl)
  exact L5 _ 17 0 _ _ _ (Nat.lt_succ_self _) (by omega) (rfl) hV (lv_sub hl [2, 1, 0] rfl)
