theorem sDig_r : ∀ k : Nat, k < 8 → 1 ≤ sDig k ∧ sDig k ≤ 4782969 := by decide
theorem pc_full {n : Int} (hn : 0 ≤ n ∧ n ≤ 29) : pcI (p2 n - 1) = n := by
  have hp1 := p2_p n
  have h1 := (pc_le (n := n) (u := p2 n - 1) hn ⟨by omega, by omega⟩).1
  have h3 := isum_b (n := n) (g := fun k => bI (tb (p2 n - 1) k)) 1 1 hn.1 (fun k x y => by
    have : bI (tb (p2 n - 1) k) = 1 := bI_t ((tb_full hn x).mpr y)
    show 1 ≤ bI (tb (p2 n - 1) k) ∧ bI (tb (p2 n - 1) k) ≤ 1
    omega)
  omega
theorem p2_8 {n : Int} (h : n ≤ 8) : p2 n ≤ 256 := p2_m (a := n) (b := 8) h
def gvP (f gv : sF) : Prop := ∀ o, 0 ≤ o → o < f 573 → gv o = if plnB f o = 8 then -1 else plnB f o
/-- one comes back among as many steps as there are offers -/
theorem it_pig {f B : sF} (hn : 0 ≤ f 573) (hg : allG f B) (hp : prmP f B) {k : Int} (h : 0 ≤ k ∧ k < f 573 ∧ B k ≠ 8) : ∃ r : Nat, (r : Int) < f 573 ∧ itN B (f 573).toNat k = itN B r k := by
  obtain ⟨i, j, a, b, c, d⟩ := pig (m := f 573 + 1) (n := f 573) (h := fun i => itN B i.toNat k) hn (by omega) (fun i _ _ => by
    have := it_in hg hp h i.toNat
    exact ⟨this.1, this.2.1⟩)
  have d2 : itN B i.toNat k = itN B j.toNat k := d
  refine ⟨(f 573 - j + i).toNat, by omega, ?_⟩
  have e1 := it_add B (f 573 - j).toNat j.toNat k
  have e2 := it_add B (f 573 - j).toNat i.toNat k
  rw [show (f 573 - j).toNat + j.toNat = (f 573).toNat by omega, ← d2] at e1
  rw [show (f 573 - j).toNat + i.toNat = (f 573 - j + i).toNat by omega] at e2
  rw [e1, e2]

abbrev rmX2_init : Room := { frames := 1, cells := 2, slots := 264, locals := 40 }
set_option maxHeartbeats 4000000 in
set_option maxRecDepth 100000 in
theorem kX2_init (l_ : Launch) (G : sG) (b_ : Nat) (M : sM) (N : Nat) (e : Nat) (he0 : M e = some (sObj 1 [.null, .null, .int (sI 0), .int (sI 0)])) (hN : N = e + 1) : cV l_ yX2_init wsX2_init rmX2_init G b_ M N [.ref e] (fun M1 N1 => N1 = e + 3 ∧ M1 e = some (sObj 1 [.ref (e + 1), .ref (e + 2), .int (sI 0), .int (sI 0)]) ∧ M1 (e + 1) = some (sArr G 256 (fun _ => 0)) ∧ M1 (e + 2) = some (sArr G 8 (fun _ => 0)) ∧ (∀ x : Nat, ¬ (x = e) → ¬ (x = e + 1) → ¬ (x = e + 2) → M1 x = M x)) := by
  refine sE.ofV (cc := cX2_init) (nL := 1) (ret := none) (by decide) rfl (Nat.le_of_ble_eq_true rfl) ?_
  intro p_ e_ s_ m_ args_ below_ meth_ c_ ls Q hQ E hl
  have E : sE p_ l_ e_ rmX2_init s_ m_ args_ below_ meth_ c_ cX2_init 1 wsX2_init RX2 "<init>" none G b_ M N := E
  have S := E.1
  have hx_ := S.1
  have hb_ := S.2.1
  have hK := E.2.2.2.2.1
  have hV := E.2.2.2.2.2.2
  have hnm := E.2.2.2.1
  have hl : lv_has ls 1 [(0, .ref e)] := hl
  have inX2_ : ∀ w ∈ wsX20, w ∈ wsX2_init := fun _ h => List.mem_cons_of_mem _ (List.mem_append_right _ h)
  have hbN : b_ ≤ N := by have h1 := hV.1.1; have h2 := hV.2.2; omega
  subst hN
  refine lv_aload_n hx_ hb_ dX2_init_0 rfl (lv_at hl 0 rfl) ?_
  refine W.objInit hx_ hb_ S.2.2.2.1 (S.2.2.2.2 _ (List.mem_of_getElem? (i := 1) rfl)) (S.2.2.2.2 _ (List.mem_of_getElem? (i := 2) rfl)) (S.2.2.2.2 _ (List.mem_of_getElem? (i := 3) rfl)) rfl (by rw [S.2.2.1]; exact hl.1) rfl dX2_init_1 (Nat.le_of_ble_eq_true rfl) (Nat.le_of_ble_eq_true rfl) ?_
  refine W.eq (g2 := F0 m_ 4 ls []) rfl ?_
  refine lv_aload_n hx_ hb_ dX2_init_4 rfl (lv_at hl 0 rfl) ?_
  refine si_sipush S dX2_init_5 (by decide) ?_
  refine sc_newa S hK hV (S.2.2.2.2 _ (List.mem_of_getElem? (i := 4) rfl)) (N0 := 256) ⟨rfl, Nat.le_of_ble_eq_true rfl⟩ ⟨Nat.le_of_ble_eq_true rfl, Nat.le_of_ble_eq_true rfl⟩ dX2_init_8 (fun M1 H locs hM1 hV => ?_)
  have hc2 : M1 (e + 1) = some (sArr G 256 (fun _ => 0)) := (congrFun hM1 (e + 1)).trans (va_up_self M (e + 1) _)
  have hc3 : M1 e = some (sObj 1 [.null, .null, .int (sI 0), .int (sI 0)]) := ((congrFun hM1 e).trans (va_up_ne M _ (by omega))).trans he0
  refine sc_putF (ci := 1) (C := RX2) (T := TX2) (n := 4) S hK hV inX2_ tyX2_ok nmX2 hc3 rfl 0 (by decide) (S.2.2.2.2 _ (List.mem_of_getElem? (i := 5) rfl)) rfl rfl hnm rfl rfl rfl (Nat.le_of_ble_eq_true rfl) dX2_init_10 (fs1 := [.ref (e + 1), .null, .int (sI 0), .int (sI 0)]) rfl (fun M4 H locs hM4 hV => ?_)
  have hc5 : M4 e = some (sObj 1 [.ref (e + 1), .null, .int (sI 0), .int (sI 0)]) := (congrFun hM4 e).trans (va_up_self M1 e _)
  refine lv_aload_n hx_ hb_ dX2_init_13 rfl (lv_at hl 0 rfl) ?_
  refine si_bipush S dX2_init_14 (by decide) ?_
  refine sc_newa S hK hV (S.2.2.2.2 _ (List.mem_of_getElem? (i := 4) rfl)) (N0 := 8) ⟨rfl, Nat.le_of_ble_eq_true rfl⟩ ⟨Nat.le_of_ble_eq_true rfl, Nat.le_of_ble_eq_true rfl⟩ dX2_init_16 (fun M6 H locs hM6 hV => ?_)
  have hc7 : M6 (e + 2) = some (sArr G 8 (fun _ => 0)) := (congrFun hM6 (e + 2)).trans (va_up_self M4 (e + 2) _)
  have hc8 : M6 e = some (sObj 1 [.ref (e + 1), .null, .int (sI 0), .int (sI 0)]) := ((congrFun hM6 e).trans (va_up_ne M4 _ (by omega))).trans hc5
  refine sc_putF (ci := 1) (C := RX2) (T := TX2) (n := 4) S hK hV inX2_ tyX2_ok nmX2 hc8 rfl 1 (by decide) (S.2.2.2.2 _ (List.mem_of_getElem? (i := 6) rfl)) rfl rfl hnm rfl rfl rfl (Nat.le_of_ble_eq_true rfl) dX2_init_18 (fs1 := [.ref (e + 1), .ref (e + 2), .int (sI 0), .int (sI 0)]) rfl (fun M9 H locs hM9 hV => ?_)
  have hc10 : M9 e = some (sObj 1 [.ref (e + 1), .ref (e + 2), .int (sI 0), .int (sI 0)]) := (congrFun hM9 e).trans (va_up_self M6 e _)
  refine lv_aload_n hx_ hb_ dX2_init_21 rfl (lv_at hl 0 rfl) ?_
  refine si_const S dX2_init_22 ?_
  refine sc_put (ci := 1) (C := RX2) (T := TX2) (n := 4) S hK hV inX2_ tyX2_ok nmX2 hc10 rfl 2 (by decide) (S.2.2.2.2 _ (List.mem_of_getElem? (i := 7) rfl)) rfl rfl rfl rfl (Nat.le_of_ble_eq_true rfl) dX2_init_23 (fs1 := [.ref (e + 1), .ref (e + 2), .int (sI 0), .int (sI 0)]) rfl (fun M11 H locs hM11 hV => ?_)
  have hc12 : M11 e = some (sObj 1 [.ref (e + 1), .ref (e + 2), .int (sI 0), .int (sI 0)]) := (congrFun hM11 e).trans (va_up_self M9 e _)
  refine lv_aload_n hx_ hb_ dX2_init_26 rfl (lv_at hl 0 rfl) ?_
  refine si_const S dX2_init_27 ?_
  refine sc_put (ci := 1) (C := RX2) (T := TX2) (n := 4) S hK hV inX2_ tyX2_ok nmX2 hc12 rfl 3 (by decide) (S.2.2.2.2 _ (List.mem_of_getElem? (i := 8) rfl)) rfl rfl rfl rfl (Nat.le_of_ble_eq_true rfl) dX2_init_28 (fs1 := [.ref (e + 1), .ref (e + 2), .int (sI 0), .int (sI 0)]) rfl (fun M13 H locs hM13 hV => ?_)
  have hc14 : M13 e = some (sObj 1 [.ref (e + 1), .ref (e + 2), .int (sI 0), .int (sI 0)]) := (congrFun hM13 e).trans (va_up_self M11 e _)
  have hc15 : M13 (e + 1) = some (sArr G 256 (fun _ => 0)) := ((((((congrFun hM13 (e + 1)).trans (va_up_ne M11 _ (by omega))).trans ((congrFun hM11 (e + 1)).trans (va_up_ne M9 _ (by omega)))).trans ((congrFun hM9 (e + 1)).trans (va_up_ne M6 _ (by omega)))).trans ((congrFun hM6 (e + 1)).trans (va_up_ne M4 _ (by omega)))).trans ((congrFun hM4 (e + 1)).trans (va_up_ne M1 _ (by omega)))).trans hc2
  have hc16 : M13 (e + 2) = some (sArr G 8 (fun _ => 0)) := ((((congrFun hM13 (e + 2)).trans (va_up_ne M11 _ (by omega))).trans ((congrFun hM11 (e + 2)).trans (va_up_ne M9 _ (by omega)))).trans ((congrFun hM9 (e + 2)).trans (va_up_ne M6 _ (by omega)))).trans hc7
  exact sr_v E hQ dX2_init_31 ⟨Nat.le_of_ble_eq_true rfl, Nat.le_of_ble_eq_true rfl⟩ hV (⟨by omega, hc14, hc15, hc16, fun x q0 q1 q2 => ((((((congrFun hM13 x).trans (va_up_ne M11 _ (by omega))).trans ((congrFun hM11 x).trans (va_up_ne M9 _ (by omega)))).trans ((congrFun hM9 x).trans (va_up_ne M6 _ (by omega)))).trans ((congrFun hM6 x).trans (va_up_ne M4 _ (by omega)))).trans ((congrFun hM4 x).trans (va_up_ne M1 _ (by omega)))).trans ((congrFun hM1 x).trans (va_up_ne M _ (by omega)))⟩)

abbrev rmX2_digitOf : Room := { frames := 1, cells := 0, slots := 0, locals := 40 }
set_option maxHeartbeats 4000000 in
set_option maxRecDepth 100000 in
theorem kX2_digitOf (l_ : Launch) (G : sG) (b_ : Nat) (M : sM) (N : Nat) (o : Int) (ho : 0 ≤ o ∧ o < 8) : cP l_ yX2_digitOf wsX2_digitOf rmX2_digitOf G b_ M N [.int (sI o)] (w9 o) := by
  refine sE.ofI (cc := cX2_digitOf) (nL := 1) (ret := (some .int)) (by decide) rfl (Nat.le_of_ble_eq_true rfl) ?_
  intro p_ e_ s_ m_ args_ below_ meth_ c_ ls Q hQ E hl
  have E : sE p_ l_ e_ rmX2_digitOf s_ m_ args_ below_ meth_ c_ cX2_digitOf 1 wsX2_digitOf RX2 "digitOf" (some .int) G b_ M N := E
  have S := E.1
  have hx_ := S.1
  have hb_ := S.2.1
  have hK := E.2.2.2.2.1
  have hV := E.2.2.2.2.2.2
  have hl : lv_has ls 1 [(0, .int (sI o))] := hl
  obtain ⟨tdigs, hdigsZ, hdigsT⟩ := E.2.2.2.2.2.1.2.2.2.2
  refine lv_iload_n hx_ hb_ dX2_digitOf_0 rfl (lv_at hl 0 rfl) ?_
  refine sz_lt (tgt := 24) S dX2_digitOf_1 (by decide) (by omega) (fun c1 => absurd c1 (by omega)) (fun _ => ?_)
  refine lv_iload_n hx_ hb_ dX2_digitOf_4 rfl (lv_at hl 0 rfl) ?_
  refine va_gets hx_ hb_ hdigsZ hV.2.1 S.2.2.2.1 (S.2.2.2.2 _ (List.mem_of_getElem? (i := 1) rfl)) (fun _ h9 => h9) dX2_digitOf_5 ?_
  refine sc_tlen S hV hdigsT dX2_digitOf_8 ?_
  refine sb_ge (tgt := 24) S dX2_digitOf_9 (by decide) (by omega) (fun c2 => absurd c2 (by omega)) (fun _ => ?_)
  refine si_const S dX2_digitOf_12 ?_
  refine va_gets hx_ hb_ hdigsZ hV.2.1 S.2.2.2.1 (S.2.2.2.2 _ (List.mem_of_getElem? (i := 1) rfl)) (fun _ h9 => h9) dX2_digitOf_13 ?_
  refine lv_iload_n hx_ hb_ dX2_digitOf_16 rfl (lv_at hl 0 rfl) ?_
  refine sc_tld S hV hdigsT (by omega) dX2_digitOf_17 ?_
  have hsd := sDig_r o.toNat (by omega)
  refine si_max S hl.1 (S.2.2.2.2 _ (List.mem_of_getElem? (i := 2) rfl)) (S.2.2.2.2 _ (List.mem_of_getElem? (i := 3) rfl)) (S.2.2.2.2 _ (List.mem_of_getElem? (i := 4) rfl)) (S.2.2.2.2 _ (List.mem_of_getElem? (i := 5) rfl)) ⟨by decide, Nat.le_of_ble_eq_true rfl, by decide, by decide⟩ (by omega) dX2_digitOf_18 ?_
  refine lv_goto (tgt := 25) hx_ hb_ dX2_digitOf_21 (by decide) ?_
  exact sr_i E hQ dX2_digitOf_25 ⟨Nat.le_of_ble_eq_true rfl, Nat.le_of_ble_eq_true rfl⟩ hV (⟨w9_v ho, rfl, rfl⟩)

abbrev rmX2_canGive : Room := { frames := 2, cells := 0, slots := 0, locals := 63 }
set_option maxHeartbeats 4000000 in
set_option maxRecDepth 100000 in
theorem kX2_canGive (l_ : Launch) (G : sG) (b_ : Nat) (M : sM) (N : Nat) (t : Nat) (f : sF) (g o : Int) (ht : stK G M t 3 (f 573) 24 (tvO f)) (hok : sOk f) (hg : 0 ≤ g ∧ g < f 573 ∧ 0 ≤ o ∧ o < f 573) : cP l_ yX2_canGive wsX2_canGive rmX2_canGive G b_ M N [.ref t, .int (sI g), .int (sI o)] (bI (cgO f g o)) := by
  refine sE.ofI (cc := cX2_canGive) (nL := 3) (ret := (some .boolean)) (by decide) rfl (Nat.le_of_ble_eq_true rfl) ?_
  intro p_ e_ s_ m_ args_ below_ meth_ c_ ls Q hQ E hl
  have E : sE p_ l_ e_ rmX2_canGive s_ m_ args_ below_ meth_ c_ cX2_canGive 3 wsX2_canGive RX2 "canGive" (some .boolean) G b_ M N := E
  have S := E.1
  have hx_ := S.1
  have hb_ := S.2.1
  have hK := E.2.2.2.2.1
  have hV := E.2.2.2.2.2.2
  have hl : lv_has ls 3 [(0, .ref t), (1, .int (sI g)), (2, .int (sI o))] := hl
  have inX8_ : ∀ w ∈ wsX80, w ∈ wsX2_canGive := fun _ h => List.mem_cons_of_mem _ (List.mem_append_right _ h)
  have kn0 := sOk_N hok
  refine lv_aload_n hx_ hb_ dX2_canGive_0 rfl (lv_at hl 0 rfl) ?_
  refine lv_iload_n hx_ hb_ dX2_canGive_1 rfl (lv_at hl 1 rfl) ?_
  refine si_const S dX2_canGive_2 ?_
  refine sk_VP E hV (As := [.int (sI g), .int (sI 0)]) (rest := []) (kTg l_ G b_ M N t 3 (f 573) 24 (tvO f) g 0 (f (544 + g)) ht (by omega) (by omega) (tvO_0 f g)) (cwV 2 S.2.2.2.2 gX2_canGive_X8_get rfl rfl rfl (by decide +kernel) ⟨Nat.le_of_ble_eq_true rfl, Nat.le_of_ble_eq_true rfl⟩) (ci := 6) (ht).1 rfl rfl rfl hl.1 (Nat.le_of_ble_eq_true rfl) dX2_canGive_3 (c1 := 0) (s1 := 0) ⟨⟨rfl, rfl⟩, by decide, by decide⟩ (fun H locs hV => ?_)
  have kn1 : 0 ≤ f (544 + g) ∧ f (544 + g) ≤ 4 := (sOk_O hok g (by omega) (by omega)).1
  refine lv_aload_n hx_ hb_ dX2_canGive_6 rfl (lv_at hl 0 rfl) ?_
  refine lv_iload_n hx_ hb_ dX2_canGive_7 rfl (lv_at hl 2 rfl) ?_
  refine si_const S dX2_canGive_8 ?_
  refine sk_VP E hV (As := [.int (sI o), .int (sI 0)]) (rest := [.int (sI (f (544 + g)))]) (kTg l_ G b_ M N t 3 (f 573) 24 (tvO f) o 0 (f (544 + o)) ht (by omega) (by omega) (tvO_0 f o)) (cwV 2 S.2.2.2.2 gX2_canGive_X8_get rfl rfl rfl (by decide +kernel) ⟨Nat.le_of_ble_eq_true rfl, Nat.le_of_ble_eq_true rfl⟩) (ci := 6) (ht).1 rfl rfl rfl hl.1 (Nat.le_of_ble_eq_true rfl) dX2_canGive_9 (c1 := 0) (s1 := 0) ⟨⟨rfl, rfl⟩, by decide, by decide⟩ (fun H locs hV => ?_)
  have kn2 : 0 ≤ f (544 + o) ∧ f (544 + o) ≤ 4 := (sOk_O hok o (by omega) (by omega)).1
  refine sb_eq (tgt := 34) S dX2_canGive_12 (by decide) (by omega) (fun c3 => ?_) (fun c3 => ?_)
  · refine si_const S dX2_canGive_34 ?_
    exact sr_z E hQ (Or.inl rfl) dX2_canGive_35 ⟨Nat.le_of_ble_eq_true rfl, Nat.le_of_ble_eq_true rfl⟩ hV (⟨(bI_f (by unfold cgO; omega)).symm, rfl, rfl⟩)
  · refine lv_aload_n hx_ hb_ dX2_canGive_15 rfl (lv_at hl 0 rfl) ?_
    refine lv_iload_n hx_ hb_ dX2_canGive_16 rfl (lv_at hl 1 rfl) ?_
    refine si_const S dX2_canGive_17 ?_
    refine sk_VP E hV (As := [.int (sI g), .int (sI 1)]) (rest := []) (kTg l_ G b_ M N t 3 (f 573) 24 (tvO f) g 1 (f (552 + g)) ht (by omega) (by omega) (tvO_1 f g)) (cwV 2 S.2.2.2.2 gX2_canGive_X8_get rfl rfl rfl (by decide +kernel) ⟨Nat.le_of_ble_eq_true rfl, Nat.le_of_ble_eq_true rfl⟩) (ci := 6) (ht).1 rfl rfl rfl hl.1 (Nat.le_of_ble_eq_true rfl) dX2_canGive_18 (c1 := 0) (s1 := 0) ⟨⟨rfl, rfl⟩, by decide, by decide⟩ (fun H locs hV => ?_)
    have kn4 : 0 ≤ f (552 + g) ∧ f (552 + g) ≤ 5 := (sOk_O hok g (by omega) (by omega)).2.1
    refine lv_aload_n hx_ hb_ dX2_canGive_21 rfl (lv_at hl 0 rfl) ?_
    refine lv_iload_n hx_ hb_ dX2_canGive_22 rfl (lv_at hl 2 rfl) ?_
    refine si_const S dX2_canGive_23 ?_
    refine sk_VP E hV (As := [.int (sI o), .int (sI 2)]) (rest := [.int (sI (f (552 + g)))]) (kTg l_ G b_ M N t 3 (f 573) 24 (tvO f) o 2 (f (560 + o)) ht (by omega) (by omega) (tvO_2 f o)) (cwV 2 S.2.2.2.2 gX2_canGive_X8_get rfl rfl rfl (by decide +kernel) ⟨Nat.le_of_ble_eq_true rfl, Nat.le_of_ble_eq_true rfl⟩) (ci := 6) (ht).1 rfl rfl rfl hl.1 (Nat.le_of_ble_eq_true rfl) dX2_canGive_24 (c1 := 0) (s1 := 0) ⟨⟨rfl, rfl⟩, by decide, by decide⟩ (fun H locs hV => ?_)
    have kn5 : 0 ≤ f (560 + o) ∧ f (560 + o) ≤ 5 := (sOk_O hok o (by omega) (by omega)).2.2.1
    refine sb_ne (tgt := 34) S dX2_canGive_27 (by decide) (by omega) (fun c6 => ?_) (fun c6 => ?_)
    · refine si_const S dX2_canGive_34 ?_
      exact sr_z E hQ (Or.inl rfl) dX2_canGive_35 ⟨Nat.le_of_ble_eq_true rfl, Nat.le_of_ble_eq_true rfl⟩ hV (⟨(bI_f (by unfold cgO; omega)).symm, rfl, rfl⟩)
    · refine si_const S dX2_canGive_30 ?_
      refine lv_goto (tgt := 35) hx_ hb_ dX2_canGive_31 (by decide) ?_
      exact sr_z E hQ (Or.inr rfl) dX2_canGive_35 ⟨Nat.le_of_ble_eq_true rfl, Nat.le_of_ble_eq_true rfl⟩ hV (⟨(bI_t (by unfold cgO; omega)).symm, rfl, rfl⟩)

abbrev rmX2_leastCost : Room := { frames := 3, cells := 0, slots := 0, locals := 85 }
set_option maxHeartbeats 4000000 in
set_option maxRecDepth 100000 in
theorem kX2_leastCost (l_ : Launch) (G : sG) (b_ : Nat) (M : sM) (N : Nat) (e t : Nat) (pl : Int) (C : sF) (f : sF) (su : Int) (he0 : M e = some (sObj 1 [.ref (e + 1), .ref (e + 2), .int (sI (f 573)), .int (sI pl)])) (he1 : M (e + 1) = some (sArr G 256 C)) (ht : stK G M t 3 (f 573) 24 (tvO f)) (hok : sOk f) (hS : 1 ≤ su ∧ su < p2 (f 573)) (hC : ∀ T, 0 ≤ T → T < su → csP f T (pcI T) (C T)) : cI l_ yX2_leastCost wsX2_leastCost rmX2_leastCost G b_ M N [.ref e, .ref t, .int (sI su)] (fun z_ M1 N1 => N1 = N ∧ (∀ x : Nat, M1 x = M x) ∧ (csP f su (pcI su) z_)) := by
  refine sE.ofI (cc := cX2_leastCost) (nL := 7) (ret := (some .int)) (by decide) rfl (Nat.le_of_ble_eq_true rfl) ?_
  intro p_ e_ s_ m_ args_ below_ meth_ c_ ls Q hQ E hl
  have E : sE p_ l_ e_ rmX2_leastCost s_ m_ args_ below_ meth_ c_ cX2_leastCost 7 wsX2_leastCost RX2 "leastCost" (some .int) G b_ M N := E
  have S := E.1
  have hx_ := S.1
  have hb_ := S.2.1
  have hK := E.2.2.2.2.1
  have hV := E.2.2.2.2.2.2
  have hl : lv_has ls 7 [(0, .ref e), (1, .ref t), (2, .int (sI su))] := hl
  have inX2_ : ∀ w ∈ wsX20, w ∈ wsX2_leastCost := fun _ h => List.mem_cons_of_mem _ (List.mem_append_left _ (List.mem_append_right _ h))
  have inX8_ : ∀ w ∈ wsX80, w ∈ wsX2_leastCost := fun _ h => List.mem_cons_of_mem _ (List.mem_append_right _ h)
  have kn0 := sOk_N hok
  have hp1 := p2_p (f 573)
  have hp8 := p2_8 (n := f 573) (by omega)
  have hk1 := pc_1 (m := su) (by omega)
  have hkn := (pc_le (n := f 573) (u := su) (by omega) (by omega)).2
  refine lv_iload_n hx_ hb_ dX2_leastCost_0 rfl (lv_at hl 2 rfl) ?_
  refine sk_SP E hV (As := [.int (sI su)]) (rest := []) (kJ6_bitCount_0f7a4 l_ G b_ M N su (by omega)) (va_cwS 1 S.2.2.2.2 gX2_leastCost_J6_bitCount_0f7a4 rfl rfl rfl (by decide +kernel) ⟨Nat.le_of_ble_eq_true rfl, Nat.le_of_ble_eq_true rfl⟩) rfl rfl hl.1 (Nat.le_of_ble_eq_true rfl) dX2_leastCost_1 (c1 := 0) (s1 := 0) ⟨⟨rfl, rfl⟩, by decide, by decide⟩ (fun H locs hV => ?_)
  refine si_const S dX2_leastCost_4 ?_
  refine si_sub S dX2_leastCost_5 ?_
  refine lv_istore_n (lv' := [(3, .int (sI ((pcI su) - 1))), (0, .ref e), (1, .ref t), (2, .int (sI su))]) hx_ hb_ dX2_leastCost_6 rfl hl (by decide) rfl (fun ls hl => ?_)
  refine si_ldc S (1073741824) (S.2.2.2.2 _ (List.mem_of_getElem? (i := 1) rfl)) (by decide) dX2_leastCost_7 ?_
  refine lv_istore (lv' := [(4, .int (sI 1073741824)), (3, .int (sI ((pcI su) - 1))), (0, .ref e), (1, .ref t), (2, .int (sI su))]) hx_ hb_ dX2_leastCost_9 hl (by decide) rfl (fun ls hl => ?_)
  refine si_const S dX2_leastCost_11 ?_
  refine lv_istore (lv' := [(5, .int (sI 0)), (4, .int (sI 1073741824)), (3, .int (sI ((pcI su) - 1))), (0, .ref e), (1, .ref t), (2, .int (sI su))]) hx_ hb_ dX2_leastCost_12 hl (by decide) rfl (fun ls hl => ?_)
  have L14 : ∀ (fuel : Nat) (L : Int) (q : Int)  (H : Heap) (locs : List Loc) (ls : Array Slot), ((f 573 - q).toNat) < fuel → (0 ≤ q ∧ q ≤ f 573) → (csL f su (pcI su) q L) → sV G b_ M N s_ H locs → lv_has ls 7 [(0, .ref e), (1, .ref t), (2, .int (sI su)), (3, .int (sI ((pcI su) - 1))), (4, .int (sI L)), (5, .int (sI q))] → W p_ l_ e_ rmX2_leastCost s_ m_ args_ below_ meth_ c_ H locs 0 0 Q (F0 m_ 14 ls []) := by
    intro fuel
    induction fuel with
    | zero => intro L q H locs ls hmu; exact absurd hmu (Nat.not_lt_zero _)
    | succ fuel ih14 =>
      intro L q H locs ls hmu14 hv14_0 hL  hV hl
      have hL1 := hL.1
      refine lv_iload hx_ hb_ dX2_leastCost_14 (lv_at hl 5 rfl) ?_
      refine lv_aload_n hx_ hb_ dX2_leastCost_16 rfl (lv_at hl 0 rfl) ?_
      refine sc_get (ci := 1) (C := RX2) (T := TX2) (n := 4) S hK hV inX2_ he0 rfl 2 (by decide) (S.2.2.2.2 _ (List.mem_of_getElem? (i := 2) rfl)) rfl rfl dX2_leastCost_17 ?_
      refine sb_ge (tgt := 103) S dX2_leastCost_20 (by decide) (by omega) (fun c1 => ?_) (fun c1 => ?_)
      · refine lv_iload hx_ hb_ dX2_leastCost_103 (lv_at hl 4 rfl) ?_
        exact sr_i E hQ dX2_leastCost_105 ⟨Nat.le_of_ble_eq_true rfl, Nat.le_of_ble_eq_true rfl⟩ hV (⟨rfl, fun x  => rfl, cl_e (by omega) hL (by rw [show q = f 573 by omega]; omega)⟩)
      · refine lv_iload_n hx_ hb_ dX2_leastCost_23 rfl (lv_at hl 2 rfl) ?_
        refine lv_iload hx_ hb_ dX2_leastCost_24 (lv_at hl 5 rfl) ?_
        refine si_shr S dX2_leastCost_26 ?_
        refine si_const S dX2_leastCost_27 ?_
        refine si_and S dX2_leastCost_28 ?_
        rw [ibit (m := su) (k := q) (by omega) (by omega)]
        refine sq_eq (tgt := 97) S dX2_leastCost_29 (by decide) (fun h29 => ?_) (fun h29 => ?_)
        · refine si_inc (lv' := [(5, .int (sI (q + 1))), (0, .ref e), (1, .ref t), (2, .int (sI su)), (3, .int (sI ((pcI su) - 1))), (4, .int (sI L))]) S dX2_leastCost_97 hl (k := 5) rfl (by decide) rfl (fun ls hl => ?_)
          refine lv_goto (tgt := 14) hx_ hb_ dX2_leastCost_100 (by decide) ?_
          exact ih14 L (q + 1) _ _ _ (by omega) (by omega) (cl_n (by omega) hL (fun h => h29 h.1)) hV (lv_sub hl [1, 2, 3, 4, 5, 0] rfl)
        · refine lv_iload hx_ hb_ dX2_leastCost_32 (lv_at hl 5 rfl) ?_
          refine lv_iload_n hx_ hb_ dX2_leastCost_34 rfl (lv_at hl 3 rfl) ?_
          refine sb_eq (tgt := 48) S dX2_leastCost_35 (by decide) (by omega) (fun c2 => ?_) (fun c2 => ?_)
          · refine lv_iload hx_ hb_ dX2_leastCost_48 (lv_at hl 5 rfl) ?_
            refine lv_iload_n hx_ hb_ dX2_leastCost_50 rfl (lv_at hl 3 rfl) ?_
            refine sb_ne (tgt := 67) S dX2_leastCost_51 (by decide) (by omega) (fun c3 => absurd c3 (by omega)) (fun _ => ?_)
            refine si_ldc S (43046721) (S.2.2.2.2 _ (List.mem_of_getElem? (i := 3) rfl)) (by decide) dX2_leastCost_54 ?_
            refine si_bipush S dX2_leastCost_56 (by decide) ?_
            refine lv_iload_n hx_ hb_ dX2_leastCost_58 rfl (lv_at hl 3 rfl) ?_
            refine sk_SP E hV (As := [.int (sI ((pcI su) - 1))]) (rest := [.int (sI 8), .int (sI 43046721)]) (kX2_digitOf l_ G b_ M N ((pcI su) - 1) (by omega)) (va_cwS 1 S.2.2.2.2 gX2_leastCost_X2_digitOf rfl rfl rfl (by decide +kernel) ⟨Nat.le_of_ble_eq_true rfl, Nat.le_of_ble_eq_true rfl⟩) rfl rfl hl.1 (Nat.le_of_ble_eq_true rfl) dX2_leastCost_59 (c1 := 0) (s1 := 0) ⟨⟨rfl, rfl⟩, by decide, by decide⟩ (fun H locs hV => ?_)
            refine si_mul S dX2_leastCost_62 ?_
            refine si_add S dX2_leastCost_63 ?_
            refine lv_goto (tgt := 74) hx_ hb_ dX2_leastCost_64 (by decide) ?_
            rw [show 43046721 + (8 * (w9 ((pcI su) - 1))) = prI q (pcI su - 1) by unfold prI; rw [if_pos (by omega)]]
            refine lv_istore (lv' := [(6, .int (sI (prI q (pcI su - 1)))), (0, .ref e), (1, .ref t), (2, .int (sI su)), (3, .int (sI ((pcI su) - 1))), (4, .int (sI L)), (5, .int (sI q))]) hx_ hb_ dX2_leastCost_74 hl (by decide) rfl (fun ls hl => ?_)
            have hb1 := tb_sub (v := su) (s := q) (by omega) h29
            have hb2 := p2_p q
            have hd9 := hC (su - p2 q) (by omega) (by omega)
            rw [show pcI (su - p2 q) = pcI su - 1 by have := pc_sub (u := su) (s := q) (by omega) (by omega) h29; omega] at hd9
            have hd91 := hd9.1
            have hpr := pr_r (q := q) (o := pcI su - 1) (by omega) (by omega)
            refine lv_iload hx_ hb_ dX2_leastCost_76 (lv_at hl 5 rfl) ?_
            refine lv_aload_n hx_ hb_ dX2_leastCost_78 rfl (lv_at hl 1 rfl) ?_
            refine sc_get (ci := 1) (C := RX2) (T := TX2) (n := 4) S hK hV inX2_ he0 rfl 0 (by decide) (S.2.2.2.2 _ (List.mem_of_getElem? (i := 4) rfl)) rfl rfl dX2_leastCost_79 ?_
            refine lv_iload_n hx_ hb_ dX2_leastCost_82 rfl (lv_at hl 3 rfl) ?_
            refine si_const S dX2_leastCost_83 ?_
            refine lv_iload hx_ hb_ dX2_leastCost_84 (lv_at hl 6 rfl) ?_
            refine si_shl S dX2_leastCost_86 ?_
            refine si_xor S dX2_leastCost_87 ?_
            rw [ixor_p2 (by omega) (by omega) h29]
            refine sc_iald S hK hV he1 (by omega) dX2_leastCost_88 ?_
            refine lv_iload hx_ hb_ dX2_leastCost_89 (lv_at hl 0 rfl) ?_
            refine si_add S dX2_leastCost_91 ?_
            refine si_min S hl.1 (S.2.2.2.2 _ (List.mem_of_getElem? (i := 5) rfl)) (S.2.2.2.2 _ (List.mem_of_getElem? (i := 6) rfl)) (S.2.2.2.2 _ (List.mem_of_getElem? (i := 7) rfl)) (S.2.2.2.2 _ (List.mem_of_getElem? (i := 8) rfl)) ⟨by decide, Nat.le_of_ble_eq_true rfl, by decide, by decide⟩ (by omega) dX2_leastCost_92 ?_
            refine lv_istore (lv' := [(4, .int (sI (min L ((C (su - p2 q)) + (prI q (pcI su - 1)))))), (6, .int (sI (prI q (pcI su - 1)))), (0, .ref e), (1, .ref t), (2, .int (sI su)), (3, .int (sI ((pcI su) - 1))), (5, .int (sI q))]) hx_ hb_ dX2_leastCost_95 hl (by decide) rfl (fun ls hl => ?_)
            refine si_inc (lv' := [(5, .int (sI (q + 1))), (4, .int (sI (min L ((C (su - p2 q)) + (prI q (pcI su - 1)))))), (6, .int (sI (prI q (pcI su - 1)))), (0, .ref e), (1, .ref t), (2, .int (sI su)), (3, .int (sI ((pcI su) - 1)))]) S dX2_leastCost_97 hl (k := 6) rfl (by decide) rfl (fun ls hl => ?_)
            refine lv_goto (tgt := 14) hx_ hb_ dX2_leastCost_100 (by decide) ?_
            exact ih14 (min L ((C (su - p2 q)) + (prI q (pcI su - 1)))) (q + 1) _ _ _ (by omega) (by omega) (cl_t (by omega) (by omega) (by omega) hL h29 (Or.inl (by omega)) hd9) hV (lv_sub hl [3, 4, 5, 6, 1, 0] rfl)
          · refine lv_aload_n hx_ hb_ dX2_leastCost_38 rfl (lv_at hl 1 rfl) ?_
            refine lv_iload hx_ hb_ dX2_leastCost_39 (lv_at hl 5 rfl) ?_
            refine lv_iload_n hx_ hb_ dX2_leastCost_41 rfl (lv_at hl 3 rfl) ?_
            refine sk_SP E hV (As := [.ref t, .int (sI q), .int (sI ((pcI su) - 1))]) (rest := []) (kX2_canGive l_ G b_ M N t f q ((pcI su) - 1) ht (by omega) (by omega)) (va_cwS 3 S.2.2.2.2 gX2_leastCost_X2_canGive rfl rfl rfl (by decide +kernel) ⟨Nat.le_of_ble_eq_true rfl, Nat.le_of_ble_eq_true rfl⟩) rfl rfl hl.1 (Nat.le_of_ble_eq_true rfl) dX2_leastCost_42 (c1 := 0) (s1 := 0) ⟨⟨rfl, rfl⟩, by decide, by decide⟩ (fun H locs hV => ?_)
            refine sq_eq (tgt := 97) S dX2_leastCost_45 (by decide) (fun h45 => ?_) (fun h45 => ?_)
            · refine si_inc (lv' := [(5, .int (sI (q + 1))), (0, .ref e), (1, .ref t), (2, .int (sI su)), (3, .int (sI ((pcI su) - 1))), (4, .int (sI L))]) S dX2_leastCost_97 hl (k := 5) rfl (by decide) rfl (fun ls hl => ?_)
              refine lv_goto (tgt := 14) hx_ hb_ dX2_leastCost_100 (by decide) ?_
              exact ih14 L (q + 1) _ _ _ (by omega) (by omega) (cl_n (by omega) hL (fun h => by rcases h.2 with h9 | h9; omega; exact h45 h9)) hV (lv_sub hl [1, 2, 3, 4, 5, 0] rfl)
            · refine lv_iload hx_ hb_ dX2_leastCost_48 (lv_at hl 5 rfl) ?_
              refine lv_iload_n hx_ hb_ dX2_leastCost_50 rfl (lv_at hl 3 rfl) ?_
              refine sb_ne (tgt := 67) S dX2_leastCost_51 (by decide) (by omega) (fun _ => ?_) (fun c4 => absurd c4 (by omega))
              refine lv_iload hx_ hb_ dX2_leastCost_67 (lv_at hl 5 rfl) ?_
              refine lv_iload_n hx_ hb_ dX2_leastCost_69 rfl (lv_at hl 3 rfl) ?_
              refine sk_SP E hV (As := [.int (sI ((pcI su) - 1))]) (rest := [.int (sI q)]) (kX2_digitOf l_ G b_ M N ((pcI su) - 1) (by omega)) (va_cwS 1 S.2.2.2.2 gX2_leastCost_X2_digitOf rfl rfl rfl (by decide +kernel) ⟨Nat.le_of_ble_eq_true rfl, Nat.le_of_ble_eq_true rfl⟩) rfl rfl hl.1 (Nat.le_of_ble_eq_true rfl) dX2_leastCost_70 (c1 := 0) (s1 := 0) ⟨⟨rfl, rfl⟩, by decide, by decide⟩ (fun H locs hV => ?_)
              refine si_mul S dX2_leastCost_73 ?_
              rw [show q * (w9 ((pcI su) - 1)) = prI q (pcI su - 1) by unfold prI; rw [if_neg (by omega)]]
              refine lv_istore (lv' := [(6, .int (sI (prI q (pcI su - 1)))), (0, .ref e), (1, .ref t), (2, .int (sI su)), (3, .int (sI ((pcI su) - 1))), (4, .int (sI L)), (5, .int (sI q))]) hx_ hb_ dX2_leastCost_74 hl (by decide) rfl (fun ls hl => ?_)
              have hb1 := tb_sub (v := su) (s := q) (by omega) h29
              have hb2 := p2_p q
              have hd9 := hC (su - p2 q) (by omega) (by omega)
              rw [show pcI (su - p2 q) = pcI su - 1 by have := pc_sub (u := su) (s := q) (by omega) (by omega) h29; omega] at hd9
              have hd91 := hd9.1
              have hpr := pr_r (q := q) (o := pcI su - 1) (by omega) (by omega)
              refine lv_iload hx_ hb_ dX2_leastCost_76 (lv_at hl 5 rfl) ?_
              refine lv_aload_n hx_ hb_ dX2_leastCost_78 rfl (lv_at hl 1 rfl) ?_
              refine sc_get (ci := 1) (C := RX2) (T := TX2) (n := 4) S hK hV inX2_ he0 rfl 0 (by decide) (S.2.2.2.2 _ (List.mem_of_getElem? (i := 4) rfl)) rfl rfl dX2_leastCost_79 ?_
              refine lv_iload_n hx_ hb_ dX2_leastCost_82 rfl (lv_at hl 3 rfl) ?_
              refine si_const S dX2_leastCost_83 ?_
              refine lv_iload hx_ hb_ dX2_leastCost_84 (lv_at hl 6 rfl) ?_
              refine si_shl S dX2_leastCost_86 ?_
              refine si_xor S dX2_leastCost_87 ?_
              rw [ixor_p2 (by omega) (by omega) h29]
              refine sc_iald S hK hV he1 (by omega) dX2_leastCost_88 ?_
              refine lv_iload hx_ hb_ dX2_leastCost_89 (lv_at hl 0 rfl) ?_
              refine si_add S dX2_leastCost_91 ?_
              refine si_min S hl.1 (S.2.2.2.2 _ (List.mem_of_getElem? (i := 5) rfl)) (S.2.2.2.2 _ (List.mem_of_getElem? (i := 6) rfl)) (S.2.2.2.2 _ (List.mem_of_getElem? (i := 7) rfl)) (S.2.2.2.2 _ (List.mem_of_getElem? (i := 8) rfl)) ⟨by decide, Nat.le_of_ble_eq_true rfl, by decide, by decide⟩ (by omega) dX2_leastCost_92 ?_
              refine lv_istore (lv' := [(4, .int (sI (min L ((C (su - p2 q)) + (prI q (pcI su - 1)))))), (6, .int (sI (prI q (pcI su - 1)))), (0, .ref e), (1, .ref t), (2, .int (sI su)), (3, .int (sI ((pcI su) - 1))), (5, .int (sI q))]) hx_ hb_ dX2_leastCost_95 hl (by decide) rfl (fun ls hl => ?_)
              refine si_inc (lv' := [(5, .int (sI (q + 1))), (4, .int (sI (min L ((C (su - p2 q)) + (prI q (pcI su - 1)))))), (6, .int (sI (prI q (pcI su - 1)))), (0, .ref e), (1, .ref t), (2, .int (sI su)), (3, .int (sI ((pcI su) - 1)))]) S dX2_leastCost_97 hl (k := 6) rfl (by decide) rfl (fun ls hl => ?_)
              refine lv_goto (tgt := 14) hx_ hb_ dX2_leastCost_100 (by decide) ?_
              exact ih14 (min L ((C (su - p2 q)) + (prI q (pcI su - 1)))) (q + 1) _ _ _ (by omega) (by omega) (cl_t (by omega) (by omega) (by omega) hL h29 (Or.inr h45) hd9) hV (lv_sub hl [3, 4, 5, 6, 1, 0] rfl)
  exact L14 _ 1073741824 0 _ _ _ (Nat.lt_succ_self _) (by omega) (cl_0 (by omega)) hV (lv_sub hl [3, 4, 5, 2, 1, 0] rfl)

abbrev rmX2_lookAt : Room := { frames := 4, cells := 0, slots := 0, locals := 111 }
set_option maxHeartbeats 4000000 in
set_option maxRecDepth 100000 in
theorem kX2_lookAt (l_ : Launch) (G : sG) (b_ : Nat) (M : sM) (N : Nat) (e t : Nat) (pl : Int) (c0 : Int) (C gv f : sF) (he0 : M e = some (sObj 1 [.ref (e + 1), .ref (e + 2), .int (sI c0), .int (sI pl)])) (he1 : M (e + 1) = some (sArr G 256 C)) (he2 : M (e + 2) = some (sArr G 8 gv)) (ht : stK G M t 3 (f 573) 24 (tvO f)) (hok : sOk f) (hne : t + 2 ≤ e ∨ e + 3 ≤ t) : cV l_ yX2_lookAt wsX2_lookAt rmX2_lookAt G b_ M N [.ref e, .ref t] (fun M1 N1 => ∃ C9 : Int → Int, ∃ g9 : Int → Int, N1 = N ∧ M1 e = some (sObj 1 [.ref (e + 1), .ref (e + 2), .int (sI (f 573)), .int (sI (plnM f))]) ∧ M1 (e + 1) = some (sArr G 256 C9) ∧ M1 (e + 2) = some (sArr G 8 g9) ∧ (∀ x : Nat, ¬ (x = e) → ¬ (x = e + 1) → ¬ (x = e + 2) → M1 x = M x) ∧ (gvP f g9) ∧ (optP f (plnM f) (plnB f))) := by
  refine sE.ofV (cc := cX2_lookAt) (nL := 5) (ret := none) (by decide) rfl (Nat.le_of_ble_eq_true rfl) ?_
  intro p_ e_ s_ m_ args_ below_ meth_ c_ ls Q hQ E hl
  have E : sE p_ l_ e_ rmX2_lookAt s_ m_ args_ below_ meth_ c_ cX2_lookAt 5 wsX2_lookAt RX2 "lookAt" none G b_ M N := E
  have S := E.1
  have hx_ := S.1
  have hb_ := S.2.1
  have hK := E.2.2.2.2.1
  have hV := E.2.2.2.2.2.2
  have hl : lv_has ls 5 [(0, .ref e), (1, .ref t)] := hl
  have inX2_ : ∀ w ∈ wsX20, w ∈ wsX2_lookAt := fun _ h => List.mem_cons_of_mem _ (List.mem_append_left _ (List.mem_append_right _ h))
  have inX8_ : ∀ w ∈ wsX80, w ∈ wsX2_lookAt := fun _ h => List.mem_cons_of_mem _ (List.mem_append_right _ h)
  have kn0 := sOk_N hok
  have hp1 := p2_p (f 573)
  have hp8 := p2_8 (n := f 573) (by omega)
  refine lv_aload_n hx_ hb_ dX2_lookAt_0 rfl (lv_at hl 0 rfl) ?_
  refine lv_aload_n hx_ hb_ dX2_lookAt_1 rfl (lv_at hl 1 rfl) ?_
  refine sk_VP E hV (As := []) (rest := [.ref e]) (kTs l_ G b_ M N t 3 (f 573) 24 (tvO f) ht) (cwV 0 S.2.2.2.2 gX2_lookAt_X8_size rfl rfl rfl (by decide +kernel) ⟨Nat.le_of_ble_eq_true rfl, Nat.le_of_ble_eq_true rfl⟩) (ci := 6) (ht).1 rfl rfl rfl hl.1 (Nat.le_of_ble_eq_true rfl) dX2_lookAt_2 (c1 := 0) (s1 := 0) ⟨⟨rfl, rfl⟩, by decide, by decide⟩ (fun H locs hV => ?_)
  refine si_bipush S dX2_lookAt_5 (by decide) ?_
  refine si_min S hl.1 (S.2.2.2.2 _ (List.mem_of_getElem? (i := 1) rfl)) (S.2.2.2.2 _ (List.mem_of_getElem? (i := 2) rfl)) (S.2.2.2.2 _ (List.mem_of_getElem? (i := 3) rfl)) (S.2.2.2.2 _ (List.mem_of_getElem? (i := 4) rfl)) ⟨by decide, Nat.le_of_ble_eq_true rfl, by decide, by decide⟩ (by omega) dX2_lookAt_7 ?_
  rw [show min (f 573) 8 = f 573 by omega]
  refine sc_put (ci := 1) (C := RX2) (T := TX2) (n := 4) S hK hV inX2_ tyX2_ok nmX2 he0 rfl 2 (by decide) (S.2.2.2.2 _ (List.mem_of_getElem? (i := 5) rfl)) rfl rfl rfl rfl (Nat.le_of_ble_eq_true rfl) dX2_lookAt_10 (fs1 := [.ref (e + 1), .ref (e + 2), .int (sI (f 573)), .int (sI pl)]) rfl (fun M1 H locs hM1 hV => ?_)
  have hc2 : M1 e = some (sObj 1 [.ref (e + 1), .ref (e + 2), .int (sI (f 573)), .int (sI pl)]) := (congrFun hM1 e).trans (va_up_self M e _)
  refine si_const S dX2_lookAt_13 ?_
  refine lv_aload_n hx_ hb_ dX2_lookAt_14 rfl (lv_at hl 0 rfl) ?_
  refine sc_get (ci := 1) (C := RX2) (T := TX2) (n := 4) S hK hV inX2_ hc2 rfl 2 (by decide) (S.2.2.2.2 _ (List.mem_of_getElem? (i := 5) rfl)) rfl rfl dX2_lookAt_15 ?_
  refine si_shl S dX2_lookAt_18 ?_
  rw [ishl_p2 (k := f 573) (by omega)]
  refine si_const S dX2_lookAt_19 ?_
  refine si_sub S dX2_lookAt_20 ?_
  refine lv_istore_n (lv' := [(2, .int (sI ((p2 (f 573)) - 1))), (0, .ref e), (1, .ref t)]) hx_ hb_ dX2_lookAt_21 rfl hl (by decide) rfl (fun ls hl => ?_)
  refine lv_aload_n hx_ hb_ dX2_lookAt_22 rfl (lv_at hl 1 rfl) ?_
  refine sc_get (ci := 1) (C := RX2) (T := TX2) (n := 4) S hK hV inX2_ hc2 rfl 0 (by decide) (S.2.2.2.2 _ (List.mem_of_getElem? (i := 6) rfl)) rfl rfl dX2_lookAt_23 ?_
  refine si_const S dX2_lookAt_26 ?_
  refine si_const S dX2_lookAt_27 ?_
  have hc3 : M1 (e + 1) = some (sArr G 256 C) := ((congrFun hM1 (e + 1)).trans (va_up_ne M _ (by omega))).trans he1
  refine sc_iast S hK hV hc3 (by omega) dX2_lookAt_28 (fun M4 H locs hM4 hV => ?_)
  have hc5 : M4 (e + 1) = some (sArr G 256 (iup C 0 0)) := (congrFun hM4 (e + 1)).trans (va_up_self M1 (e + 1) _)
  refine si_const S dX2_lookAt_29 ?_
  refine lv_istore_n (lv' := [(3, .int (sI 1)), (2, .int (sI ((p2 (f 573)) - 1))), (0, .ref e), (1, .ref t)]) hx_ hb_ dX2_lookAt_30 rfl hl (by decide) rfl (fun ls hl => ?_)
  have L31 : ∀ (fuel : Nat) (su : Int) (C2 : Int → Int) (Ml31 : sM) (H : Heap) (locs : List Loc) (ls : Array Slot), ((p2 (f 573) - su).toNat) < fuel → (1 ≤ su ∧ su ≤ p2 (f 573)) → (∀ T, 0 ≤ T → T < su → csP f T (pcI T) (C2 T)) → (Ml31 (e + 1) = some (sArr G 256 C2)) → (∀ x : Nat, ¬ (x = e + 1) → Ml31 x = M4 x) → sV G b_ Ml31 N s_ H locs → lv_has ls 5 [(0, .ref e), (1, .ref t), (2, .int (sI ((p2 (f 573)) - 1))), (3, .int (sI su))] → W p_ l_ e_ rmX2_lookAt s_ m_ args_ below_ meth_ c_ H locs 0 0 Q (F0 m_ 31 ls []) := by
    intro fuel
    induction fuel with
    | zero => intro su C2 Ml31 H locs ls hmu; exact absurd hmu (Nat.not_lt_zero _)
    | succ fuel ih31 =>
      intro su C2 Ml31 H locs ls hmu31 hv31_0 hC hm31_0 hfr31 hV hl
      refine lv_iload_n hx_ hb_ dX2_lookAt_31 rfl (lv_at hl 3 rfl) ?_
      refine lv_iload_n hx_ hb_ dX2_lookAt_32 rfl (lv_at hl 2 rfl) ?_
      refine sb_gt (tgt := 54) S dX2_lookAt_33 (by decide) (by omega) (fun c6 => ?_) (fun c6 => ?_)
      · have hcf := cs_f (f := f) (c := C2 (p2 (f 573) - 1)) (by omega) (by have h9 := hC (p2 (f 573) - 1) (by omega) (by omega); rw [pc_full (by omega)] at h9; exact h9)
        have hc3 := hcf.2.2.1
        refine lv_aload_n hx_ hb_ dX2_lookAt_54 rfl (lv_at hl 0 rfl) ?_
        refine lv_aload_n hx_ hb_ dX2_lookAt_55 rfl (lv_at hl 0 rfl) ?_
        have hc7 : Ml31 e = some (sObj 1 [.ref (e + 1), .ref (e + 2), .int (sI (f 573)), .int (sI pl)]) := ((hfr31 e (by omega)).trans ((congrFun hM4 e).trans (va_up_ne M1 _ (by omega)))).trans hc2
        refine sc_get (ci := 1) (C := RX2) (T := TX2) (n := 4) S hK hV inX2_ hc7 rfl 2 (by decide) (S.2.2.2.2 _ (List.mem_of_getElem? (i := 5) rfl)) rfl rfl dX2_lookAt_56 ?_
        refine lv_aload_n hx_ hb_ dX2_lookAt_59 rfl (lv_at hl 0 rfl) ?_
        refine sc_get (ci := 1) (C := RX2) (T := TX2) (n := 4) S hK hV inX2_ hc7 rfl 0 (by decide) (S.2.2.2.2 _ (List.mem_of_getElem? (i := 6) rfl)) rfl rfl dX2_lookAt_60 ?_
        refine lv_iload_n hx_ hb_ dX2_lookAt_63 rfl (lv_at hl 2 rfl) ?_
        refine sc_iald S hK hV hm31_0 (by omega) dX2_lookAt_64 ?_
        refine si_ldc S (43046721) (S.2.2.2.2 _ (List.mem_of_getElem? (i := 7) rfl)) (by decide) dX2_lookAt_65 ?_
        refine si_divN S dX2_lookAt_67 (by omega) ?_
        refine si_sub S dX2_lookAt_68 ?_
        rw [hcf.1]
        refine sc_put (ci := 1) (C := RX2) (T := TX2) (n := 4) S hK hV inX2_ tyX2_ok nmX2 hc7 rfl 3 (by decide) (S.2.2.2.2 _ (List.mem_of_getElem? (i := 8) rfl)) rfl rfl rfl rfl (Nat.le_of_ble_eq_true rfl) dX2_lookAt_69 (fs1 := [.ref (e + 1), .ref (e + 2), .int (sI (f 573)), .int (sI (plnM f))]) rfl (fun M8 H locs hM8 hV => ?_)
        have hc9 : M8 e = some (sObj 1 [.ref (e + 1), .ref (e + 2), .int (sI (f 573)), .int (sI (plnM f))]) := (congrFun hM8 e).trans (va_up_self Ml31 e _)
        refine si_const S dX2_lookAt_72 ?_
        refine lv_istore_n (lv' := [(3, .int (sI 0)), (0, .ref e), (1, .ref t), (2, .int (sI ((p2 (f 573)) - 1)))]) hx_ hb_ dX2_lookAt_73 rfl hl (by decide) rfl (fun ls hl => ?_)
        have L74 : ∀ (fuel : Nat) (o : Int) (g2 : Int → Int) (Ml74 : sM) (H : Heap) (locs : List Loc) (ls : Array Slot), ((f 573 - o).toNat) < fuel → (0 ≤ o ∧ o ≤ f 573) → (∀ q, 0 ≤ q → q < o → g2 q = if plnB f q = 8 then -1 else plnB f q) → (Ml74 (e + 2) = some (sArr G 8 g2)) → (∀ x : Nat, ¬ (x = e + 2) → Ml74 x = M8 x) → sV G b_ Ml74 N s_ H locs → lv_has ls 5 [(0, .ref e), (2, .int (sI ((p2 (f 573)) - 1))), (3, .int (sI o))] → W p_ l_ e_ rmX2_lookAt s_ m_ args_ below_ meth_ c_ H locs 0 0 Q (F0 m_ 74 ls []) := by
          intro fuel
          induction fuel with
          | zero => intro o g2 Ml74 H locs ls hmu; exact absurd hmu (Nat.not_lt_zero _)
          | succ fuel ih74 =>
            intro o g2 Ml74 H locs ls hmu74 hv74_0 hg2 hm74_0 hfr74 hV hl
            refine lv_iload_n hx_ hb_ dX2_lookAt_74 rfl (lv_at hl 2 rfl) ?_
            refine lv_aload_n hx_ hb_ dX2_lookAt_75 rfl (lv_at hl 0 rfl) ?_
            have hc10 : Ml74 e = some (sObj 1 [.ref (e + 1), .ref (e + 2), .int (sI (f 573)), .int (sI (plnM f))]) := (hfr74 e (by omega)).trans hc9
            refine sc_get (ci := 1) (C := RX2) (T := TX2) (n := 4) S hK hV inX2_ hc10 rfl 2 (by decide) (S.2.2.2.2 _ (List.mem_of_getElem? (i := 5) rfl)) rfl rfl dX2_lookAt_76 ?_
            refine sb_ge (tgt := 126) S dX2_lookAt_79 (by decide) (by omega) (fun c11 => ?_) (fun c11 => ?_)
            · have hc12 : Ml74 (e + 1) = some (sArr G 256 C2) := ((hfr74 (e + 1) (by omega)).trans ((congrFun hM8 (e + 1)).trans (va_up_ne Ml31 _ (by omega)))).trans hm31_0
              exact sr_v E hQ dX2_lookAt_126 ⟨Nat.le_of_ble_eq_true rfl, Nat.le_of_ble_eq_true rfl⟩ hV (⟨C2, g2, rfl, hc10, hc12, hm74_0, fun x q0 q1 q2 => ((((hfr74 x (by omega)).trans ((congrFun hM8 x).trans (va_up_ne Ml31 _ (by omega)))).trans (hfr31 x (by omega))).trans ((congrFun hM4 x).trans (va_up_ne M1 _ (by omega)))).trans ((congrFun hM1 x).trans (va_up_ne M _ (by omega))), fun q a b => hg2 q a (by omega), hcf.2.2.2⟩)
            · refine lv_aload_n hx_ hb_ dX2_lookAt_82 rfl (lv_at hl 0 rfl) ?_
              refine sc_get (ci := 1) (C := RX2) (T := TX2) (n := 4) S hK hV inX2_ hc10 rfl 0 (by decide) (S.2.2.2.2 _ (List.mem_of_getElem? (i := 6) rfl)) rfl rfl dX2_lookAt_83 ?_
              refine lv_iload_n hx_ hb_ dX2_lookAt_86 rfl (lv_at hl 1 rfl) ?_
              have hc13 : Ml74 (e + 1) = some (sArr G 256 C2) := ((hfr74 (e + 1) (by omega)).trans ((congrFun hM8 (e + 1)).trans (va_up_ne Ml31 _ (by omega)))).trans hm31_0
              refine sc_iald S hK hV hc13 (by omega) dX2_lookAt_87 ?_
              refine si_ldc S (43046721) (S.2.2.2.2 _ (List.mem_of_getElem? (i := 7) rfl)) (by decide) dX2_lookAt_88 ?_
              refine si_remN S dX2_lookAt_90 (by omega) ?_
              refine lv_iload_n hx_ hb_ dX2_lookAt_91 rfl (lv_at hl 2 rfl) ?_
              refine sk_SP E hV (As := [.int (sI o)]) (rest := [.int (sI ((C2 ((p2 (f 573)) - 1)) % 43046721))]) (kX2_digitOf l_ G b_ Ml74 N o (by omega)) (va_cwS 1 S.2.2.2.2 gX2_lookAt_X2_digitOf rfl rfl rfl (by decide +kernel) ⟨Nat.le_of_ble_eq_true rfl, Nat.le_of_ble_eq_true rfl⟩) rfl rfl hl.1 (Nat.le_of_ble_eq_true rfl) dX2_lookAt_92 (c1 := 0) (s1 := 0) ⟨⟨rfl, rfl⟩, by decide, by decide⟩ (fun H locs hV => ?_)
              have hw1 := w9_p o
              have hw2 := w9_r (o := o) (by omega)
              have hdv : 0 ≤ C2 (p2 (f 573) - 1) % 43046721 / w9 o ∧ C2 (p2 (f 573) - 1) % 43046721 / w9 o ≤ C2 (p2 (f 573) - 1) % 43046721 := ⟨Int.ediv_nonneg (by omega) (by omega), Int.ediv_le_self _ (by omega)⟩
              have hbr := (hcf.2.2.2.1 o (by omega) (by omega)).1
              refine si_divN S dX2_lookAt_95 (by omega) ?_
              refine si_bipush S dX2_lookAt_96 (by decide) ?_
              refine si_remN S dX2_lookAt_98 (by omega) ?_
              rw [hcf.2.1 o (by omega) (by omega)]
              refine lv_istore (lv' := [(4, .int (sI (plnB f o))), (0, .ref e), (2, .int (sI ((p2 (f 573)) - 1))), (3, .int (sI o))]) hx_ hb_ dX2_lookAt_99 hl (by decide) rfl (fun ls hl => ?_)
              refine lv_aload_n hx_ hb_ dX2_lookAt_101 rfl (lv_at hl 1 rfl) ?_
              refine sc_get (ci := 1) (C := RX2) (T := TX2) (n := 4) S hK hV inX2_ hc10 rfl 1 (by decide) (S.2.2.2.2 _ (List.mem_of_getElem? (i := 9) rfl)) rfl rfl dX2_lookAt_102 ?_
              refine lv_iload_n hx_ hb_ dX2_lookAt_105 rfl (lv_at hl 3 rfl) ?_
              refine lv_iload hx_ hb_ dX2_lookAt_106 (lv_at hl 0 rfl) ?_
              refine si_bipush S dX2_lookAt_108 (by decide) ?_
              refine sb_ne (tgt := 117) S dX2_lookAt_110 (by decide) (by omega) (fun c14 => ?_) (fun c14 => ?_)
              · refine lv_iload hx_ hb_ dX2_lookAt_117 (lv_at hl 0 rfl) ?_
                refine sc_iast S hK hV hm74_0 (by omega) dX2_lookAt_119 (fun M15 H locs hM15 hV => ?_)
                have hc16 : M15 (e + 2) = some (sArr G 8 (iup g2 o (plnB f o))) := (congrFun hM15 (e + 2)).trans (va_up_self Ml74 (e + 2) _)
                refine si_inc (lv' := [(3, .int (sI (o + 1))), (4, .int (sI (plnB f o))), (0, .ref e), (2, .int (sI ((p2 (f 573)) - 1)))]) S dX2_lookAt_120 hl (k := 3) rfl (by decide) rfl (fun ls hl => ?_)
                refine lv_goto (tgt := 74) hx_ hb_ dX2_lookAt_123 (by decide) ?_
                exact ih74 (o + 1) (iup g2 o (plnB f o)) M15 _ _ _ (by omega) (by omega) (fun q a b => by unfold iup; by_cases e9 : q = o; exact (by rw [if_pos e9, e9, if_neg (by omega)]); exact (by rw [if_neg e9]; exact hg2 q a (by omega))) hc16 (fun x q0 => ((congrFun hM15 x).trans (va_up_ne Ml74 _ (by omega))).trans (hfr74 x (by omega))) hV (lv_sub hl [2, 3, 0] rfl)
              · refine si_const S dX2_lookAt_113 ?_
                refine lv_goto (tgt := 119) hx_ hb_ dX2_lookAt_114 (by decide) ?_
                refine sc_iast S hK hV hm74_0 (by omega) dX2_lookAt_119 (fun M17 H locs hM17 hV => ?_)
                have hc18 : M17 (e + 2) = some (sArr G 8 (iup g2 o (-1))) := (congrFun hM17 (e + 2)).trans (va_up_self Ml74 (e + 2) _)
                refine si_inc (lv' := [(3, .int (sI (o + 1))), (4, .int (sI (plnB f o))), (0, .ref e), (2, .int (sI ((p2 (f 573)) - 1)))]) S dX2_lookAt_120 hl (k := 3) rfl (by decide) rfl (fun ls hl => ?_)
                refine lv_goto (tgt := 74) hx_ hb_ dX2_lookAt_123 (by decide) ?_
                exact ih74 (o + 1) (iup g2 o (-1)) M17 _ _ _ (by omega) (by omega) (fun q a b => by unfold iup; by_cases e9 : q = o; exact (by rw [if_pos e9, e9, if_pos (by omega)]); exact (by rw [if_neg e9]; exact hg2 q a (by omega))) hc18 (fun x q0 => ((congrFun hM17 x).trans (va_up_ne Ml74 _ (by omega))).trans (hfr74 x (by omega))) hV (lv_sub hl [2, 3, 0] rfl)
        have hc19 : M8 (e + 2) = some (sArr G 8 gv) := (((((congrFun hM8 (e + 2)).trans (va_up_ne Ml31 _ (by omega))).trans (hfr31 (e + 2) (by omega))).trans ((congrFun hM4 (e + 2)).trans (va_up_ne M1 _ (by omega)))).trans ((congrFun hM1 (e + 2)).trans (va_up_ne M _ (by omega)))).trans he2
        exact L74 _ 0 gv M8 _ _ _ (Nat.lt_succ_self _) (by omega) (fun q a b => by omega) hc19 (fun x q0 => rfl) hV (lv_sub hl [1, 3, 0] rfl)
      · refine lv_aload_n hx_ hb_ dX2_lookAt_36 rfl (lv_at hl 0 rfl) ?_
        have hc20 : Ml31 e = some (sObj 1 [.ref (e + 1), .ref (e + 2), .int (sI (f 573)), .int (sI pl)]) := ((hfr31 e (by omega)).trans ((congrFun hM4 e).trans (va_up_ne M1 _ (by omega)))).trans hc2
        refine sc_get (ci := 1) (C := RX2) (T := TX2) (n := 4) S hK hV inX2_ hc20 rfl 0 (by decide) (S.2.2.2.2 _ (List.mem_of_getElem? (i := 6) rfl)) rfl rfl dX2_lookAt_37 ?_
        refine lv_iload_n hx_ hb_ dX2_lookAt_40 rfl (lv_at hl 3 rfl) ?_
        refine lv_aload_n hx_ hb_ dX2_lookAt_41 rfl (lv_at hl 0 rfl) ?_
        refine lv_aload_n hx_ hb_ dX2_lookAt_42 rfl (lv_at hl 1 rfl) ?_
        refine lv_iload_n hx_ hb_ dX2_lookAt_43 rfl (lv_at hl 3 rfl) ?_
        have hc21 : stK G Ml31 t 3 (f 573) 24 (tvO f) := ht.fr (fun x q8 q9 => ((hfr31 x (by omega)).trans ((congrFun hM4 x).trans (va_up_ne M1 _ (by omega)))).trans ((congrFun hM1 x).trans (va_up_ne M _ (by omega))))
        refine sk_Vi E hV (As := [.ref t, .int (sI su)]) (rest := [.int (sI su), .ref (e + 1)]) (kX2_leastCost l_ G b_ Ml31 N e t pl C2 f su hc20 hm31_0 hc21 (by omega) (by omega) (hC)) (cwV 2 S.2.2.2.2 gX2_lookAt_X2_leastCost rfl rfl rfl (by decide +kernel) ⟨Nat.le_of_ble_eq_true rfl, Nat.le_of_ble_eq_true rfl⟩) (ci := 1) hc20 rfl rfl rfl hl.1 (Nat.le_of_ble_eq_true rfl) dX2_lookAt_44 (c1 := 0) (s1 := 0) ⟨⟨rfl, rfl⟩, by decide, by decide⟩ (fun z25 M22 N23 H locs hp24 hV => ?_)
        obtain ⟨hN26, hf27, hz28⟩ := hp24
        rw [hN26] at hV
        have hc29 : M22 (e + 1) = some (sArr G 256 C2) := (hf27 (e + 1) ).trans hm31_0
        refine sc_iast S hK hV hc29 (by omega) dX2_lookAt_47 (fun M30 H locs hM30 hV => ?_)
        have hc31 : M30 (e + 1) = some (sArr G 256 (iup C2 su z25)) := (congrFun hM30 (e + 1)).trans (va_up_self M22 (e + 1) _)
        refine si_inc (lv' := [(3, .int (sI (su + 1))), (0, .ref e), (1, .ref t), (2, .int (sI ((p2 (f 573)) - 1)))]) S dX2_lookAt_48 hl (k := 3) rfl (by decide) rfl (fun ls hl => ?_)
        refine lv_goto (tgt := 31) hx_ hb_ dX2_lookAt_51 (by decide) ?_
        exact ih31 (su + 1) (iup C2 su z25) M30 _ _ _ (by omega) (by omega) (fun T a b => by unfold iup; by_cases e9 : T = su; exact (by rw [if_pos e9, e9]; exact hz28); exact (by rw [if_neg e9]; exact hC T a (by omega))) hc31 (fun x q0 => (((congrFun hM30 x).trans (va_up_ne M22 _ (by omega))).trans (hf27 x )).trans (hfr31 x (by omega))) hV (lv_sub hl [1, 2, 3, 0] rfl)
  exact L31 _ 1 (iup C 0 0) M4 _ _ _ (Nat.lt_succ_self _) (by omega) (fun T a b => by rw [show T = 0 by omega, pc_0, show iup C 0 0 0 = 0 from if_pos rfl]; exact cs_0 f) hc5 (fun x q0 => rfl) hV (lv_sub hl [2, 3, 1, 0] rfl)

abbrev rmX2_inPlan : Room := { frames := 1, cells := 0, slots := 0, locals := 40 }
set_option maxHeartbeats 4000000 in
set_option maxRecDepth 100000 in
theorem kX2_inPlan (l_ : Launch) (G : sG) (b_ : Nat) (M : sM) (N : Nat) (e : Nat) (c0 pl : Int) (he0 : M e = some (sObj 1 [.ref (e + 1), .ref (e + 2), .int (sI c0), .int (sI pl)])) : cP l_ yX2_inPlan wsX2_inPlan rmX2_inPlan G b_ M N [.ref e] pl := by
  refine sE.ofI (cc := cX2_inPlan) (nL := 1) (ret := (some .int)) (by decide) rfl (Nat.le_of_ble_eq_true rfl) ?_
  intro p_ e_ s_ m_ args_ below_ meth_ c_ ls Q hQ E hl
  have E : sE p_ l_ e_ rmX2_inPlan s_ m_ args_ below_ meth_ c_ cX2_inPlan 1 wsX2_inPlan RX2 "inPlan" (some .int) G b_ M N := E
  have S := E.1
  have hx_ := S.1
  have hb_ := S.2.1
  have hK := E.2.2.2.2.1
  have hV := E.2.2.2.2.2.2
  have hl : lv_has ls 1 [(0, .ref e)] := hl
  have inX2_ : ∀ w ∈ wsX20, w ∈ wsX2_inPlan := fun _ h => List.mem_cons_of_mem _ (List.mem_append_right _ h)
  refine lv_aload_n hx_ hb_ dX2_inPlan_0 rfl (lv_at hl 0 rfl) ?_
  refine sc_get (ci := 1) (C := RX2) (T := TX2) (n := 4) S hK hV inX2_ he0 rfl 3 (by decide) (S.2.2.2.2 _ (List.mem_of_getElem? (i := 1) rfl)) rfl rfl dX2_inPlan_1 ?_
  exact sr_i E hQ dX2_inPlan_4 ⟨Nat.le_of_ble_eq_true rfl, Nat.le_of_ble_eq_true rfl⟩ hV (⟨rfl, rfl, rfl⟩)

abbrev rmX2_giverOf : Room := { frames := 1, cells := 0, slots := 0, locals := 40 }
set_option maxHeartbeats 4000000 in
set_option maxRecDepth 100000 in
theorem kX2_giverOf (l_ : Launch) (G : sG) (b_ : Nat) (M : sM) (N : Nat) (e : Nat) (c0 pl : Int) (gv : sF) (o : Int) (he0 : M e = some (sObj 1 [.ref (e + 1), .ref (e + 2), .int (sI c0), .int (sI pl)])) (he2 : M (e + 2) = some (sArr G 8 gv)) (ho : 0 ≤ o ∧ o < c0 ∧ c0 ≤ 8) : cP l_ yX2_giverOf wsX2_giverOf rmX2_giverOf G b_ M N [.ref e, .int (sI o)] (gv o) := by
  refine sE.ofI (cc := cX2_giverOf) (nL := 2) (ret := (some .int)) (by decide) rfl (Nat.le_of_ble_eq_true rfl) ?_
  intro p_ e_ s_ m_ args_ below_ meth_ c_ ls Q hQ E hl
  have E : sE p_ l_ e_ rmX2_giverOf s_ m_ args_ below_ meth_ c_ cX2_giverOf 2 wsX2_giverOf RX2 "giverOf" (some .int) G b_ M N := E
  have S := E.1
  have hx_ := S.1
  have hb_ := S.2.1
  have hK := E.2.2.2.2.1
  have hV := E.2.2.2.2.2.2
  have hl : lv_has ls 2 [(0, .ref e), (1, .int (sI o))] := hl
  have inX2_ : ∀ w ∈ wsX20, w ∈ wsX2_giverOf := fun _ h => List.mem_cons_of_mem _ (List.mem_append_right _ h)
  refine lv_iload_n hx_ hb_ dX2_giverOf_0 rfl (lv_at hl 1 rfl) ?_
  refine sz_lt (tgt := 21) S dX2_giverOf_1 (by decide) (by omega) (fun c1 => absurd c1 (by omega)) (fun _ => ?_)
  refine lv_iload_n hx_ hb_ dX2_giverOf_4 rfl (lv_at hl 1 rfl) ?_
  refine lv_aload_n hx_ hb_ dX2_giverOf_5 rfl (lv_at hl 0 rfl) ?_
  refine sc_get (ci := 1) (C := RX2) (T := TX2) (n := 4) S hK hV inX2_ he0 rfl 2 (by decide) (S.2.2.2.2 _ (List.mem_of_getElem? (i := 1) rfl)) rfl rfl dX2_giverOf_6 ?_
  refine sb_ge (tgt := 21) S dX2_giverOf_9 (by decide) (by omega) (fun c2 => absurd c2 (by omega)) (fun _ => ?_)
  refine lv_aload_n hx_ hb_ dX2_giverOf_12 rfl (lv_at hl 0 rfl) ?_
  refine sc_get (ci := 1) (C := RX2) (T := TX2) (n := 4) S hK hV inX2_ he0 rfl 1 (by decide) (S.2.2.2.2 _ (List.mem_of_getElem? (i := 2) rfl)) rfl rfl dX2_giverOf_13 ?_
  refine lv_iload_n hx_ hb_ dX2_giverOf_16 rfl (lv_at hl 1 rfl) ?_
  refine sc_iald S hK hV he2 (by omega) dX2_giverOf_17 ?_
  refine lv_goto (tgt := 22) hx_ hb_ dX2_giverOf_18 (by decide) ?_
  exact sr_i E hQ dX2_giverOf_22 ⟨Nat.le_of_ble_eq_true rfl, Nat.le_of_ble_eq_true rfl⟩ hV (⟨rfl, rfl, rfl⟩)

abbrev rmX2_countRings : Room := { frames := 2, cells := 0, slots := 0, locals := 61 }
set_option maxHeartbeats 4000000 in
set_option maxRecDepth 100000 in
theorem kX2_countRings (l_ : Launch) (G : sG) (b_ : Nat) (M : sM) (N : Nat) (e : Nat) (pl : Int) (f gv : sF) (he0 : M e = some (sObj 1 [.ref (e + 1), .ref (e + 2), .int (sI (f 573)), .int (sI pl)])) (he2 : M (e + 2) = some (sArr G 8 gv)) (hok : sOk f) (hg : gvP f gv) (hop : optP f (plnM f) (plnB f)) : cP l_ yX2_countRings wsX2_countRings rmX2_countRings G b_ M N [.ref e] (rgI f) := by
  refine sE.ofI (cc := cX2_countRings) (nL := 6) (ret := (some .int)) (by decide) rfl (Nat.le_of_ble_eq_true rfl) ?_
  intro p_ e_ s_ m_ args_ below_ meth_ c_ ls Q hQ E hl
  have E : sE p_ l_ e_ rmX2_countRings s_ m_ args_ below_ meth_ c_ cX2_countRings 6 wsX2_countRings RX2 "countRings" (some .int) G b_ M N := E
  have S := E.1
  have hx_ := S.1
  have hb_ := S.2.1
  have hK := E.2.2.2.2.1
  have hV := E.2.2.2.2.2.2
  have hl : lv_has ls 6 [(0, .ref e)] := hl
  have inX2_ : ∀ w ∈ wsX20, w ∈ wsX2_countRings := fun _ h => List.mem_cons_of_mem _ (List.mem_append_right _ h)
  have kn0 := sOk_N hok
  have hag := hop.1
  have hpm : prmP f (plnB f) := by have h1 := hop.2.1; have h2 := hop.2.2.1; exact Classical.not_not.mp fun q => by unfold plI at h1; rw [pif_f q] at h1; omega
  refine si_const S dX2_countRings_0 ?_
  refine lv_istore_n (lv' := [(1, .int (sI 0)), (0, .ref e)]) hx_ hb_ dX2_countRings_1 rfl hl (by decide) rfl (fun ls hl => ?_)
  refine si_const S dX2_countRings_2 ?_
  refine lv_istore_n (lv' := [(2, .int (sI 0)), (1, .int (sI 0)), (0, .ref e)]) hx_ hb_ dX2_countRings_3 rfl hl (by decide) rfl (fun ls hl => ?_)
  refine si_const S dX2_countRings_4 ?_
  refine lv_istore_n (lv' := [(3, .int (sI 0)), (2, .int (sI 0)), (1, .int (sI 0)), (0, .ref e)]) hx_ hb_ dX2_countRings_5 rfl hl (by decide) rfl (fun ls hl => ?_)
  have L6 : ∀ (fuel : Nat) (c : Int) (v : Int) (k : Int)  (H : Heap) (locs : List Loc) (ls : Array Slot), ((f 573 - k).toNat) < fuel → (0 ≤ k ∧ k ≤ f 573) → (0 ≤ v ∧ v ≤ 2147483647) → (∀ x, 0 ≤ x → (tb v x ↔ seP (plnB f) k x)) → (c = isum k (rgT (plnB f))) → sV G b_ M N s_ H locs → lv_has ls 6 [(0, .ref e), (1, .int (sI c)), (2, .int (sI v)), (3, .int (sI k))] → W p_ l_ e_ rmX2_countRings s_ m_ args_ below_ meth_ c_ H locs 0 0 Q (F0 m_ 6 ls []) := by
    intro fuel
    induction fuel with
    | zero => intro c v k H locs ls hmu; exact absurd hmu (Nat.not_lt_zero _)
    | succ fuel ih6 =>
      intro c v k H locs ls hmu6 hv6_0 hsr hse hc  hV hl
      refine lv_iload_n hx_ hb_ dX2_countRings_6 rfl (lv_at hl 3 rfl) ?_
      refine lv_aload_n hx_ hb_ dX2_countRings_7 rfl (lv_at hl 0 rfl) ?_
      refine sc_get (ci := 1) (C := RX2) (T := TX2) (n := 4) S hK hV inX2_ he0 rfl 2 (by decide) (S.2.2.2.2 _ (List.mem_of_getElem? (i := 1) rfl)) rfl rfl dX2_countRings_8 ?_
      refine sb_ge (tgt := 82) S dX2_countRings_11 (by decide) (by omega) (fun c1 => ?_) (fun c1 => ?_)
      · refine lv_iload_n hx_ hb_ dX2_countRings_82 rfl (lv_at hl 1 rfl) ?_
        exact sr_i E hQ dX2_countRings_83 ⟨Nat.le_of_ble_eq_true rfl, Nat.le_of_ble_eq_true rfl⟩ hV (⟨by unfold rgI; rw [hc, show k = f 573 by omega], rfl, rfl⟩)
      · refine lv_aload_n hx_ hb_ dX2_countRings_14 rfl (lv_at hl 0 rfl) ?_
        refine lv_iload_n hx_ hb_ dX2_countRings_15 rfl (lv_at hl 3 rfl) ?_
        refine sk_VP E hV (As := [.int (sI k)]) (rest := []) (kX2_giverOf l_ G b_ M N e (f 573) pl gv k he0 he2 (by omega)) (cwV 1 S.2.2.2.2 gX2_countRings_X2_giverOf rfl rfl rfl (by decide +kernel) ⟨Nat.le_of_ble_eq_true rfl, Nat.le_of_ble_eq_true rfl⟩) (ci := 1) he0 rfl rfl rfl hl.1 (Nat.le_of_ble_eq_true rfl) dX2_countRings_16 (c1 := 0) (s1 := 0) ⟨⟨rfl, rfl⟩, by decide, by decide⟩ (fun H locs hV => ?_)
        have hgk := hg k (by omega) (by omega)
        have hbr := (hag k (by omega) (by omega)).1
        have hgk2 : gv k = -1 ↔ plnB f k = 8 := by rw [hgk]; split <;> omega
        have hgk3 : -1 ≤ gv k ∧ gv k ≤ 8 := by rw [hgk]; split <;> omega
        refine si_const S dX2_countRings_19 ?_
        refine sb_eq (tgt := 76) S dX2_countRings_20 (by decide) (by omega) (fun c2 => ?_) (fun c2 => ?_)
        · refine si_inc (lv' := [(3, .int (sI (k + 1))), (0, .ref e), (1, .int (sI c)), (2, .int (sI v))]) S dX2_countRings_76 hl (k := 3) rfl (by decide) rfl (fun ls hl => ?_)
          refine lv_goto (tgt := 6) hx_ hb_ dX2_countRings_79 (by decide) ?_
          exact ih6 c v (k + 1) _ _ _ (by omega) (by omega) (by omega) (fun x a => (hse x a).trans (se_s0 (by omega) (Or.inl (by omega)) x)) (by have e := isum_s (rgT (plnB f)) (show 0 ≤ k by omega); rw [e, hc]; unfold rgT; rw [pif_f (fun q => q.1 (by omega))]; omega) hV (lv_sub hl [1, 2, 3, 0] rfl)
        · refine lv_iload_n hx_ hb_ dX2_countRings_23 rfl (lv_at hl 2 rfl) ?_
          refine lv_iload_n hx_ hb_ dX2_countRings_24 rfl (lv_at hl 3 rfl) ?_
          refine si_shr S dX2_countRings_25 ?_
          refine si_const S dX2_countRings_26 ?_
          refine si_and S dX2_countRings_27 ?_
          rw [ibit (m := v) (k := k) (by omega) (by omega)]
          refine sq_ne (tgt := 76) S dX2_countRings_28 (by decide) (fun h28 => ?_) (fun h28 => ?_)
          · refine si_inc (lv' := [(3, .int (sI (k + 1))), (0, .ref e), (1, .int (sI c)), (2, .int (sI v))]) S dX2_countRings_76 hl (k := 3) rfl (by decide) rfl (fun ls hl => ?_)
            refine lv_goto (tgt := 6) hx_ hb_ dX2_countRings_79 (by decide) ?_
            exact ih6 c v (k + 1) _ _ _ (by omega) (by omega) (by omega) (fun x a => (hse x a).trans (se_s0 (by omega) (Or.inr ((hse k (by omega)).mp h28)) x)) (by have e := isum_s (rgT (plnB f)) (show 0 ≤ k by omega); rw [e, hc]; unfold rgT; rw [pif_f (fun q => q.2 ((hse k (by omega)).mp h28))]; omega) hV (lv_sub hl [1, 2, 3, 0] rfl)
          · refine si_inc (lv' := [(1, .int (sI (c + 1))), (0, .ref e), (2, .int (sI v)), (3, .int (sI k))]) S dX2_countRings_31 hl (k := 1) rfl (by decide) rfl (fun ls hl => ?_)
            refine lv_iload_n hx_ hb_ dX2_countRings_34 rfl (lv_at hl 3 rfl) ?_
            refine lv_istore (lv' := [(4, .int (sI k)), (1, .int (sI (c + 1))), (0, .ref e), (2, .int (sI v)), (3, .int (sI k))]) hx_ hb_ dX2_countRings_35 hl (by decide) rfl (fun ls hl => ?_)
            refine si_const S dX2_countRings_37 ?_
            refine lv_istore (lv' := [(5, .int (sI 0)), (4, .int (sI k)), (1, .int (sI (c + 1))), (0, .ref e), (2, .int (sI v)), (3, .int (sI k))]) hx_ hb_ dX2_countRings_38 hl (by decide) rfl (fun ls hl => ?_)
            have L40 : ∀ (fuel : Nat) (w : Int) (nx : Int) (st : Int)  (H : Heap) (locs : List Loc) (ls : Array Slot), ((f 573 - st).toNat) < fuel → (0 ≤ st ∧ st ≤ f 573) → (nx = itN (plnB f) st.toNat k) → (0 ≤ w ∧ w ≤ 2147483647) → (∀ x, 0 ≤ x → (tb w x ↔ seP (plnB f) k x ∨ ∃ r : Nat, (r : Int) < st ∧ x = itN (plnB f) r k)) → sV G b_ M N s_ H locs → lv_has ls 6 [(0, .ref e), (1, .int (sI (c + 1))), (2, .int (sI w)), (3, .int (sI k)), (4, .int (sI nx)), (5, .int (sI st))] → W p_ l_ e_ rmX2_countRings s_ m_ args_ below_ meth_ c_ H locs 0 0 Q (F0 m_ 40 ls []) := by
              intro fuel
              induction fuel with
              | zero => intro w nx st H locs ls hmu; exact absurd hmu (Nat.not_lt_zero _)
              | succ fuel ih40 =>
                intro w nx st H locs ls hmu40 hst hnx hwr hS  hV hl
                have hin := it_in hag hpm (q := k) ⟨by omega, by omega, by omega⟩ st.toNat
                rw [← hnx] at hin
                have hgn := hg nx (by omega) (by omega)
                rw [if_neg hin.2.2] at hgn
                refine lv_iload hx_ hb_ dX2_countRings_40 (lv_at hl 5 rfl) ?_
                refine lv_aload_n hx_ hb_ dX2_countRings_42 rfl (lv_at hl 0 rfl) ?_
                refine sc_get (ci := 1) (C := RX2) (T := TX2) (n := 4) S hK hV inX2_ he0 rfl 2 (by decide) (S.2.2.2.2 _ (List.mem_of_getElem? (i := 1) rfl)) rfl rfl dX2_countRings_43 ?_
                refine sb_ge (tgt := 76) S dX2_countRings_46 (by decide) (by omega) (fun c3 => ?_) (fun c3 => ?_)
                · refine si_inc (lv' := [(3, .int (sI (k + 1))), (0, .ref e), (1, .int (sI (c + 1))), (2, .int (sI w)), (4, .int (sI nx)), (5, .int (sI st))]) S dX2_countRings_76 hl (k := 3) rfl (by decide) rfl (fun ls hl => ?_)
                  refine lv_goto (tgt := 6) hx_ hb_ dX2_countRings_79 (by decide) ?_
                  exact ih6 (c + 1) w (k + 1) _ _ _ (by omega) (by omega) (by omega) (fun x a => se_s1 (by omega) (by omega) st.toNat (tb w) (fun x a => by rw [hS x a]; exact ⟨fun q => q.imp id (fun ⟨r, h1, h2⟩ => ⟨r, by omega, h2⟩), fun q => q.imp id (fun ⟨r, h1, h2⟩ => ⟨r, by omega, h2⟩)⟩) (fun r => (it_in hag hpm ⟨by omega, by omega, by omega⟩ r).1) (by obtain ⟨r, h1, h2⟩ := it_pig (by omega) hag hpm (k := k) ⟨by omega, by omega, by omega⟩; rw [show st.toNat = (f 573).toNat by omega, h2]; exact (hS _ (it_in hag hpm ⟨by omega, by omega, by omega⟩ r).1).mpr (Or.inr ⟨r, by omega, rfl⟩)) x a) (by have e := isum_s (rgT (plnB f)) (show 0 ≤ k by omega); rw [e, hc]; unfold rgT; rw [pif_t ⟨by omega, fun q => h28 ((hse k (by omega)).mpr q)⟩]) hV (lv_sub hl [1, 2, 3, 0] rfl)
                · refine lv_iload hx_ hb_ dX2_countRings_49 (lv_at hl 4 rfl) ?_
                  refine si_const S dX2_countRings_51 ?_
                  refine sb_eq (tgt := 76) S dX2_countRings_52 (by decide) (by omega) (fun c4 => absurd c4 (by omega)) (fun _ => ?_)
                  refine lv_iload_n hx_ hb_ dX2_countRings_55 rfl (lv_at hl 2 rfl) ?_
                  refine si_const S dX2_countRings_56 ?_
                  refine lv_iload hx_ hb_ dX2_countRings_57 (lv_at hl 4 rfl) ?_
                  refine si_shl S dX2_countRings_59 ?_
                  refine si_or S dX2_countRings_60 ?_
                  refine lv_istore_n (lv' := [(2, .int (sI (ior w (ishl 1 nx)))), (0, .ref e), (1, .int (sI (c + 1))), (3, .int (sI k)), (4, .int (sI nx)), (5, .int (sI st))]) hx_ hb_ dX2_countRings_61 rfl hl (by decide) rfl (fun ls hl => ?_)
                  refine lv_aload_n hx_ hb_ dX2_countRings_62 rfl (lv_at hl 1 rfl) ?_
                  refine lv_iload hx_ hb_ dX2_countRings_63 (lv_at hl 4 rfl) ?_
                  refine sk_VP E hV (As := [.int (sI nx)]) (rest := []) (kX2_giverOf l_ G b_ M N e (f 573) pl gv nx he0 he2 (by omega)) (cwV 1 S.2.2.2.2 gX2_countRings_X2_giverOf rfl rfl rfl (by decide +kernel) ⟨Nat.le_of_ble_eq_true rfl, Nat.le_of_ble_eq_true rfl⟩) (ci := 1) he0 rfl rfl rfl hl.1 (Nat.le_of_ble_eq_true rfl) dX2_countRings_65 (c1 := 0) (s1 := 0) ⟨⟨rfl, rfl⟩, by decide, by decide⟩ (fun H locs hV => ?_)
                  rw [hgn]
                  refine lv_istore (lv' := [(4, .int (sI ((plnB f) nx))), (2, .int (sI (ior w (ishl 1 nx)))), (0, .ref e), (1, .int (sI (c + 1))), (3, .int (sI k)), (5, .int (sI st))]) hx_ hb_ dX2_countRings_68 hl (by decide) rfl (fun ls hl => ?_)
                  refine si_inc (lv' := [(5, .int (sI (st + 1))), (4, .int (sI ((plnB f) nx))), (2, .int (sI (ior w (ishl 1 nx)))), (0, .ref e), (1, .int (sI (c + 1))), (3, .int (sI k))]) S dX2_countRings_70 hl (k := 5) rfl (by decide) rfl (fun ls hl => ?_)
                  refine lv_goto (tgt := 40) hx_ hb_ dX2_countRings_73 (by decide) ?_
                  exact ih40 (ior w (ishl 1 nx)) ((plnB f) nx) (st + 1) _ _ _ (by omega) (by omega) (by rw [show (st + 1).toNat = st.toNat + 1 by omega]; show _ = (plnB f) (itN (plnB f) st.toNat k); rw [← hnx]) (ior_r31 (by omega) (ishl_r31 (by omega))) (fun x a => by rw [tb_or (by omega) (ishl_r31 (by omega)), tb_one (by omega) a, hS x a]; constructor; (rintro ((q | ⟨r, h1, h2⟩) | q); exact Or.inl q; exact Or.inr ⟨r, by omega, h2⟩; exact Or.inr ⟨st.toNat, by omega, by rw [q, hnx]⟩); (rintro (q | ⟨r, h1, h2⟩); exact Or.inl (Or.inl q); by_cases e : (r : Int) = st; exact Or.inr (by rw [h2, hnx, show r = st.toNat by omega]); exact Or.inl (Or.inr ⟨r, by omega, h2⟩))) hV (lv_sub hl [3, 4, 2, 5, 1, 0] rfl)
            exact L40 _ v k 0 _ _ _ (Nat.lt_succ_self _) (by omega) (rfl) (by omega) (fun x a => by rw [hse x a]; exact ⟨Or.inl, fun q => q.elim id (fun ⟨r, h1, h2⟩ => by omega)⟩) hV (lv_sub hl [3, 2, 4, 5, 1, 0] rfl)
  exact L6 _ 0 0 0 _ _ _ (Nat.lt_succ_self _) (by omega) (by omega) (fun x a => ⟨fun q => absurd q (tb_0 x), fun ⟨q, h1, h2, h3⟩ => by omega⟩) (rfl) hV (lv_sub hl [3, 2, 1, 0] rfl)
