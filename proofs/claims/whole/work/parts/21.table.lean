/-! A Table at t: its columns, its rows, what its cells hold. -/
/-- a row of zeros, from i on, j of them -/
def izer (g : Int → Int) (i j : Int) : Int → Int := fun k => if i ≤ k ∧ k < i + j then 0 else g k
theorem izer_0 (g : Int → Int) (i : Int) : izer g i 0 = g := by
  funext k
  unfold izer
  rw [if_neg (by omega)]
theorem izer_s (g : Int → Int) (i j : Int) (hj : 0 ≤ j) : iup (izer g i j) (i + j) 0 = izer g i (j + 1) := by
  funext k
  unfold iup izer
  by_cases h : k = i + j
  · rw [if_pos h, if_pos (by omega)]
  · rw [if_neg h]
    by_cases h2 : i ≤ k ∧ k < i + j
    · rw [if_pos h2, if_pos (by omega)]
    · rw [if_neg h2, if_neg (by omega)]
theorem mulS (r c : Int) : (r + 1) * c = r * c + c := by rw [Int.add_mul, Int.one_mul]
theorem subS (r : Int) : r + 1 - 1 = r := by omega

abbrev rmX8_init : Room := { frames := 1, cells := 1, slots := 400, locals := 40 }
set_option maxHeartbeats 4000000 in
set_option maxRecDepth 100000 in
theorem kX8_init (l_ : Launch) (G : sG) (b_ : Nat) (M : sM) (N : Nat) (t : Nat) (a c x0 x2 : Int) (n : Nat) (ht0 : M t = some (sObj 6 [.int (sI x0), .null, .int (sI x2)])) (hn : 0 ≤ a ∧ 1 ≤ c ∧ a * c = (n : Int) ∧ n ≤ 100000 ∧ a ≤ 100000 ∧ c ≤ 100000) (ht : t < N) (hr : n ≤ 400) : cV l_ yX8_init wsX8_init rmX8_init G b_ M N [.ref t, .int (sI a), .int (sI c)] (fun M1 N1 => N1 = N + 1 ∧ M1 t = some (sObj 6 [.int (sI c), .ref N, .int (sI 0)]) ∧ M1 N = some (sArr G n (fun _ => 0)) ∧ (∀ x : Nat, ¬ (x = t) → ¬ (x = N) → M1 x = M x)) := by
  refine sE.ofV (cc := cX8_init) (nL := 3) (ret := none) (by decide) rfl (Nat.le_of_ble_eq_true rfl) ?_
  intro p_ e_ s_ m_ args_ below_ meth_ c_ ls Q hQ E hl
  have E : sE p_ l_ e_ rmX8_init s_ m_ args_ below_ meth_ c_ cX8_init 3 wsX8_init RX8 "<init>" none G b_ M N := E
  have S := E.1
  have hx_ := S.1
  have hb_ := S.2.1
  have hK := E.2.2.2.2.1
  have hV := E.2.2.2.2.2.2
  have hnm := E.2.2.2.1
  have hl : lv_has ls 3 [(0, .ref t), (1, .int (sI a)), (2, .int (sI c))] := hl
  have inX8_ : ∀ w ∈ wsX80, w ∈ wsX8_init := fun _ h => List.mem_cons_of_mem _ (List.mem_append_right _ h)
  have hbN : b_ ≤ N := by have h1 := hV.1.1; have h2 := hV.2.2; omega
  refine lv_aload_n hx_ hb_ dX8_init_0 rfl (lv_at hl 0 rfl) ?_
  refine W.objInit hx_ hb_ S.2.2.2.1 (S.2.2.2.2 _ (List.mem_of_getElem? (i := 1) rfl)) (S.2.2.2.2 _ (List.mem_of_getElem? (i := 2) rfl)) (S.2.2.2.2 _ (List.mem_of_getElem? (i := 3) rfl)) rfl (by rw [S.2.2.1]; exact hl.1) rfl dX8_init_1 (Nat.le_of_ble_eq_true rfl) (Nat.le_of_ble_eq_true rfl) ?_
  refine W.eq (g2 := F0 m_ 4 ls []) rfl ?_
  refine lv_aload_n hx_ hb_ dX8_init_4 rfl (lv_at hl 0 rfl) ?_
  refine si_const S dX8_init_5 ?_
  refine sc_put (ci := 6) (C := RX8) (T := TX8) (n := 3) S hK hV inX8_ tyX8_ok nmX8 ht0 rfl 2 (by decide) (S.2.2.2.2 _ (List.mem_of_getElem? (i := 4) rfl)) rfl rfl rfl rfl (Nat.le_of_ble_eq_true rfl) dX8_init_6 (fs1 := [.int (sI x0), .null, .int (sI 0)]) rfl (fun M1 H locs hM1 hV => ?_)
  have hc2 : M1 t = some (sObj 6 [.int (sI x0), .null, .int (sI 0)]) := (congrFun hM1 t).trans (va_up_self M t _)
  refine lv_aload_n hx_ hb_ dX8_init_9 rfl (lv_at hl 0 rfl) ?_
  refine si_const S dX8_init_10 ?_
  refine lv_iload_n hx_ hb_ dX8_init_11 rfl (lv_at hl 2 rfl) ?_
  refine si_max S hl.1 (S.2.2.2.2 _ (List.mem_of_getElem? (i := 5) rfl)) (S.2.2.2.2 _ (List.mem_of_getElem? (i := 6) rfl)) (S.2.2.2.2 _ (List.mem_of_getElem? (i := 7) rfl)) (S.2.2.2.2 _ (List.mem_of_getElem? (i := 8) rfl)) ⟨by decide, Nat.le_of_ble_eq_true rfl, by decide, by decide⟩ (by omega) dX8_init_12 ?_
  rw [show max (1 : Int) c = c by omega]
  refine sc_putF (ci := 6) (C := RX8) (T := TX8) (n := 3) S hK hV inX8_ tyX8_ok nmX8 hc2 rfl 0 (by decide) (S.2.2.2.2 _ (List.mem_of_getElem? (i := 9) rfl)) rfl rfl hnm rfl rfl rfl (Nat.le_of_ble_eq_true rfl) dX8_init_15 (fs1 := [.int (sI c), .null, .int (sI 0)]) rfl (fun M3 H locs hM3 hV => ?_)
  have hc4 : M3 t = some (sObj 6 [.int (sI c), .null, .int (sI 0)]) := (congrFun hM3 t).trans (va_up_self M1 t _)
  refine lv_aload_n hx_ hb_ dX8_init_18 rfl (lv_at hl 0 rfl) ?_
  refine si_const S dX8_init_19 ?_
  refine lv_iload_n hx_ hb_ dX8_init_20 rfl (lv_at hl 1 rfl) ?_
  refine si_max S hl.1 (S.2.2.2.2 _ (List.mem_of_getElem? (i := 5) rfl)) (S.2.2.2.2 _ (List.mem_of_getElem? (i := 6) rfl)) (S.2.2.2.2 _ (List.mem_of_getElem? (i := 7) rfl)) (S.2.2.2.2 _ (List.mem_of_getElem? (i := 8) rfl)) ⟨by decide, Nat.le_of_ble_eq_true rfl, by decide, by decide⟩ (by omega) dX8_init_21 ?_
  refine si_const S dX8_init_24 ?_
  refine lv_iload_n hx_ hb_ dX8_init_25 rfl (lv_at hl 2 rfl) ?_
  refine si_max S hl.1 (S.2.2.2.2 _ (List.mem_of_getElem? (i := 5) rfl)) (S.2.2.2.2 _ (List.mem_of_getElem? (i := 6) rfl)) (S.2.2.2.2 _ (List.mem_of_getElem? (i := 7) rfl)) (S.2.2.2.2 _ (List.mem_of_getElem? (i := 8) rfl)) ⟨by decide, Nat.le_of_ble_eq_true rfl, by decide, by decide⟩ (by omega) dX8_init_26 ?_
  refine si_mul S dX8_init_29 ?_
  rw [show max (0 : Int) a * max 1 c = (n : Int) by rw [show max (0 : Int) a = a by omega, show max (1 : Int) c = c by omega]; exact hn.2.2.1]
  refine sc_newa S hK hV (S.2.2.2.2 _ (List.mem_of_getElem? (i := 10) rfl)) (N0 := n) ⟨rfl, by omega⟩ ⟨by decide, by show 0 + n ≤ 400; omega⟩ dX8_init_30 (fun M5 H locs hM5 hV => ?_)
  have hc6 : M5 N = some (sArr G n (fun _ => 0)) := (congrFun hM5 N).trans (va_up_self M3 N _)
  have hc7 : M5 t = some (sObj 6 [.int (sI c), .null, .int (sI 0)]) := ((congrFun hM5 t).trans (va_up_ne M3 _ (by omega))).trans hc4
  refine sc_putF (ci := 6) (C := RX8) (T := TX8) (n := 3) S hK hV inX8_ tyX8_ok nmX8 hc7 rfl 1 (by decide) (S.2.2.2.2 _ (List.mem_of_getElem? (i := 11) rfl)) rfl rfl hnm rfl rfl rfl (Nat.le_of_ble_eq_true rfl) dX8_init_32 (fs1 := [.int (sI c), .ref N, .int (sI 0)]) rfl (fun M8 H locs hM8 hV => ?_)
  have hc9 : M8 t = some (sObj 6 [.int (sI c), .ref N, .int (sI 0)]) := (congrFun hM8 t).trans (va_up_self M5 t _)
  have hc10 : M8 N = some (sArr G n (fun _ => 0)) := ((congrFun hM8 N).trans (va_up_ne M5 _ (by omega))).trans hc6
  exact sr_v E hQ dX8_init_35 ⟨Nat.le_of_ble_eq_true rfl, (by show 0 + n ≤ 400; omega)⟩ hV (⟨by omega, hc9, hc10, fun x q0 q1 => ((((congrFun hM8 x).trans (va_up_ne M5 _ (by omega))).trans ((congrFun hM5 x).trans (va_up_ne M3 _ (by omega)))).trans ((congrFun hM3 x).trans (va_up_ne M1 _ (by omega)))).trans ((congrFun hM1 x).trans (va_up_ne M _ (by omega)))⟩)

abbrev rmX8_size : Room := { frames := 1, cells := 0, slots := 0, locals := 40 }
set_option maxHeartbeats 4000000 in
set_option maxRecDepth 100000 in
theorem kX8_size (l_ : Launch) (G : sG) (b_ : Nat) (M : sM) (N : Nat) (t : Nat) (c r : Int) (n : Nat) (g : Int → Int) (ht0 : M t = some (sObj 6 [.int (sI c), .ref (t + 1), .int (sI r)])) (ht1 : M (t + 1) = some (sArr G n g)) : cP l_ yX8_size wsX8_size rmX8_size G b_ M N [.ref t] r := by
  refine sE.ofI (cc := cX8_size) (nL := 1) (ret := (some .int)) (by decide) rfl (Nat.le_of_ble_eq_true rfl) ?_
  intro p_ e_ s_ m_ args_ below_ meth_ c_ ls Q hQ E hl
  have E : sE p_ l_ e_ rmX8_size s_ m_ args_ below_ meth_ c_ cX8_size 1 wsX8_size RX8 "size" (some .int) G b_ M N := E
  have S := E.1
  have hx_ := S.1
  have hb_ := S.2.1
  have hK := E.2.2.2.2.1
  have hV := E.2.2.2.2.2.2
  have hl : lv_has ls 1 [(0, .ref t)] := hl
  have inX8_ : ∀ w ∈ wsX80, w ∈ wsX8_size := fun _ h => List.mem_cons_of_mem _ (List.mem_append_right _ h)
  refine lv_aload_n hx_ hb_ dX8_size_0 rfl (lv_at hl 0 rfl) ?_
  refine sc_get (ci := 6) (C := RX8) (T := TX8) (n := 3) S hK hV inX8_ ht0 rfl 2 (by decide) (S.2.2.2.2 _ (List.mem_of_getElem? (i := 1) rfl)) rfl rfl dX8_size_1 ?_
  exact sr_i E hQ dX8_size_4 ⟨Nat.le_of_ble_eq_true rfl, Nat.le_of_ble_eq_true rfl⟩ hV (⟨rfl, rfl, rfl⟩)

abbrev rmX8_has : Room := { frames := 1, cells := 0, slots := 0, locals := 40 }
set_option maxHeartbeats 4000000 in
set_option maxRecDepth 100000 in
theorem kX8_has (l_ : Launch) (G : sG) (b_ : Nat) (M : sM) (N : Nat) (t : Nat) (c r : Int) (n : Nat) (g : Int → Int) (i : Int) (ht0 : M t = some (sObj 6 [.int (sI c), .ref (t + 1), .int (sI r)])) (ht1 : M (t + 1) = some (sArr G n g)) (hr : sR i ∧ sR r) : cP l_ yX8_has wsX8_has rmX8_has G b_ M N [.ref t, .int (sI i)] (bI (0 ≤ i ∧ i < r)) := by
  refine sE.ofI (cc := cX8_has) (nL := 2) (ret := (some .boolean)) (by decide) rfl (Nat.le_of_ble_eq_true rfl) ?_
  intro p_ e_ s_ m_ args_ below_ meth_ c_ ls Q hQ E hl
  have E : sE p_ l_ e_ rmX8_has s_ m_ args_ below_ meth_ c_ cX8_has 2 wsX8_has RX8 "has" (some .boolean) G b_ M N := E
  have S := E.1
  have hx_ := S.1
  have hb_ := S.2.1
  have hK := E.2.2.2.2.1
  have hV := E.2.2.2.2.2.2
  have hl : lv_has ls 2 [(0, .ref t), (1, .int (sI i))] := hl
  have inX8_ : ∀ w ∈ wsX80, w ∈ wsX8_has := fun _ h => List.mem_cons_of_mem _ (List.mem_append_right _ h)
  refine lv_iload_n hx_ hb_ dX8_has_0 rfl (lv_at hl 1 rfl) ?_
  refine sz_lt (tgt := 16) S dX8_has_1 (by decide) (by omega) (fun c1 => ?_) (fun c1 => ?_)
  · refine si_const S dX8_has_16 ?_
    exact sr_z E hQ (Or.inl rfl) dX8_has_17 ⟨Nat.le_of_ble_eq_true rfl, Nat.le_of_ble_eq_true rfl⟩ hV (⟨(bI_f (by omega)).symm, rfl, rfl⟩)
  · refine lv_iload_n hx_ hb_ dX8_has_4 rfl (lv_at hl 1 rfl) ?_
    refine lv_aload_n hx_ hb_ dX8_has_5 rfl (lv_at hl 0 rfl) ?_
    refine sc_get (ci := 6) (C := RX8) (T := TX8) (n := 3) S hK hV inX8_ ht0 rfl 2 (by decide) (S.2.2.2.2 _ (List.mem_of_getElem? (i := 1) rfl)) rfl rfl dX8_has_6 ?_
    refine sb_ge (tgt := 16) S dX8_has_9 (by decide) (by omega) (fun c2 => ?_) (fun c2 => ?_)
    · refine si_const S dX8_has_16 ?_
      exact sr_z E hQ (Or.inl rfl) dX8_has_17 ⟨Nat.le_of_ble_eq_true rfl, Nat.le_of_ble_eq_true rfl⟩ hV (⟨(bI_f (by omega)).symm, rfl, rfl⟩)
    · refine si_const S dX8_has_12 ?_
      refine lv_goto (tgt := 17) hx_ hb_ dX8_has_13 (by decide) ?_
      exact sr_z E hQ (Or.inr rfl) dX8_has_17 ⟨Nat.le_of_ble_eq_true rfl, Nat.le_of_ble_eq_true rfl⟩ hV (⟨(bI_t (by omega)).symm, rfl, rfl⟩)

abbrev rmX8_isFull : Room := { frames := 1, cells := 0, slots := 0, locals := 40 }
set_option maxHeartbeats 4000000 in
set_option maxRecDepth 100000 in
theorem kX8_isFull (l_ : Launch) (G : sG) (b_ : Nat) (M : sM) (N : Nat) (t : Nat) (c r : Int) (n : Nat) (g : Int → Int) (ht0 : M t = some (sObj 6 [.int (sI c), .ref (t + 1), .int (sI r)])) (ht1 : M (t + 1) = some (sArr G n g)) (hr : sR ((r + 1) * c) ∧ (n : Int) ≤ 2147483647) : cP l_ yX8_isFull wsX8_isFull rmX8_isFull G b_ M N [.ref t] (bI ((n : Int) < (r + 1) * c)) := by
  refine sE.ofI (cc := cX8_isFull) (nL := 1) (ret := (some .boolean)) (by decide) rfl (Nat.le_of_ble_eq_true rfl) ?_
  intro p_ e_ s_ m_ args_ below_ meth_ c_ ls Q hQ E hl
  have E : sE p_ l_ e_ rmX8_isFull s_ m_ args_ below_ meth_ c_ cX8_isFull 1 wsX8_isFull RX8 "isFull" (some .boolean) G b_ M N := E
  have S := E.1
  have hx_ := S.1
  have hb_ := S.2.1
  have hK := E.2.2.2.2.1
  have hV := E.2.2.2.2.2.2
  have hl : lv_has ls 1 [(0, .ref t)] := hl
  have inX8_ : ∀ w ∈ wsX80, w ∈ wsX8_isFull := fun _ h => List.mem_cons_of_mem _ (List.mem_append_right _ h)
  refine lv_aload_n hx_ hb_ dX8_isFull_0 rfl (lv_at hl 0 rfl) ?_
  refine sc_get (ci := 6) (C := RX8) (T := TX8) (n := 3) S hK hV inX8_ ht0 rfl 2 (by decide) (S.2.2.2.2 _ (List.mem_of_getElem? (i := 1) rfl)) rfl rfl dX8_isFull_1 ?_
  refine si_const S dX8_isFull_4 ?_
  refine si_add S dX8_isFull_5 ?_
  refine lv_aload_n hx_ hb_ dX8_isFull_6 rfl (lv_at hl 0 rfl) ?_
  refine sc_get (ci := 6) (C := RX8) (T := TX8) (n := 3) S hK hV inX8_ ht0 rfl 0 (by decide) (S.2.2.2.2 _ (List.mem_of_getElem? (i := 2) rfl)) rfl rfl dX8_isFull_7 ?_
  refine si_mul S dX8_isFull_10 ?_
  refine lv_aload_n hx_ hb_ dX8_isFull_11 rfl (lv_at hl 0 rfl) ?_
  refine sc_get (ci := 6) (C := RX8) (T := TX8) (n := 3) S hK hV inX8_ ht0 rfl 1 (by decide) (S.2.2.2.2 _ (List.mem_of_getElem? (i := 3) rfl)) rfl rfl dX8_isFull_12 ?_
  refine sc_alen S hK hV 0 ht1 rfl dX8_isFull_15 ?_
  refine sb_le (tgt := 23) S dX8_isFull_16 (by decide) (by omega) (fun c1 => ?_) (fun c1 => ?_)
  · refine si_const S dX8_isFull_23 ?_
    exact sr_z E hQ (Or.inl rfl) dX8_isFull_24 ⟨Nat.le_of_ble_eq_true rfl, Nat.le_of_ble_eq_true rfl⟩ hV (⟨(bI_f (by omega)).symm, rfl, rfl⟩)
  · refine si_const S dX8_isFull_19 ?_
    refine lv_goto (tgt := 24) hx_ hb_ dX8_isFull_20 (by decide) ?_
    exact sr_z E hQ (Or.inr rfl) dX8_isFull_24 ⟨Nat.le_of_ble_eq_true rfl, Nat.le_of_ble_eq_true rfl⟩ hV (⟨(bI_t (by omega)).symm, rfl, rfl⟩)

abbrev rmX8_get : Room := { frames := 1, cells := 0, slots := 0, locals := 40 }
set_option maxHeartbeats 4000000 in
set_option maxRecDepth 100000 in
theorem kX8_get (l_ : Launch) (G : sG) (b_ : Nat) (M : sM) (N : Nat) (t : Nat) (c r : Int) (n : Nat) (g : Int → Int) (i j : Int) (ht0 : M t = some (sObj 6 [.int (sI c), .ref (t + 1), .int (sI r)])) (ht1 : M (t + 1) = some (sArr G n g)) (hi : sR r ∧ sR c ∧ 0 ≤ i ∧ i < r ∧ 0 ≤ j ∧ j < c ∧ 0 ≤ i * c + j ∧ i * c + j < n ∧ (n : Int) ≤ 2147483647) : cP l_ yX8_get wsX8_get rmX8_get G b_ M N [.ref t, .int (sI i), .int (sI j)] (g (i * c + j)) := by
  refine sE.ofI (cc := cX8_get) (nL := 4) (ret := (some .int)) (by decide) rfl (Nat.le_of_ble_eq_true rfl) ?_
  intro p_ e_ s_ m_ args_ below_ meth_ c_ ls Q hQ E hl
  have E : sE p_ l_ e_ rmX8_get s_ m_ args_ below_ meth_ c_ cX8_get 4 wsX8_get RX8 "get" (some .int) G b_ M N := E
  have S := E.1
  have hx_ := S.1
  have hb_ := S.2.1
  have hK := E.2.2.2.2.1
  have hV := E.2.2.2.2.2.2
  have hl : lv_has ls 4 [(0, .ref t), (1, .int (sI i)), (2, .int (sI j))] := hl
  have inX8_ : ∀ w ∈ wsX80, w ∈ wsX8_get := fun _ h => List.mem_cons_of_mem _ (List.mem_append_right _ h)
  refine lv_iload_n hx_ hb_ dX8_get_0 rfl (lv_at hl 1 rfl) ?_
  refine sz_lt (tgt := 28) S dX8_get_1 (by decide) (by omega) (fun c1 => absurd c1 (by omega)) (fun _ => ?_)
  refine lv_iload_n hx_ hb_ dX8_get_4 rfl (lv_at hl 1 rfl) ?_
  refine lv_aload_n hx_ hb_ dX8_get_5 rfl (lv_at hl 0 rfl) ?_
  refine sc_get (ci := 6) (C := RX8) (T := TX8) (n := 3) S hK hV inX8_ ht0 rfl 2 (by decide) (S.2.2.2.2 _ (List.mem_of_getElem? (i := 1) rfl)) rfl rfl dX8_get_6 ?_
  refine sb_ge (tgt := 28) S dX8_get_9 (by decide) (by omega) (fun c2 => absurd c2 (by omega)) (fun _ => ?_)
  refine lv_iload_n hx_ hb_ dX8_get_12 rfl (lv_at hl 2 rfl) ?_
  refine sz_lt (tgt := 28) S dX8_get_13 (by decide) (by omega) (fun c3 => absurd c3 (by omega)) (fun _ => ?_)
  refine lv_iload_n hx_ hb_ dX8_get_16 rfl (lv_at hl 2 rfl) ?_
  refine lv_aload_n hx_ hb_ dX8_get_17 rfl (lv_at hl 0 rfl) ?_
  refine sc_get (ci := 6) (C := RX8) (T := TX8) (n := 3) S hK hV inX8_ ht0 rfl 0 (by decide) (S.2.2.2.2 _ (List.mem_of_getElem? (i := 2) rfl)) rfl rfl dX8_get_18 ?_
  refine sb_ge (tgt := 28) S dX8_get_21 (by decide) (by omega) (fun c4 => absurd c4 (by omega)) (fun _ => ?_)
  refine si_const S dX8_get_24 ?_
  refine lv_goto (tgt := 29) hx_ hb_ dX8_get_25 (by decide) ?_
  refine lv_istore_n (lv' := [(3, .int (sI 1)), (0, .ref t), (1, .int (sI i)), (2, .int (sI j))]) hx_ hb_ dX8_get_29 rfl hl (by decide) rfl (fun ls hl => ?_)
  refine lv_iload_n hx_ hb_ dX8_get_30 rfl (lv_at hl 0 rfl) ?_
  refine sz_eq (tgt := 50) S dX8_get_31 (by decide) (by omega) (fun c5 => absurd c5 (by omega)) (fun _ => ?_)
  refine lv_aload_n hx_ hb_ dX8_get_34 rfl (lv_at hl 1 rfl) ?_
  refine sc_get (ci := 6) (C := RX8) (T := TX8) (n := 3) S hK hV inX8_ ht0 rfl 1 (by decide) (S.2.2.2.2 _ (List.mem_of_getElem? (i := 3) rfl)) rfl rfl dX8_get_35 ?_
  refine lv_iload_n hx_ hb_ dX8_get_38 rfl (lv_at hl 2 rfl) ?_
  refine lv_aload_n hx_ hb_ dX8_get_39 rfl (lv_at hl 1 rfl) ?_
  refine sc_get (ci := 6) (C := RX8) (T := TX8) (n := 3) S hK hV inX8_ ht0 rfl 0 (by decide) (S.2.2.2.2 _ (List.mem_of_getElem? (i := 2) rfl)) rfl rfl dX8_get_40 ?_
  refine si_mul S dX8_get_43 ?_
  refine lv_iload_n hx_ hb_ dX8_get_44 rfl (lv_at hl 3 rfl) ?_
  refine si_add S dX8_get_45 ?_
  refine sc_iald S hK hV ht1 (by omega) dX8_get_46 ?_
  refine lv_goto (tgt := 51) hx_ hb_ dX8_get_47 (by decide) ?_
  exact sr_i E hQ dX8_get_51 ⟨Nat.le_of_ble_eq_true rfl, Nat.le_of_ble_eq_true rfl⟩ hV (⟨rfl, rfl, rfl⟩)

abbrev rmX8_set : Room := { frames := 1, cells := 0, slots := 0, locals := 40 }
set_option maxHeartbeats 4000000 in
set_option maxRecDepth 100000 in
theorem kX8_set (l_ : Launch) (G : sG) (b_ : Nat) (M : sM) (N : Nat) (t : Nat) (c r : Int) (n : Nat) (g : Int → Int) (i j v : Int) (ht0 : M t = some (sObj 6 [.int (sI c), .ref (t + 1), .int (sI r)])) (ht1 : M (t + 1) = some (sArr G n g)) (hi : sR r ∧ sR c ∧ 0 ≤ i ∧ i < r ∧ 0 ≤ j ∧ j < c ∧ 0 ≤ i * c + j ∧ i * c + j < n ∧ (n : Int) ≤ 2147483647) : cV l_ yX8_set wsX8_set rmX8_set G b_ M N [.ref t, .int (sI i), .int (sI j), .int (sI v)] (fun M1 N1 => N1 = N ∧ M1 (t + 1) = some (sArr G n (iup g (i * c + j) v)) ∧ (∀ x : Nat, ¬ (x = t + 1) → M1 x = M x)) := by
  refine sE.ofV (cc := cX8_set) (nL := 4) (ret := none) (by decide) rfl (Nat.le_of_ble_eq_true rfl) ?_
  intro p_ e_ s_ m_ args_ below_ meth_ c_ ls Q hQ E hl
  have E : sE p_ l_ e_ rmX8_set s_ m_ args_ below_ meth_ c_ cX8_set 4 wsX8_set RX8 "set" none G b_ M N := E
  have S := E.1
  have hx_ := S.1
  have hb_ := S.2.1
  have hK := E.2.2.2.2.1
  have hV := E.2.2.2.2.2.2
  have hl : lv_has ls 4 [(0, .ref t), (1, .int (sI i)), (2, .int (sI j)), (3, .int (sI v))] := hl
  have inX8_ : ∀ w ∈ wsX80, w ∈ wsX8_set := fun _ h => List.mem_cons_of_mem _ (List.mem_append_right _ h)
  refine lv_iload_n hx_ hb_ dX8_set_0 rfl (lv_at hl 1 rfl) ?_
  refine sz_lt (tgt := 38) S dX8_set_1 (by decide) (by omega) (fun c1 => absurd c1 (by omega)) (fun _ => ?_)
  refine lv_iload_n hx_ hb_ dX8_set_4 rfl (lv_at hl 1 rfl) ?_
  refine lv_aload_n hx_ hb_ dX8_set_5 rfl (lv_at hl 0 rfl) ?_
  refine sc_get (ci := 6) (C := RX8) (T := TX8) (n := 3) S hK hV inX8_ ht0 rfl 2 (by decide) (S.2.2.2.2 _ (List.mem_of_getElem? (i := 1) rfl)) rfl rfl dX8_set_6 ?_
  refine sb_ge (tgt := 38) S dX8_set_9 (by decide) (by omega) (fun c2 => absurd c2 (by omega)) (fun _ => ?_)
  refine lv_iload_n hx_ hb_ dX8_set_12 rfl (lv_at hl 2 rfl) ?_
  refine sz_lt (tgt := 38) S dX8_set_13 (by decide) (by omega) (fun c3 => absurd c3 (by omega)) (fun _ => ?_)
  refine lv_iload_n hx_ hb_ dX8_set_16 rfl (lv_at hl 2 rfl) ?_
  refine lv_aload_n hx_ hb_ dX8_set_17 rfl (lv_at hl 0 rfl) ?_
  refine sc_get (ci := 6) (C := RX8) (T := TX8) (n := 3) S hK hV inX8_ ht0 rfl 0 (by decide) (S.2.2.2.2 _ (List.mem_of_getElem? (i := 2) rfl)) rfl rfl dX8_set_18 ?_
  refine sb_ge (tgt := 38) S dX8_set_21 (by decide) (by omega) (fun c4 => absurd c4 (by omega)) (fun _ => ?_)
  refine lv_aload_n hx_ hb_ dX8_set_24 rfl (lv_at hl 0 rfl) ?_
  refine sc_get (ci := 6) (C := RX8) (T := TX8) (n := 3) S hK hV inX8_ ht0 rfl 1 (by decide) (S.2.2.2.2 _ (List.mem_of_getElem? (i := 3) rfl)) rfl rfl dX8_set_25 ?_
  refine lv_iload_n hx_ hb_ dX8_set_28 rfl (lv_at hl 1 rfl) ?_
  refine lv_aload_n hx_ hb_ dX8_set_29 rfl (lv_at hl 0 rfl) ?_
  refine sc_get (ci := 6) (C := RX8) (T := TX8) (n := 3) S hK hV inX8_ ht0 rfl 0 (by decide) (S.2.2.2.2 _ (List.mem_of_getElem? (i := 2) rfl)) rfl rfl dX8_set_30 ?_
  refine si_mul S dX8_set_33 ?_
  refine lv_iload_n hx_ hb_ dX8_set_34 rfl (lv_at hl 2 rfl) ?_
  refine si_add S dX8_set_35 ?_
  refine lv_iload_n hx_ hb_ dX8_set_36 rfl (lv_at hl 3 rfl) ?_
  refine sc_iast S hK hV ht1 (by omega) dX8_set_37 (fun M5 H locs hM5 hV => ?_)
  have hc6 : M5 (t + 1) = some (sArr G n (iup g ((i * c) + j) v)) := (congrFun hM5 (t + 1)).trans (va_up_self M (t + 1) _)
  exact sr_v E hQ dX8_set_38 ⟨Nat.le_of_ble_eq_true rfl, Nat.le_of_ble_eq_true rfl⟩ hV (⟨rfl, hc6, fun x q0 => (congrFun hM5 x).trans (va_up_ne M _ (by omega))⟩)

abbrev rmX8_clear : Room := { frames := 1, cells := 0, slots := 0, locals := 40 }
set_option maxHeartbeats 4000000 in
set_option maxRecDepth 100000 in
theorem kX8_clear (l_ : Launch) (G : sG) (b_ : Nat) (M : sM) (N : Nat) (t : Nat) (c r : Int) (n : Nat) (g : Int → Int) (ht0 : M t = some (sObj 6 [.int (sI c), .ref (t + 1), .int (sI r)])) (ht1 : M (t + 1) = some (sArr G n g)) : cV l_ yX8_clear wsX8_clear rmX8_clear G b_ M N [.ref t] (fun M1 N1 => N1 = N ∧ M1 t = some (sObj 6 [.int (sI c), .ref (t + 1), .int (sI 0)]) ∧ (∀ x : Nat, ¬ (x = t) → M1 x = M x)) := by
  refine sE.ofV (cc := cX8_clear) (nL := 1) (ret := none) (by decide) rfl (Nat.le_of_ble_eq_true rfl) ?_
  intro p_ e_ s_ m_ args_ below_ meth_ c_ ls Q hQ E hl
  have E : sE p_ l_ e_ rmX8_clear s_ m_ args_ below_ meth_ c_ cX8_clear 1 wsX8_clear RX8 "clear" none G b_ M N := E
  have S := E.1
  have hx_ := S.1
  have hb_ := S.2.1
  have hK := E.2.2.2.2.1
  have hV := E.2.2.2.2.2.2
  have hl : lv_has ls 1 [(0, .ref t)] := hl
  have inX8_ : ∀ w ∈ wsX80, w ∈ wsX8_clear := fun _ h => List.mem_cons_of_mem _ (List.mem_append_right _ h)
  refine lv_aload_n hx_ hb_ dX8_clear_0 rfl (lv_at hl 0 rfl) ?_
  refine si_const S dX8_clear_1 ?_
  refine sc_put (ci := 6) (C := RX8) (T := TX8) (n := 3) S hK hV inX8_ tyX8_ok nmX8 ht0 rfl 2 (by decide) (S.2.2.2.2 _ (List.mem_of_getElem? (i := 1) rfl)) rfl rfl rfl rfl (Nat.le_of_ble_eq_true rfl) dX8_clear_2 (fs1 := [.int (sI c), .ref (t + 1), .int (sI 0)]) rfl (fun M1 H locs hM1 hV => ?_)
  have hc2 : M1 t = some (sObj 6 [.int (sI c), .ref (t + 1), .int (sI 0)]) := (congrFun hM1 t).trans (va_up_self M t _)
  exact sr_v E hQ dX8_clear_5 ⟨Nat.le_of_ble_eq_true rfl, Nat.le_of_ble_eq_true rfl⟩ hV (⟨rfl, hc2, fun x q0 => (congrFun hM1 x).trans (va_up_ne M _ (by omega))⟩)

abbrev rmX8_add : Room := { frames := 2, cells := 0, slots := 0, locals := 63 }
set_option maxHeartbeats 4000000 in
set_option maxRecDepth 100000 in
theorem kX8_add (l_ : Launch) (G : sG) (b_ : Nat) (M : sM) (N : Nat) (t : Nat) (c r : Int) (n : Nat) (g : Int → Int) (ht0 : M t = some (sObj 6 [.int (sI c), .ref (t + 1), .int (sI r)])) (ht1 : M (t + 1) = some (sArr G n g)) (hr : 0 ≤ r ∧ 1 ≤ c ∧ c ≤ 100 ∧ 0 ≤ r * c ∧ (r + 1) * c ≤ n ∧ (n : Int) ≤ 100000 ∧ r ≤ 100000) : cI l_ yX8_add wsX8_add rmX8_add G b_ M N [.ref t] (fun z_ M1 N1 => z_ = r ∧ N1 = N ∧ M1 t = some (sObj 6 [.int (sI c), .ref (t + 1), .int (sI (r + 1))]) ∧ M1 (t + 1) = some (sArr G n (izer g (r * c) c)) ∧ (∀ x : Nat, ¬ (x = t) → ¬ (x = t + 1) → M1 x = M x)) := by
  refine sE.ofI (cc := cX8_add) (nL := 2) (ret := (some .int)) (by decide) rfl (Nat.le_of_ble_eq_true rfl) ?_
  intro p_ e_ s_ m_ args_ below_ meth_ c_ ls Q hQ E hl
  have E : sE p_ l_ e_ rmX8_add s_ m_ args_ below_ meth_ c_ cX8_add 2 wsX8_add RX8 "add" (some .int) G b_ M N := E
  have S := E.1
  have hx_ := S.1
  have hb_ := S.2.1
  have hK := E.2.2.2.2.1
  have hV := E.2.2.2.2.2.2
  have hl : lv_has ls 2 [(0, .ref t)] := hl
  have inX8_ : ∀ w ∈ wsX80, w ∈ wsX8_add := fun _ h => List.mem_cons_of_mem _ (List.mem_append_right _ h)
  have hrc := mulS r c
  have hsr := subS r
  rw [hrc] at hr
  refine lv_aload_n hx_ hb_ dX8_add_0 rfl (lv_at hl 0 rfl) ?_
  refine sk_VP E hV (As := []) (rest := []) (kX8_isFull l_ G b_ M N t c r n g ht0 ht1 (by rw [hrc]; omega)) (cwV 0 S.2.2.2.2 gX8_add_X8_isFull rfl rfl rfl (by decide +kernel) ⟨Nat.le_of_ble_eq_true rfl, Nat.le_of_ble_eq_true rfl⟩) (ci := 6) ht0 rfl rfl rfl hl.1 (Nat.le_of_ble_eq_true rfl) dX8_add_1 (c1 := 0) (s1 := 0) ⟨⟨rfl, rfl⟩, by decide, by decide⟩ (fun H locs hV => ?_)
  refine sq_eq (tgt := 9) S dX8_add_4 (by decide) (fun _ => ?_) (fun c1 => absurd c1 (by rw [hrc]; omega))
  refine lv_aload_n hx_ hb_ dX8_add_9 rfl (lv_at hl 0 rfl) ?_
  refine lv_dup hx_ hb_ dX8_add_10 rfl ?_
  refine sc_get (ci := 6) (C := RX8) (T := TX8) (n := 3) S hK hV inX8_ ht0 rfl 2 (by decide) (S.2.2.2.2 _ (List.mem_of_getElem? (i := 1) rfl)) rfl rfl dX8_add_11 ?_
  refine si_const S dX8_add_14 ?_
  refine si_add S dX8_add_15 ?_
  refine sc_put (ci := 6) (C := RX8) (T := TX8) (n := 3) S hK hV inX8_ tyX8_ok nmX8 ht0 rfl 2 (by decide) (S.2.2.2.2 _ (List.mem_of_getElem? (i := 1) rfl)) rfl rfl rfl rfl (Nat.le_of_ble_eq_true rfl) dX8_add_16 (fs1 := [.int (sI c), .ref (t + 1), .int (sI (r + 1))]) rfl (fun M2 H locs hM2 hV => ?_)
  have hc3 : M2 t = some (sObj 6 [.int (sI c), .ref (t + 1), .int (sI (r + 1))]) := (congrFun hM2 t).trans (va_up_self M t _)
  refine si_const S dX8_add_19 ?_
  refine lv_istore_n (lv' := [(1, .int (sI 0)), (0, .ref t)]) hx_ hb_ dX8_add_20 rfl hl (by decide) rfl (fun ls hl => ?_)
  have L21 : ∀ (fuel : Nat) (i : Int) (g1 : Int → Int) (Ml21 : sM) (H : Heap) (locs : List Loc) (ls : Array Slot), ((c - i).toNat) < fuel → (0 ≤ i ∧ i ≤ c) → (g1 = izer g (r * c) i) → (Ml21 t = some (sObj 6 [.int (sI c), .ref (t + 1), .int (sI (r + 1))])) → (Ml21 (t + 1) = some (sArr G n g1)) → (∀ x : Nat, ¬ (x = t) → ¬ (x = t + 1) → Ml21 x = M2 x) → sV G b_ Ml21 N s_ H locs → lv_has ls 2 [(0, .ref t), (1, .int (sI i))] → W p_ l_ e_ rmX8_add s_ m_ args_ below_ meth_ c_ H locs 0 0 Q (F0 m_ 21 ls []) := by
    intro fuel
    induction fuel with
    | zero => intro i g1 Ml21 H locs ls hmu; exact absurd hmu (Nat.not_lt_zero _)
    | succ fuel ih21 =>
      intro i g1 Ml21 H locs ls hmu21 hv21_0 hg hm21_0 hm21_1 hfr21 hV hl
      refine lv_iload_n hx_ hb_ dX8_add_21 rfl (lv_at hl 1 rfl) ?_
      refine lv_aload_n hx_ hb_ dX8_add_22 rfl (lv_at hl 0 rfl) ?_
      refine sc_get (ci := 6) (C := RX8) (T := TX8) (n := 3) S hK hV inX8_ hm21_0 rfl 0 (by decide) (S.2.2.2.2 _ (List.mem_of_getElem? (i := 2) rfl)) rfl rfl dX8_add_23 ?_
      refine sb_ge (tgt := 47) S dX8_add_26 (by decide) (by omega) (fun c4 => ?_) (fun c4 => ?_)
      · refine lv_aload_n hx_ hb_ dX8_add_47 rfl (lv_at hl 0 rfl) ?_
        refine sc_get (ci := 6) (C := RX8) (T := TX8) (n := 3) S hK hV inX8_ hm21_0 rfl 2 (by decide) (S.2.2.2.2 _ (List.mem_of_getElem? (i := 1) rfl)) rfl rfl dX8_add_48 ?_
        refine si_const S dX8_add_51 ?_
        refine si_sub S dX8_add_52 ?_
        exact sr_i E hQ dX8_add_53 ⟨Nat.le_of_ble_eq_true rfl, Nat.le_of_ble_eq_true rfl⟩ hV (⟨by omega, rfl, hm21_0, (by have e9 : i = c := (by omega); rw [e9] at hg; rw [← hg]; exact hm21_1), fun x q0 q1 => (hfr21 x (by omega) (by omega)).trans ((congrFun hM2 x).trans (va_up_ne M _ (by omega)))⟩)
      · refine lv_aload_n hx_ hb_ dX8_add_29 rfl (lv_at hl 0 rfl) ?_
        refine lv_aload_n hx_ hb_ dX8_add_30 rfl (lv_at hl 0 rfl) ?_
        refine sc_get (ci := 6) (C := RX8) (T := TX8) (n := 3) S hK hV inX8_ hm21_0 rfl 2 (by decide) (S.2.2.2.2 _ (List.mem_of_getElem? (i := 1) rfl)) rfl rfl dX8_add_31 ?_
        refine si_const S dX8_add_34 ?_
        refine si_sub S dX8_add_35 ?_
        refine lv_iload_n hx_ hb_ dX8_add_36 rfl (lv_at hl 1 rfl) ?_
        refine si_const S dX8_add_37 ?_
        refine sk_Vv E hV (As := [.int (sI ((r + 1) - 1)), .int (sI i), .int (sI 0)]) (rest := []) (kX8_set l_ G b_ Ml21 N t c (r + 1) n g1 ((r + 1) - 1) i 0 hm21_0 hm21_1 (by rw [hsr]; omega)) (cwV 3 S.2.2.2.2 gX8_add_X8_set rfl rfl rfl (by decide +kernel) ⟨Nat.le_of_ble_eq_true rfl, Nat.le_of_ble_eq_true rfl⟩) (ci := 6) hm21_0 rfl rfl rfl hl.1 (Nat.le_of_ble_eq_true rfl) dX8_add_38 (c1 := 0) (s1 := 0) ⟨⟨rfl, rfl⟩, by decide, by decide⟩ (fun M5 N6 H locs hp7 hV => ?_)
        obtain ⟨hN9, hc10, hf11⟩ := hp7
        rw [hN9] at hV
        refine si_inc (lv' := [(1, .int (sI (i + 1))), (0, .ref t)]) S dX8_add_41 hl (k := 1) rfl (by decide) rfl (fun ls hl => ?_)
        refine lv_goto (tgt := 21) hx_ hb_ dX8_add_44 (by decide) ?_
        have hc12 : M5 t = some (sObj 6 [.int (sI c), .ref (t + 1), .int (sI (r + 1))]) := (hf11 t (by omega)).trans hm21_0
        exact ih21 (i + 1) (iup g1 (((r + 1) - 1) * c + i) 0) M5 _ _ _ (by omega) (by omega) (by rw [hsr, hg, izer_s _ _ _ (by omega)]) hc12 hc10 (fun x q0 q1 => (hf11 x (by omega)).trans (hfr21 x (by omega) (by omega))) hV (lv_sub hl [1, 0] rfl)
  have hc13 : M2 (t + 1) = some (sArr G n g) := ((congrFun hM2 (t + 1)).trans (va_up_ne M _ (by omega))).trans ht1
  exact L21 _ 0 g M2 _ _ _ (Nat.lt_succ_self _) (by omega) ((izer_0 g _).symm) hc3 hc13 (fun x q0 q1 => rfl) hV (lv_sub hl [1, 0] rfl)

abbrev rmX8_remove : Room := { frames := 2, cells := 0, slots := 0, locals := 61 }
set_option maxHeartbeats 4000000 in
set_option maxRecDepth 100000 in
theorem kX8_remove (l_ : Launch) (G : sG) (b_ : Nat) (M : sM) (N : Nat) (t : Nat) (c r : Int) (n : Nat) (g : Int → Int) (i : Int) (ht0 : M t = some (sObj 6 [.int (sI c), .ref (t + 1), .int (sI r)])) (ht1 : M (t + 1) = some (sArr G n g)) (hr : sR i ∧ sR r ∧ 0 ≤ i ∧ i < r ∧ 0 ≤ i * c ∧ 0 ≤ c ∧ 0 ≤ (r - i - 1) * c ∧ i * c + c + (r - i - 1) * c ≤ n ∧ (n : Int) ≤ 2147483647) : cV l_ yX8_remove wsX8_remove rmX8_remove G b_ M N [.ref t, .int (sI i)] (fun M1 N1 => N1 = N ∧ M1 t = some (sObj 6 [.int (sI c), .ref (t + 1), .int (sI (r - 1))]) ∧ M1 (t + 1) = some (sArr G n (icpy g g (i * c + c) (i * c) ((r - i - 1) * c))) ∧ (∀ x : Nat, ¬ (x = t) → ¬ (x = t + 1) → M1 x = M x)) := by
  refine sE.ofV (cc := cX8_remove) (nL := 3) (ret := none) (by decide) rfl (Nat.le_of_ble_eq_true rfl) ?_
  intro p_ e_ s_ m_ args_ below_ meth_ c_ ls Q hQ E hl
  have E : sE p_ l_ e_ rmX8_remove s_ m_ args_ below_ meth_ c_ cX8_remove 3 wsX8_remove RX8 "remove" none G b_ M N := E
  have S := E.1
  have hx_ := S.1
  have hb_ := S.2.1
  have hK := E.2.2.2.2.1
  have hV := E.2.2.2.2.2.2
  have hl : lv_has ls 3 [(0, .ref t), (1, .int (sI i))] := hl
  have inX8_ : ∀ w ∈ wsX80, w ∈ wsX8_remove := fun _ h => List.mem_cons_of_mem _ (List.mem_append_right _ h)
  refine lv_aload_n hx_ hb_ dX8_remove_0 rfl (lv_at hl 0 rfl) ?_
  refine lv_iload_n hx_ hb_ dX8_remove_1 rfl (lv_at hl 1 rfl) ?_
  refine sk_VP E hV (As := [.int (sI i)]) (rest := []) (kX8_has l_ G b_ M N t c r n g i ht0 ht1 (by omega)) (cwV 1 S.2.2.2.2 gX8_remove_X8_has rfl rfl rfl (by decide +kernel) ⟨Nat.le_of_ble_eq_true rfl, Nat.le_of_ble_eq_true rfl⟩) (ci := 6) ht0 rfl rfl rfl hl.1 (Nat.le_of_ble_eq_true rfl) dX8_remove_2 (c1 := 0) (s1 := 0) ⟨⟨rfl, rfl⟩, by decide, by decide⟩ (fun H locs hV => ?_)
  refine sq_eq (tgt := 56) S dX8_remove_5 (by decide) (fun c1 => absurd c1 (by omega)) (fun _ => ?_)
  refine lv_iload_n hx_ hb_ dX8_remove_8 rfl (lv_at hl 1 rfl) ?_
  refine lv_aload_n hx_ hb_ dX8_remove_9 rfl (lv_at hl 0 rfl) ?_
  refine sc_get (ci := 6) (C := RX8) (T := TX8) (n := 3) S hK hV inX8_ ht0 rfl 0 (by decide) (S.2.2.2.2 _ (List.mem_of_getElem? (i := 1) rfl)) rfl rfl dX8_remove_10 ?_
  refine si_mul S dX8_remove_13 ?_
  refine lv_istore_n (lv' := [(2, .int (sI (i * c))), (0, .ref t), (1, .int (sI i))]) hx_ hb_ dX8_remove_14 rfl hl (by decide) rfl (fun ls hl => ?_)
  refine lv_aload_n hx_ hb_ dX8_remove_15 rfl (lv_at hl 1 rfl) ?_
  refine sc_get (ci := 6) (C := RX8) (T := TX8) (n := 3) S hK hV inX8_ ht0 rfl 1 (by decide) (S.2.2.2.2 _ (List.mem_of_getElem? (i := 2) rfl)) rfl rfl dX8_remove_16 ?_
  refine lv_iload_n hx_ hb_ dX8_remove_19 rfl (lv_at hl 0 rfl) ?_
  refine lv_aload_n hx_ hb_ dX8_remove_20 rfl (lv_at hl 1 rfl) ?_
  refine sc_get (ci := 6) (C := RX8) (T := TX8) (n := 3) S hK hV inX8_ ht0 rfl 0 (by decide) (S.2.2.2.2 _ (List.mem_of_getElem? (i := 1) rfl)) rfl rfl dX8_remove_21 ?_
  refine si_add S dX8_remove_24 ?_
  refine lv_aload_n hx_ hb_ dX8_remove_25 rfl (lv_at hl 1 rfl) ?_
  refine sc_get (ci := 6) (C := RX8) (T := TX8) (n := 3) S hK hV inX8_ ht0 rfl 1 (by decide) (S.2.2.2.2 _ (List.mem_of_getElem? (i := 2) rfl)) rfl rfl dX8_remove_26 ?_
  refine lv_iload_n hx_ hb_ dX8_remove_29 rfl (lv_at hl 0 rfl) ?_
  refine lv_aload_n hx_ hb_ dX8_remove_30 rfl (lv_at hl 1 rfl) ?_
  refine sc_get (ci := 6) (C := RX8) (T := TX8) (n := 3) S hK hV inX8_ ht0 rfl 2 (by decide) (S.2.2.2.2 _ (List.mem_of_getElem? (i := 3) rfl)) rfl rfl dX8_remove_31 ?_
  refine lv_iload_n hx_ hb_ dX8_remove_34 rfl (lv_at hl 2 rfl) ?_
  refine si_sub S dX8_remove_35 ?_
  refine si_const S dX8_remove_36 ?_
  refine si_sub S dX8_remove_37 ?_
  refine lv_aload_n hx_ hb_ dX8_remove_38 rfl (lv_at hl 1 rfl) ?_
  refine sc_get (ci := 6) (C := RX8) (T := TX8) (n := 3) S hK hV inX8_ ht0 rfl 0 (by decide) (S.2.2.2.2 _ (List.mem_of_getElem? (i := 1) rfl)) rfl rfl dX8_remove_39 ?_
  refine si_mul S dX8_remove_42 ?_
  refine sc_copy S hK hV hl.1 (S.2.2.2.2 _ (List.mem_of_getElem? (i := 4) rfl)) (S.2.2.2.2 _ (List.mem_of_getElem? (i := 5) rfl)) (S.2.2.2.2 _ (List.mem_of_getElem? (i := 6) rfl)) (S.2.2.2.2 _ (List.mem_of_getElem? (i := 7) rfl)) ht1 ht1 (sp := (i * c) + c) (dp := i * c) (n := ((r - i) - 1) * c) (by omega) ⟨by decide, Nat.le_of_ble_eq_true rfl⟩ dX8_remove_43 (fun M2 H locs hM2 hV => ?_)
  have hc3 : M2 (t + 1) = some (sArr G n (icpy g g ((i * c) + c) (i * c) (((r - i) - 1) * c))) := (congrFun hM2 (t + 1)).trans (va_up_self M (t + 1) _)
  refine lv_aload_n hx_ hb_ dX8_remove_46 rfl (lv_at hl 1 rfl) ?_
  refine lv_dup hx_ hb_ dX8_remove_47 rfl ?_
  have hc4 : M2 t = some (sObj 6 [.int (sI c), .ref (t + 1), .int (sI r)]) := ((congrFun hM2 t).trans (va_up_ne M _ (by omega))).trans ht0
  refine sc_get (ci := 6) (C := RX8) (T := TX8) (n := 3) S hK hV inX8_ hc4 rfl 2 (by decide) (S.2.2.2.2 _ (List.mem_of_getElem? (i := 3) rfl)) rfl rfl dX8_remove_48 ?_
  refine si_const S dX8_remove_51 ?_
  refine si_sub S dX8_remove_52 ?_
  refine sc_put (ci := 6) (C := RX8) (T := TX8) (n := 3) S hK hV inX8_ tyX8_ok nmX8 hc4 rfl 2 (by decide) (S.2.2.2.2 _ (List.mem_of_getElem? (i := 3) rfl)) rfl rfl rfl rfl (Nat.le_of_ble_eq_true rfl) dX8_remove_53 (fs1 := [.int (sI c), .ref (t + 1), .int (sI (r - 1))]) rfl (fun M5 H locs hM5 hV => ?_)
  have hc6 : M5 t = some (sObj 6 [.int (sI c), .ref (t + 1), .int (sI (r - 1))]) := (congrFun hM5 t).trans (va_up_self M2 t _)
  have hc7 : M5 (t + 1) = some (sArr G n (icpy g g ((i * c) + c) (i * c) (((r - i) - 1) * c))) := ((congrFun hM5 (t + 1)).trans (va_up_ne M2 _ (by omega))).trans hc3
  exact sr_v E hQ dX8_remove_56 ⟨Nat.le_of_ble_eq_true rfl, Nat.le_of_ble_eq_true rfl⟩ hV (⟨rfl, hc6, hc7, fun x q0 q1 => ((congrFun hM5 x).trans (va_up_ne M2 _ (by omega))).trans ((congrFun hM2 x).trans (va_up_ne M _ (by omega)))⟩)

abbrev rmX8_copyFrom : Room := { frames := 1, cells := 0, slots := 0, locals := 40 }
set_option maxHeartbeats 4000000 in
set_option maxRecDepth 100000 in
theorem kX8_copyFrom (l_ : Launch) (G : sG) (b_ : Nat) (M : sM) (N : Nat) (t : Nat) (c r : Int) (n : Nat) (g : Int → Int) (u : Nat) (r1 : Int) (g1 : Int → Int) (ht0 : M t = some (sObj 6 [.int (sI c), .ref (t + 1), .int (sI r)])) (ht1 : M (t + 1) = some (sArr G n g)) (hu0 : M u = some (sObj 6 [.int (sI c), .ref (u + 1), .int (sI r1)])) (hu1 : M (u + 1) = some (sArr G n g1)) (hne : u + 1 < t ∨ t + 1 < u) (hr : sR c ∧ 0 ≤ r1 * c ∧ r1 * c ≤ n ∧ (n : Int) ≤ 2147483647) : cV l_ yX8_copyFrom wsX8_copyFrom rmX8_copyFrom G b_ M N [.ref t, .ref u] (fun M1 N1 => N1 = N ∧ M1 t = some (sObj 6 [.int (sI c), .ref (t + 1), .int (sI r1)]) ∧ M1 (t + 1) = some (sArr G n (icpy g1 g 0 0 (r1 * c))) ∧ (∀ x : Nat, ¬ (x = t) → ¬ (x = t + 1) → M1 x = M x)) := by
  refine sE.ofV (cc := cX8_copyFrom) (nL := 2) (ret := none) (by decide) rfl (Nat.le_of_ble_eq_true rfl) ?_
  intro p_ e_ s_ m_ args_ below_ meth_ c_ ls Q hQ E hl
  have E : sE p_ l_ e_ rmX8_copyFrom s_ m_ args_ below_ meth_ c_ cX8_copyFrom 2 wsX8_copyFrom RX8 "copyFrom" none G b_ M N := E
  have S := E.1
  have hx_ := S.1
  have hb_ := S.2.1
  have hK := E.2.2.2.2.1
  have hV := E.2.2.2.2.2.2
  have hl : lv_has ls 2 [(0, .ref t), (1, .ref u)] := hl
  have inX8_ : ∀ w ∈ wsX80, w ∈ wsX8_copyFrom := fun _ h => List.mem_cons_of_mem _ (List.mem_append_right _ h)
  refine lv_aload_n hx_ hb_ dX8_copyFrom_0 rfl (lv_at hl 1 rfl) ?_
  refine sc_get (ci := 6) (C := RX8) (T := TX8) (n := 3) S hK hV inX8_ hu0 rfl 0 (by decide) (S.2.2.2.2 _ (List.mem_of_getElem? (i := 1) rfl)) rfl rfl dX8_copyFrom_1 ?_
  refine lv_aload_n hx_ hb_ dX8_copyFrom_4 rfl (lv_at hl 0 rfl) ?_
  refine sc_get (ci := 6) (C := RX8) (T := TX8) (n := 3) S hK hV inX8_ ht0 rfl 0 (by decide) (S.2.2.2.2 _ (List.mem_of_getElem? (i := 1) rfl)) rfl rfl dX8_copyFrom_5 ?_
  refine sb_ne (tgt := 54) S dX8_copyFrom_8 (by decide) (by omega) (fun c1 => absurd c1 (by omega)) (fun _ => ?_)
  refine lv_aload_n hx_ hb_ dX8_copyFrom_11 rfl (lv_at hl 1 rfl) ?_
  refine sc_get (ci := 6) (C := RX8) (T := TX8) (n := 3) S hK hV inX8_ hu0 rfl 1 (by decide) (S.2.2.2.2 _ (List.mem_of_getElem? (i := 2) rfl)) rfl rfl dX8_copyFrom_12 ?_
  refine sc_alen S hK hV 0 hu1 rfl dX8_copyFrom_15 ?_
  refine lv_aload_n hx_ hb_ dX8_copyFrom_16 rfl (lv_at hl 0 rfl) ?_
  refine sc_get (ci := 6) (C := RX8) (T := TX8) (n := 3) S hK hV inX8_ ht0 rfl 1 (by decide) (S.2.2.2.2 _ (List.mem_of_getElem? (i := 2) rfl)) rfl rfl dX8_copyFrom_17 ?_
  refine sc_alen S hK hV 0 ht1 rfl dX8_copyFrom_20 ?_
  refine sb_ne (tgt := 54) S dX8_copyFrom_21 (by decide) (by omega) (fun c2 => absurd c2 (by omega)) (fun _ => ?_)
  refine lv_aload_n hx_ hb_ dX8_copyFrom_24 rfl (lv_at hl 1 rfl) ?_
  refine sc_get (ci := 6) (C := RX8) (T := TX8) (n := 3) S hK hV inX8_ hu0 rfl 1 (by decide) (S.2.2.2.2 _ (List.mem_of_getElem? (i := 2) rfl)) rfl rfl dX8_copyFrom_25 ?_
  refine si_const S dX8_copyFrom_28 ?_
  refine lv_aload_n hx_ hb_ dX8_copyFrom_29 rfl (lv_at hl 0 rfl) ?_
  refine sc_get (ci := 6) (C := RX8) (T := TX8) (n := 3) S hK hV inX8_ ht0 rfl 1 (by decide) (S.2.2.2.2 _ (List.mem_of_getElem? (i := 2) rfl)) rfl rfl dX8_copyFrom_30 ?_
  refine si_const S dX8_copyFrom_33 ?_
  refine lv_aload_n hx_ hb_ dX8_copyFrom_34 rfl (lv_at hl 1 rfl) ?_
  refine sc_get (ci := 6) (C := RX8) (T := TX8) (n := 3) S hK hV inX8_ hu0 rfl 2 (by decide) (S.2.2.2.2 _ (List.mem_of_getElem? (i := 3) rfl)) rfl rfl dX8_copyFrom_35 ?_
  refine lv_aload_n hx_ hb_ dX8_copyFrom_38 rfl (lv_at hl 0 rfl) ?_
  refine sc_get (ci := 6) (C := RX8) (T := TX8) (n := 3) S hK hV inX8_ ht0 rfl 0 (by decide) (S.2.2.2.2 _ (List.mem_of_getElem? (i := 1) rfl)) rfl rfl dX8_copyFrom_39 ?_
  refine si_mul S dX8_copyFrom_42 ?_
  refine sc_copy S hK hV hl.1 (S.2.2.2.2 _ (List.mem_of_getElem? (i := 4) rfl)) (S.2.2.2.2 _ (List.mem_of_getElem? (i := 5) rfl)) (S.2.2.2.2 _ (List.mem_of_getElem? (i := 6) rfl)) (S.2.2.2.2 _ (List.mem_of_getElem? (i := 7) rfl)) hu1 ht1 (sp := 0) (dp := 0) (n := r1 * c) (by omega) ⟨by decide, Nat.le_of_ble_eq_true rfl⟩ dX8_copyFrom_43 (fun M3 H locs hM3 hV => ?_)
  have hc4 : M3 (t + 1) = some (sArr G n (icpy g1 g 0 0 (r1 * c))) := (congrFun hM3 (t + 1)).trans (va_up_self M (t + 1) _)
  refine lv_aload_n hx_ hb_ dX8_copyFrom_46 rfl (lv_at hl 0 rfl) ?_
  refine lv_aload_n hx_ hb_ dX8_copyFrom_47 rfl (lv_at hl 1 rfl) ?_
  have hc5 : M3 u = some (sObj 6 [.int (sI c), .ref (u + 1), .int (sI r1)]) := ((congrFun hM3 u).trans (va_up_ne M _ (by omega))).trans hu0
  refine sc_get (ci := 6) (C := RX8) (T := TX8) (n := 3) S hK hV inX8_ hc5 rfl 2 (by decide) (S.2.2.2.2 _ (List.mem_of_getElem? (i := 3) rfl)) rfl rfl dX8_copyFrom_48 ?_
  have hc6 : M3 t = some (sObj 6 [.int (sI c), .ref (t + 1), .int (sI r)]) := ((congrFun hM3 t).trans (va_up_ne M _ (by omega))).trans ht0
  refine sc_put (ci := 6) (C := RX8) (T := TX8) (n := 3) S hK hV inX8_ tyX8_ok nmX8 hc6 rfl 2 (by decide) (S.2.2.2.2 _ (List.mem_of_getElem? (i := 3) rfl)) rfl rfl rfl rfl (Nat.le_of_ble_eq_true rfl) dX8_copyFrom_51 (fs1 := [.int (sI c), .ref (t + 1), .int (sI r1)]) rfl (fun M7 H locs hM7 hV => ?_)
  have hc8 : M7 t = some (sObj 6 [.int (sI c), .ref (t + 1), .int (sI r1)]) := (congrFun hM7 t).trans (va_up_self M3 t _)
  have hc9 : M7 (t + 1) = some (sArr G n (icpy g1 g 0 0 (r1 * c))) := ((congrFun hM7 (t + 1)).trans (va_up_ne M3 _ (by omega))).trans hc4
  exact sr_v E hQ dX8_copyFrom_54 ⟨Nat.le_of_ble_eq_true rfl, Nat.le_of_ble_eq_true rfl⟩ hV (⟨rfl, hc8, hc9, fun x q0 q1 => ((congrFun hM7 x).trans (va_up_ne M3 _ (by omega))).trans ((congrFun hM3 x).trans (va_up_ne M _ (by omega)))⟩)
