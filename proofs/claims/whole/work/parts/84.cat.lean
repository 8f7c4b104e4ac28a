/-! The class's Catalogue: its tokens, its rows. -/
/-- the token behind k, that begins at a -/
def tkR (t : sF) (n a tk te tv : Int) : Prop := (n ≤ a ∧ tk = 0) ∨ (ltP t n a ∧ te = reE (ltP t n) n a ∧ tk = (if te - a ≤ 4 then 1 else 4) ∧ tv = cfI t n a (te - a)) ∨ (dgP t n a ∧ te = reE (dgP t n) n a ∧ tk = (if te - a ≤ 5 then 2 else 4) ∧ tv = dgV t a (te - a).toNat) ∨ (a < n ∧ ¬ ltP t n a ∧ ¬ dgP t n a ∧ te = a + 1 ∧ tk = (if t a = 59 then 3 else 4))

abbrev rmX1_readWord : Room := { frames := 3, cells := 0, slots := 0, locals := 85 }
set_option maxHeartbeats 4000000 in
set_option maxRecDepth 100000 in
theorem kX1_readWord (l_ : Launch) (G : sG) (b_ : Nat) (M : sM) (N : Nat) (q a : Nat) (wc tk ts te tv n e : Int) (t : sF) (hq0 : M q = some (sObj 0 [.ref (q + 1), .ref (q + 3), .int (sI wc), .int (sI tk), .int (sI ts), .int (sI te), .int (sI tv)])) (ht0 : M a = some (sObj 7 [.ref (a + 1), .int (sI n), .int (sI e)])) (ht1 : M (a + 1) = some (sArr G 300 t)) (ht : tpOk t n) (hne : a + 2 ≤ q ∨ q + 4 ≤ a) (hs : 0 ≤ ts ∧ ts < n) : cV l_ yX1_readWord wsX1_readWord rmX1_readWord G b_ M N [.ref q, .ref a] (fun M1 N1 => ∃ k9 : Int, N1 = N ∧ M1 q = some (sObj 0 [.ref (q + 1), .ref (q + 3), .int (sI wc), .int (sI k9), .int (sI ts), .int (sI (reE (ltP t n) n ts)), .int (sI (cfI t n ts (reE (ltP t n) n ts - ts)))]) ∧ (∀ x : Nat, ¬ (x = q) → M1 x = M x) ∧ (k9 = if reE (ltP t n) n ts - ts ≤ 4 then 1 else 4)) := by
  refine sE.ofV (cc := cX1_readWord) (nL := 3) (ret := none) (by decide) rfl (Nat.le_of_ble_eq_true rfl) ?_
  intro p_ e_ s_ m_ args_ below_ meth_ c_ ls Q hQ E hl
  have E : sE p_ l_ e_ rmX1_readWord s_ m_ args_ below_ meth_ c_ cX1_readWord 3 wsX1_readWord RX1 "readWord" none G b_ M N := E
  have S := E.1
  have hx_ := S.1
  have hb_ := S.2.1
  have hK := E.2.2.2.2.1
  have hV := E.2.2.2.2.2.2
  have hl : lv_has ls 3 [(0, .ref q), (1, .ref a)] := hl
  have inX1_ : ∀ w ∈ wsX10, w ∈ wsX1_readWord := fun _ h => List.mem_cons_of_mem _ (List.mem_append_left _ (List.mem_append_right _ h))
  have inX9_ : ∀ w ∈ wsX90, w ∈ wsX1_readWord := fun _ h => List.mem_cons_of_mem _ (List.mem_append_right _ h)
  have hn1 := ht.1
  have hn2 := ht.2.1
  refine lv_aload_n hx_ hb_ dX1_readWord_0 rfl (lv_at hl 0 rfl) ?_
  refine sc_get (ci := 0) (C := RX1) (T := TX1) (n := 7) S hK hV inX1_ hq0 rfl 4 (by decide) (S.2.2.2.2 _ (List.mem_of_getElem? (i := 1) rfl)) rfl rfl dX1_readWord_1 ?_
  refine lv_istore_n (lv' := [(2, .int (sI ts)), (0, .ref q), (1, .ref a)]) hx_ hb_ dX1_readWord_4 rfl hl (by decide) rfl (fun ls hl => ?_)
  have L5 : ∀ (fuel : Nat) (k : Int)  (H : Heap) (locs : List Loc) (ls : Array Slot), ((n - k).toNat) < fuel → (ts ≤ k ∧ k ≤ n) → (∀ i, ts ≤ i → i < k → ltP t n i) → sV G b_ M N s_ H locs → lv_has ls 3 [(0, .ref q), (1, .ref a), (2, .int (sI k))] → W p_ l_ e_ rmX1_readWord s_ m_ args_ below_ meth_ c_ H locs 0 0 Q (F0 m_ 5 ls []) := by
    intro fuel
    induction fuel with
    | zero => intro k H locs ls hmu; exact absurd hmu (Nat.not_lt_zero _)
    | succ fuel ih5 =>
      intro k H locs ls hmu5 hv5_0 hL  hV hl
      refine lv_iload_n hx_ hb_ dX1_readWord_5 rfl (lv_at hl 2 rfl) ?_
      refine lv_aload_n hx_ hb_ dX1_readWord_6 rfl (lv_at hl 1 rfl) ?_
      refine sk_VP E hV (As := []) (rest := [.int (sI k)]) (kX9_length l_ G b_ M N a n e ht0) (cwV 0 S.2.2.2.2 gX1_readWord_X9_length rfl rfl rfl (by decide +kernel) ⟨Nat.le_of_ble_eq_true rfl, Nat.le_of_ble_eq_true rfl⟩) (ci := 7) ht0 rfl rfl rfl hl.1 (Nat.le_of_ble_eq_true rfl) dX1_readWord_7 (c1 := 0) (s1 := 0) ⟨⟨rfl, rfl⟩, by decide, by decide⟩ (fun H locs hV => ?_)
      refine sb_ge (tgt := 30) S dX1_readWord_10 (by decide) (by omega) (fun c1 => ?_) (fun c1 => ?_)
      · have hee : reE (ltP t n) n ts = k := reE_eq (by omega) hL (fun q r => by have h9 := r.1; have h8 := r.2; omega)
        refine lv_aload_n hx_ hb_ dX1_readWord_30 rfl (lv_at hl 0 rfl) ?_
        refine lv_iload_n hx_ hb_ dX1_readWord_31 rfl (lv_at hl 2 rfl) ?_
        refine sc_put (ci := 0) (C := RX1) (T := TX1) (n := 7) S hK hV inX1_ tyX1_ok nmX1 hq0 rfl 5 (by decide) (S.2.2.2.2 _ (List.mem_of_getElem? (i := 2) rfl)) rfl rfl rfl rfl (Nat.le_of_ble_eq_true rfl) dX1_readWord_32 (fs1 := [.ref (q + 1), .ref (q + 3), .int (sI wc), .int (sI tk), .int (sI ts), .int (sI k), .int (sI tv)]) rfl (fun M2 H locs hM2 hV => ?_)
        have hc3 : M2 q = some (sObj 0 [.ref (q + 1), .ref (q + 3), .int (sI wc), .int (sI tk), .int (sI ts), .int (sI k), .int (sI tv)]) := (congrFun hM2 q).trans (va_up_self M q _)
        refine lv_aload_n hx_ hb_ dX1_readWord_35 rfl (lv_at hl 0 rfl) ?_
        refine lv_iload_n hx_ hb_ dX1_readWord_36 rfl (lv_at hl 2 rfl) ?_
        refine lv_aload_n hx_ hb_ dX1_readWord_37 rfl (lv_at hl 0 rfl) ?_
        refine sc_get (ci := 0) (C := RX1) (T := TX1) (n := 7) S hK hV inX1_ hc3 rfl 4 (by decide) (S.2.2.2.2 _ (List.mem_of_getElem? (i := 1) rfl)) rfl rfl dX1_readWord_38 ?_
        refine si_sub S dX1_readWord_41 ?_
        refine si_const S dX1_readWord_42 ?_
        refine sb_gt (tgt := 50) S dX1_readWord_43 (by decide) (by omega) (fun c4 => ?_) (fun c4 => ?_)
        · refine si_const S dX1_readWord_50 ?_
          refine sc_put (ci := 0) (C := RX1) (T := TX1) (n := 7) S hK hV inX1_ tyX1_ok nmX1 hc3 rfl 3 (by decide) (S.2.2.2.2 _ (List.mem_of_getElem? (i := 3) rfl)) rfl rfl rfl rfl (Nat.le_of_ble_eq_true rfl) dX1_readWord_51 (fs1 := [.ref (q + 1), .ref (q + 3), .int (sI wc), .int (sI 4), .int (sI ts), .int (sI k), .int (sI tv)]) rfl (fun M5 H locs hM5 hV => ?_)
          have hc6 : M5 q = some (sObj 0 [.ref (q + 1), .ref (q + 3), .int (sI wc), .int (sI 4), .int (sI ts), .int (sI k), .int (sI tv)]) := (congrFun hM5 q).trans (va_up_self M2 q _)
          refine lv_aload_n hx_ hb_ dX1_readWord_54 rfl (lv_at hl 0 rfl) ?_
          refine lv_aload_n hx_ hb_ dX1_readWord_55 rfl (lv_at hl 1 rfl) ?_
          refine lv_aload_n hx_ hb_ dX1_readWord_56 rfl (lv_at hl 0 rfl) ?_
          refine sc_get (ci := 0) (C := RX1) (T := TX1) (n := 7) S hK hV inX1_ hc6 rfl 4 (by decide) (S.2.2.2.2 _ (List.mem_of_getElem? (i := 1) rfl)) rfl rfl dX1_readWord_57 ?_
          refine lv_iload_n hx_ hb_ dX1_readWord_60 rfl (lv_at hl 2 rfl) ?_
          refine lv_aload_n hx_ hb_ dX1_readWord_61 rfl (lv_at hl 0 rfl) ?_
          refine sc_get (ci := 0) (C := RX1) (T := TX1) (n := 7) S hK hV inX1_ hc6 rfl 4 (by decide) (S.2.2.2.2 _ (List.mem_of_getElem? (i := 1) rfl)) rfl rfl dX1_readWord_62 ?_
          refine si_sub S dX1_readWord_65 ?_
          have hc7 : M5 a = some (sObj 7 [.ref (a + 1), .int (sI n), .int (sI e)]) := (((congrFun hM5 a).trans (va_up_ne M2 _ (by omega))).trans ((congrFun hM2 a).trans (va_up_ne M _ (by omega)))).trans ht0
          have hc8 : M5 (a + 1) = some (sArr G 300 t) := (((congrFun hM5 (a + 1)).trans (va_up_ne M2 _ (by omega))).trans ((congrFun hM2 (a + 1)).trans (va_up_ne M _ (by omega)))).trans ht1
          refine sk_VP E hV (As := [.int (sI ts), .int (sI (k - ts))]) (rest := [.ref q]) (kX9_codeFrom l_ G b_ M5 N a n e t ts (k - ts) hc7 hc8 (ht) (by omega)) (cwV 2 S.2.2.2.2 gX1_readWord_X9_codeFrom rfl rfl rfl (by decide +kernel) ⟨Nat.le_of_ble_eq_true rfl, Nat.le_of_ble_eq_true rfl⟩) (ci := 7) hc7 rfl rfl rfl hl.1 (Nat.le_of_ble_eq_true rfl) dX1_readWord_66 (c1 := 0) (s1 := 0) ⟨⟨rfl, rfl⟩, by decide, by decide⟩ (fun H locs hV => ?_)
          refine sc_put (ci := 0) (C := RX1) (T := TX1) (n := 7) S hK hV inX1_ tyX1_ok nmX1 hc6 rfl 6 (by decide) (S.2.2.2.2 _ (List.mem_of_getElem? (i := 4) rfl)) rfl rfl rfl rfl (Nat.le_of_ble_eq_true rfl) dX1_readWord_69 (fs1 := [.ref (q + 1), .ref (q + 3), .int (sI wc), .int (sI 4), .int (sI ts), .int (sI k), .int (sI (cfI t n ts (k - ts)))]) rfl (fun M9 H locs hM9 hV => ?_)
          have hc10 : M9 q = some (sObj 0 [.ref (q + 1), .ref (q + 3), .int (sI wc), .int (sI 4), .int (sI ts), .int (sI k), .int (sI (cfI t n ts (k - ts)))]) := (congrFun hM9 q).trans (va_up_self M5 q _)
          exact sr_v E hQ dX1_readWord_72 ⟨Nat.le_of_ble_eq_true rfl, Nat.le_of_ble_eq_true rfl⟩ hV (⟨4, rfl, by rw [hee]; exact hc10, fun x q0 => (((congrFun hM9 x).trans (va_up_ne M5 _ (by omega))).trans ((congrFun hM5 x).trans (va_up_ne M2 _ (by omega)))).trans ((congrFun hM2 x).trans (va_up_ne M _ (by omega))), by rw [hee, if_neg (by omega)]⟩)
        · refine si_const S dX1_readWord_46 ?_
          refine lv_goto (tgt := 51) hx_ hb_ dX1_readWord_47 (by decide) ?_
          refine sc_put (ci := 0) (C := RX1) (T := TX1) (n := 7) S hK hV inX1_ tyX1_ok nmX1 hc3 rfl 3 (by decide) (S.2.2.2.2 _ (List.mem_of_getElem? (i := 3) rfl)) rfl rfl rfl rfl (Nat.le_of_ble_eq_true rfl) dX1_readWord_51 (fs1 := [.ref (q + 1), .ref (q + 3), .int (sI wc), .int (sI 1), .int (sI ts), .int (sI k), .int (sI tv)]) rfl (fun M11 H locs hM11 hV => ?_)
          have hc12 : M11 q = some (sObj 0 [.ref (q + 1), .ref (q + 3), .int (sI wc), .int (sI 1), .int (sI ts), .int (sI k), .int (sI tv)]) := (congrFun hM11 q).trans (va_up_self M2 q _)
          refine lv_aload_n hx_ hb_ dX1_readWord_54 rfl (lv_at hl 0 rfl) ?_
          refine lv_aload_n hx_ hb_ dX1_readWord_55 rfl (lv_at hl 1 rfl) ?_
          refine lv_aload_n hx_ hb_ dX1_readWord_56 rfl (lv_at hl 0 rfl) ?_
          refine sc_get (ci := 0) (C := RX1) (T := TX1) (n := 7) S hK hV inX1_ hc12 rfl 4 (by decide) (S.2.2.2.2 _ (List.mem_of_getElem? (i := 1) rfl)) rfl rfl dX1_readWord_57 ?_
          refine lv_iload_n hx_ hb_ dX1_readWord_60 rfl (lv_at hl 2 rfl) ?_
          refine lv_aload_n hx_ hb_ dX1_readWord_61 rfl (lv_at hl 0 rfl) ?_
          refine sc_get (ci := 0) (C := RX1) (T := TX1) (n := 7) S hK hV inX1_ hc12 rfl 4 (by decide) (S.2.2.2.2 _ (List.mem_of_getElem? (i := 1) rfl)) rfl rfl dX1_readWord_62 ?_
          refine si_sub S dX1_readWord_65 ?_
          have hc13 : M11 a = some (sObj 7 [.ref (a + 1), .int (sI n), .int (sI e)]) := (((congrFun hM11 a).trans (va_up_ne M2 _ (by omega))).trans ((congrFun hM2 a).trans (va_up_ne M _ (by omega)))).trans ht0
          have hc14 : M11 (a + 1) = some (sArr G 300 t) := (((congrFun hM11 (a + 1)).trans (va_up_ne M2 _ (by omega))).trans ((congrFun hM2 (a + 1)).trans (va_up_ne M _ (by omega)))).trans ht1
          refine sk_VP E hV (As := [.int (sI ts), .int (sI (k - ts))]) (rest := [.ref q]) (kX9_codeFrom l_ G b_ M11 N a n e t ts (k - ts) hc13 hc14 (ht) (by omega)) (cwV 2 S.2.2.2.2 gX1_readWord_X9_codeFrom rfl rfl rfl (by decide +kernel) ⟨Nat.le_of_ble_eq_true rfl, Nat.le_of_ble_eq_true rfl⟩) (ci := 7) hc13 rfl rfl rfl hl.1 (Nat.le_of_ble_eq_true rfl) dX1_readWord_66 (c1 := 0) (s1 := 0) ⟨⟨rfl, rfl⟩, by decide, by decide⟩ (fun H locs hV => ?_)
          refine sc_put (ci := 0) (C := RX1) (T := TX1) (n := 7) S hK hV inX1_ tyX1_ok nmX1 hc12 rfl 6 (by decide) (S.2.2.2.2 _ (List.mem_of_getElem? (i := 4) rfl)) rfl rfl rfl rfl (Nat.le_of_ble_eq_true rfl) dX1_readWord_69 (fs1 := [.ref (q + 1), .ref (q + 3), .int (sI wc), .int (sI 1), .int (sI ts), .int (sI k), .int (sI (cfI t n ts (k - ts)))]) rfl (fun M15 H locs hM15 hV => ?_)
          have hc16 : M15 q = some (sObj 0 [.ref (q + 1), .ref (q + 3), .int (sI wc), .int (sI 1), .int (sI ts), .int (sI k), .int (sI (cfI t n ts (k - ts)))]) := (congrFun hM15 q).trans (va_up_self M11 q _)
          exact sr_v E hQ dX1_readWord_72 ⟨Nat.le_of_ble_eq_true rfl, Nat.le_of_ble_eq_true rfl⟩ hV (⟨1, rfl, by rw [hee]; exact hc16, fun x q0 => (((congrFun hM15 x).trans (va_up_ne M11 _ (by omega))).trans ((congrFun hM11 x).trans (va_up_ne M2 _ (by omega)))).trans ((congrFun hM2 x).trans (va_up_ne M _ (by omega))), by rw [hee, if_pos (by omega)]⟩)
      · refine lv_aload_n hx_ hb_ dX1_readWord_13 rfl (lv_at hl 1 rfl) ?_
        refine lv_iload_n hx_ hb_ dX1_readWord_14 rfl (lv_at hl 2 rfl) ?_
        refine sk_VP E hV (As := [.int (sI k)]) (rest := []) (kX9_byteAt l_ G b_ M N a n e t k ht0 ht1 (ht) (by omega)) (cwV 1 S.2.2.2.2 gX1_readWord_X9_byteAt rfl rfl rfl (by decide +kernel) ⟨Nat.le_of_ble_eq_true rfl, Nat.le_of_ble_eq_true rfl⟩) (ci := 7) ht0 rfl rfl rfl hl.1 (Nat.le_of_ble_eq_true rfl) dX1_readWord_15 (c1 := 0) (s1 := 0) ⟨⟨rfl, rfl⟩, by decide, by decide⟩ (fun H locs hV => ?_)
        rw [show btI t n k = t k from if_pos (by omega)]
        have htb := bt_r ht k
        rw [show btI t n k = t k from if_pos (by omega)] at htb
        refine sk_SP E hV (As := [.int (sI (t k))]) (rest := []) (kX9_isLetter l_ G b_ M N (t k) (by omega)) (va_cwS 1 S.2.2.2.2 gX1_readWord_X9_isLetter rfl rfl rfl (by decide +kernel) ⟨Nat.le_of_ble_eq_true rfl, Nat.le_of_ble_eq_true rfl⟩) rfl rfl hl.1 (Nat.le_of_ble_eq_true rfl) dX1_readWord_18 (c1 := 0) (s1 := 0) ⟨⟨rfl, rfl⟩, by decide, by decide⟩ (fun H locs hV => ?_)
        refine sq_eq (tgt := 30) S dX1_readWord_21 (by decide) (fun c17 => ?_) (fun c17 => ?_)
        · have hee : reE (ltP t n) n ts = k := reE_eq (by omega) hL (fun q r => by have h9 := r.1; have h8 := r.2; omega)
          refine lv_aload_n hx_ hb_ dX1_readWord_30 rfl (lv_at hl 0 rfl) ?_
          refine lv_iload_n hx_ hb_ dX1_readWord_31 rfl (lv_at hl 2 rfl) ?_
          refine sc_put (ci := 0) (C := RX1) (T := TX1) (n := 7) S hK hV inX1_ tyX1_ok nmX1 hq0 rfl 5 (by decide) (S.2.2.2.2 _ (List.mem_of_getElem? (i := 2) rfl)) rfl rfl rfl rfl (Nat.le_of_ble_eq_true rfl) dX1_readWord_32 (fs1 := [.ref (q + 1), .ref (q + 3), .int (sI wc), .int (sI tk), .int (sI ts), .int (sI k), .int (sI tv)]) rfl (fun M18 H locs hM18 hV => ?_)
          have hc19 : M18 q = some (sObj 0 [.ref (q + 1), .ref (q + 3), .int (sI wc), .int (sI tk), .int (sI ts), .int (sI k), .int (sI tv)]) := (congrFun hM18 q).trans (va_up_self M q _)
          refine lv_aload_n hx_ hb_ dX1_readWord_35 rfl (lv_at hl 0 rfl) ?_
          refine lv_iload_n hx_ hb_ dX1_readWord_36 rfl (lv_at hl 2 rfl) ?_
          refine lv_aload_n hx_ hb_ dX1_readWord_37 rfl (lv_at hl 0 rfl) ?_
          refine sc_get (ci := 0) (C := RX1) (T := TX1) (n := 7) S hK hV inX1_ hc19 rfl 4 (by decide) (S.2.2.2.2 _ (List.mem_of_getElem? (i := 1) rfl)) rfl rfl dX1_readWord_38 ?_
          refine si_sub S dX1_readWord_41 ?_
          refine si_const S dX1_readWord_42 ?_
          refine sb_gt (tgt := 50) S dX1_readWord_43 (by decide) (by omega) (fun c20 => ?_) (fun c20 => ?_)
          · refine si_const S dX1_readWord_50 ?_
            refine sc_put (ci := 0) (C := RX1) (T := TX1) (n := 7) S hK hV inX1_ tyX1_ok nmX1 hc19 rfl 3 (by decide) (S.2.2.2.2 _ (List.mem_of_getElem? (i := 3) rfl)) rfl rfl rfl rfl (Nat.le_of_ble_eq_true rfl) dX1_readWord_51 (fs1 := [.ref (q + 1), .ref (q + 3), .int (sI wc), .int (sI 4), .int (sI ts), .int (sI k), .int (sI tv)]) rfl (fun M21 H locs hM21 hV => ?_)
            have hc22 : M21 q = some (sObj 0 [.ref (q + 1), .ref (q + 3), .int (sI wc), .int (sI 4), .int (sI ts), .int (sI k), .int (sI tv)]) := (congrFun hM21 q).trans (va_up_self M18 q _)
            refine lv_aload_n hx_ hb_ dX1_readWord_54 rfl (lv_at hl 0 rfl) ?_
            refine lv_aload_n hx_ hb_ dX1_readWord_55 rfl (lv_at hl 1 rfl) ?_
            refine lv_aload_n hx_ hb_ dX1_readWord_56 rfl (lv_at hl 0 rfl) ?_
            refine sc_get (ci := 0) (C := RX1) (T := TX1) (n := 7) S hK hV inX1_ hc22 rfl 4 (by decide) (S.2.2.2.2 _ (List.mem_of_getElem? (i := 1) rfl)) rfl rfl dX1_readWord_57 ?_
            refine lv_iload_n hx_ hb_ dX1_readWord_60 rfl (lv_at hl 2 rfl) ?_
            refine lv_aload_n hx_ hb_ dX1_readWord_61 rfl (lv_at hl 0 rfl) ?_
            refine sc_get (ci := 0) (C := RX1) (T := TX1) (n := 7) S hK hV inX1_ hc22 rfl 4 (by decide) (S.2.2.2.2 _ (List.mem_of_getElem? (i := 1) rfl)) rfl rfl dX1_readWord_62 ?_
            refine si_sub S dX1_readWord_65 ?_
            have hc23 : M21 a = some (sObj 7 [.ref (a + 1), .int (sI n), .int (sI e)]) := (((congrFun hM21 a).trans (va_up_ne M18 _ (by omega))).trans ((congrFun hM18 a).trans (va_up_ne M _ (by omega)))).trans ht0
            have hc24 : M21 (a + 1) = some (sArr G 300 t) := (((congrFun hM21 (a + 1)).trans (va_up_ne M18 _ (by omega))).trans ((congrFun hM18 (a + 1)).trans (va_up_ne M _ (by omega)))).trans ht1
            refine sk_VP E hV (As := [.int (sI ts), .int (sI (k - ts))]) (rest := [.ref q]) (kX9_codeFrom l_ G b_ M21 N a n e t ts (k - ts) hc23 hc24 (ht) (by omega)) (cwV 2 S.2.2.2.2 gX1_readWord_X9_codeFrom rfl rfl rfl (by decide +kernel) ⟨Nat.le_of_ble_eq_true rfl, Nat.le_of_ble_eq_true rfl⟩) (ci := 7) hc23 rfl rfl rfl hl.1 (Nat.le_of_ble_eq_true rfl) dX1_readWord_66 (c1 := 0) (s1 := 0) ⟨⟨rfl, rfl⟩, by decide, by decide⟩ (fun H locs hV => ?_)
            refine sc_put (ci := 0) (C := RX1) (T := TX1) (n := 7) S hK hV inX1_ tyX1_ok nmX1 hc22 rfl 6 (by decide) (S.2.2.2.2 _ (List.mem_of_getElem? (i := 4) rfl)) rfl rfl rfl rfl (Nat.le_of_ble_eq_true rfl) dX1_readWord_69 (fs1 := [.ref (q + 1), .ref (q + 3), .int (sI wc), .int (sI 4), .int (sI ts), .int (sI k), .int (sI (cfI t n ts (k - ts)))]) rfl (fun M25 H locs hM25 hV => ?_)
            have hc26 : M25 q = some (sObj 0 [.ref (q + 1), .ref (q + 3), .int (sI wc), .int (sI 4), .int (sI ts), .int (sI k), .int (sI (cfI t n ts (k - ts)))]) := (congrFun hM25 q).trans (va_up_self M21 q _)
            exact sr_v E hQ dX1_readWord_72 ⟨Nat.le_of_ble_eq_true rfl, Nat.le_of_ble_eq_true rfl⟩ hV (⟨4, rfl, by rw [hee]; exact hc26, fun x q0 => (((congrFun hM25 x).trans (va_up_ne M21 _ (by omega))).trans ((congrFun hM21 x).trans (va_up_ne M18 _ (by omega)))).trans ((congrFun hM18 x).trans (va_up_ne M _ (by omega))), by rw [hee, if_neg (by omega)]⟩)
          · refine si_const S dX1_readWord_46 ?_
            refine lv_goto (tgt := 51) hx_ hb_ dX1_readWord_47 (by decide) ?_
            refine sc_put (ci := 0) (C := RX1) (T := TX1) (n := 7) S hK hV inX1_ tyX1_ok nmX1 hc19 rfl 3 (by decide) (S.2.2.2.2 _ (List.mem_of_getElem? (i := 3) rfl)) rfl rfl rfl rfl (Nat.le_of_ble_eq_true rfl) dX1_readWord_51 (fs1 := [.ref (q + 1), .ref (q + 3), .int (sI wc), .int (sI 1), .int (sI ts), .int (sI k), .int (sI tv)]) rfl (fun M27 H locs hM27 hV => ?_)
            have hc28 : M27 q = some (sObj 0 [.ref (q + 1), .ref (q + 3), .int (sI wc), .int (sI 1), .int (sI ts), .int (sI k), .int (sI tv)]) := (congrFun hM27 q).trans (va_up_self M18 q _)
            refine lv_aload_n hx_ hb_ dX1_readWord_54 rfl (lv_at hl 0 rfl) ?_
            refine lv_aload_n hx_ hb_ dX1_readWord_55 rfl (lv_at hl 1 rfl) ?_
            refine lv_aload_n hx_ hb_ dX1_readWord_56 rfl (lv_at hl 0 rfl) ?_
            refine sc_get (ci := 0) (C := RX1) (T := TX1) (n := 7) S hK hV inX1_ hc28 rfl 4 (by decide) (S.2.2.2.2 _ (List.mem_of_getElem? (i := 1) rfl)) rfl rfl dX1_readWord_57 ?_
            refine lv_iload_n hx_ hb_ dX1_readWord_60 rfl (lv_at hl 2 rfl) ?_
            refine lv_aload_n hx_ hb_ dX1_readWord_61 rfl (lv_at hl 0 rfl) ?_
            refine sc_get (ci := 0) (C := RX1) (T := TX1) (n := 7) S hK hV inX1_ hc28 rfl 4 (by decide) (S.2.2.2.2 _ (List.mem_of_getElem? (i := 1) rfl)) rfl rfl dX1_readWord_62 ?_
            refine si_sub S dX1_readWord_65 ?_
            have hc29 : M27 a = some (sObj 7 [.ref (a + 1), .int (sI n), .int (sI e)]) := (((congrFun hM27 a).trans (va_up_ne M18 _ (by omega))).trans ((congrFun hM18 a).trans (va_up_ne M _ (by omega)))).trans ht0
            have hc30 : M27 (a + 1) = some (sArr G 300 t) := (((congrFun hM27 (a + 1)).trans (va_up_ne M18 _ (by omega))).trans ((congrFun hM18 (a + 1)).trans (va_up_ne M _ (by omega)))).trans ht1
            refine sk_VP E hV (As := [.int (sI ts), .int (sI (k - ts))]) (rest := [.ref q]) (kX9_codeFrom l_ G b_ M27 N a n e t ts (k - ts) hc29 hc30 (ht) (by omega)) (cwV 2 S.2.2.2.2 gX1_readWord_X9_codeFrom rfl rfl rfl (by decide +kernel) ⟨Nat.le_of_ble_eq_true rfl, Nat.le_of_ble_eq_true rfl⟩) (ci := 7) hc29 rfl rfl rfl hl.1 (Nat.le_of_ble_eq_true rfl) dX1_readWord_66 (c1 := 0) (s1 := 0) ⟨⟨rfl, rfl⟩, by decide, by decide⟩ (fun H locs hV => ?_)
            refine sc_put (ci := 0) (C := RX1) (T := TX1) (n := 7) S hK hV inX1_ tyX1_ok nmX1 hc28 rfl 6 (by decide) (S.2.2.2.2 _ (List.mem_of_getElem? (i := 4) rfl)) rfl rfl rfl rfl (Nat.le_of_ble_eq_true rfl) dX1_readWord_69 (fs1 := [.ref (q + 1), .ref (q + 3), .int (sI wc), .int (sI 1), .int (sI ts), .int (sI k), .int (sI (cfI t n ts (k - ts)))]) rfl (fun M31 H locs hM31 hV => ?_)
            have hc32 : M31 q = some (sObj 0 [.ref (q + 1), .ref (q + 3), .int (sI wc), .int (sI 1), .int (sI ts), .int (sI k), .int (sI (cfI t n ts (k - ts)))]) := (congrFun hM31 q).trans (va_up_self M27 q _)
            exact sr_v E hQ dX1_readWord_72 ⟨Nat.le_of_ble_eq_true rfl, Nat.le_of_ble_eq_true rfl⟩ hV (⟨1, rfl, by rw [hee]; exact hc32, fun x q0 => (((congrFun hM31 x).trans (va_up_ne M27 _ (by omega))).trans ((congrFun hM27 x).trans (va_up_ne M18 _ (by omega)))).trans ((congrFun hM18 x).trans (va_up_ne M _ (by omega))), by rw [hee, if_pos (by omega)]⟩)
        · refine si_inc (lv' := [(2, .int (sI (k + 1))), (0, .ref q), (1, .ref a)]) S dX1_readWord_24 hl (k := 2) rfl (by decide) rfl (fun ls hl => ?_)
          refine lv_goto (tgt := 5) hx_ hb_ dX1_readWord_27 (by decide) ?_
          exact ih5 (k + 1) _ _ _ (by omega) (by omega) (fun i x y => by by_cases e9 : i = k; exact (by rw [e9]; exact ⟨by omega, by omega, by omega⟩); exact hL i x (by omega)) hV (lv_sub hl [1, 2, 0] rfl)
  exact L5 _ ts _ _ _ (Nat.lt_succ_self _) (by omega) (fun i x y => by omega) hV (lv_sub hl [1, 2, 0] rfl)

abbrev rmX1_readNumber : Room := { frames := 2, cells := 0, slots := 0, locals := 61 }
set_option maxHeartbeats 4000000 in
set_option maxRecDepth 100000 in
theorem kX1_readNumber (l_ : Launch) (G : sG) (b_ : Nat) (M : sM) (N : Nat) (q a : Nat) (wc tk ts te tv n e : Int) (t : sF) (hq0 : M q = some (sObj 0 [.ref (q + 1), .ref (q + 3), .int (sI wc), .int (sI tk), .int (sI ts), .int (sI te), .int (sI tv)])) (ht0 : M a = some (sObj 7 [.ref (a + 1), .int (sI n), .int (sI e)])) (ht1 : M (a + 1) = some (sArr G 300 t)) (ht : tpOk t n) (hne : a + 2 ≤ q ∨ q + 4 ≤ a) (hs : 0 ≤ ts ∧ ts < n) : cV l_ yX1_readNumber wsX1_readNumber rmX1_readNumber G b_ M N [.ref q, .ref a] (fun M1 N1 => ∃ k9 : Int, N1 = N ∧ M1 q = some (sObj 0 [.ref (q + 1), .ref (q + 3), .int (sI wc), .int (sI k9), .int (sI ts), .int (sI (reE (dgP t n) n ts)), .int (sI (dgV t ts (reE (dgP t n) n ts - ts).toNat))]) ∧ (∀ x : Nat, ¬ (x = q) → M1 x = M x) ∧ (k9 = if reE (dgP t n) n ts - ts ≤ 5 then 2 else 4)) := by
  refine sE.ofV (cc := cX1_readNumber) (nL := 3) (ret := none) (by decide) rfl (Nat.le_of_ble_eq_true rfl) ?_
  intro p_ e_ s_ m_ args_ below_ meth_ c_ ls Q hQ E hl
  have E : sE p_ l_ e_ rmX1_readNumber s_ m_ args_ below_ meth_ c_ cX1_readNumber 3 wsX1_readNumber RX1 "readNumber" none G b_ M N := E
  have S := E.1
  have hx_ := S.1
  have hb_ := S.2.1
  have hK := E.2.2.2.2.1
  have hV := E.2.2.2.2.2.2
  have hl : lv_has ls 3 [(0, .ref q), (1, .ref a)] := hl
  have inX1_ : ∀ w ∈ wsX10, w ∈ wsX1_readNumber := fun _ h => List.mem_cons_of_mem _ (List.mem_append_left _ (List.mem_append_right _ h))
  have inX9_ : ∀ w ∈ wsX90, w ∈ wsX1_readNumber := fun _ h => List.mem_cons_of_mem _ (List.mem_append_right _ h)
  have hn1 := ht.1
  have hn2 := ht.2.1
  refine lv_aload_n hx_ hb_ dX1_readNumber_0 rfl (lv_at hl 0 rfl) ?_
  refine sc_get (ci := 0) (C := RX1) (T := TX1) (n := 7) S hK hV inX1_ hq0 rfl 4 (by decide) (S.2.2.2.2 _ (List.mem_of_getElem? (i := 1) rfl)) rfl rfl dX1_readNumber_1 ?_
  refine lv_istore_n (lv' := [(2, .int (sI ts)), (0, .ref q), (1, .ref a)]) hx_ hb_ dX1_readNumber_4 rfl hl (by decide) rfl (fun ls hl => ?_)
  refine lv_aload_n hx_ hb_ dX1_readNumber_5 rfl (lv_at hl 1 rfl) ?_
  refine si_const S dX1_readNumber_6 ?_
  refine sc_put (ci := 0) (C := RX1) (T := TX1) (n := 7) S hK hV inX1_ tyX1_ok nmX1 hq0 rfl 6 (by decide) (S.2.2.2.2 _ (List.mem_of_getElem? (i := 2) rfl)) rfl rfl rfl rfl (Nat.le_of_ble_eq_true rfl) dX1_readNumber_7 (fs1 := [.ref (q + 1), .ref (q + 3), .int (sI wc), .int (sI tk), .int (sI ts), .int (sI te), .int (sI 0)]) rfl (fun M1 H locs hM1 hV => ?_)
  have hc2 : M1 q = some (sObj 0 [.ref (q + 1), .ref (q + 3), .int (sI wc), .int (sI tk), .int (sI ts), .int (sI te), .int (sI 0)]) := (congrFun hM1 q).trans (va_up_self M q _)
  have L10 : ∀ (fuel : Nat) (k : Int) (tv2 : Int) (Ml10 : sM) (H : Heap) (locs : List Loc) (ls : Array Slot), ((n - k).toNat) < fuel → (ts ≤ k ∧ k ≤ n) → (∀ i, ts ≤ i → i < k → dgP t n i) → (tv2 = dgV t ts (k - ts).toNat) → (Ml10 q = some (sObj 0 [.ref (q + 1), .ref (q + 3), .int (sI wc), .int (sI tk), .int (sI ts), .int (sI te), .int (sI tv2)])) → (∀ x : Nat, ¬ (x = q) → Ml10 x = M1 x) → sV G b_ Ml10 N s_ H locs → lv_has ls 3 [(0, .ref q), (1, .ref a), (2, .int (sI k))] → W p_ l_ e_ rmX1_readNumber s_ m_ args_ below_ meth_ c_ H locs 0 0 Q (F0 m_ 10 ls []) := by
    intro fuel
    induction fuel with
    | zero => intro k tv2 Ml10 H locs ls hmu; exact absurd hmu (Nat.not_lt_zero _)
    | succ fuel ih10 =>
      intro k tv2 Ml10 H locs ls hmu10 hv10_0 hL htv hm10_0 hfr10 hV hl
      refine lv_iload_n hx_ hb_ dX1_readNumber_10 rfl (lv_at hl 2 rfl) ?_
      refine lv_aload_n hx_ hb_ dX1_readNumber_11 rfl (lv_at hl 1 rfl) ?_
      have hc3 : Ml10 a = some (sObj 7 [.ref (a + 1), .int (sI n), .int (sI e)]) := ((hfr10 a (by omega)).trans ((congrFun hM1 a).trans (va_up_ne M _ (by omega)))).trans ht0
      refine sk_VP E hV (As := []) (rest := [.int (sI k)]) (kX9_length l_ G b_ Ml10 N a n e hc3) (cwV 0 S.2.2.2.2 gX1_readNumber_X9_length rfl rfl rfl (by decide +kernel) ⟨Nat.le_of_ble_eq_true rfl, Nat.le_of_ble_eq_true rfl⟩) (ci := 7) hc3 rfl rfl rfl hl.1 (Nat.le_of_ble_eq_true rfl) dX1_readNumber_12 (c1 := 0) (s1 := 0) ⟨⟨rfl, rfl⟩, by decide, by decide⟩ (fun H locs hV => ?_)
      refine sb_ge (tgt := 55) S dX1_readNumber_15 (by decide) (by omega) (fun c4 => ?_) (fun c4 => ?_)
      · have hee : reE (dgP t n) n ts = k := reE_eq (by omega) hL (fun q r => by have h9 := r.1; have h8 := r.2; omega)
        refine lv_aload_n hx_ hb_ dX1_readNumber_55 rfl (lv_at hl 0 rfl) ?_
        refine lv_iload_n hx_ hb_ dX1_readNumber_56 rfl (lv_at hl 2 rfl) ?_
        refine sc_put (ci := 0) (C := RX1) (T := TX1) (n := 7) S hK hV inX1_ tyX1_ok nmX1 hm10_0 rfl 5 (by decide) (S.2.2.2.2 _ (List.mem_of_getElem? (i := 3) rfl)) rfl rfl rfl rfl (Nat.le_of_ble_eq_true rfl) dX1_readNumber_57 (fs1 := [.ref (q + 1), .ref (q + 3), .int (sI wc), .int (sI tk), .int (sI ts), .int (sI k), .int (sI tv2)]) rfl (fun M5 H locs hM5 hV => ?_)
        have hc6 : M5 q = some (sObj 0 [.ref (q + 1), .ref (q + 3), .int (sI wc), .int (sI tk), .int (sI ts), .int (sI k), .int (sI tv2)]) := (congrFun hM5 q).trans (va_up_self Ml10 q _)
        refine lv_aload_n hx_ hb_ dX1_readNumber_60 rfl (lv_at hl 0 rfl) ?_
        refine lv_iload_n hx_ hb_ dX1_readNumber_61 rfl (lv_at hl 2 rfl) ?_
        refine lv_aload_n hx_ hb_ dX1_readNumber_62 rfl (lv_at hl 0 rfl) ?_
        refine sc_get (ci := 0) (C := RX1) (T := TX1) (n := 7) S hK hV inX1_ hc6 rfl 4 (by decide) (S.2.2.2.2 _ (List.mem_of_getElem? (i := 1) rfl)) rfl rfl dX1_readNumber_63 ?_
        refine si_sub S dX1_readNumber_66 ?_
        refine si_const S dX1_readNumber_67 ?_
        refine sb_gt (tgt := 75) S dX1_readNumber_68 (by decide) (by omega) (fun c7 => ?_) (fun c7 => ?_)
        · refine si_const S dX1_readNumber_75 ?_
          refine sc_put (ci := 0) (C := RX1) (T := TX1) (n := 7) S hK hV inX1_ tyX1_ok nmX1 hc6 rfl 3 (by decide) (S.2.2.2.2 _ (List.mem_of_getElem? (i := 4) rfl)) rfl rfl rfl rfl (Nat.le_of_ble_eq_true rfl) dX1_readNumber_76 (fs1 := [.ref (q + 1), .ref (q + 3), .int (sI wc), .int (sI 4), .int (sI ts), .int (sI k), .int (sI tv2)]) rfl (fun M8 H locs hM8 hV => ?_)
          have hc9 : M8 q = some (sObj 0 [.ref (q + 1), .ref (q + 3), .int (sI wc), .int (sI 4), .int (sI ts), .int (sI k), .int (sI tv2)]) := (congrFun hM8 q).trans (va_up_self M5 q _)
          exact sr_v E hQ dX1_readNumber_79 ⟨Nat.le_of_ble_eq_true rfl, Nat.le_of_ble_eq_true rfl⟩ hV (⟨4, rfl, by rw [hee, ← htv]; exact hc9, fun x q0 => ((((congrFun hM8 x).trans (va_up_ne M5 _ (by omega))).trans ((congrFun hM5 x).trans (va_up_ne Ml10 _ (by omega)))).trans (hfr10 x (by omega))).trans ((congrFun hM1 x).trans (va_up_ne M _ (by omega))), by rw [hee, if_neg (by omega)]⟩)
        · refine si_const S dX1_readNumber_71 ?_
          refine lv_goto (tgt := 76) hx_ hb_ dX1_readNumber_72 (by decide) ?_
          refine sc_put (ci := 0) (C := RX1) (T := TX1) (n := 7) S hK hV inX1_ tyX1_ok nmX1 hc6 rfl 3 (by decide) (S.2.2.2.2 _ (List.mem_of_getElem? (i := 4) rfl)) rfl rfl rfl rfl (Nat.le_of_ble_eq_true rfl) dX1_readNumber_76 (fs1 := [.ref (q + 1), .ref (q + 3), .int (sI wc), .int (sI 2), .int (sI ts), .int (sI k), .int (sI tv2)]) rfl (fun M10 H locs hM10 hV => ?_)
          have hc11 : M10 q = some (sObj 0 [.ref (q + 1), .ref (q + 3), .int (sI wc), .int (sI 2), .int (sI ts), .int (sI k), .int (sI tv2)]) := (congrFun hM10 q).trans (va_up_self M5 q _)
          exact sr_v E hQ dX1_readNumber_79 ⟨Nat.le_of_ble_eq_true rfl, Nat.le_of_ble_eq_true rfl⟩ hV (⟨2, rfl, by rw [hee, ← htv]; exact hc11, fun x q0 => ((((congrFun hM10 x).trans (va_up_ne M5 _ (by omega))).trans ((congrFun hM5 x).trans (va_up_ne Ml10 _ (by omega)))).trans (hfr10 x (by omega))).trans ((congrFun hM1 x).trans (va_up_ne M _ (by omega))), by rw [hee, if_pos (by omega)]⟩)
      · refine lv_aload_n hx_ hb_ dX1_readNumber_18 rfl (lv_at hl 1 rfl) ?_
        refine lv_iload_n hx_ hb_ dX1_readNumber_19 rfl (lv_at hl 2 rfl) ?_
        have hc12 : Ml10 (a + 1) = some (sArr G 300 t) := ((hfr10 (a + 1) (by omega)).trans ((congrFun hM1 (a + 1)).trans (va_up_ne M _ (by omega)))).trans ht1
        refine sk_VP E hV (As := [.int (sI k)]) (rest := []) (kX9_byteAt l_ G b_ Ml10 N a n e t k hc3 hc12 (ht) (by omega)) (cwV 1 S.2.2.2.2 gX1_readNumber_X9_byteAt rfl rfl rfl (by decide +kernel) ⟨Nat.le_of_ble_eq_true rfl, Nat.le_of_ble_eq_true rfl⟩) (ci := 7) hc3 rfl rfl rfl hl.1 (Nat.le_of_ble_eq_true rfl) dX1_readNumber_20 (c1 := 0) (s1 := 0) ⟨⟨rfl, rfl⟩, by decide, by decide⟩ (fun H locs hV => ?_)
        rw [show btI t n k = t k from if_pos (by omega)]
        have htb := bt_r ht k
        rw [show btI t n k = t k from if_pos (by omega)] at htb
        refine sk_SP E hV (As := [.int (sI (t k))]) (rest := []) (kX9_isDigit l_ G b_ Ml10 N (t k) (by omega)) (va_cwS 1 S.2.2.2.2 gX1_readNumber_X9_isDigit rfl rfl rfl (by decide +kernel) ⟨Nat.le_of_ble_eq_true rfl, Nat.le_of_ble_eq_true rfl⟩) rfl rfl hl.1 (Nat.le_of_ble_eq_true rfl) dX1_readNumber_23 (c1 := 0) (s1 := 0) ⟨⟨rfl, rfl⟩, by decide, by decide⟩ (fun H locs hV => ?_)
        refine sq_eq (tgt := 55) S dX1_readNumber_26 (by decide) (fun c13 => ?_) (fun c13 => ?_)
        · have hee : reE (dgP t n) n ts = k := reE_eq (by omega) hL (fun q r => by have h9 := r.1; have h8 := r.2; omega)
          refine lv_aload_n hx_ hb_ dX1_readNumber_55 rfl (lv_at hl 0 rfl) ?_
          refine lv_iload_n hx_ hb_ dX1_readNumber_56 rfl (lv_at hl 2 rfl) ?_
          refine sc_put (ci := 0) (C := RX1) (T := TX1) (n := 7) S hK hV inX1_ tyX1_ok nmX1 hm10_0 rfl 5 (by decide) (S.2.2.2.2 _ (List.mem_of_getElem? (i := 3) rfl)) rfl rfl rfl rfl (Nat.le_of_ble_eq_true rfl) dX1_readNumber_57 (fs1 := [.ref (q + 1), .ref (q + 3), .int (sI wc), .int (sI tk), .int (sI ts), .int (sI k), .int (sI tv2)]) rfl (fun M14 H locs hM14 hV => ?_)
          have hc15 : M14 q = some (sObj 0 [.ref (q + 1), .ref (q + 3), .int (sI wc), .int (sI tk), .int (sI ts), .int (sI k), .int (sI tv2)]) := (congrFun hM14 q).trans (va_up_self Ml10 q _)
          refine lv_aload_n hx_ hb_ dX1_readNumber_60 rfl (lv_at hl 0 rfl) ?_
          refine lv_iload_n hx_ hb_ dX1_readNumber_61 rfl (lv_at hl 2 rfl) ?_
          refine lv_aload_n hx_ hb_ dX1_readNumber_62 rfl (lv_at hl 0 rfl) ?_
          refine sc_get (ci := 0) (C := RX1) (T := TX1) (n := 7) S hK hV inX1_ hc15 rfl 4 (by decide) (S.2.2.2.2 _ (List.mem_of_getElem? (i := 1) rfl)) rfl rfl dX1_readNumber_63 ?_
          refine si_sub S dX1_readNumber_66 ?_
          refine si_const S dX1_readNumber_67 ?_
          refine sb_gt (tgt := 75) S dX1_readNumber_68 (by decide) (by omega) (fun c16 => ?_) (fun c16 => ?_)
          · refine si_const S dX1_readNumber_75 ?_
            refine sc_put (ci := 0) (C := RX1) (T := TX1) (n := 7) S hK hV inX1_ tyX1_ok nmX1 hc15 rfl 3 (by decide) (S.2.2.2.2 _ (List.mem_of_getElem? (i := 4) rfl)) rfl rfl rfl rfl (Nat.le_of_ble_eq_true rfl) dX1_readNumber_76 (fs1 := [.ref (q + 1), .ref (q + 3), .int (sI wc), .int (sI 4), .int (sI ts), .int (sI k), .int (sI tv2)]) rfl (fun M17 H locs hM17 hV => ?_)
            have hc18 : M17 q = some (sObj 0 [.ref (q + 1), .ref (q + 3), .int (sI wc), .int (sI 4), .int (sI ts), .int (sI k), .int (sI tv2)]) := (congrFun hM17 q).trans (va_up_self M14 q _)
            exact sr_v E hQ dX1_readNumber_79 ⟨Nat.le_of_ble_eq_true rfl, Nat.le_of_ble_eq_true rfl⟩ hV (⟨4, rfl, by rw [hee, ← htv]; exact hc18, fun x q0 => ((((congrFun hM17 x).trans (va_up_ne M14 _ (by omega))).trans ((congrFun hM14 x).trans (va_up_ne Ml10 _ (by omega)))).trans (hfr10 x (by omega))).trans ((congrFun hM1 x).trans (va_up_ne M _ (by omega))), by rw [hee, if_neg (by omega)]⟩)
          · refine si_const S dX1_readNumber_71 ?_
            refine lv_goto (tgt := 76) hx_ hb_ dX1_readNumber_72 (by decide) ?_
            refine sc_put (ci := 0) (C := RX1) (T := TX1) (n := 7) S hK hV inX1_ tyX1_ok nmX1 hc15 rfl 3 (by decide) (S.2.2.2.2 _ (List.mem_of_getElem? (i := 4) rfl)) rfl rfl rfl rfl (Nat.le_of_ble_eq_true rfl) dX1_readNumber_76 (fs1 := [.ref (q + 1), .ref (q + 3), .int (sI wc), .int (sI 2), .int (sI ts), .int (sI k), .int (sI tv2)]) rfl (fun M19 H locs hM19 hV => ?_)
            have hc20 : M19 q = some (sObj 0 [.ref (q + 1), .ref (q + 3), .int (sI wc), .int (sI 2), .int (sI ts), .int (sI k), .int (sI tv2)]) := (congrFun hM19 q).trans (va_up_self M14 q _)
            exact sr_v E hQ dX1_readNumber_79 ⟨Nat.le_of_ble_eq_true rfl, Nat.le_of_ble_eq_true rfl⟩ hV (⟨2, rfl, by rw [hee, ← htv]; exact hc20, fun x q0 => ((((congrFun hM19 x).trans (va_up_ne M14 _ (by omega))).trans ((congrFun hM14 x).trans (va_up_ne Ml10 _ (by omega)))).trans (hfr10 x (by omega))).trans ((congrFun hM1 x).trans (va_up_ne M _ (by omega))), by rw [hee, if_pos (by omega)]⟩)
        · refine lv_aload_n hx_ hb_ dX1_readNumber_29 rfl (lv_at hl 0 rfl) ?_
          refine si_bipush S dX1_readNumber_30 (by decide) ?_
          refine lv_aload_n hx_ hb_ dX1_readNumber_32 rfl (lv_at hl 0 rfl) ?_
          refine sc_get (ci := 0) (C := RX1) (T := TX1) (n := 7) S hK hV inX1_ hm10_0 rfl 6 (by decide) (S.2.2.2.2 _ (List.mem_of_getElem? (i := 2) rfl)) rfl rfl dX1_readNumber_33 ?_
          refine si_mul S dX1_readNumber_36 ?_
          refine lv_aload_n hx_ hb_ dX1_readNumber_37 rfl (lv_at hl 1 rfl) ?_
          refine lv_iload_n hx_ hb_ dX1_readNumber_38 rfl (lv_at hl 2 rfl) ?_
          refine sk_VP E hV (As := [.int (sI k)]) (rest := [.int (sI (10 * tv2)), .ref q]) (kX9_byteAt l_ G b_ Ml10 N a n e t k hc3 hc12 (ht) (by omega)) (cwV 1 S.2.2.2.2 gX1_readNumber_X9_byteAt rfl rfl rfl (by decide +kernel) ⟨Nat.le_of_ble_eq_true rfl, Nat.le_of_ble_eq_true rfl⟩) (ci := 7) hc3 rfl rfl rfl hl.1 (Nat.le_of_ble_eq_true rfl) dX1_readNumber_39 (c1 := 0) (s1 := 0) ⟨⟨rfl, rfl⟩, by decide, by decide⟩ (fun H locs hV => ?_)
          rw [show btI t n k = t k from if_pos (by omega)]
          have htb := bt_r ht k
          rw [show btI t n k = t k from if_pos (by omega)] at htb
          refine si_add S dX1_readNumber_42 ?_
          refine si_bipush S dX1_readNumber_43 (by decide) ?_
          refine si_sub S dX1_readNumber_45 ?_
          refine sc_put (ci := 0) (C := RX1) (T := TX1) (n := 7) S hK hV inX1_ tyX1_ok nmX1 hm10_0 rfl 6 (by decide) (S.2.2.2.2 _ (List.mem_of_getElem? (i := 2) rfl)) rfl rfl rfl rfl (Nat.le_of_ble_eq_true rfl) dX1_readNumber_46 (fs1 := [.ref (q + 1), .ref (q + 3), .int (sI wc), .int (sI tk), .int (sI ts), .int (sI te), .int (sI (((10 * tv2) + (t k)) - 48))]) rfl (fun M21 H locs hM21 hV => ?_)
          have hc22 : M21 q = some (sObj 0 [.ref (q + 1), .ref (q + 3), .int (sI wc), .int (sI tk), .int (sI ts), .int (sI te), .int (sI (((10 * tv2) + (t k)) - 48))]) := (congrFun hM21 q).trans (va_up_self Ml10 q _)
          refine si_inc (lv' := [(2, .int (sI (k + 1))), (0, .ref q), (1, .ref a)]) S dX1_readNumber_49 hl (k := 2) rfl (by decide) rfl (fun ls hl => ?_)
          refine lv_goto (tgt := 10) hx_ hb_ dX1_readNumber_52 (by decide) ?_
          exact ih10 (k + 1) (((10 * tv2) + (t k)) - 48) M21 _ _ _ (by omega) (by omega) (fun i x y => by by_cases e9 : i = k; exact (by rw [e9]; exact ⟨by omega, by omega, by omega⟩); exact hL i x (by omega)) (by rw [show k + 1 - ts = k - ts + 1 by omega, dgV_s t ts _ (by omega), ← htv, show ts + (k - ts) = k by omega]) hc22 (fun x q0 => ((congrFun hM21 x).trans (va_up_ne Ml10 _ (by omega))).trans (hfr10 x (by omega))) hV (lv_sub hl [1, 2, 0] rfl)
  exact L10 _ ts 0 M1 _ _ _ (Nat.lt_succ_self _) (by omega) (fun i x y => by omega) (by rw [Int.sub_self]; rfl) hc2 (fun x q0 => rfl) hV (lv_sub hl [1, 2, 0] rfl)

abbrev rmX1_readToken : Room := { frames := 4, cells := 0, slots := 0, locals := 107 }
set_option maxHeartbeats 4000000 in
set_option maxRecDepth 100000 in
theorem kX1_readToken (l_ : Launch) (G : sG) (b_ : Nat) (M : sM) (N : Nat) (q a : Nat) (wc tk ts te tv n e : Int) (t : sF) (hq0 : M q = some (sObj 0 [.ref (q + 1), .ref (q + 3), .int (sI wc), .int (sI tk), .int (sI ts), .int (sI te), .int (sI tv)])) (ht0 : M a = some (sObj 7 [.ref (a + 1), .int (sI n), .int (sI e)])) (ht1 : M (a + 1) = some (sArr G 300 t)) (ht : tpOk t n) (hne : a + 2 ≤ q ∨ q + 4 ≤ a) (hs : 0 ≤ te ∧ te ≤ n) : cV l_ yX1_readToken wsX1_readToken rmX1_readToken G b_ M N [.ref q, .ref a] (fun M1 N1 => ∃ tk9 : Int, ∃ te9 : Int, ∃ tv9 : Int, N1 = N ∧ M1 q = some (sObj 0 [.ref (q + 1), .ref (q + 3), .int (sI wc), .int (sI tk9), .int (sI (reE (wsP t) n te)), .int (sI te9), .int (sI tv9)]) ∧ (∀ x : Nat, ¬ (x = q) → M1 x = M x) ∧ (tkR t n (reE (wsP t) n te) tk9 te9 tv9)) := by
  refine sE.ofV (cc := cX1_readToken) (nL := 4) (ret := none) (by decide) rfl (Nat.le_of_ble_eq_true rfl) ?_
  intro p_ e_ s_ m_ args_ below_ meth_ c_ ls Q hQ E hl
  have E : sE p_ l_ e_ rmX1_readToken s_ m_ args_ below_ meth_ c_ cX1_readToken 4 wsX1_readToken RX1 "readToken" none G b_ M N := E
  have S := E.1
  have hx_ := S.1
  have hb_ := S.2.1
  have hK := E.2.2.2.2.1
  have hV := E.2.2.2.2.2.2
  have hl : lv_has ls 4 [(0, .ref q), (1, .ref a)] := hl
  have inX1_ : ∀ w ∈ wsX10, w ∈ wsX1_readToken := fun _ h => List.mem_cons_of_mem _ (List.mem_append_left _ (List.mem_append_right _ h))
  have inX9_ : ∀ w ∈ wsX90, w ∈ wsX1_readToken := fun _ h => List.mem_cons_of_mem _ (List.mem_append_right _ h)
  have hn1 := ht.1
  have hn2 := ht.2.1
  refine lv_aload_n hx_ hb_ dX1_readToken_0 rfl (lv_at hl 0 rfl) ?_
  refine sc_get (ci := 0) (C := RX1) (T := TX1) (n := 7) S hK hV inX1_ hq0 rfl 5 (by decide) (S.2.2.2.2 _ (List.mem_of_getElem? (i := 1) rfl)) rfl rfl dX1_readToken_1 ?_
  refine lv_istore_n (lv' := [(2, .int (sI te)), (0, .ref q), (1, .ref a)]) hx_ hb_ dX1_readToken_4 rfl hl (by decide) rfl (fun ls hl => ?_)
  have L5 : ∀ (fuel : Nat) (k : Int)  (H : Heap) (locs : List Loc) (ls : Array Slot), ((n - k).toNat) < fuel → (te ≤ k ∧ k ≤ n) → (∀ i, te ≤ i → i < k → wsP t i) → sV G b_ M N s_ H locs → lv_has ls 4 [(0, .ref q), (1, .ref a), (2, .int (sI k))] → W p_ l_ e_ rmX1_readToken s_ m_ args_ below_ meth_ c_ H locs 0 0 Q (F0 m_ 5 ls []) := by
    intro fuel
    induction fuel with
    | zero => intro k H locs ls hmu; exact absurd hmu (Nat.not_lt_zero _)
    | succ fuel ih5 =>
      intro k H locs ls hmu5 hv5_0 hL  hV hl
      refine lv_iload_n hx_ hb_ dX1_readToken_5 rfl (lv_at hl 2 rfl) ?_
      refine lv_aload_n hx_ hb_ dX1_readToken_6 rfl (lv_at hl 1 rfl) ?_
      refine sk_VP E hV (As := []) (rest := [.int (sI k)]) (kX9_length l_ G b_ M N a n e ht0) (cwV 0 S.2.2.2.2 gX1_readToken_X9_length rfl rfl rfl (by decide +kernel) ⟨Nat.le_of_ble_eq_true rfl, Nat.le_of_ble_eq_true rfl⟩) (ci := 7) ht0 rfl rfl rfl hl.1 (Nat.le_of_ble_eq_true rfl) dX1_readToken_7 (c1 := 0) (s1 := 0) ⟨⟨rfl, rfl⟩, by decide, by decide⟩ (fun H locs hV => ?_)
      refine sb_ge (tgt := 39) S dX1_readToken_10 (by decide) (by omega) (fun c1 => ?_) (fun c1 => ?_)
      · have hee : reE (wsP t) n te = k := reE_eq (by omega) hL (fun q r => by unfold wsP at r; omega)
        refine lv_aload_n hx_ hb_ dX1_readToken_39 rfl (lv_at hl 0 rfl) ?_
        refine lv_iload_n hx_ hb_ dX1_readToken_40 rfl (lv_at hl 2 rfl) ?_
        refine sc_put (ci := 0) (C := RX1) (T := TX1) (n := 7) S hK hV inX1_ tyX1_ok nmX1 hq0 rfl 4 (by decide) (S.2.2.2.2 _ (List.mem_of_getElem? (i := 2) rfl)) rfl rfl rfl rfl (Nat.le_of_ble_eq_true rfl) dX1_readToken_41 (fs1 := [.ref (q + 1), .ref (q + 3), .int (sI wc), .int (sI tk), .int (sI k), .int (sI te), .int (sI tv)]) rfl (fun M2 H locs hM2 hV => ?_)
        have hc3 : M2 q = some (sObj 0 [.ref (q + 1), .ref (q + 3), .int (sI wc), .int (sI tk), .int (sI k), .int (sI te), .int (sI tv)]) := (congrFun hM2 q).trans (va_up_self M q _)
        refine lv_aload_n hx_ hb_ dX1_readToken_44 rfl (lv_at hl 1 rfl) ?_
        refine lv_iload_n hx_ hb_ dX1_readToken_45 rfl (lv_at hl 2 rfl) ?_
        have hc4 : M2 a = some (sObj 7 [.ref (a + 1), .int (sI n), .int (sI e)]) := ((congrFun hM2 a).trans (va_up_ne M _ (by omega))).trans ht0
        have hc5 : M2 (a + 1) = some (sArr G 300 t) := ((congrFun hM2 (a + 1)).trans (va_up_ne M _ (by omega))).trans ht1
        refine sk_VP E hV (As := [.int (sI k)]) (rest := []) (kX9_byteAt l_ G b_ M2 N a n e t k hc4 hc5 (ht) (by omega)) (cwV 1 S.2.2.2.2 gX1_readToken_X9_byteAt rfl rfl rfl (by decide +kernel) ⟨Nat.le_of_ble_eq_true rfl, Nat.le_of_ble_eq_true rfl⟩) (ci := 7) hc4 rfl rfl rfl hl.1 (Nat.le_of_ble_eq_true rfl) dX1_readToken_46 (c1 := 0) (s1 := 0) ⟨⟨rfl, rfl⟩, by decide, by decide⟩ (fun H locs hV => ?_)
        refine lv_istore_n (lv' := [(3, .int (sI (btI t n k))), (0, .ref q), (1, .ref a), (2, .int (sI k))]) hx_ hb_ dX1_readToken_49 rfl hl (by decide) rfl (fun ls hl => ?_)
        refine lv_iload_n hx_ hb_ dX1_readToken_50 rfl (lv_at hl 3 rfl) ?_
        refine lv_aload_n hx_ hb_ dX1_readToken_51 rfl (lv_at hl 2 rfl) ?_
        refine sk_VP E hV (As := []) (rest := [.int (sI k)]) (kX9_length l_ G b_ M2 N a n e hc4) (cwV 0 S.2.2.2.2 gX1_readToken_X9_length rfl rfl rfl (by decide +kernel) ⟨Nat.le_of_ble_eq_true rfl, Nat.le_of_ble_eq_true rfl⟩) (ci := 7) hc4 rfl rfl rfl hl.1 (Nat.le_of_ble_eq_true rfl) dX1_readToken_52 (c1 := 0) (s1 := 0) ⟨⟨rfl, rfl⟩, by decide, by decide⟩ (fun H locs hV => ?_)
        refine sb_lt (tgt := 66) S dX1_readToken_55 (by decide) (by omega) (fun c6 => ?_) (fun c6 => ?_)
        · have htk0 : btI t n k = t k := if_pos (by omega)
          have htb2 := bt_r ht k
          refine lv_iload_n hx_ hb_ dX1_readToken_66 rfl (lv_at hl 0 rfl) ?_
          refine sk_SP E hV (As := [.int (sI (btI t n k))]) (rest := []) (kX9_isLetter l_ G b_ M2 N (btI t n k) (by omega)) (va_cwS 1 S.2.2.2.2 gX1_readToken_X9_isLetter rfl rfl rfl (by decide +kernel) ⟨Nat.le_of_ble_eq_true rfl, Nat.le_of_ble_eq_true rfl⟩) rfl rfl hl.1 (Nat.le_of_ble_eq_true rfl) dX1_readToken_67 (c1 := 0) (s1 := 0) ⟨⟨rfl, rfl⟩, by decide, by decide⟩ (fun H locs hV => ?_)
          refine sq_eq (tgt := 81) S dX1_readToken_70 (by decide) (fun c7 => ?_) (fun c7 => ?_)
          · refine lv_iload_n hx_ hb_ dX1_readToken_81 rfl (lv_at hl 0 rfl) ?_
            refine sk_SP E hV (As := [.int (sI (btI t n k))]) (rest := []) (kX9_isDigit l_ G b_ M2 N (btI t n k) (by omega)) (va_cwS 1 S.2.2.2.2 gX1_readToken_X9_isDigit rfl rfl rfl (by decide +kernel) ⟨Nat.le_of_ble_eq_true rfl, Nat.le_of_ble_eq_true rfl⟩) rfl rfl hl.1 (Nat.le_of_ble_eq_true rfl) dX1_readToken_82 (c1 := 0) (s1 := 0) ⟨⟨rfl, rfl⟩, by decide, by decide⟩ (fun H locs hV => ?_)
            refine sq_eq (tgt := 96) S dX1_readToken_85 (by decide) (fun c8 => ?_) (fun c8 => ?_)
            · refine lv_aload_n hx_ hb_ dX1_readToken_96 rfl (lv_at hl 1 rfl) ?_
              refine lv_iload_n hx_ hb_ dX1_readToken_97 rfl (lv_at hl 0 rfl) ?_
              refine si_bipush S dX1_readToken_98 (by decide) ?_
              refine sb_ne (tgt := 107) S dX1_readToken_100 (by decide) (by omega) (fun c9 => ?_) (fun c9 => ?_)
              · refine si_const S dX1_readToken_107 ?_
                refine sc_put (ci := 0) (C := RX1) (T := TX1) (n := 7) S hK hV inX1_ tyX1_ok nmX1 hc3 rfl 3 (by decide) (S.2.2.2.2 _ (List.mem_of_getElem? (i := 3) rfl)) rfl rfl rfl rfl (Nat.le_of_ble_eq_true rfl) dX1_readToken_108 (fs1 := [.ref (q + 1), .ref (q + 3), .int (sI wc), .int (sI 4), .int (sI k), .int (sI te), .int (sI tv)]) rfl (fun M10 H locs hM10 hV => ?_)
                have hc11 : M10 q = some (sObj 0 [.ref (q + 1), .ref (q + 3), .int (sI wc), .int (sI 4), .int (sI k), .int (sI te), .int (sI tv)]) := (congrFun hM10 q).trans (va_up_self M2 q _)
                refine lv_aload_n hx_ hb_ dX1_readToken_111 rfl (lv_at hl 1 rfl) ?_
                refine lv_iload_n hx_ hb_ dX1_readToken_112 rfl (lv_at hl 3 rfl) ?_
                refine si_const S dX1_readToken_113 ?_
                refine si_add S dX1_readToken_114 ?_
                refine sc_put (ci := 0) (C := RX1) (T := TX1) (n := 7) S hK hV inX1_ tyX1_ok nmX1 hc11 rfl 5 (by decide) (S.2.2.2.2 _ (List.mem_of_getElem? (i := 1) rfl)) rfl rfl rfl rfl (Nat.le_of_ble_eq_true rfl) dX1_readToken_115 (fs1 := [.ref (q + 1), .ref (q + 3), .int (sI wc), .int (sI 4), .int (sI k), .int (sI (k + 1)), .int (sI tv)]) rfl (fun M12 H locs hM12 hV => ?_)
                have hc13 : M12 q = some (sObj 0 [.ref (q + 1), .ref (q + 3), .int (sI wc), .int (sI 4), .int (sI k), .int (sI (k + 1)), .int (sI tv)]) := (congrFun hM12 q).trans (va_up_self M10 q _)
                exact sr_v E hQ dX1_readToken_118 ⟨Nat.le_of_ble_eq_true rfl, Nat.le_of_ble_eq_true rfl⟩ hV (⟨4, (k + 1), tv, rfl, by rw [hee]; exact hc13, fun x q0 => (((congrFun hM12 x).trans (va_up_ne M10 _ (by omega))).trans ((congrFun hM10 x).trans (va_up_ne M2 _ (by omega)))).trans ((congrFun hM2 x).trans (va_up_ne M _ (by omega))), Or.inr (Or.inr (Or.inr ⟨by rw [hee]; omega, by rw [hee]; exact fun r => by have h9 := r.2; omega, by rw [hee]; exact fun r => by have h9 := r.2; omega, by rw [hee], by rw [hee, if_neg (by omega)]⟩))⟩)
              · refine si_const S dX1_readToken_103 ?_
                refine lv_goto (tgt := 108) hx_ hb_ dX1_readToken_104 (by decide) ?_
                refine sc_put (ci := 0) (C := RX1) (T := TX1) (n := 7) S hK hV inX1_ tyX1_ok nmX1 hc3 rfl 3 (by decide) (S.2.2.2.2 _ (List.mem_of_getElem? (i := 3) rfl)) rfl rfl rfl rfl (Nat.le_of_ble_eq_true rfl) dX1_readToken_108 (fs1 := [.ref (q + 1), .ref (q + 3), .int (sI wc), .int (sI 3), .int (sI k), .int (sI te), .int (sI tv)]) rfl (fun M14 H locs hM14 hV => ?_)
                have hc15 : M14 q = some (sObj 0 [.ref (q + 1), .ref (q + 3), .int (sI wc), .int (sI 3), .int (sI k), .int (sI te), .int (sI tv)]) := (congrFun hM14 q).trans (va_up_self M2 q _)
                refine lv_aload_n hx_ hb_ dX1_readToken_111 rfl (lv_at hl 1 rfl) ?_
                refine lv_iload_n hx_ hb_ dX1_readToken_112 rfl (lv_at hl 3 rfl) ?_
                refine si_const S dX1_readToken_113 ?_
                refine si_add S dX1_readToken_114 ?_
                refine sc_put (ci := 0) (C := RX1) (T := TX1) (n := 7) S hK hV inX1_ tyX1_ok nmX1 hc15 rfl 5 (by decide) (S.2.2.2.2 _ (List.mem_of_getElem? (i := 1) rfl)) rfl rfl rfl rfl (Nat.le_of_ble_eq_true rfl) dX1_readToken_115 (fs1 := [.ref (q + 1), .ref (q + 3), .int (sI wc), .int (sI 3), .int (sI k), .int (sI (k + 1)), .int (sI tv)]) rfl (fun M16 H locs hM16 hV => ?_)
                have hc17 : M16 q = some (sObj 0 [.ref (q + 1), .ref (q + 3), .int (sI wc), .int (sI 3), .int (sI k), .int (sI (k + 1)), .int (sI tv)]) := (congrFun hM16 q).trans (va_up_self M14 q _)
                exact sr_v E hQ dX1_readToken_118 ⟨Nat.le_of_ble_eq_true rfl, Nat.le_of_ble_eq_true rfl⟩ hV (⟨3, (k + 1), tv, rfl, by rw [hee]; exact hc17, fun x q0 => (((congrFun hM16 x).trans (va_up_ne M14 _ (by omega))).trans ((congrFun hM14 x).trans (va_up_ne M2 _ (by omega)))).trans ((congrFun hM2 x).trans (va_up_ne M _ (by omega))), Or.inr (Or.inr (Or.inr ⟨by rw [hee]; omega, by rw [hee]; exact fun r => by have h9 := r.2; omega, by rw [hee]; exact fun r => by have h9 := r.2; omega, by rw [hee], by rw [hee, if_pos (by omega)]⟩))⟩)
            · refine lv_aload_n hx_ hb_ dX1_readToken_88 rfl (lv_at hl 1 rfl) ?_
              refine lv_aload_n hx_ hb_ dX1_readToken_89 rfl (lv_at hl 2 rfl) ?_
              refine sk_Vv E hV (As := [.ref a]) (rest := []) (kX1_readNumber l_ G b_ M2 N q a wc tk k te tv n e t hc3 hc4 hc5 (ht) (by omega) (by omega)) (cwV 1 S.2.2.2.2 gX1_readToken_X1_readNumber rfl rfl rfl (by decide +kernel) ⟨Nat.le_of_ble_eq_true rfl, Nat.le_of_ble_eq_true rfl⟩) (ci := 0) hc3 rfl rfl rfl hl.1 (Nat.le_of_ble_eq_true rfl) dX1_readToken_90 (c1 := 0) (s1 := 0) ⟨⟨rfl, rfl⟩, by decide, by decide⟩ (fun M18 N19 H locs hp20 hV => ?_)
              obtain ⟨k922, hN23, hc24, hf25, hk926⟩ := hp20
              rw [hN23] at hV
              refine lv_goto (tgt := 118) hx_ hb_ dX1_readToken_93 (by decide) ?_
              exact sr_v E hQ dX1_readToken_118 ⟨Nat.le_of_ble_eq_true rfl, Nat.le_of_ble_eq_true rfl⟩ hV (⟨k922, (reE (dgP t n) n k), (dgV t k (reE (dgP t n) n k - k).toNat), rfl, by rw [hee]; exact hc24, fun x q0 => (hf25 x (by omega)).trans ((congrFun hM2 x).trans (va_up_ne M _ (by omega))), Or.inr (Or.inr (Or.inl ⟨by rw [hee]; exact ⟨by omega, by omega, by omega⟩, by rw [hee], by rw [hee]; exact hk926, by rw [hee]⟩))⟩)
          · refine lv_aload_n hx_ hb_ dX1_readToken_73 rfl (lv_at hl 1 rfl) ?_
            refine lv_aload_n hx_ hb_ dX1_readToken_74 rfl (lv_at hl 2 rfl) ?_
            refine sk_Vv E hV (As := [.ref a]) (rest := []) (kX1_readWord l_ G b_ M2 N q a wc tk k te tv n e t hc3 hc4 hc5 (ht) (by omega) (by omega)) (cwV 1 S.2.2.2.2 gX1_readToken_X1_readWord rfl rfl rfl (by decide +kernel) ⟨Nat.le_of_ble_eq_true rfl, Nat.le_of_ble_eq_true rfl⟩) (ci := 0) hc3 rfl rfl rfl hl.1 (Nat.le_of_ble_eq_true rfl) dX1_readToken_75 (c1 := 0) (s1 := 0) ⟨⟨rfl, rfl⟩, by decide, by decide⟩ (fun M27 N28 H locs hp29 hV => ?_)
            obtain ⟨k931, hN32, hc33, hf34, hk935⟩ := hp29
            rw [hN32] at hV
            refine lv_goto (tgt := 118) hx_ hb_ dX1_readToken_78 (by decide) ?_
            exact sr_v E hQ dX1_readToken_118 ⟨Nat.le_of_ble_eq_true rfl, Nat.le_of_ble_eq_true rfl⟩ hV (⟨k931, (reE (ltP t n) n k), (cfI t n k (reE (ltP t n) n k - k)), rfl, by rw [hee]; exact hc33, fun x q0 => (hf34 x (by omega)).trans ((congrFun hM2 x).trans (va_up_ne M _ (by omega))), Or.inr (Or.inl ⟨by rw [hee]; exact ⟨by omega, by omega, by omega⟩, by rw [hee], by rw [hee]; exact hk935, by rw [hee]⟩)⟩)
        · refine lv_aload_n hx_ hb_ dX1_readToken_58 rfl (lv_at hl 1 rfl) ?_
          refine si_const S dX1_readToken_59 ?_
          refine sc_put (ci := 0) (C := RX1) (T := TX1) (n := 7) S hK hV inX1_ tyX1_ok nmX1 hc3 rfl 3 (by decide) (S.2.2.2.2 _ (List.mem_of_getElem? (i := 3) rfl)) rfl rfl rfl rfl (Nat.le_of_ble_eq_true rfl) dX1_readToken_60 (fs1 := [.ref (q + 1), .ref (q + 3), .int (sI wc), .int (sI 0), .int (sI k), .int (sI te), .int (sI tv)]) rfl (fun M36 H locs hM36 hV => ?_)
          have hc37 : M36 q = some (sObj 0 [.ref (q + 1), .ref (q + 3), .int (sI wc), .int (sI 0), .int (sI k), .int (sI te), .int (sI tv)]) := (congrFun hM36 q).trans (va_up_self M2 q _)
          refine lv_goto (tgt := 118) hx_ hb_ dX1_readToken_63 (by decide) ?_
          exact sr_v E hQ dX1_readToken_118 ⟨Nat.le_of_ble_eq_true rfl, Nat.le_of_ble_eq_true rfl⟩ hV (⟨0, te, tv, rfl, by rw [hee]; exact hc37, fun x q0 => ((congrFun hM36 x).trans (va_up_ne M2 _ (by omega))).trans ((congrFun hM2 x).trans (va_up_ne M _ (by omega))), Or.inl ⟨by rw [hee]; omega, rfl⟩⟩)
      · refine lv_aload_n hx_ hb_ dX1_readToken_13 rfl (lv_at hl 1 rfl) ?_
        refine lv_iload_n hx_ hb_ dX1_readToken_14 rfl (lv_at hl 2 rfl) ?_
        refine sk_VP E hV (As := [.int (sI k)]) (rest := []) (kX9_byteAt l_ G b_ M N a n e t k ht0 ht1 (ht) (by omega)) (cwV 1 S.2.2.2.2 gX1_readToken_X9_byteAt rfl rfl rfl (by decide +kernel) ⟨Nat.le_of_ble_eq_true rfl, Nat.le_of_ble_eq_true rfl⟩) (ci := 7) ht0 rfl rfl rfl hl.1 (Nat.le_of_ble_eq_true rfl) dX1_readToken_15 (c1 := 0) (s1 := 0) ⟨⟨rfl, rfl⟩, by decide, by decide⟩ (fun H locs hV => ?_)
        rw [show btI t n k = t k from if_pos (by omega)]
        have htb := bt_r ht k
        rw [show btI t n k = t k from if_pos (by omega)] at htb
        refine si_bipush S dX1_readToken_18 (by decide) ?_
        refine sb_eq (tgt := 33) S dX1_readToken_20 (by decide) (by omega) (fun c38 => ?_) (fun c38 => ?_)
        · refine si_inc (lv' := [(2, .int (sI (k + 1))), (0, .ref q), (1, .ref a)]) S dX1_readToken_33 hl (k := 2) rfl (by decide) rfl (fun ls hl => ?_)
          refine lv_goto (tgt := 5) hx_ hb_ dX1_readToken_36 (by decide) ?_
          exact ih5 (k + 1) _ _ _ (by omega) (by omega) (fun i x y => by by_cases e9 : i = k; exact (by rw [e9]; unfold wsP; omega); exact hL i x (by omega)) hV (lv_sub hl [1, 2, 0] rfl)
        · refine lv_aload_n hx_ hb_ dX1_readToken_23 rfl (lv_at hl 1 rfl) ?_
          refine lv_iload_n hx_ hb_ dX1_readToken_24 rfl (lv_at hl 2 rfl) ?_
          refine sk_VP E hV (As := [.int (sI k)]) (rest := []) (kX9_byteAt l_ G b_ M N a n e t k ht0 ht1 (ht) (by omega)) (cwV 1 S.2.2.2.2 gX1_readToken_X9_byteAt rfl rfl rfl (by decide +kernel) ⟨Nat.le_of_ble_eq_true rfl, Nat.le_of_ble_eq_true rfl⟩) (ci := 7) ht0 rfl rfl rfl hl.1 (Nat.le_of_ble_eq_true rfl) dX1_readToken_25 (c1 := 0) (s1 := 0) ⟨⟨rfl, rfl⟩, by decide, by decide⟩ (fun H locs hV => ?_)
          rw [show btI t n k = t k from if_pos (by omega)]
          have htb := bt_r ht k
          rw [show btI t n k = t k from if_pos (by omega)] at htb
          refine si_bipush S dX1_readToken_28 (by decide) ?_
          refine sb_ne (tgt := 39) S dX1_readToken_30 (by decide) (by omega) (fun c39 => ?_) (fun c39 => ?_)
          · have hee : reE (wsP t) n te = k := reE_eq (by omega) hL (fun q r => by unfold wsP at r; omega)
            refine lv_aload_n hx_ hb_ dX1_readToken_39 rfl (lv_at hl 0 rfl) ?_
            refine lv_iload_n hx_ hb_ dX1_readToken_40 rfl (lv_at hl 2 rfl) ?_
            refine sc_put (ci := 0) (C := RX1) (T := TX1) (n := 7) S hK hV inX1_ tyX1_ok nmX1 hq0 rfl 4 (by decide) (S.2.2.2.2 _ (List.mem_of_getElem? (i := 2) rfl)) rfl rfl rfl rfl (Nat.le_of_ble_eq_true rfl) dX1_readToken_41 (fs1 := [.ref (q + 1), .ref (q + 3), .int (sI wc), .int (sI tk), .int (sI k), .int (sI te), .int (sI tv)]) rfl (fun M40 H locs hM40 hV => ?_)
            have hc41 : M40 q = some (sObj 0 [.ref (q + 1), .ref (q + 3), .int (sI wc), .int (sI tk), .int (sI k), .int (sI te), .int (sI tv)]) := (congrFun hM40 q).trans (va_up_self M q _)
            refine lv_aload_n hx_ hb_ dX1_readToken_44 rfl (lv_at hl 1 rfl) ?_
            refine lv_iload_n hx_ hb_ dX1_readToken_45 rfl (lv_at hl 2 rfl) ?_
            have hc42 : M40 a = some (sObj 7 [.ref (a + 1), .int (sI n), .int (sI e)]) := ((congrFun hM40 a).trans (va_up_ne M _ (by omega))).trans ht0
            have hc43 : M40 (a + 1) = some (sArr G 300 t) := ((congrFun hM40 (a + 1)).trans (va_up_ne M _ (by omega))).trans ht1
            refine sk_VP E hV (As := [.int (sI k)]) (rest := []) (kX9_byteAt l_ G b_ M40 N a n e t k hc42 hc43 (ht) (by omega)) (cwV 1 S.2.2.2.2 gX1_readToken_X9_byteAt rfl rfl rfl (by decide +kernel) ⟨Nat.le_of_ble_eq_true rfl, Nat.le_of_ble_eq_true rfl⟩) (ci := 7) hc42 rfl rfl rfl hl.1 (Nat.le_of_ble_eq_true rfl) dX1_readToken_46 (c1 := 0) (s1 := 0) ⟨⟨rfl, rfl⟩, by decide, by decide⟩ (fun H locs hV => ?_)
            refine lv_istore_n (lv' := [(3, .int (sI (btI t n k))), (0, .ref q), (1, .ref a), (2, .int (sI k))]) hx_ hb_ dX1_readToken_49 rfl hl (by decide) rfl (fun ls hl => ?_)
            refine lv_iload_n hx_ hb_ dX1_readToken_50 rfl (lv_at hl 3 rfl) ?_
            refine lv_aload_n hx_ hb_ dX1_readToken_51 rfl (lv_at hl 2 rfl) ?_
            refine sk_VP E hV (As := []) (rest := [.int (sI k)]) (kX9_length l_ G b_ M40 N a n e hc42) (cwV 0 S.2.2.2.2 gX1_readToken_X9_length rfl rfl rfl (by decide +kernel) ⟨Nat.le_of_ble_eq_true rfl, Nat.le_of_ble_eq_true rfl⟩) (ci := 7) hc42 rfl rfl rfl hl.1 (Nat.le_of_ble_eq_true rfl) dX1_readToken_52 (c1 := 0) (s1 := 0) ⟨⟨rfl, rfl⟩, by decide, by decide⟩ (fun H locs hV => ?_)
            refine sb_lt (tgt := 66) S dX1_readToken_55 (by decide) (by omega) (fun c44 => ?_) (fun c44 => ?_)
            · have htk0 : btI t n k = t k := if_pos (by omega)
              have htb2 := bt_r ht k
              refine lv_iload_n hx_ hb_ dX1_readToken_66 rfl (lv_at hl 0 rfl) ?_
              refine sk_SP E hV (As := [.int (sI (btI t n k))]) (rest := []) (kX9_isLetter l_ G b_ M40 N (btI t n k) (by omega)) (va_cwS 1 S.2.2.2.2 gX1_readToken_X9_isLetter rfl rfl rfl (by decide +kernel) ⟨Nat.le_of_ble_eq_true rfl, Nat.le_of_ble_eq_true rfl⟩) rfl rfl hl.1 (Nat.le_of_ble_eq_true rfl) dX1_readToken_67 (c1 := 0) (s1 := 0) ⟨⟨rfl, rfl⟩, by decide, by decide⟩ (fun H locs hV => ?_)
              refine sq_eq (tgt := 81) S dX1_readToken_70 (by decide) (fun c45 => ?_) (fun c45 => ?_)
              · refine lv_iload_n hx_ hb_ dX1_readToken_81 rfl (lv_at hl 0 rfl) ?_
                refine sk_SP E hV (As := [.int (sI (btI t n k))]) (rest := []) (kX9_isDigit l_ G b_ M40 N (btI t n k) (by omega)) (va_cwS 1 S.2.2.2.2 gX1_readToken_X9_isDigit rfl rfl rfl (by decide +kernel) ⟨Nat.le_of_ble_eq_true rfl, Nat.le_of_ble_eq_true rfl⟩) rfl rfl hl.1 (Nat.le_of_ble_eq_true rfl) dX1_readToken_82 (c1 := 0) (s1 := 0) ⟨⟨rfl, rfl⟩, by decide, by decide⟩ (fun H locs hV => ?_)
                refine sq_eq (tgt := 96) S dX1_readToken_85 (by decide) (fun c46 => ?_) (fun c46 => ?_)
                · refine lv_aload_n hx_ hb_ dX1_readToken_96 rfl (lv_at hl 1 rfl) ?_
                  refine lv_iload_n hx_ hb_ dX1_readToken_97 rfl (lv_at hl 0 rfl) ?_
                  refine si_bipush S dX1_readToken_98 (by decide) ?_
                  refine sb_ne (tgt := 107) S dX1_readToken_100 (by decide) (by omega) (fun c47 => ?_) (fun c47 => ?_)
                  · refine si_const S dX1_readToken_107 ?_
                    refine sc_put (ci := 0) (C := RX1) (T := TX1) (n := 7) S hK hV inX1_ tyX1_ok nmX1 hc41 rfl 3 (by decide) (S.2.2.2.2 _ (List.mem_of_getElem? (i := 3) rfl)) rfl rfl rfl rfl (Nat.le_of_ble_eq_true rfl) dX1_readToken_108 (fs1 := [.ref (q + 1), .ref (q + 3), .int (sI wc), .int (sI 4), .int (sI k), .int (sI te), .int (sI tv)]) rfl (fun M48 H locs hM48 hV => ?_)
                    have hc49 : M48 q = some (sObj 0 [.ref (q + 1), .ref (q + 3), .int (sI wc), .int (sI 4), .int (sI k), .int (sI te), .int (sI tv)]) := (congrFun hM48 q).trans (va_up_self M40 q _)
                    refine lv_aload_n hx_ hb_ dX1_readToken_111 rfl (lv_at hl 1 rfl) ?_
                    refine lv_iload_n hx_ hb_ dX1_readToken_112 rfl (lv_at hl 3 rfl) ?_
                    refine si_const S dX1_readToken_113 ?_
                    refine si_add S dX1_readToken_114 ?_
                    refine sc_put (ci := 0) (C := RX1) (T := TX1) (n := 7) S hK hV inX1_ tyX1_ok nmX1 hc49 rfl 5 (by decide) (S.2.2.2.2 _ (List.mem_of_getElem? (i := 1) rfl)) rfl rfl rfl rfl (Nat.le_of_ble_eq_true rfl) dX1_readToken_115 (fs1 := [.ref (q + 1), .ref (q + 3), .int (sI wc), .int (sI 4), .int (sI k), .int (sI (k + 1)), .int (sI tv)]) rfl (fun M50 H locs hM50 hV => ?_)
                    have hc51 : M50 q = some (sObj 0 [.ref (q + 1), .ref (q + 3), .int (sI wc), .int (sI 4), .int (sI k), .int (sI (k + 1)), .int (sI tv)]) := (congrFun hM50 q).trans (va_up_self M48 q _)
                    exact sr_v E hQ dX1_readToken_118 ⟨Nat.le_of_ble_eq_true rfl, Nat.le_of_ble_eq_true rfl⟩ hV (⟨4, (k + 1), tv, rfl, by rw [hee]; exact hc51, fun x q0 => (((congrFun hM50 x).trans (va_up_ne M48 _ (by omega))).trans ((congrFun hM48 x).trans (va_up_ne M40 _ (by omega)))).trans ((congrFun hM40 x).trans (va_up_ne M _ (by omega))), Or.inr (Or.inr (Or.inr ⟨by rw [hee]; omega, by rw [hee]; exact fun r => by have h9 := r.2; omega, by rw [hee]; exact fun r => by have h9 := r.2; omega, by rw [hee], by rw [hee, if_neg (by omega)]⟩))⟩)
                  · refine si_const S dX1_readToken_103 ?_
                    refine lv_goto (tgt := 108) hx_ hb_ dX1_readToken_104 (by decide) ?_
                    refine sc_put (ci := 0) (C := RX1) (T := TX1) (n := 7) S hK hV inX1_ tyX1_ok nmX1 hc41 rfl 3 (by decide) (S.2.2.2.2 _ (List.mem_of_getElem? (i := 3) rfl)) rfl rfl rfl rfl (Nat.le_of_ble_eq_true rfl) dX1_readToken_108 (fs1 := [.ref (q + 1), .ref (q + 3), .int (sI wc), .int (sI 3), .int (sI k), .int (sI te), .int (sI tv)]) rfl (fun M52 H locs hM52 hV => ?_)
                    have hc53 : M52 q = some (sObj 0 [.ref (q + 1), .ref (q + 3), .int (sI wc), .int (sI 3), .int (sI k), .int (sI te), .int (sI tv)]) := (congrFun hM52 q).trans (va_up_self M40 q _)
                    refine lv_aload_n hx_ hb_ dX1_readToken_111 rfl (lv_at hl 1 rfl) ?_
                    refine lv_iload_n hx_ hb_ dX1_readToken_112 rfl (lv_at hl 3 rfl) ?_
                    refine si_const S dX1_readToken_113 ?_
                    refine si_add S dX1_readToken_114 ?_
                    refine sc_put (ci := 0) (C := RX1) (T := TX1) (n := 7) S hK hV inX1_ tyX1_ok nmX1 hc53 rfl 5 (by decide) (S.2.2.2.2 _ (List.mem_of_getElem? (i := 1) rfl)) rfl rfl rfl rfl (Nat.le_of_ble_eq_true rfl) dX1_readToken_115 (fs1 := [.ref (q + 1), .ref (q + 3), .int (sI wc), .int (sI 3), .int (sI k), .int (sI (k + 1)), .int (sI tv)]) rfl (fun M54 H locs hM54 hV => ?_)
                    have hc55 : M54 q = some (sObj 0 [.ref (q + 1), .ref (q + 3), .int (sI wc), .int (sI 3), .int (sI k), .int (sI (k + 1)), .int (sI tv)]) := (congrFun hM54 q).trans (va_up_self M52 q _)
                    exact sr_v E hQ dX1_readToken_118 ⟨Nat.le_of_ble_eq_true rfl, Nat.le_of_ble_eq_true rfl⟩ hV (⟨3, (k + 1), tv, rfl, by rw [hee]; exact hc55, fun x q0 => (((congrFun hM54 x).trans (va_up_ne M52 _ (by omega))).trans ((congrFun hM52 x).trans (va_up_ne M40 _ (by omega)))).trans ((congrFun hM40 x).trans (va_up_ne M _ (by omega))), Or.inr (Or.inr (Or.inr ⟨by rw [hee]; omega, by rw [hee]; exact fun r => by have h9 := r.2; omega, by rw [hee]; exact fun r => by have h9 := r.2; omega, by rw [hee], by rw [hee, if_pos (by omega)]⟩))⟩)
                · refine lv_aload_n hx_ hb_ dX1_readToken_88 rfl (lv_at hl 1 rfl) ?_
                  refine lv_aload_n hx_ hb_ dX1_readToken_89 rfl (lv_at hl 2 rfl) ?_
                  refine sk_Vv E hV (As := [.ref a]) (rest := []) (kX1_readNumber l_ G b_ M40 N q a wc tk k te tv n e t hc41 hc42 hc43 (ht) (by omega) (by omega)) (cwV 1 S.2.2.2.2 gX1_readToken_X1_readNumber rfl rfl rfl (by decide +kernel) ⟨Nat.le_of_ble_eq_true rfl, Nat.le_of_ble_eq_true rfl⟩) (ci := 0) hc41 rfl rfl rfl hl.1 (Nat.le_of_ble_eq_true rfl) dX1_readToken_90 (c1 := 0) (s1 := 0) ⟨⟨rfl, rfl⟩, by decide, by decide⟩ (fun M56 N57 H locs hp58 hV => ?_)
                  obtain ⟨k960, hN61, hc62, hf63, hk964⟩ := hp58
                  rw [hN61] at hV
                  refine lv_goto (tgt := 118) hx_ hb_ dX1_readToken_93 (by decide) ?_
                  exact sr_v E hQ dX1_readToken_118 ⟨Nat.le_of_ble_eq_true rfl, Nat.le_of_ble_eq_true rfl⟩ hV (⟨k960, (reE (dgP t n) n k), (dgV t k (reE (dgP t n) n k - k).toNat), rfl, by rw [hee]; exact hc62, fun x q0 => (hf63 x (by omega)).trans ((congrFun hM40 x).trans (va_up_ne M _ (by omega))), Or.inr (Or.inr (Or.inl ⟨by rw [hee]; exact ⟨by omega, by omega, by omega⟩, by rw [hee], by rw [hee]; exact hk964, by rw [hee]⟩))⟩)
              · refine lv_aload_n hx_ hb_ dX1_readToken_73 rfl (lv_at hl 1 rfl) ?_
                refine lv_aload_n hx_ hb_ dX1_readToken_74 rfl (lv_at hl 2 rfl) ?_
                refine sk_Vv E hV (As := [.ref a]) (rest := []) (kX1_readWord l_ G b_ M40 N q a wc tk k te tv n e t hc41 hc42 hc43 (ht) (by omega) (by omega)) (cwV 1 S.2.2.2.2 gX1_readToken_X1_readWord rfl rfl rfl (by decide +kernel) ⟨Nat.le_of_ble_eq_true rfl, Nat.le_of_ble_eq_true rfl⟩) (ci := 0) hc41 rfl rfl rfl hl.1 (Nat.le_of_ble_eq_true rfl) dX1_readToken_75 (c1 := 0) (s1 := 0) ⟨⟨rfl, rfl⟩, by decide, by decide⟩ (fun M65 N66 H locs hp67 hV => ?_)
                obtain ⟨k969, hN70, hc71, hf72, hk973⟩ := hp67
                rw [hN70] at hV
                refine lv_goto (tgt := 118) hx_ hb_ dX1_readToken_78 (by decide) ?_
                exact sr_v E hQ dX1_readToken_118 ⟨Nat.le_of_ble_eq_true rfl, Nat.le_of_ble_eq_true rfl⟩ hV (⟨k969, (reE (ltP t n) n k), (cfI t n k (reE (ltP t n) n k - k)), rfl, by rw [hee]; exact hc71, fun x q0 => (hf72 x (by omega)).trans ((congrFun hM40 x).trans (va_up_ne M _ (by omega))), Or.inr (Or.inl ⟨by rw [hee]; exact ⟨by omega, by omega, by omega⟩, by rw [hee], by rw [hee]; exact hk973, by rw [hee]⟩)⟩)
            · refine lv_aload_n hx_ hb_ dX1_readToken_58 rfl (lv_at hl 1 rfl) ?_
              refine si_const S dX1_readToken_59 ?_
              refine sc_put (ci := 0) (C := RX1) (T := TX1) (n := 7) S hK hV inX1_ tyX1_ok nmX1 hc41 rfl 3 (by decide) (S.2.2.2.2 _ (List.mem_of_getElem? (i := 3) rfl)) rfl rfl rfl rfl (Nat.le_of_ble_eq_true rfl) dX1_readToken_60 (fs1 := [.ref (q + 1), .ref (q + 3), .int (sI wc), .int (sI 0), .int (sI k), .int (sI te), .int (sI tv)]) rfl (fun M74 H locs hM74 hV => ?_)
              have hc75 : M74 q = some (sObj 0 [.ref (q + 1), .ref (q + 3), .int (sI wc), .int (sI 0), .int (sI k), .int (sI te), .int (sI tv)]) := (congrFun hM74 q).trans (va_up_self M40 q _)
              refine lv_goto (tgt := 118) hx_ hb_ dX1_readToken_63 (by decide) ?_
              exact sr_v E hQ dX1_readToken_118 ⟨Nat.le_of_ble_eq_true rfl, Nat.le_of_ble_eq_true rfl⟩ hV (⟨0, te, tv, rfl, by rw [hee]; exact hc75, fun x q0 => ((congrFun hM74 x).trans (va_up_ne M40 _ (by omega))).trans ((congrFun hM40 x).trans (va_up_ne M _ (by omega))), Or.inl ⟨by rw [hee]; omega, rfl⟩⟩)
          · refine si_inc (lv' := [(2, .int (sI (k + 1))), (0, .ref q), (1, .ref a)]) S dX1_readToken_33 hl (k := 2) rfl (by decide) rfl (fun ls hl => ?_)
            refine lv_goto (tgt := 5) hx_ hb_ dX1_readToken_36 (by decide) ?_
            exact ih5 (k + 1) _ _ _ (by omega) (by omega) (fun i x y => by by_cases e9 : i = k; exact (by rw [e9]; unfold wsP; omega); exact hL i x (by omega)) hV (lv_sub hl [1, 2, 0] rfl)
  exact L5 _ te _ _ _ (Nat.lt_succ_self _) (by omega) (fun i x y => by omega) hV (lv_sub hl [1, 2, 0] rfl)

abbrev rmX1_hasEntry : Room := { frames := 2, cells := 0, slots := 0, locals := 63 }
set_option maxHeartbeats 4000000 in
set_option maxRecDepth 100000 in
theorem kX1_hasEntry (l_ : Launch) (G : sG) (b_ : Nat) (M : sM) (N : Nat) (q : Nat) (wc tk ts te tv : Int) (ne : Int) (et : Int → Int → Int) (c : Int) (hq0 : M q = some (sObj 0 [.ref (q + 1), .ref (q + 3), .int (sI wc), .int (sI tk), .int (sI ts), .int (sI te), .int (sI tv)])) (hu : stK G M (q + 1) 5 ne 165 et) (hn : 0 ≤ ne ∧ ne ≤ 33) (hc : sR c) (he : ∀ o, 0 ≤ o → o < ne → sR (et o 4)) : cP l_ yX1_hasEntry wsX1_hasEntry rmX1_hasEntry G b_ M N [.ref q, .int (sI c)] (bI (∃ o, 0 ≤ o ∧ o < ne ∧ et o 4 = c)) := by
  refine sE.ofI (cc := cX1_hasEntry) (nL := 3) (ret := (some .boolean)) (by decide) rfl (Nat.le_of_ble_eq_true rfl) ?_
  intro p_ e_ s_ m_ args_ below_ meth_ c_ ls Q hQ E hl
  have E : sE p_ l_ e_ rmX1_hasEntry s_ m_ args_ below_ meth_ c_ cX1_hasEntry 3 wsX1_hasEntry RX1 "hasEntry" (some .boolean) G b_ M N := E
  have S := E.1
  have hx_ := S.1
  have hb_ := S.2.1
  have hK := E.2.2.2.2.1
  have hV := E.2.2.2.2.2.2
  have hl : lv_has ls 3 [(0, .ref q), (1, .int (sI c))] := hl
  have inX1_ : ∀ w ∈ wsX10, w ∈ wsX1_hasEntry := fun _ h => List.mem_cons_of_mem _ (List.mem_append_left _ (List.mem_append_right _ h))
  have inX8_ : ∀ w ∈ wsX80, w ∈ wsX1_hasEntry := fun _ h => List.mem_cons_of_mem _ (List.mem_append_right _ h)
  refine si_const S dX1_hasEntry_0 ?_
  refine lv_istore_n (lv' := [(2, .int (sI 0)), (0, .ref q), (1, .int (sI c))]) hx_ hb_ dX1_hasEntry_1 rfl hl (by decide) rfl (fun ls hl => ?_)
  have L2 : ∀ (fuel : Nat) (k : Int)  (H : Heap) (locs : List Loc) (ls : Array Slot), ((ne - k).toNat) < fuel → (0 ≤ k ∧ k ≤ ne) → (∀ o, 0 ≤ o → o < k → ¬ et o 4 = c) → sV G b_ M N s_ H locs → lv_has ls 3 [(0, .ref q), (1, .int (sI c)), (2, .int (sI k))] → W p_ l_ e_ rmX1_hasEntry s_ m_ args_ below_ meth_ c_ H locs 0 0 Q (F0 m_ 2 ls []) := by
    intro fuel
    induction fuel with
    | zero => intro k H locs ls hmu; exact absurd hmu (Nat.not_lt_zero _)
    | succ fuel ih2 =>
      intro k H locs ls hmu2 hv2_0 hn2  hV hl
      refine lv_iload_n hx_ hb_ dX1_hasEntry_2 rfl (lv_at hl 2 rfl) ?_
      refine lv_aload_n hx_ hb_ dX1_hasEntry_3 rfl (lv_at hl 0 rfl) ?_
      refine sc_get (ci := 0) (C := RX1) (T := TX1) (n := 7) S hK hV inX1_ hq0 rfl 0 (by decide) (S.2.2.2.2 _ (List.mem_of_getElem? (i := 1) rfl)) rfl rfl dX1_hasEntry_4 ?_
      refine sk_VP E hV (As := []) (rest := [.int (sI k)]) (kTs l_ G b_ M N (q + 1) 5 ne 165 et hu) (cwV 0 S.2.2.2.2 gX1_hasEntry_X8_size rfl rfl rfl (by decide +kernel) ⟨Nat.le_of_ble_eq_true rfl, Nat.le_of_ble_eq_true rfl⟩) (ci := 6) (hu).1 rfl rfl rfl hl.1 (Nat.le_of_ble_eq_true rfl) dX1_hasEntry_7 (c1 := 0) (s1 := 0) ⟨⟨rfl, rfl⟩, by decide, by decide⟩ (fun H locs hV => ?_)
      refine sb_ge (tgt := 34) S dX1_hasEntry_10 (by decide) (by omega) (fun c1 => ?_) (fun c1 => ?_)
      · refine si_const S dX1_hasEntry_34 ?_
        exact sr_z E hQ (Or.inl rfl) dX1_hasEntry_35 ⟨Nat.le_of_ble_eq_true rfl, Nat.le_of_ble_eq_true rfl⟩ hV (⟨(bI_f (fun ⟨o, o1, o2, o3⟩ => hn2 o o1 (by omega) o3)).symm, rfl, rfl⟩)
      · refine lv_aload_n hx_ hb_ dX1_hasEntry_13 rfl (lv_at hl 0 rfl) ?_
        refine sc_get (ci := 0) (C := RX1) (T := TX1) (n := 7) S hK hV inX1_ hq0 rfl 0 (by decide) (S.2.2.2.2 _ (List.mem_of_getElem? (i := 1) rfl)) rfl rfl dX1_hasEntry_14 ?_
        refine lv_iload_n hx_ hb_ dX1_hasEntry_17 rfl (lv_at hl 2 rfl) ?_
        refine si_const S dX1_hasEntry_18 ?_
        refine sk_VP E hV (As := [.int (sI k), .int (sI 4)]) (rest := []) (kTg l_ G b_ M N (q + 1) 5 ne 165 et k 4 (et k 4) hu (by omega) (by omega) (rfl)) (cwV 2 S.2.2.2.2 gX1_hasEntry_X8_get rfl rfl rfl (by decide +kernel) ⟨Nat.le_of_ble_eq_true rfl, Nat.le_of_ble_eq_true rfl⟩) (ci := 6) (hu).1 rfl rfl rfl hl.1 (Nat.le_of_ble_eq_true rfl) dX1_hasEntry_19 (c1 := 0) (s1 := 0) ⟨⟨rfl, rfl⟩, by decide, by decide⟩ (fun H locs hV => ?_)
        have hek := he k (by omega) (by omega)
        refine lv_iload_n hx_ hb_ dX1_hasEntry_22 rfl (lv_at hl 1 rfl) ?_
        refine sb_ne (tgt := 28) S dX1_hasEntry_23 (by decide) (by omega) (fun c2 => ?_) (fun c2 => ?_)
        · refine si_inc (lv' := [(2, .int (sI (k + 1))), (0, .ref q), (1, .int (sI c))]) S dX1_hasEntry_28 hl (k := 2) rfl (by decide) rfl (fun ls hl => ?_)
          refine lv_goto (tgt := 2) hx_ hb_ dX1_hasEntry_31 (by decide) ?_
          exact ih2 (k + 1) _ _ _ (by omega) (by omega) (idx_st hn2 (by omega)) hV (lv_sub hl [1, 2, 0] rfl)
        · refine si_const S dX1_hasEntry_26 ?_
          exact sr_z E hQ (Or.inr rfl) dX1_hasEntry_27 ⟨Nat.le_of_ble_eq_true rfl, Nat.le_of_ble_eq_true rfl⟩ hV (⟨(bI_t ⟨k, by omega, by omega, by omega⟩).symm, rfl, rfl⟩)
  exact L2 _ 0 _ _ _ (Nat.lt_succ_self _) (by omega) (fun k a b => by omega) hV (lv_sub hl [1, 2, 0] rfl)
