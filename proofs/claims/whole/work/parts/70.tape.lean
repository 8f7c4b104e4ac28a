/-! The class's Tape. -/
theorem iand_255 (x : Int) : iand x 255 = (sI x).toInt % 256 := by
  have h1 : iand x 255 = ((((sI x).toBitVec.toNat % 2 ^ 8 : Nat)) : Int) := by
    unfold iand
    rw [show sI 255 = (255 : Int32) from by decide, pk_and _ 8 (by decide)]
    have : (sI x).toBitVec.toNat % 2 ^ 8 < 2 ^ 8 := Nat.mod_lt _ (by omega)
    exact nI_toInt (by omega)
  rw [h1]
  have h2 : (sI x).toInt = (sI x).toBitVec.toInt := rfl
  rw [h2, BitVec.toInt_eq_toNat_cond]
  have h3 : (sI x).toBitVec.toNat < 2 ^ 32 := (sI x).toBitVec.isLt
  split <;> omega
theorem iushr_255 {x k : Int} (hk : k = 0 ∨ k = 8 ∨ k = 16 ∨ k = 24) : iand (iushr x k) 255 = byt x k := by
  have e1 : ∀ j : Nat, j ≤ 24 → ((sI (j : Int) &&& 31 : Int32).toBitVec.smod 32).toNat = j := by
    intro j hj
    rw [show (sI (j : Int) &&& 31 : Int32) = sI (j : Int) from sI_31 (by omega), smod_k (by omega)]
    omega
  have e2 : ∀ j : Nat, j ≤ 24 → (((sI (j : Int)).toUInt32 &&& Int32.toUInt32 31).toBitVec % 32).toNat = j := by
    have h : ∀ j : Nat, j ≤ 24 → (((nI j).toUInt32 &&& Int32.toUInt32 31).toBitVec % 32).toNat = j := by decide
    intro j hj
    rw [show sI (j : Int) = nI j from sI_nI (by omega)]
    exact h j hj
  have key : ∀ j : Nat, (j = 0 ∨ j = 8 ∨ j = 16 ∨ j = 24) → iand (iushr x (j : Int)) 255 = byt x (j : Int) := by
    intro j hj
    have hj2 : j ≤ 24 := by omega
    have u1 := pk_ushr (sI x) (sI (j : Int)) j (e2 j hj2)
    have s1 := pk_shr (sI x) (sI (j : Int) &&& 31) j (e1 j hj2)
    have hi : (sI x).toInt = (sI x).toBitVec.toInt := rfl
    have hl : (sI x).toBitVec.toNat < 2 ^ 32 := (sI x).toBitVec.isLt
    have a1 : iand (iushr x (j : Int)) 255 = ((((sI x).toBitVec.toNat / 2 ^ j) % 256 : Nat) : Int) := by
      have h1 : iand (iushr x (j : Int)) 255 = ((((sI (iushr x (j : Int))).toBitVec.toNat % 2 ^ 8 : Nat)) : Int) := by
        unfold iand
        rw [show sI 255 = (255 : Int32) from by decide, pk_and _ 8 (by decide)]
        have : (sI (iushr x (j : Int))).toBitVec.toNat % 2 ^ 8 < 2 ^ 8 := Nat.mod_lt _ (by omega)
        exact nI_toInt (by omega)
      rw [h1, ← sI_ushr, u1]
    have a2 : byt x (j : Int) = ((sI x).toInt / ((2 ^ j : Nat) : Int)) % 256 := by
      unfold byt
      rw [iand_255, show (sI (ishr x (j : Int))).toInt = ishr x (j : Int) from sI_toInt (ishr_r _ _)]
      unfold ishr
      rw [s1, Int.shiftRight_eq_div_pow]
    rw [a1, a2, hi, BitVec.toInt_eq_toNat_cond]
    rcases hj with rfl | rfl | rfl | rfl
    · rw [show (2 : Nat) ^ 0 = 1 from rfl]
      split <;> omega
    · rw [show (2 : Nat) ^ 8 = 256 from rfl]
      split <;> omega
    · rw [show (2 : Nat) ^ 16 = 65536 from rfl]
      split <;> omega
    · rw [show (2 : Nat) ^ 24 = 16777216 from rfl]
      split <;> omega
  have h := key k.toNat (by omega)
  rw [show ((k.toNat : Nat) : Int) = k by omega] at h
  exact h
def btI (t : sF) (n i : Int) : Int := if 0 ≤ i ∧ i < n then t i else 0
theorem bt_r {t : sF} {n : Int} (h : tpOk t n) (i : Int) : 0 ≤ btI t n i ∧ btI t n i ≤ 255 := by
  unfold btI
  split
  · have := h.2.2 i (by omega) (by omega); omega
  · omega
/-- bytes of a code, one behind the other -/
def cfN (t : sF) (n a L : Int) : Nat → Int
  | 0 => 0
  | k + 1 => ior (ishl (cfN t n a L k) 8) (if (k : Int) < L then btI t n (a + (k : Int)) else 0)
theorem cfN_s (t : sF) (n a L k : Int) (h : 0 ≤ k) : cfN t n a L (k + 1).toNat = ior (ishl (cfN t n a L k.toNat) 8) (if k < L then btI t n (a + k) else 0) := by
  rw [show (k + 1).toNat = k.toNat + 1 by omega]
  show ior _ (if ((k.toNat : Nat) : Int) < L then btI t n (a + ((k.toNat : Nat) : Int)) else 0) = _
  rw [show ((k.toNat : Nat) : Int) = k by omega]
def cfI (t : sF) (n a L : Int) : Int := cfN t n a L 4
theorem ior_8 {v b : Int} (hv : 0 ≤ v ∧ v < 8388608) (hb : 0 ≤ b ∧ b < 256) : ior (ishl v 8) b = 256 * v + b := by
  rw [ishl_n (by omega) (by omega) (by rw [show (8 : Int).toNat = 8 from rfl, show (2 : Nat) ^ 8 = 256 from rfl]; omega), show (8 : Int).toNat = 8 from rfl, show (2 : Nat) ^ 8 = 256 from rfl]
  rw [ior_n (by omega) (by omega), Int.toNat_natCast]
  have h := Nat.shiftLeft_add_eq_or_of_lt (i := 8) (b := b.toNat) (by omega) v.toNat
  rw [Nat.shiftLeft_eq, show (2 : Nat) ^ 8 = 256 from rfl] at h
  rw [← h]
  omega
theorem cdg_c {t : sF} {n a L k : Int} (hL : ∀ i, a ≤ i → i < a + L → ltP t n i) (hE : ¬ ltP t n (a + L) ∨ 4 ≤ L) (ha : 0 ≤ a) (hk : 0 ≤ k ∧ k < 4) (hL0 : 0 ≤ L) : (0 ≤ cdg t n a k ∧ cdg t n a k ≤ 26) ∧ (if k < L then btI t n (a + k) else 0) = cby (cdg t n a k) := by
  refine ⟨cdg_r t n a k hk.1, ?_⟩
  by_cases q : k < L
  · have h1 : lrun t n a k := fun i x y => hL i x (by omega)
    have h2 := hL (a + k) (by omega) (by omega)
    have h3 : cdg t n a k = t (a + k) - 97 + 1 := pif_t h1
    rw [if_pos q, h3]
    unfold ltP at h2
    unfold btI cby
    rw [if_pos (by omega), if_neg (by omega)]
    omega
  · have h1 : ¬ lrun t n a k := fun h => by
      rcases hE with e | e
      · exact e (h (a + L) (by omega) (by omega))
      · omega
    have h3 : cdg t n a k = 0 := pif_f h1
    rw [if_neg q, h3]
    rfl
theorem cf_cod {t : sF} {n a L : Int} (hL : ∀ i, a ≤ i → i < a + L → ltP t n i) (hE : ¬ ltP t n (a + L) ∨ 4 ≤ L) (ha : 0 ≤ a) (hL0 : 0 ≤ L) : cfI t n a L = cod (coA t n a) := by
  obtain ⟨r0, e0⟩ := cdg_c hL hE ha (k := 0) (by omega) hL0
  obtain ⟨r1, e1⟩ := cdg_c hL hE ha (k := 1) (by omega) hL0
  obtain ⟨r2, e2⟩ := cdg_c hL hE ha (k := 2) (by omega) hL0
  obtain ⟨r3, e3⟩ := cdg_c hL hE ha (k := 3) (by omega) hL0
  have b0 := cby_r (cdg t n a 0) (by omega)
  have b1 := cby_r (cdg t n a 1) (by omega)
  have b2 := cby_r (cdg t n a 2) (by omega)
  have b3 := cby_r (cdg t n a 3) (by omega)
  have c0 : cfN t n a L 1 = cby (cdg t n a 0) := by
    show ior (ishl 0 8) (if ((0 : Nat) : Int) < L then btI t n (a + ((0 : Nat) : Int)) else 0) = _
    rw [show ((0 : Nat) : Int) = 0 from rfl, e0, ior_8 (by omega) ⟨b0.1, by omega⟩]
    omega
  have c1 : cfN t n a L 2 = 256 * cby (cdg t n a 0) + cby (cdg t n a 1) := by
    show ior (ishl (cfN t n a L 1) 8) (if ((1 : Nat) : Int) < L then btI t n (a + ((1 : Nat) : Int)) else 0) = _
    rw [show ((1 : Nat) : Int) = 1 from rfl, e1, c0, ior_8 ⟨b0.1, by omega⟩ ⟨b1.1, by omega⟩]
  have c2 : cfN t n a L 3 = 256 * (256 * cby (cdg t n a 0) + cby (cdg t n a 1)) + cby (cdg t n a 2) := by
    show ior (ishl (cfN t n a L 2) 8) (if ((2 : Nat) : Int) < L then btI t n (a + ((2 : Nat) : Int)) else 0) = _
    rw [show ((2 : Nat) : Int) = 2 from rfl, e2, c1, ior_8 (by omega) ⟨b2.1, by omega⟩]
  have c3 : cfN t n a L 4 = 256 * (256 * (256 * cby (cdg t n a 0) + cby (cdg t n a 1)) + cby (cdg t n a 2)) + cby (cdg t n a 3) := by
    show ior (ishl (cfN t n a L 3) 8) (if ((3 : Nat) : Int) < L then btI t n (a + ((3 : Nat) : Int)) else 0) = _
    rw [show ((3 : Nat) : Int) = 3 from rfl, e3, c2, ior_8 (by omega) ⟨b3.1, by omega⟩]
  unfold cfI
  rw [c3]
  have v : coA t n a = 19683 * cdg t n a 0 + 729 * cdg t n a 1 + 27 * cdg t n a 2 + cdg t n a 3 := by
    show 27 * (27 * (27 * (27 * 0 + cdg t n a 0) + cdg t n a 1) + cdg t n a 2) + cdg t n a 3 = _
    omega
  unfold cod
  rw [show coA t n a / 19683 = cdg t n a 0 by omega, show coA t n a / 729 % 27 = cdg t n a 1 by omega, show coA t n a / 27 % 27 = cdg t n a 2 by omega, show coA t n a % 27 = cdg t n a 3 by omega]
  omega
theorem cf_cod_c {t : sF} {n a L L2 : Int} (h : ∀ k, 0 ≤ k → k < 4 → (k < L ↔ k < L2)) : cfI t n a L = cfI t n a L2 := by
  have e : ∀ j : Nat, j ≤ 4 → cfN t n a L j = cfN t n a L2 j := by
    intro j
    induction j with
    | zero => intro _; rfl
    | succ j ih =>
      intro hj
      have h1 := h (j : Int) (by omega) (by omega)
      show ior _ _ = ior _ _
      rw [ih (by omega)]
      by_cases q : (j : Int) < L
      · rw [if_pos q, if_pos (h1.mp q)]
      · rw [if_neg q, if_neg (fun r => q (h1.mpr r))]
  exact e 4 (Nat.le_refl _)
/-- where a tape stops being a code -/
noncomputable def ceI (t : sF) (n : Int) : Int := if 0 < ltc t n ∧ ltc t n = n then -1 else ltc t n

abbrev rmX9_init : Room := { frames := 1, cells := 1, slots := 300, locals := 40 }
set_option maxHeartbeats 4000000 in
set_option maxRecDepth 100000 in
theorem kX9_init (l_ : Launch) (G : sG) (b_ : Nat) (M : sM) (N : Nat) (a : Nat) (ht0 : M a = some (sObj 7 [.null, .int (sI 0), .int (sI 0)])) (hN : N = a + 1) : cV l_ yX9_init wsX9_init rmX9_init G b_ M N [.ref a] (fun M1 N1 => N1 = a + 2 ∧ M1 a = some (sObj 7 [.ref (a + 1), .int (sI 0), .int (sI (-1))]) ∧ M1 (a + 1) = some (sArr G 300 (fun _ => 0)) ∧ (∀ x : Nat, ¬ (x = a) → ¬ (x = a + 1) → M1 x = M x)) := by
  refine sE.ofV (cc := cX9_init) (nL := 1) (ret := none) (by decide) rfl (Nat.le_of_ble_eq_true rfl) ?_
  intro p_ e_ s_ m_ args_ below_ meth_ c_ ls Q hQ E hl
  have E : sE p_ l_ e_ rmX9_init s_ m_ args_ below_ meth_ c_ cX9_init 1 wsX9_init RX9 "<init>" none G b_ M N := E
  have S := E.1
  have hx_ := S.1
  have hb_ := S.2.1
  have hK := E.2.2.2.2.1
  have hV := E.2.2.2.2.2.2
  have hnm := E.2.2.2.1
  have hl : lv_has ls 1 [(0, .ref a)] := hl
  have inX9_ : ∀ w ∈ wsX90, w ∈ wsX9_init := fun _ h => List.mem_cons_of_mem _ (List.mem_append_right _ h)
  have hbN : b_ ≤ N := by have h1 := hV.1.1; have h2 := hV.2.2; omega
  subst hN
  refine lv_aload_n hx_ hb_ dX9_init_0 rfl (lv_at hl 0 rfl) ?_
  refine W.objInit hx_ hb_ S.2.2.2.1 (S.2.2.2.2 _ (List.mem_of_getElem? (i := 1) rfl)) (S.2.2.2.2 _ (List.mem_of_getElem? (i := 2) rfl)) (S.2.2.2.2 _ (List.mem_of_getElem? (i := 3) rfl)) rfl (by rw [S.2.2.1]; exact hl.1) rfl dX9_init_1 (Nat.le_of_ble_eq_true rfl) (Nat.le_of_ble_eq_true rfl) ?_
  refine W.eq (g2 := F0 m_ 4 ls []) rfl ?_
  refine lv_aload_n hx_ hb_ dX9_init_4 rfl (lv_at hl 0 rfl) ?_
  refine si_sipush S dX9_init_5 (by decide) ?_
  refine sc_newa S hK hV (S.2.2.2.2 _ (List.mem_of_getElem? (i := 4) rfl)) (N0 := 300) ⟨rfl, Nat.le_of_ble_eq_true rfl⟩ ⟨Nat.le_of_ble_eq_true rfl, Nat.le_of_ble_eq_true rfl⟩ dX9_init_8 (fun M1 H locs hM1 hV => ?_)
  have hc2 : M1 (a + 1) = some (sArr G 300 (fun _ => 0)) := (congrFun hM1 (a + 1)).trans (va_up_self M (a + 1) _)
  have hc3 : M1 a = some (sObj 7 [.null, .int (sI 0), .int (sI 0)]) := ((congrFun hM1 a).trans (va_up_ne M _ (by omega))).trans ht0
  refine sc_putF (ci := 7) (C := RX9) (T := TX9) (n := 3) S hK hV inX9_ tyX9_ok nmX9 hc3 rfl 0 (by decide) (S.2.2.2.2 _ (List.mem_of_getElem? (i := 5) rfl)) rfl rfl hnm rfl rfl rfl (Nat.le_of_ble_eq_true rfl) dX9_init_10 (fs1 := [.ref (a + 1), .int (sI 0), .int (sI 0)]) rfl (fun M4 H locs hM4 hV => ?_)
  have hc5 : M4 a = some (sObj 7 [.ref (a + 1), .int (sI 0), .int (sI 0)]) := (congrFun hM4 a).trans (va_up_self M1 a _)
  refine lv_aload_n hx_ hb_ dX9_init_13 rfl (lv_at hl 0 rfl) ?_
  refine si_const S dX9_init_14 ?_
  refine sc_put (ci := 7) (C := RX9) (T := TX9) (n := 3) S hK hV inX9_ tyX9_ok nmX9 hc5 rfl 1 (by decide) (S.2.2.2.2 _ (List.mem_of_getElem? (i := 6) rfl)) rfl rfl rfl rfl (Nat.le_of_ble_eq_true rfl) dX9_init_15 (fs1 := [.ref (a + 1), .int (sI 0), .int (sI 0)]) rfl (fun M6 H locs hM6 hV => ?_)
  have hc7 : M6 a = some (sObj 7 [.ref (a + 1), .int (sI 0), .int (sI 0)]) := (congrFun hM6 a).trans (va_up_self M4 a _)
  refine lv_aload_n hx_ hb_ dX9_init_18 rfl (lv_at hl 0 rfl) ?_
  refine si_const S dX9_init_19 ?_
  refine sc_put (ci := 7) (C := RX9) (T := TX9) (n := 3) S hK hV inX9_ tyX9_ok nmX9 hc7 rfl 2 (by decide) (S.2.2.2.2 _ (List.mem_of_getElem? (i := 7) rfl)) rfl rfl rfl rfl (Nat.le_of_ble_eq_true rfl) dX9_init_20 (fs1 := [.ref (a + 1), .int (sI 0), .int (sI (-1))]) rfl (fun M8 H locs hM8 hV => ?_)
  have hc9 : M8 a = some (sObj 7 [.ref (a + 1), .int (sI 0), .int (sI (-1))]) := (congrFun hM8 a).trans (va_up_self M6 a _)
  have hc10 : M8 (a + 1) = some (sArr G 300 (fun _ => 0)) := ((((congrFun hM8 (a + 1)).trans (va_up_ne M6 _ (by omega))).trans ((congrFun hM6 (a + 1)).trans (va_up_ne M4 _ (by omega)))).trans ((congrFun hM4 (a + 1)).trans (va_up_ne M1 _ (by omega)))).trans hc2
  exact sr_v E hQ dX9_init_23 ⟨Nat.le_of_ble_eq_true rfl, Nat.le_of_ble_eq_true rfl⟩ hV (⟨by omega, hc9, hc10, fun x q0 q1 => ((((congrFun hM8 x).trans (va_up_ne M6 _ (by omega))).trans ((congrFun hM6 x).trans (va_up_ne M4 _ (by omega)))).trans ((congrFun hM4 x).trans (va_up_ne M1 _ (by omega)))).trans ((congrFun hM1 x).trans (va_up_ne M _ (by omega)))⟩)

abbrev rmX9_bytesIn : Room := { frames := 1, cells := 0, slots := 0, locals := 40 }
set_option maxHeartbeats 4000000 in
set_option maxRecDepth 100000 in
theorem kX9_bytesIn (l_ : Launch) (G : sG) (b_ : Nat) (M : sM) (N : Nat) (x : Int) : cP l_ yX9_bytesIn wsX9_bytesIn rmX9_bytesIn G b_ M N [.int (sI x)] (bn x) := by
  refine sE.ofI (cc := cX9_bytesIn) (nL := 3) (ret := (some .int)) (by decide) rfl (Nat.le_of_ble_eq_true rfl) ?_
  intro p_ e_ s_ m_ args_ below_ meth_ c_ ls Q hQ E hl
  have E : sE p_ l_ e_ rmX9_bytesIn s_ m_ args_ below_ meth_ c_ cX9_bytesIn 3 wsX9_bytesIn RX9 "bytesIn" (some .int) G b_ M N := E
  have S := E.1
  have hx_ := S.1
  have hb_ := S.2.1
  have hK := E.2.2.2.2.1
  have hV := E.2.2.2.2.2.2
  have hl : lv_has ls 3 [(0, .int (sI x))] := hl
  refine si_const S dX9_bytesIn_0 ?_
  refine lv_istore_n (lv' := [(1, .int (sI 0)), (0, .int (sI x))]) hx_ hb_ dX9_bytesIn_1 rfl hl (by decide) rfl (fun ls hl => ?_)
  refine si_bipush S dX9_bytesIn_2 (by decide) ?_
  refine lv_istore_n (lv' := [(2, .int (sI 24)), (1, .int (sI 0)), (0, .int (sI x))]) hx_ hb_ dX9_bytesIn_4 rfl hl (by decide) rfl (fun ls hl => ?_)
  have L5 : ∀ (fuel : Nat) (n : Int) (k : Int)  (H : Heap) (locs : List Loc) (ls : Array Slot), ((k + 8).toNat) < fuel → (k = -8 ∨ k = 0 ∨ k = 8 ∨ k = 16 ∨ k = 24) → (n = (if k < 24 then nzb x 24 else 0) + (if k < 16 then nzb x 16 else 0) + (if k < 8 then nzb x 8 else 0) + (if k < 0 then nzb x 0 else 0)) → sV G b_ M N s_ H locs → lv_has ls 3 [(0, .int (sI x)), (1, .int (sI n)), (2, .int (sI k))] → W p_ l_ e_ rmX9_bytesIn s_ m_ args_ below_ meth_ c_ H locs 0 0 Q (F0 m_ 5 ls []) := by
    intro fuel
    induction fuel with
    | zero => intro n k H locs ls hmu; exact absurd hmu (Nat.not_lt_zero _)
    | succ fuel ih5 =>
      intro n k H locs ls hmu5 hk hn  hV hl
      refine lv_iload_n hx_ hb_ dX9_bytesIn_5 rfl (lv_at hl 2 rfl) ?_
      refine sz_lt (tgt := 33) S dX9_bytesIn_6 (by decide) (by omega) (fun c1 => ?_) (fun c1 => ?_)
      · refine lv_iload_n hx_ hb_ dX9_bytesIn_33 rfl (lv_at hl 1 rfl) ?_
        exact sr_i E hQ dX9_bytesIn_34 ⟨Nat.le_of_ble_eq_true rfl, Nat.le_of_ble_eq_true rfl⟩ hV (⟨by rcases hk with rfl | rfl | rfl | rfl | rfl <;> first | omega | (simp at hn; unfold bn; omega), rfl, rfl⟩)
      · refine lv_iload_n hx_ hb_ dX9_bytesIn_9 rfl (lv_at hl 1 rfl) ?_
        refine lv_iload_n hx_ hb_ dX9_bytesIn_10 rfl (lv_at hl 0 rfl) ?_
        refine lv_iload_n hx_ hb_ dX9_bytesIn_11 rfl (lv_at hl 2 rfl) ?_
        refine si_ushr S dX9_bytesIn_12 ?_
        refine si_sipush S dX9_bytesIn_13 (by decide) ?_
        refine si_and S dX9_bytesIn_16 ?_
        rw [iushr_255 (by omega)]
        have hbr := byt_r x k
        refine sz_ne (tgt := 24) S dX9_bytesIn_17 (by decide) (by omega) (fun c2 => ?_) (fun c2 => ?_)
        · refine si_const S dX9_bytesIn_24 ?_
          refine si_add S dX9_bytesIn_25 ?_
          refine lv_istore_n (lv' := [(1, .int (sI (n + 1))), (0, .int (sI x)), (2, .int (sI k))]) hx_ hb_ dX9_bytesIn_26 rfl hl (by decide) rfl (fun ls hl => ?_)
          refine si_inc (lv' := [(2, .int (sI (k + (-8)))), (1, .int (sI (n + 1))), (0, .int (sI x))]) S dX9_bytesIn_27 hl (k := 2) rfl (by decide) rfl (fun ls hl => ?_)
          refine lv_goto (tgt := 5) hx_ hb_ dX9_bytesIn_30 (by decide) ?_
          exact ih5 (n + 1) (k + (-8)) _ _ _ (by omega) (by omega) (by have e0 : nzb x k = if byt x k = 0 then 0 else 1 := rfl; rcases hk with rfl | rfl | rfl | rfl | rfl <;> simp at hn ⊢ <;> split at e0 <;> first | omega | (simp at *; omega)) hV (lv_sub hl [2, 1, 0] rfl)
        · refine si_const S dX9_bytesIn_20 ?_
          refine lv_goto (tgt := 25) hx_ hb_ dX9_bytesIn_21 (by decide) ?_
          refine si_add S dX9_bytesIn_25 ?_
          refine lv_istore_n (lv' := [(1, .int (sI (n + 0))), (0, .int (sI x)), (2, .int (sI k))]) hx_ hb_ dX9_bytesIn_26 rfl hl (by decide) rfl (fun ls hl => ?_)
          refine si_inc (lv' := [(2, .int (sI (k + (-8)))), (1, .int (sI (n + 0))), (0, .int (sI x))]) S dX9_bytesIn_27 hl (k := 2) rfl (by decide) rfl (fun ls hl => ?_)
          refine lv_goto (tgt := 5) hx_ hb_ dX9_bytesIn_30 (by decide) ?_
          exact ih5 (n + 0) (k + (-8)) _ _ _ (by omega) (by omega) (by have e0 : nzb x k = if byt x k = 0 then 0 else 1 := rfl; rcases hk with rfl | rfl | rfl | rfl | rfl <;> simp at hn ⊢ <;> split at e0 <;> first | omega | (simp at *; omega)) hV (lv_sub hl [2, 1, 0] rfl)
  exact L5 _ 0 24 _ _ _ (Nat.lt_succ_self _) (by omega) (by simp) hV (lv_sub hl [2, 1, 0] rfl)

abbrev rmX9_putBytes : Room := { frames := 1, cells := 0, slots := 0, locals := 40 }
set_option maxHeartbeats 4000000 in
set_option maxRecDepth 100000 in
theorem kX9_putBytes (l_ : Launch) (G : sG) (b_ : Nat) (M : sM) (N : Nat) (a : Nat) (n e : Int) (t : sF) (x : Int) (ht0 : M a = some (sObj 7 [.ref (a + 1), .int (sI n), .int (sI e)])) (ht1 : M (a + 1) = some (sArr G 300 t)) (hb : 0 ≤ n ∧ n + bn x ≤ 300) : cV l_ yX9_putBytes wsX9_putBytes rmX9_putBytes G b_ M N [.ref a, .int (sI x)] (fun M1 N1 => N1 = N ∧ M1 a = some (sObj 7 [.ref (a + 1), .int (sI (n + bn x)), .int (sI e)]) ∧ M1 (a + 1) = some (sArr G 300 (tpt x t n 4)) ∧ (∀ x : Nat, ¬ (x = a) → ¬ (x = a + 1) → M1 x = M x)) := by
  refine sE.ofV (cc := cX9_putBytes) (nL := 4) (ret := none) (by decide) rfl (Nat.le_of_ble_eq_true rfl) ?_
  intro p_ e_ s_ m_ args_ below_ meth_ c_ ls Q hQ E hl
  have E : sE p_ l_ e_ rmX9_putBytes s_ m_ args_ below_ meth_ c_ cX9_putBytes 4 wsX9_putBytes RX9 "putBytes" none G b_ M N := E
  have S := E.1
  have hx_ := S.1
  have hb_ := S.2.1
  have hK := E.2.2.2.2.1
  have hV := E.2.2.2.2.2.2
  have hl : lv_has ls 4 [(0, .ref a), (1, .int (sI x))] := hl
  have inX9_ : ∀ w ∈ wsX90, w ∈ wsX9_putBytes := fun _ h => List.mem_cons_of_mem _ (List.mem_append_right _ h)
  refine si_bipush S dX9_putBytes_0 (by decide) ?_
  refine lv_istore_n (lv' := [(2, .int (sI 24)), (0, .ref a), (1, .int (sI x))]) hx_ hb_ dX9_putBytes_2 rfl hl (by decide) rfl (fun ls hl => ?_)
  have L3 : ∀ (fuel : Nat) (k : Int) (n2 : Int) (t2 : Int → Int) (Ml3 : sM) (H : Heap) (locs : List Loc) (ls : Array Slot), ((k + 8).toNat) < fuel → (∃ j : Nat, j ≤ 4 ∧ k = 24 - 8 * (j : Int) ∧ n2 = tpn x n j ∧ t2 = tpt x t n j) → (Ml3 a = some (sObj 7 [.ref (a + 1), .int (sI n2), .int (sI e)])) → (Ml3 (a + 1) = some (sArr G 300 t2)) → (∀ x : Nat, ¬ (x = a) → ¬ (x = a + 1) → Ml3 x = M x) → sV G b_ Ml3 N s_ H locs → lv_has ls 4 [(0, .ref a), (1, .int (sI x)), (2, .int (sI k))] → W p_ l_ e_ rmX9_putBytes s_ m_ args_ below_ meth_ c_ H locs 0 0 Q (F0 m_ 3 ls []) := by
    intro fuel
    induction fuel with
    | zero => intro k n2 t2 Ml3 H locs ls hmu; exact absurd hmu (Nat.not_lt_zero _)
    | succ fuel ih3 =>
      intro k n2 t2 Ml3 H locs ls hmu3 hj hm3_0 hm3_1 hfr3 hV hl
      obtain ⟨j, hj4, hkj, hn2, ht2⟩ := hj
      have hle := tpn_le x n j hj4
      refine lv_iload_n hx_ hb_ dX9_putBytes_3 rfl (lv_at hl 2 rfl) ?_
      refine sz_lt (tgt := 57) S dX9_putBytes_4 (by decide) (by omega) (fun c1 => ?_) (fun c1 => ?_)
      · exact sr_v E hQ dX9_putBytes_57 ⟨Nat.le_of_ble_eq_true rfl, Nat.le_of_ble_eq_true rfl⟩ hV (⟨rfl, (by have e4 : j = 4 := (by omega); rw [e4, tpn_4] at hn2; rw [← hn2]; exact hm3_0), (by have e4 : j = 4 := (by omega); rw [e4] at ht2; rw [← ht2]; exact hm3_1), fun x q0 q1 => hfr3 x (by omega) (by omega)⟩)
      · refine lv_iload_n hx_ hb_ dX9_putBytes_7 rfl (lv_at hl 1 rfl) ?_
        refine lv_iload_n hx_ hb_ dX9_putBytes_8 rfl (lv_at hl 2 rfl) ?_
        refine si_ushr S dX9_putBytes_9 ?_
        refine si_sipush S dX9_putBytes_10 (by decide) ?_
        refine si_and S dX9_putBytes_13 ?_
        rw [iushr_255 (by omega)]
        have hbr := byt_r x k
        refine lv_istore_n (lv' := [(3, .int (sI (byt x k))), (0, .ref a), (1, .int (sI x)), (2, .int (sI k))]) hx_ hb_ dX9_putBytes_14 rfl hl (by decide) rfl (fun ls hl => ?_)
        refine lv_iload_n hx_ hb_ dX9_putBytes_15 rfl (lv_at hl 0 rfl) ?_
        refine sz_eq (tgt := 51) S dX9_putBytes_16 (by decide) (by omega) (fun c2 => ?_) (fun c2 => ?_)
        · have hz : byt x (24 - 8 * (j : Int)) = 0 := by rw [← hkj]; exact c2
          refine si_inc (lv' := [(2, .int (sI (k + (-8)))), (3, .int (sI (byt x k))), (0, .ref a), (1, .int (sI x))]) S dX9_putBytes_51 hl (k := 3) rfl (by decide) rfl (fun ls hl => ?_)
          refine lv_goto (tgt := 3) hx_ hb_ dX9_putBytes_54 (by decide) ?_
          exact ih3 (k + (-8)) n2 t2 Ml3 _ _ _ (by omega) (⟨j + 1, by omega, by omega, by rw [(tp_z (n := n) (t := t) hz).1]; exact hn2, by rw [(tp_z (n := n) (t := t) hz).2]; exact ht2⟩) hm3_0 hm3_1 (fun x q0 q1 => hfr3 x (by omega) (by omega)) hV (lv_sub hl [2, 3, 0] rfl)
        · have hz : byt x (24 - 8 * (j : Int)) ≠ 0 := by rw [← hkj]; exact c2
          have hle2 := tpn_le x n (j + 1) (by omega)
          rw [(tp_w (t := t) hz).1] at hle2
          refine lv_aload_n hx_ hb_ dX9_putBytes_19 rfl (lv_at hl 1 rfl) ?_
          refine sc_get (ci := 7) (C := RX9) (T := TX9) (n := 3) S hK hV inX9_ hm3_0 rfl 1 (by decide) (S.2.2.2.2 _ (List.mem_of_getElem? (i := 1) rfl)) rfl rfl dX9_putBytes_20 ?_
          refine lv_aload_n hx_ hb_ dX9_putBytes_23 rfl (lv_at hl 1 rfl) ?_
          refine sc_get (ci := 7) (C := RX9) (T := TX9) (n := 3) S hK hV inX9_ hm3_0 rfl 0 (by decide) (S.2.2.2.2 _ (List.mem_of_getElem? (i := 2) rfl)) rfl rfl dX9_putBytes_24 ?_
          refine sc_alen S hK hV 0 hm3_1 rfl dX9_putBytes_27 ?_
          rw [show ((300 : Nat) : Int) = 300 from rfl]
          refine sb_ge (tgt := 51) S dX9_putBytes_28 (by decide) (by omega) (fun c3 => absurd c3 (by omega)) (fun _ => ?_)
          refine lv_aload_n hx_ hb_ dX9_putBytes_31 rfl (lv_at hl 1 rfl) ?_
          refine sc_get (ci := 7) (C := RX9) (T := TX9) (n := 3) S hK hV inX9_ hm3_0 rfl 0 (by decide) (S.2.2.2.2 _ (List.mem_of_getElem? (i := 2) rfl)) rfl rfl dX9_putBytes_32 ?_
          refine lv_aload_n hx_ hb_ dX9_putBytes_35 rfl (lv_at hl 1 rfl) ?_
          refine sc_get (ci := 7) (C := RX9) (T := TX9) (n := 3) S hK hV inX9_ hm3_0 rfl 1 (by decide) (S.2.2.2.2 _ (List.mem_of_getElem? (i := 1) rfl)) rfl rfl dX9_putBytes_36 ?_
          refine lv_iload_n hx_ hb_ dX9_putBytes_39 rfl (lv_at hl 0 rfl) ?_
          refine sc_iast S hK hV hm3_1 (by omega) dX9_putBytes_40 (fun M4 H locs hM4 hV => ?_)
          have hc5 : M4 (a + 1) = some (sArr G 300 (iup t2 n2 (byt x k))) := (congrFun hM4 (a + 1)).trans (va_up_self Ml3 (a + 1) _)
          refine lv_aload_n hx_ hb_ dX9_putBytes_41 rfl (lv_at hl 1 rfl) ?_
          refine lv_dup hx_ hb_ dX9_putBytes_42 rfl ?_
          have hc6 : M4 a = some (sObj 7 [.ref (a + 1), .int (sI n2), .int (sI e)]) := ((congrFun hM4 a).trans (va_up_ne Ml3 _ (by omega))).trans hm3_0
          refine sc_get (ci := 7) (C := RX9) (T := TX9) (n := 3) S hK hV inX9_ hc6 rfl 1 (by decide) (S.2.2.2.2 _ (List.mem_of_getElem? (i := 1) rfl)) rfl rfl dX9_putBytes_43 ?_
          refine si_const S dX9_putBytes_46 ?_
          refine si_add S dX9_putBytes_47 ?_
          refine sc_put (ci := 7) (C := RX9) (T := TX9) (n := 3) S hK hV inX9_ tyX9_ok nmX9 hc6 rfl 1 (by decide) (S.2.2.2.2 _ (List.mem_of_getElem? (i := 1) rfl)) rfl rfl rfl rfl (Nat.le_of_ble_eq_true rfl) dX9_putBytes_48 (fs1 := [.ref (a + 1), .int (sI (n2 + 1)), .int (sI e)]) rfl (fun M7 H locs hM7 hV => ?_)
          have hc8 : M7 a = some (sObj 7 [.ref (a + 1), .int (sI (n2 + 1)), .int (sI e)]) := (congrFun hM7 a).trans (va_up_self M4 a _)
          refine si_inc (lv' := [(2, .int (sI (k + (-8)))), (3, .int (sI (byt x k))), (0, .ref a), (1, .int (sI x))]) S dX9_putBytes_51 hl (k := 3) rfl (by decide) rfl (fun ls hl => ?_)
          refine lv_goto (tgt := 3) hx_ hb_ dX9_putBytes_54 (by decide) ?_
          have hc9 : M7 (a + 1) = some (sArr G 300 (iup t2 n2 (byt x k))) := ((congrFun hM7 (a + 1)).trans (va_up_ne M4 _ (by omega))).trans hc5
          exact ih3 (k + (-8)) (n2 + 1) (iup t2 n2 (byt x k)) M7 _ _ _ (by omega) (⟨j + 1, by omega, by omega, by rw [(tp_w (t := t) hz).1, hn2], by rw [(tp_w (n := n) (t := t) hz).2, hn2, ht2, ← hkj]⟩) hc8 hc9 (fun x q0 q1 => (((congrFun hM7 x).trans (va_up_ne M4 _ (by omega))).trans ((congrFun hM4 x).trans (va_up_ne Ml3 _ (by omega)))).trans (hfr3 x (by omega) (by omega))) hV (lv_sub hl [2, 3, 0] rfl)
  exact L3 _ 24 n t M _ _ _ (Nat.lt_succ_self _) (⟨0, by omega, by omega, rfl, rfl⟩) ht0 ht1 (fun x q0 q1 => rfl) hV (lv_sub hl [1, 2, 0] rfl)

abbrev rmX9_length : Room := { frames := 1, cells := 0, slots := 0, locals := 40 }
set_option maxHeartbeats 4000000 in
set_option maxRecDepth 100000 in
theorem kX9_length (l_ : Launch) (G : sG) (b_ : Nat) (M : sM) (N : Nat) (a : Nat) (n e : Int) (ht0 : M a = some (sObj 7 [.ref (a + 1), .int (sI n), .int (sI e)])) : cP l_ yX9_length wsX9_length rmX9_length G b_ M N [.ref a] n := by
  refine sE.ofI (cc := cX9_length) (nL := 1) (ret := (some .int)) (by decide) rfl (Nat.le_of_ble_eq_true rfl) ?_
  intro p_ e_ s_ m_ args_ below_ meth_ c_ ls Q hQ E hl
  have E : sE p_ l_ e_ rmX9_length s_ m_ args_ below_ meth_ c_ cX9_length 1 wsX9_length RX9 "length" (some .int) G b_ M N := E
  have S := E.1
  have hx_ := S.1
  have hb_ := S.2.1
  have hK := E.2.2.2.2.1
  have hV := E.2.2.2.2.2.2
  have hl : lv_has ls 1 [(0, .ref a)] := hl
  have inX9_ : ∀ w ∈ wsX90, w ∈ wsX9_length := fun _ h => List.mem_cons_of_mem _ (List.mem_append_right _ h)
  refine lv_aload_n hx_ hb_ dX9_length_0 rfl (lv_at hl 0 rfl) ?_
  refine sc_get (ci := 7) (C := RX9) (T := TX9) (n := 3) S hK hV inX9_ ht0 rfl 1 (by decide) (S.2.2.2.2 _ (List.mem_of_getElem? (i := 1) rfl)) rfl rfl dX9_length_1 ?_
  exact sr_i E hQ dX9_length_4 ⟨Nat.le_of_ble_eq_true rfl, Nat.le_of_ble_eq_true rfl⟩ hV (⟨rfl, rfl, rfl⟩)

abbrev rmX9_byteAt : Room := { frames := 1, cells := 0, slots := 0, locals := 40 }
set_option maxHeartbeats 4000000 in
set_option maxRecDepth 100000 in
theorem kX9_byteAt (l_ : Launch) (G : sG) (b_ : Nat) (M : sM) (N : Nat) (a : Nat) (n e : Int) (t : sF) (i : Int) (ht0 : M a = some (sObj 7 [.ref (a + 1), .int (sI n), .int (sI e)])) (ht1 : M (a + 1) = some (sArr G 300 t)) (ht : tpOk t n) (hr : sR i) : cP l_ yX9_byteAt wsX9_byteAt rmX9_byteAt G b_ M N [.ref a, .int (sI i)] (btI t n i) := by
  refine sE.ofI (cc := cX9_byteAt) (nL := 2) (ret := (some .int)) (by decide) rfl (Nat.le_of_ble_eq_true rfl) ?_
  intro p_ e_ s_ m_ args_ below_ meth_ c_ ls Q hQ E hl
  have E : sE p_ l_ e_ rmX9_byteAt s_ m_ args_ below_ meth_ c_ cX9_byteAt 2 wsX9_byteAt RX9 "byteAt" (some .int) G b_ M N := E
  have S := E.1
  have hx_ := S.1
  have hb_ := S.2.1
  have hK := E.2.2.2.2.1
  have hV := E.2.2.2.2.2.2
  have hl : lv_has ls 2 [(0, .ref a), (1, .int (sI i))] := hl
  have inX9_ : ∀ w ∈ wsX90, w ∈ wsX9_byteAt := fun _ h => List.mem_cons_of_mem _ (List.mem_append_right _ h)
  have hn1 := ht.1
  have hn2 := ht.2.1
  refine lv_iload_n hx_ hb_ dX9_byteAt_0 rfl (lv_at hl 1 rfl) ?_
  refine sz_lt (tgt := 21) S dX9_byteAt_1 (by decide) (by omega) (fun c1 => ?_) (fun c1 => ?_)
  · refine si_const S dX9_byteAt_21 ?_
    exact sr_i E hQ dX9_byteAt_22 ⟨Nat.le_of_ble_eq_true rfl, Nat.le_of_ble_eq_true rfl⟩ hV (⟨by unfold btI; rw [if_neg (by omega)], rfl, rfl⟩)
  · refine lv_iload_n hx_ hb_ dX9_byteAt_4 rfl (lv_at hl 1 rfl) ?_
    refine lv_aload_n hx_ hb_ dX9_byteAt_5 rfl (lv_at hl 0 rfl) ?_
    refine sc_get (ci := 7) (C := RX9) (T := TX9) (n := 3) S hK hV inX9_ ht0 rfl 1 (by decide) (S.2.2.2.2 _ (List.mem_of_getElem? (i := 1) rfl)) rfl rfl dX9_byteAt_6 ?_
    refine sb_ge (tgt := 21) S dX9_byteAt_9 (by decide) (by omega) (fun c2 => ?_) (fun c2 => ?_)
    · refine si_const S dX9_byteAt_21 ?_
      exact sr_i E hQ dX9_byteAt_22 ⟨Nat.le_of_ble_eq_true rfl, Nat.le_of_ble_eq_true rfl⟩ hV (⟨by unfold btI; rw [if_neg (by omega)], rfl, rfl⟩)
    · refine lv_aload_n hx_ hb_ dX9_byteAt_12 rfl (lv_at hl 0 rfl) ?_
      refine sc_get (ci := 7) (C := RX9) (T := TX9) (n := 3) S hK hV inX9_ ht0 rfl 0 (by decide) (S.2.2.2.2 _ (List.mem_of_getElem? (i := 2) rfl)) rfl rfl dX9_byteAt_13 ?_
      refine lv_iload_n hx_ hb_ dX9_byteAt_16 rfl (lv_at hl 1 rfl) ?_
      refine sc_iald S hK hV ht1 (by omega) dX9_byteAt_17 ?_
      refine lv_goto (tgt := 22) hx_ hb_ dX9_byteAt_18 (by decide) ?_
      exact sr_i E hQ dX9_byteAt_22 ⟨Nat.le_of_ble_eq_true rfl, Nat.le_of_ble_eq_true rfl⟩ hV (⟨by unfold btI; rw [if_pos (by omega)], rfl, rfl⟩)

abbrev rmX9_empty : Room := { frames := 1, cells := 0, slots := 0, locals := 40 }
set_option maxHeartbeats 4000000 in
set_option maxRecDepth 100000 in
theorem kX9_empty (l_ : Launch) (G : sG) (b_ : Nat) (M : sM) (N : Nat) (a : Nat) (n e : Int) (ht0 : M a = some (sObj 7 [.ref (a + 1), .int (sI n), .int (sI e)])) : cV l_ yX9_empty wsX9_empty rmX9_empty G b_ M N [.ref a] (fun M1 N1 => N1 = N ∧ M1 a = some (sObj 7 [.ref (a + 1), .int (sI 0), .int (sI e)]) ∧ (∀ x : Nat, ¬ (x = a) → M1 x = M x)) := by
  refine sE.ofV (cc := cX9_empty) (nL := 1) (ret := none) (by decide) rfl (Nat.le_of_ble_eq_true rfl) ?_
  intro p_ e_ s_ m_ args_ below_ meth_ c_ ls Q hQ E hl
  have E : sE p_ l_ e_ rmX9_empty s_ m_ args_ below_ meth_ c_ cX9_empty 1 wsX9_empty RX9 "empty" none G b_ M N := E
  have S := E.1
  have hx_ := S.1
  have hb_ := S.2.1
  have hK := E.2.2.2.2.1
  have hV := E.2.2.2.2.2.2
  have hl : lv_has ls 1 [(0, .ref a)] := hl
  have inX9_ : ∀ w ∈ wsX90, w ∈ wsX9_empty := fun _ h => List.mem_cons_of_mem _ (List.mem_append_right _ h)
  refine lv_aload_n hx_ hb_ dX9_empty_0 rfl (lv_at hl 0 rfl) ?_
  refine si_const S dX9_empty_1 ?_
  refine sc_put (ci := 7) (C := RX9) (T := TX9) (n := 3) S hK hV inX9_ tyX9_ok nmX9 ht0 rfl 1 (by decide) (S.2.2.2.2 _ (List.mem_of_getElem? (i := 1) rfl)) rfl rfl rfl rfl (Nat.le_of_ble_eq_true rfl) dX9_empty_2 (fs1 := [.ref (a + 1), .int (sI 0), .int (sI e)]) rfl (fun M1 H locs hM1 hV => ?_)
  have hc2 : M1 a = some (sObj 7 [.ref (a + 1), .int (sI 0), .int (sI e)]) := (congrFun hM1 a).trans (va_up_self M a _)
  exact sr_v E hQ dX9_empty_5 ⟨Nat.le_of_ble_eq_true rfl, Nat.le_of_ble_eq_true rfl⟩ hV (⟨rfl, hc2, fun x q0 => (congrFun hM1 x).trans (va_up_ne M _ (by omega))⟩)

abbrev rmX9_error : Room := { frames := 1, cells := 0, slots := 0, locals := 40 }
set_option maxHeartbeats 4000000 in
set_option maxRecDepth 100000 in
theorem kX9_error (l_ : Launch) (G : sG) (b_ : Nat) (M : sM) (N : Nat) (a : Nat) (n e : Int) (ht0 : M a = some (sObj 7 [.ref (a + 1), .int (sI n), .int (sI e)])) : cP l_ yX9_error wsX9_error rmX9_error G b_ M N [.ref a] e := by
  refine sE.ofI (cc := cX9_error) (nL := 1) (ret := (some .int)) (by decide) rfl (Nat.le_of_ble_eq_true rfl) ?_
  intro p_ e_ s_ m_ args_ below_ meth_ c_ ls Q hQ E hl
  have E : sE p_ l_ e_ rmX9_error s_ m_ args_ below_ meth_ c_ cX9_error 1 wsX9_error RX9 "error" (some .int) G b_ M N := E
  have S := E.1
  have hx_ := S.1
  have hb_ := S.2.1
  have hK := E.2.2.2.2.1
  have hV := E.2.2.2.2.2.2
  have hl : lv_has ls 1 [(0, .ref a)] := hl
  have inX9_ : ∀ w ∈ wsX90, w ∈ wsX9_error := fun _ h => List.mem_cons_of_mem _ (List.mem_append_right _ h)
  refine lv_aload_n hx_ hb_ dX9_error_0 rfl (lv_at hl 0 rfl) ?_
  refine sc_get (ci := 7) (C := RX9) (T := TX9) (n := 3) S hK hV inX9_ ht0 rfl 2 (by decide) (S.2.2.2.2 _ (List.mem_of_getElem? (i := 1) rfl)) rfl rfl dX9_error_1 ?_
  exact sr_i E hQ dX9_error_4 ⟨Nat.le_of_ble_eq_true rfl, Nat.le_of_ble_eq_true rfl⟩ hV (⟨rfl, rfl, rfl⟩)

abbrev rmX9_wasRead : Room := { frames := 1, cells := 0, slots := 0, locals := 40 }
set_option maxHeartbeats 4000000 in
set_option maxRecDepth 100000 in
theorem kX9_wasRead (l_ : Launch) (G : sG) (b_ : Nat) (M : sM) (N : Nat) (a : Nat) (n e : Int) (k : Int) (ht0 : M a = some (sObj 7 [.ref (a + 1), .int (sI n), .int (sI e)])) : cV l_ yX9_wasRead wsX9_wasRead rmX9_wasRead G b_ M N [.ref a, .int (sI k)] (fun M1 N1 => N1 = N ∧ M1 a = some (sObj 7 [.ref (a + 1), .int (sI 0), .int (sI k)]) ∧ (∀ x : Nat, ¬ (x = a) → M1 x = M x)) := by
  refine sE.ofV (cc := cX9_wasRead) (nL := 2) (ret := none) (by decide) rfl (Nat.le_of_ble_eq_true rfl) ?_
  intro p_ e_ s_ m_ args_ below_ meth_ c_ ls Q hQ E hl
  have E : sE p_ l_ e_ rmX9_wasRead s_ m_ args_ below_ meth_ c_ cX9_wasRead 2 wsX9_wasRead RX9 "wasRead" none G b_ M N := E
  have S := E.1
  have hx_ := S.1
  have hb_ := S.2.1
  have hK := E.2.2.2.2.1
  have hV := E.2.2.2.2.2.2
  have hl : lv_has ls 2 [(0, .ref a), (1, .int (sI k))] := hl
  have inX9_ : ∀ w ∈ wsX90, w ∈ wsX9_wasRead := fun _ h => List.mem_cons_of_mem _ (List.mem_append_right _ h)
  refine lv_aload_n hx_ hb_ dX9_wasRead_0 rfl (lv_at hl 0 rfl) ?_
  refine si_const S dX9_wasRead_1 ?_
  refine sc_put (ci := 7) (C := RX9) (T := TX9) (n := 3) S hK hV inX9_ tyX9_ok nmX9 ht0 rfl 1 (by decide) (S.2.2.2.2 _ (List.mem_of_getElem? (i := 1) rfl)) rfl rfl rfl rfl (Nat.le_of_ble_eq_true rfl) dX9_wasRead_2 (fs1 := [.ref (a + 1), .int (sI 0), .int (sI e)]) rfl (fun M1 H locs hM1 hV => ?_)
  have hc2 : M1 a = some (sObj 7 [.ref (a + 1), .int (sI 0), .int (sI e)]) := (congrFun hM1 a).trans (va_up_self M a _)
  refine lv_aload_n hx_ hb_ dX9_wasRead_5 rfl (lv_at hl 0 rfl) ?_
  refine lv_iload_n hx_ hb_ dX9_wasRead_6 rfl (lv_at hl 1 rfl) ?_
  refine sc_put (ci := 7) (C := RX9) (T := TX9) (n := 3) S hK hV inX9_ tyX9_ok nmX9 hc2 rfl 2 (by decide) (S.2.2.2.2 _ (List.mem_of_getElem? (i := 2) rfl)) rfl rfl rfl rfl (Nat.le_of_ble_eq_true rfl) dX9_wasRead_7 (fs1 := [.ref (a + 1), .int (sI 0), .int (sI k)]) rfl (fun M3 H locs hM3 hV => ?_)
  have hc4 : M3 a = some (sObj 7 [.ref (a + 1), .int (sI 0), .int (sI k)]) := (congrFun hM3 a).trans (va_up_self M1 a _)
  exact sr_v E hQ dX9_wasRead_10 ⟨Nat.le_of_ble_eq_true rfl, Nat.le_of_ble_eq_true rfl⟩ hV (⟨rfl, hc4, fun x q0 => ((congrFun hM3 x).trans (va_up_ne M1 _ (by omega))).trans ((congrFun hM1 x).trans (va_up_ne M _ (by omega)))⟩)

abbrev rmX9_isLetter : Room := { frames := 1, cells := 0, slots := 0, locals := 40 }
set_option maxHeartbeats 4000000 in
set_option maxRecDepth 100000 in
theorem kX9_isLetter (l_ : Launch) (G : sG) (b_ : Nat) (M : sM) (N : Nat) (b : Int) (hb : sR b) : cP l_ yX9_isLetter wsX9_isLetter rmX9_isLetter G b_ M N [.int (sI b)] (bI (97 ≤ b ∧ b ≤ 122)) := by
  refine sE.ofI (cc := cX9_isLetter) (nL := 1) (ret := (some .boolean)) (by decide) rfl (Nat.le_of_ble_eq_true rfl) ?_
  intro p_ e_ s_ m_ args_ below_ meth_ c_ ls Q hQ E hl
  have E : sE p_ l_ e_ rmX9_isLetter s_ m_ args_ below_ meth_ c_ cX9_isLetter 1 wsX9_isLetter RX9 "isLetter" (some .boolean) G b_ M N := E
  have S := E.1
  have hx_ := S.1
  have hb_ := S.2.1
  have hK := E.2.2.2.2.1
  have hV := E.2.2.2.2.2.2
  have hl : lv_has ls 1 [(0, .int (sI b))] := hl
  refine lv_iload_n hx_ hb_ dX9_isLetter_0 rfl (lv_at hl 0 rfl) ?_
  refine si_bipush S dX9_isLetter_1 (by decide) ?_
  refine sb_lt (tgt := 16) S dX9_isLetter_3 (by decide) (by omega) (fun c1 => ?_) (fun c1 => ?_)
  · refine si_const S dX9_isLetter_16 ?_
    exact sr_z E hQ (Or.inl rfl) dX9_isLetter_17 ⟨Nat.le_of_ble_eq_true rfl, Nat.le_of_ble_eq_true rfl⟩ hV (⟨(bI_f (by omega)).symm, rfl, rfl⟩)
  · refine lv_iload_n hx_ hb_ dX9_isLetter_6 rfl (lv_at hl 0 rfl) ?_
    refine si_bipush S dX9_isLetter_7 (by decide) ?_
    refine sb_gt (tgt := 16) S dX9_isLetter_9 (by decide) (by omega) (fun c2 => ?_) (fun c2 => ?_)
    · refine si_const S dX9_isLetter_16 ?_
      exact sr_z E hQ (Or.inl rfl) dX9_isLetter_17 ⟨Nat.le_of_ble_eq_true rfl, Nat.le_of_ble_eq_true rfl⟩ hV (⟨(bI_f (by omega)).symm, rfl, rfl⟩)
    · refine si_const S dX9_isLetter_12 ?_
      refine lv_goto (tgt := 17) hx_ hb_ dX9_isLetter_13 (by decide) ?_
      exact sr_z E hQ (Or.inr rfl) dX9_isLetter_17 ⟨Nat.le_of_ble_eq_true rfl, Nat.le_of_ble_eq_true rfl⟩ hV (⟨(bI_t (by omega)).symm, rfl, rfl⟩)

abbrev rmX9_isDigit : Room := { frames := 1, cells := 0, slots := 0, locals := 40 }
set_option maxHeartbeats 4000000 in
set_option maxRecDepth 100000 in
theorem kX9_isDigit (l_ : Launch) (G : sG) (b_ : Nat) (M : sM) (N : Nat) (b : Int) (hb : sR b) : cP l_ yX9_isDigit wsX9_isDigit rmX9_isDigit G b_ M N [.int (sI b)] (bI (48 ≤ b ∧ b ≤ 57)) := by
  refine sE.ofI (cc := cX9_isDigit) (nL := 1) (ret := (some .boolean)) (by decide) rfl (Nat.le_of_ble_eq_true rfl) ?_
  intro p_ e_ s_ m_ args_ below_ meth_ c_ ls Q hQ E hl
  have E : sE p_ l_ e_ rmX9_isDigit s_ m_ args_ below_ meth_ c_ cX9_isDigit 1 wsX9_isDigit RX9 "isDigit" (some .boolean) G b_ M N := E
  have S := E.1
  have hx_ := S.1
  have hb_ := S.2.1
  have hK := E.2.2.2.2.1
  have hV := E.2.2.2.2.2.2
  have hl : lv_has ls 1 [(0, .int (sI b))] := hl
  refine lv_iload_n hx_ hb_ dX9_isDigit_0 rfl (lv_at hl 0 rfl) ?_
  refine si_bipush S dX9_isDigit_1 (by decide) ?_
  refine sb_lt (tgt := 16) S dX9_isDigit_3 (by decide) (by omega) (fun c1 => ?_) (fun c1 => ?_)
  · refine si_const S dX9_isDigit_16 ?_
    exact sr_z E hQ (Or.inl rfl) dX9_isDigit_17 ⟨Nat.le_of_ble_eq_true rfl, Nat.le_of_ble_eq_true rfl⟩ hV (⟨(bI_f (by omega)).symm, rfl, rfl⟩)
  · refine lv_iload_n hx_ hb_ dX9_isDigit_6 rfl (lv_at hl 0 rfl) ?_
    refine si_bipush S dX9_isDigit_7 (by decide) ?_
    refine sb_gt (tgt := 16) S dX9_isDigit_9 (by decide) (by omega) (fun c2 => ?_) (fun c2 => ?_)
    · refine si_const S dX9_isDigit_16 ?_
      exact sr_z E hQ (Or.inl rfl) dX9_isDigit_17 ⟨Nat.le_of_ble_eq_true rfl, Nat.le_of_ble_eq_true rfl⟩ hV (⟨(bI_f (by omega)).symm, rfl, rfl⟩)
    · refine si_const S dX9_isDigit_12 ?_
      refine lv_goto (tgt := 17) hx_ hb_ dX9_isDigit_13 (by decide) ?_
      exact sr_z E hQ (Or.inr rfl) dX9_isDigit_17 ⟨Nat.le_of_ble_eq_true rfl, Nat.le_of_ble_eq_true rfl⟩ hV (⟨(bI_t (by omega)).symm, rfl, rfl⟩)

abbrev rmX9_codeFrom : Room := { frames := 2, cells := 0, slots := 0, locals := 61 }
set_option maxHeartbeats 4000000 in
set_option maxRecDepth 100000 in
theorem kX9_codeFrom (l_ : Launch) (G : sG) (b_ : Nat) (M : sM) (N : Nat) (a : Nat) (n e : Int) (t : sF) (p L : Int) (ht0 : M a = some (sObj 7 [.ref (a + 1), .int (sI n), .int (sI e)])) (ht1 : M (a + 1) = some (sArr G 300 t)) (ht : tpOk t n) (hr : 0 ≤ p ∧ p ≤ 300 ∧ sR L) : cP l_ yX9_codeFrom wsX9_codeFrom rmX9_codeFrom G b_ M N [.ref a, .int (sI p), .int (sI L)] (cfI t n p L) := by
  refine sE.ofI (cc := cX9_codeFrom) (nL := 5) (ret := (some .int)) (by decide) rfl (Nat.le_of_ble_eq_true rfl) ?_
  intro p_ e_ s_ m_ args_ below_ meth_ c_ ls Q hQ E hl
  have E : sE p_ l_ e_ rmX9_codeFrom s_ m_ args_ below_ meth_ c_ cX9_codeFrom 5 wsX9_codeFrom RX9 "codeFrom" (some .int) G b_ M N := E
  have S := E.1
  have hx_ := S.1
  have hb_ := S.2.1
  have hK := E.2.2.2.2.1
  have hV := E.2.2.2.2.2.2
  have hl : lv_has ls 5 [(0, .ref a), (1, .int (sI p)), (2, .int (sI L))] := hl
  have inX9_ : ∀ w ∈ wsX90, w ∈ wsX9_codeFrom := fun _ h => List.mem_cons_of_mem _ (List.mem_append_right _ h)
  refine si_const S dX9_codeFrom_0 ?_
  refine lv_istore_n (lv' := [(3, .int (sI 0)), (0, .ref a), (1, .int (sI p)), (2, .int (sI L))]) hx_ hb_ dX9_codeFrom_1 rfl hl (by decide) rfl (fun ls hl => ?_)
  refine si_const S dX9_codeFrom_2 ?_
  refine lv_istore (lv' := [(4, .int (sI 0)), (3, .int (sI 0)), (0, .ref a), (1, .int (sI p)), (2, .int (sI L))]) hx_ hb_ dX9_codeFrom_3 hl (by decide) rfl (fun ls hl => ?_)
  have L5 : ∀ (fuel : Nat) (v : Int) (k : Int)  (H : Heap) (locs : List Loc) (ls : Array Slot), ((4 - k).toNat) < fuel → (0 ≤ k ∧ k ≤ 4) → (v = cfN t n p L k.toNat) → sV G b_ M N s_ H locs → lv_has ls 5 [(0, .ref a), (1, .int (sI p)), (2, .int (sI L)), (3, .int (sI v)), (4, .int (sI k))] → W p_ l_ e_ rmX9_codeFrom s_ m_ args_ below_ meth_ c_ H locs 0 0 Q (F0 m_ 5 ls []) := by
    intro fuel
    induction fuel with
    | zero => intro v k H locs ls hmu; exact absurd hmu (Nat.not_lt_zero _)
    | succ fuel ih5 =>
      intro v k H locs ls hmu5 hv5_0 hv  hV hl
      refine lv_iload hx_ hb_ dX9_codeFrom_5 (lv_at hl 4 rfl) ?_
      refine si_const S dX9_codeFrom_7 ?_
      refine sb_ge (tgt := 41) S dX9_codeFrom_8 (by decide) (by omega) (fun c1 => ?_) (fun c1 => ?_)
      · refine lv_iload_n hx_ hb_ dX9_codeFrom_41 rfl (lv_at hl 3 rfl) ?_
        exact sr_i E hQ dX9_codeFrom_42 ⟨Nat.le_of_ble_eq_true rfl, Nat.le_of_ble_eq_true rfl⟩ hV (⟨by unfold cfI; rw [hv, show k = 4 by omega]; rfl, rfl, rfl⟩)
      · refine lv_iload_n hx_ hb_ dX9_codeFrom_11 rfl (lv_at hl 3 rfl) ?_
        refine si_bipush S dX9_codeFrom_12 (by decide) ?_
        refine si_shl S dX9_codeFrom_14 ?_
        refine lv_iload hx_ hb_ dX9_codeFrom_15 (lv_at hl 4 rfl) ?_
        refine lv_iload_n hx_ hb_ dX9_codeFrom_17 rfl (lv_at hl 2 rfl) ?_
        refine sb_ge (tgt := 32) S dX9_codeFrom_18 (by decide) (by omega) (fun c2 => ?_) (fun c2 => ?_)
        · refine si_const S dX9_codeFrom_32 ?_
          refine si_or S dX9_codeFrom_33 ?_
          refine lv_istore_n (lv' := [(3, .int (sI (ior (ishl v 8) 0))), (0, .ref a), (1, .int (sI p)), (2, .int (sI L)), (4, .int (sI k))]) hx_ hb_ dX9_codeFrom_34 rfl hl (by decide) rfl (fun ls hl => ?_)
          refine si_inc (lv' := [(4, .int (sI (k + 1))), (3, .int (sI (ior (ishl v 8) 0))), (0, .ref a), (1, .int (sI p)), (2, .int (sI L))]) S dX9_codeFrom_35 hl (k := 4) rfl (by decide) rfl (fun ls hl => ?_)
          refine lv_goto (tgt := 5) hx_ hb_ dX9_codeFrom_38 (by decide) ?_
          exact ih5 (ior (ishl v 8) 0) (k + 1) _ _ _ (by omega) (by omega) (by rw [cfN_s _ _ _ _ _ (by omega), ← hv, if_neg (by omega)]) hV (lv_sub hl [2, 3, 4, 1, 0] rfl)
        · refine lv_aload_n hx_ hb_ dX9_codeFrom_21 rfl (lv_at hl 0 rfl) ?_
          refine lv_iload_n hx_ hb_ dX9_codeFrom_22 rfl (lv_at hl 1 rfl) ?_
          refine lv_iload hx_ hb_ dX9_codeFrom_23 (lv_at hl 4 rfl) ?_
          refine si_add S dX9_codeFrom_25 ?_
          refine sk_VP E hV (As := [.int (sI (p + k))]) (rest := [.int (sI (ishl v 8))]) (kX9_byteAt l_ G b_ M N a n e t (p + k) ht0 ht1 (ht) (by omega)) (cwV 1 S.2.2.2.2 gX9_codeFrom_X9_byteAt rfl rfl rfl (by decide +kernel) ⟨Nat.le_of_ble_eq_true rfl, Nat.le_of_ble_eq_true rfl⟩) (ci := 7) ht0 rfl rfl rfl hl.1 (Nat.le_of_ble_eq_true rfl) dX9_codeFrom_26 (c1 := 0) (s1 := 0) ⟨⟨rfl, rfl⟩, by decide, by decide⟩ (fun H locs hV => ?_)
          refine lv_goto (tgt := 33) hx_ hb_ dX9_codeFrom_29 (by decide) ?_
          refine si_or S dX9_codeFrom_33 ?_
          refine lv_istore_n (lv' := [(3, .int (sI (ior (ishl v 8) (btI t n (p + k))))), (0, .ref a), (1, .int (sI p)), (2, .int (sI L)), (4, .int (sI k))]) hx_ hb_ dX9_codeFrom_34 rfl hl (by decide) rfl (fun ls hl => ?_)
          refine si_inc (lv' := [(4, .int (sI (k + 1))), (3, .int (sI (ior (ishl v 8) (btI t n (p + k))))), (0, .ref a), (1, .int (sI p)), (2, .int (sI L))]) S dX9_codeFrom_35 hl (k := 4) rfl (by decide) rfl (fun ls hl => ?_)
          refine lv_goto (tgt := 5) hx_ hb_ dX9_codeFrom_38 (by decide) ?_
          exact ih5 (ior (ishl v 8) (btI t n (p + k))) (k + 1) _ _ _ (by omega) (by omega) (by rw [cfN_s _ _ _ _ _ (by omega), ← hv, if_pos (by omega)]) hV (lv_sub hl [2, 3, 4, 1, 0] rfl)
  exact L5 _ 0 0 _ _ _ (Nat.lt_succ_self _) (by omega) (rfl) hV (lv_sub hl [2, 3, 4, 1, 0] rfl)

abbrev rmX9_codeOnIt : Room := { frames := 3, cells := 0, slots := 0, locals := 85 }
set_option maxHeartbeats 4000000 in
set_option maxRecDepth 100000 in
theorem kX9_codeOnIt (l_ : Launch) (G : sG) (b_ : Nat) (M : sM) (N : Nat) (a : Nat) (n e : Int) (t : sF) (ht0 : M a = some (sObj 7 [.ref (a + 1), .int (sI n), .int (sI e)])) (ht1 : M (a + 1) = some (sArr G 300 t)) (ht : tpOk t n) : cP l_ yX9_codeOnIt wsX9_codeOnIt rmX9_codeOnIt G b_ M N [.ref a] (cfI t n 0 (min 4 n)) := by
  refine sE.ofI (cc := cX9_codeOnIt) (nL := 1) (ret := (some .int)) (by decide) rfl (Nat.le_of_ble_eq_true rfl) ?_
  intro p_ e_ s_ m_ args_ below_ meth_ c_ ls Q hQ E hl
  have E : sE p_ l_ e_ rmX9_codeOnIt s_ m_ args_ below_ meth_ c_ cX9_codeOnIt 1 wsX9_codeOnIt RX9 "codeOnIt" (some .int) G b_ M N := E
  have S := E.1
  have hx_ := S.1
  have hb_ := S.2.1
  have hK := E.2.2.2.2.1
  have hV := E.2.2.2.2.2.2
  have hl : lv_has ls 1 [(0, .ref a)] := hl
  have inX9_ : ∀ w ∈ wsX90, w ∈ wsX9_codeOnIt := fun _ h => List.mem_cons_of_mem _ (List.mem_append_right _ h)
  have hn1 := ht.1
  have hn2 := ht.2.1
  refine lv_aload_n hx_ hb_ dX9_codeOnIt_0 rfl (lv_at hl 0 rfl) ?_
  refine si_const S dX9_codeOnIt_1 ?_
  refine si_const S dX9_codeOnIt_2 ?_
  refine lv_aload_n hx_ hb_ dX9_codeOnIt_3 rfl (lv_at hl 0 rfl) ?_
  refine sc_get (ci := 7) (C := RX9) (T := TX9) (n := 3) S hK hV inX9_ ht0 rfl 1 (by decide) (S.2.2.2.2 _ (List.mem_of_getElem? (i := 1) rfl)) rfl rfl dX9_codeOnIt_4 ?_
  refine si_min S hl.1 (S.2.2.2.2 _ (List.mem_of_getElem? (i := 2) rfl)) (S.2.2.2.2 _ (List.mem_of_getElem? (i := 3) rfl)) (S.2.2.2.2 _ (List.mem_of_getElem? (i := 4) rfl)) (S.2.2.2.2 _ (List.mem_of_getElem? (i := 5) rfl)) ⟨by decide, Nat.le_of_ble_eq_true rfl, by decide, by decide⟩ (by omega) dX9_codeOnIt_7 ?_
  refine sk_VP E hV (As := [.int (sI 0), .int (sI (min 4 n))]) (rest := []) (kX9_codeFrom l_ G b_ M N a n e t 0 (min 4 n) ht0 ht1 (ht) (by omega)) (cwV 2 S.2.2.2.2 gX9_codeOnIt_X9_codeFrom rfl rfl rfl (by decide +kernel) ⟨Nat.le_of_ble_eq_true rfl, Nat.le_of_ble_eq_true rfl⟩) (ci := 7) ht0 rfl rfl rfl hl.1 (Nat.le_of_ble_eq_true rfl) dX9_codeOnIt_10 (c1 := 0) (s1 := 0) ⟨⟨rfl, rfl⟩, by decide, by decide⟩ (fun H locs hV => ?_)
  exact sr_i E hQ dX9_codeOnIt_13 ⟨Nat.le_of_ble_eq_true rfl, Nat.le_of_ble_eq_true rfl⟩ hV (⟨rfl, rfl, rfl⟩)

abbrev rmX9_codeError : Room := { frames := 2, cells := 0, slots := 0, locals := 61 }
set_option maxHeartbeats 4000000 in
set_option maxRecDepth 100000 in
theorem kX9_codeError (l_ : Launch) (G : sG) (b_ : Nat) (M : sM) (N : Nat) (a : Nat) (n e : Int) (t : sF) (ht0 : M a = some (sObj 7 [.ref (a + 1), .int (sI n), .int (sI e)])) (ht1 : M (a + 1) = some (sArr G 300 t)) (ht : tpOk t n) : cP l_ yX9_codeError wsX9_codeError rmX9_codeError G b_ M N [.ref a] (ceI t n) := by
  refine sE.ofI (cc := cX9_codeError) (nL := 2) (ret := (some .int)) (by decide) rfl (Nat.le_of_ble_eq_true rfl) ?_
  intro p_ e_ s_ m_ args_ below_ meth_ c_ ls Q hQ E hl
  have E : sE p_ l_ e_ rmX9_codeError s_ m_ args_ below_ meth_ c_ cX9_codeError 2 wsX9_codeError RX9 "codeError" (some .int) G b_ M N := E
  have S := E.1
  have hx_ := S.1
  have hb_ := S.2.1
  have hK := E.2.2.2.2.1
  have hV := E.2.2.2.2.2.2
  have hl : lv_has ls 2 [(0, .ref a)] := hl
  have inX9_ : ∀ w ∈ wsX90, w ∈ wsX9_codeError := fun _ h => List.mem_cons_of_mem _ (List.mem_append_right _ h)
  have hn1 := ht.1
  have hn2 := ht.2.1
  refine si_const S dX9_codeError_0 ?_
  refine lv_istore_n (lv' := [(1, .int (sI 0)), (0, .ref a)]) hx_ hb_ dX9_codeError_1 rfl hl (by decide) rfl (fun ls hl => ?_)
  have L2 : ∀ (fuel : Nat) (i : Int)  (H : Heap) (locs : List Loc) (ls : Array Slot), ((n - i).toNat) < fuel → (0 ≤ i ∧ i ≤ n ∧ i ≤ 4) → (∀ k, 0 ≤ k → k < i → ltP t n k) → sV G b_ M N s_ H locs → lv_has ls 2 [(0, .ref a), (1, .int (sI i))] → W p_ l_ e_ rmX9_codeError s_ m_ args_ below_ meth_ c_ H locs 0 0 Q (F0 m_ 2 ls []) := by
    intro fuel
    induction fuel with
    | zero => intro i H locs ls hmu; exact absurd hmu (Nat.not_lt_zero _)
    | succ fuel ih2 =>
      intro i H locs ls hmu2 hv2_0 hlt  hV hl
      refine lv_iload_n hx_ hb_ dX9_codeError_2 rfl (lv_at hl 1 rfl) ?_
      refine lv_aload_n hx_ hb_ dX9_codeError_3 rfl (lv_at hl 0 rfl) ?_
      refine sc_get (ci := 7) (C := RX9) (T := TX9) (n := 3) S hK hV inX9_ ht0 rfl 1 (by decide) (S.2.2.2.2 _ (List.mem_of_getElem? (i := 1) rfl)) rfl rfl dX9_codeError_4 ?_
      refine sb_ge (tgt := 34) S dX9_codeError_7 (by decide) (by omega) (fun c1 => ?_) (fun c1 => ?_)
      · refine lv_aload_n hx_ hb_ dX9_codeError_34 rfl (lv_at hl 0 rfl) ?_
        refine sc_get (ci := 7) (C := RX9) (T := TX9) (n := 3) S hK hV inX9_ ht0 rfl 1 (by decide) (S.2.2.2.2 _ (List.mem_of_getElem? (i := 1) rfl)) rfl rfl dX9_codeError_35 ?_
        refine sz_ne (tgt := 45) S dX9_codeError_38 (by decide) (by omega) (fun c2 => ?_) (fun c2 => ?_)
        · have hln : ltc t n = i := by by_cases q : i = 4; exact (by rw [q]; exact ltc_4 (fun k a b => hlt k a (by omega))); exact ltc_e (by omega) (fun k a b => hlt k a b) (fun q => by have := q.1; omega)
          refine si_const S dX9_codeError_45 ?_
          exact sr_i E hQ dX9_codeError_46 ⟨Nat.le_of_ble_eq_true rfl, Nat.le_of_ble_eq_true rfl⟩ hV (⟨by unfold ceI; rw [hln, if_pos (by omega)], rfl, rfl⟩)
        · have hl0 : ltc t n = 0 := ltc_e (by omega) (fun k a b => by omega) (fun q => by have := q.1; omega)
          refine si_const S dX9_codeError_41 ?_
          refine lv_goto (tgt := 46) hx_ hb_ dX9_codeError_42 (by decide) ?_
          exact sr_i E hQ dX9_codeError_46 ⟨Nat.le_of_ble_eq_true rfl, Nat.le_of_ble_eq_true rfl⟩ hV (⟨by unfold ceI; rw [hl0, if_neg (by omega)], rfl, rfl⟩)
      · refine lv_iload_n hx_ hb_ dX9_codeError_10 rfl (lv_at hl 1 rfl) ?_
        refine si_const S dX9_codeError_11 ?_
        refine sb_eq (tgt := 26) S dX9_codeError_12 (by decide) (by omega) (fun c3 => ?_) (fun c3 => ?_)
        · refine lv_iload_n hx_ hb_ dX9_codeError_26 rfl (lv_at hl 1 rfl) ?_
          exact sr_i E hQ dX9_codeError_27 ⟨Nat.le_of_ble_eq_true rfl, Nat.le_of_ble_eq_true rfl⟩ hV (⟨by unfold ceI; rw [ltc_4 (fun k a b => hlt k a (by omega)), if_neg (by omega)]; omega, rfl, rfl⟩)
        · refine lv_aload_n hx_ hb_ dX9_codeError_15 rfl (lv_at hl 0 rfl) ?_
          refine lv_iload_n hx_ hb_ dX9_codeError_16 rfl (lv_at hl 1 rfl) ?_
          refine sk_VP E hV (As := [.int (sI i)]) (rest := []) (kX9_byteAt l_ G b_ M N a n e t i ht0 ht1 (ht) (by omega)) (cwV 1 S.2.2.2.2 gX9_codeError_X9_byteAt rfl rfl rfl (by decide +kernel) ⟨Nat.le_of_ble_eq_true rfl, Nat.le_of_ble_eq_true rfl⟩) (ci := 7) ht0 rfl rfl rfl hl.1 (Nat.le_of_ble_eq_true rfl) dX9_codeError_17 (c1 := 0) (s1 := 0) ⟨⟨rfl, rfl⟩, by decide, by decide⟩ (fun H locs hV => ?_)
          have hbi : btI t n i = t i := if_pos (by omega)
          have hbr := bt_r ht i
          refine sk_SP E hV (As := [.int (sI (btI t n i))]) (rest := []) (kX9_isLetter l_ G b_ M N (btI t n i) (by omega)) (va_cwS 1 S.2.2.2.2 gX9_codeError_X9_isLetter rfl rfl rfl (by decide +kernel) ⟨Nat.le_of_ble_eq_true rfl, Nat.le_of_ble_eq_true rfl⟩) rfl rfl hl.1 (Nat.le_of_ble_eq_true rfl) dX9_codeError_20 (c1 := 0) (s1 := 0) ⟨⟨rfl, rfl⟩, by decide, by decide⟩ (fun H locs hV => ?_)
          refine sq_ne (tgt := 28) S dX9_codeError_23 (by decide) (fun h23 => ?_) (fun h23 => ?_)
          · have hlq : ltP t n i := ⟨by omega, by rw [← hbi]; exact h23⟩
            refine si_inc (lv' := [(1, .int (sI (i + 1))), (0, .ref a)]) S dX9_codeError_28 hl (k := 1) rfl (by decide) rfl (fun ls hl => ?_)
            refine lv_goto (tgt := 2) hx_ hb_ dX9_codeError_31 (by decide) ?_
            exact ih2 (i + 1) _ _ _ (by omega) (by omega) (fun k a b => by by_cases e : k = i; exact (by rw [e]; exact hlq); exact hlt k a (by omega)) hV (lv_sub hl [1, 0] rfl)
          · have hlq : ¬ ltP t n i := fun q => h23 (by rw [hbi]; exact q.2)
            refine lv_iload_n hx_ hb_ dX9_codeError_26 rfl (lv_at hl 1 rfl) ?_
            exact sr_i E hQ dX9_codeError_27 ⟨Nat.le_of_ble_eq_true rfl, Nat.le_of_ble_eq_true rfl⟩ hV (⟨by unfold ceI; rw [ltc_e (by omega) hlt hlq, if_neg (by omega)], rfl, rfl⟩)
  exact L2 _ 0 _ _ _ (Nat.lt_succ_self _) (by omega) (fun k a b => by omega) hV (lv_sub hl [1, 0] rfl)
