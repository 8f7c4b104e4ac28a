abbrev mO (m : Nat) (th ch tn ea sn nm wn : Int) : va_E := sObj 9 [.int (sI th), .ref (m + 1), .ref (m + 2), .int (sI ch), .ref (m + 3), .int (sI tn), .int (sI ea), .ref (m + 4), .ref (m + 5), .ref (m + 6), .ref (m + 7), .ref (m + 8), .ref (m + 9), .int (sI sn), .ref (m + 10), .ref (m + 11), .ref (m + 12), .ref (m + 13), .int (sI nm), .ref (m + 14), .ref (m + 15), .int (sI wn)]
/-! The tape, as both write it. -/
def byt (four sh : Int) : Int := iand (ishr four sh) 255
def nzb (four j : Int) : Int := if byt four j = 0 then 0 else 1
def bn (four : Int) : Int := nzb four 0 + nzb four 8 + nzb four 16 + nzb four 24
theorem nzb_r (four j : Int) : 0 ≤ nzb four j ∧ nzb four j ≤ 1 := by unfold nzb; split <;> omega
theorem nzb_0 {four j : Int} (h : byt four j = 0) : nzb four j = 0 := if_pos h
theorem nzb_1 {four j : Int} (h : byt four j ≠ 0) : nzb four j = 1 := if_neg h
theorem bn_r (four : Int) : 0 ≤ bn four ∧ bn four ≤ 4 := by
  have h1 := nzb_r four 0
  have h2 := nzb_r four 8
  have h3 := nzb_r four 16
  have h4 := nzb_r four 24
  unfold bn
  omega
theorem byt_r (four sh : Int) : 0 ≤ byt four sh ∧ byt four sh ≤ 255 := by
  have h1 : byt four sh = ((((sI (ishr four sh)).toBitVec.toNat % 2 ^ 8 : Nat)) : Int) := by
    unfold byt iand
    rw [show sI 255 = (255 : Int32) from by decide, pk_and _ 8 (by decide)]
    have : (sI (ishr four sh)).toBitVec.toNat % 2 ^ 8 < 2 ^ 8 := Nat.mod_lt _ (by omega)
    exact nI_toInt (by omega)
  have : (sI (ishr four sh)).toBitVec.toNat % 2 ^ 8 < 2 ^ 8 := Nat.mod_lt _ (by omega)
  omega
/-- how many bytes, and which, behind j of the four -/
def tpn (four n : Int) : Nat → Int
  | 0 => n
  | j + 1 => tpn four n j + nzb four (24 - 8 * (j : Int))
def tpt (four : Int) (t : Int → Int) (n : Int) : Nat → Int → Int
  | 0 => t
  | j + 1 => if byt four (24 - 8 * (j : Int)) = 0 then tpt four t n j else iup (tpt four t n j) (tpn four n j) (byt four (24 - 8 * (j : Int)))
theorem tpn_4 (four n : Int) : tpn four n 4 = n + bn four := by
  show n + nzb four (24 - 8 * 0) + nzb four (24 - 8 * 1) + nzb four (24 - 8 * 2) + nzb four (24 - 8 * 3) = _
  unfold bn
  rw [show (24 - 8 * 0 : Int) = 24 by omega, show (24 - 8 * 1 : Int) = 16 by omega, show (24 - 8 * 2 : Int) = 8 by omega, show (24 - 8 * 3 : Int) = 0 by omega]
  omega
theorem tpn_m (four n : Int) (j k : Nat) : tpn four n j ≤ tpn four n (j + k) := by
  induction k with
  | zero => exact Int.le_refl _
  | succ k ih =>
    have := nzb_r four (24 - 8 * ((j + k : Nat) : Int))
    show _ ≤ tpn four n (j + k) + nzb four (24 - 8 * ((j + k : Nat) : Int))
    omega
theorem tpn_le (four n : Int) (j : Nat) (h : j ≤ 4) : n ≤ tpn four n j ∧ tpn four n j ≤ n + bn four := by
  have h1 := tpn_m four n j (4 - j)
  have h2 := tpn_m four n 0 j
  rw [show j + (4 - j) = 4 by omega, tpn_4] at h1
  rw [Nat.zero_add] at h2
  exact ⟨h2, h1⟩
theorem tp_z {four n : Int} {t : Int → Int} {j : Nat} (h : byt four (24 - 8 * (j : Int)) = 0) : tpn four n (j + 1) = tpn four n j ∧ tpt four t n (j + 1) = tpt four t n j := by
  constructor
  · show _ + nzb _ _ = _
    rw [nzb_0 h]; omega
  · exact if_pos h
theorem tp_w {four n : Int} {t : Int → Int} {j : Nat} (h : byt four (24 - 8 * (j : Int)) ≠ 0) : tpn four n (j + 1) = tpn four n j + 1 ∧ tpt four t n (j + 1) = iup (tpt four t n j) (tpn four n j) (byt four (24 - 8 * (j : Int))) := by
  constructor
  · show _ + nzb _ _ = _
    rw [nzb_1 h]
  · exact if_neg h
/-- letters, digits; a code from a place on -/
def ltP (t : Int → Int) (n i : Int) : Prop := i < n ∧ 97 ≤ t i ∧ t i ≤ 122
def dgP (t : Int → Int) (n i : Int) : Prop := i < n ∧ 48 ≤ t i ∧ t i ≤ 57
def lrun (t : Int → Int) (n a k : Int) : Prop := ∀ i, a ≤ i → i ≤ a + k → ltP t n i
noncomputable def cdg (t : Int → Int) (n a k : Int) : Int := pif (lrun t n a k) (t (a + k) - 97 + 1) 0
noncomputable def coN (t : Int → Int) (n a : Int) : Nat → Int
  | 0 => 0
  | k + 1 => 27 * coN t n a k + cdg t n a (k : Int)
theorem coN_s (t : Int → Int) (n a k : Int) (h : 0 ≤ k) : coN t n a (k + 1).toNat = 27 * coN t n a k.toNat + cdg t n a k := by
  rw [show (k + 1).toNat = k.toNat + 1 by omega]
  show _ + cdg t n a ((k.toNat : Nat) : Int) = _
  rw [show ((k.toNat : Nat) : Int) = k by omega]
theorem cdg_r (t : Int → Int) (n a k : Int) (h : 0 ≤ k) : 0 ≤ cdg t n a k ∧ cdg t n a k ≤ 26 := by
  unfold cdg
  rcases pif_cases (lrun t n a k) (t (a + k) - 97 + 1) 0 with ⟨h1, h2⟩ | ⟨h1, h2⟩
  · have := h1 (a + k) (by omega) (by omega)
    unfold ltP at this
    omega
  · omega
/-- the code at a place, by letters as they go -/
noncomputable def coA (t : Int → Int) (n a : Int) : Int := coN t n a 4
theorem iand_bb {P Q : Prop} : iand (bI P) (bI Q) = bI (P ∧ Q) := by
  by_cases p : P
  · by_cases q : Q
    · rw [bI_t p, bI_t q, bI_t ⟨p, q⟩]; decide
    · rw [bI_t p, bI_f q, bI_f (fun h => q h.2)]; decide
  · by_cases q : Q
    · rw [bI_f p, bI_t q, bI_f (fun h => p h.1)]; decide
    · rw [bI_f p, bI_f q, bI_f (fun h => p h.1)]; decide
theorem ior_bb {P Q : Prop} : ior (bI P) (bI Q) = bI (P ∨ Q) := by
  by_cases p : P
  · by_cases q : Q
    · rw [bI_t p, bI_t q, bI_t (Or.inl p)]; decide
    · rw [bI_t p, bI_f q, bI_t (Or.inl p)]; decide
  · by_cases q : Q
    · rw [bI_f p, bI_t q, bI_t (Or.inr q)]; decide
    · rw [bI_f p, bI_f q, bI_f (fun h => h.elim p q)]; decide

abbrev rmX11_thrown : Room := { frames := 1, cells := 0, slots := 0, locals := 40 }
set_option maxHeartbeats 4000000 in
set_option maxRecDepth 100000 in
theorem kX11_thrown (l_ : Launch) (G : sG) (b_ : Nat) (M : sM) (N : Nat) (m : Nat) (th ch tn ea sn nm wn : Int) (hm0 : M m = some (mO m th ch tn ea sn nm wn)) : cP l_ yX11_thrown wsX11_thrown rmX11_thrown G b_ M N [.ref m] th := by
  refine sE.ofI (cc := cX11_thrown) (nL := 1) (ret := (some .int)) (by decide) rfl (Nat.le_of_ble_eq_true rfl) ?_
  intro p_ e_ s_ m_ args_ below_ meth_ c_ ls Q hQ E hl
  have E : sE p_ l_ e_ rmX11_thrown s_ m_ args_ below_ meth_ c_ cX11_thrown 1 wsX11_thrown RX11 "thrown" (some .int) G b_ M N := E
  have S := E.1
  have hx_ := S.1
  have hb_ := S.2.1
  have hK := E.2.2.2.2.1
  have hV := E.2.2.2.2.2.2
  have hl : lv_has ls 1 [(0, .ref m)] := hl
  have inX11_ : ∀ w ∈ wsX110, w ∈ wsX11_thrown := fun _ h => List.mem_cons_of_mem _ (List.mem_append_right _ h)
  refine lv_aload_n hx_ hb_ dX11_thrown_0 rfl (lv_at hl 0 rfl) ?_
  refine sc_get (ci := 9) (C := RX11) (T := TX11) (n := 22) S hK hV inX11_ hm0 rfl 0 (by decide) (S.2.2.2.2 _ (List.mem_of_getElem? (i := 1) rfl)) rfl rfl dX11_thrown_1 ?_
  exact sr_i E hQ dX11_thrown_4 ⟨Nat.le_of_ble_eq_true rfl, Nat.le_of_ble_eq_true rfl⟩ hV (⟨rfl, rfl, rfl⟩)

abbrev rmX11_in : Room := { frames := 1, cells := 0, slots := 0, locals := 40 }
set_option maxHeartbeats 4000000 in
set_option maxRecDepth 100000 in
theorem kX11_in (l_ : Launch) (G : sG) (b_ : Nat) (M : sM) (N : Nat) (v p q : Int) (hr : sR v ∧ sR p ∧ sR q) : cP l_ yX11_in wsX11_in rmX11_in G b_ M N [.int (sI v), .int (sI p), .int (sI q)] (bI (p ≤ v ∧ v ≤ q)) := by
  refine sE.ofI (cc := cX11_in) (nL := 3) (ret := (some .boolean)) (by decide) rfl (Nat.le_of_ble_eq_true rfl) ?_
  intro p_ e_ s_ m_ args_ below_ meth_ c_ ls Q hQ E hl
  have E : sE p_ l_ e_ rmX11_in s_ m_ args_ below_ meth_ c_ cX11_in 3 wsX11_in RX11 "in" (some .boolean) G b_ M N := E
  have S := E.1
  have hx_ := S.1
  have hb_ := S.2.1
  have hK := E.2.2.2.2.1
  have hV := E.2.2.2.2.2.2
  have hl : lv_has ls 3 [(0, .int (sI v)), (1, .int (sI p)), (2, .int (sI q))] := hl
  refine lv_iload_n hx_ hb_ dX11_in_0 rfl (lv_at hl 0 rfl) ?_
  refine lv_iload_n hx_ hb_ dX11_in_1 rfl (lv_at hl 1 rfl) ?_
  refine sb_lt (tgt := 14) S dX11_in_2 (by decide) (by omega) (fun c1 => ?_) (fun c1 => ?_)
  · refine si_const S dX11_in_14 ?_
    exact sr_z E hQ (Or.inl rfl) dX11_in_15 ⟨Nat.le_of_ble_eq_true rfl, Nat.le_of_ble_eq_true rfl⟩ hV (⟨(bI_f (by omega)).symm, rfl, rfl⟩)
  · refine lv_iload_n hx_ hb_ dX11_in_5 rfl (lv_at hl 0 rfl) ?_
    refine lv_iload_n hx_ hb_ dX11_in_6 rfl (lv_at hl 2 rfl) ?_
    refine sb_gt (tgt := 14) S dX11_in_7 (by decide) (by omega) (fun c2 => ?_) (fun c2 => ?_)
    · refine si_const S dX11_in_14 ?_
      exact sr_z E hQ (Or.inl rfl) dX11_in_15 ⟨Nat.le_of_ble_eq_true rfl, Nat.le_of_ble_eq_true rfl⟩ hV (⟨(bI_f (by omega)).symm, rfl, rfl⟩)
    · refine si_const S dX11_in_10 ?_
      refine lv_goto (tgt := 15) hx_ hb_ dX11_in_11 (by decide) ?_
      exact sr_z E hQ (Or.inr rfl) dX11_in_15 ⟨Nat.le_of_ble_eq_true rfl, Nat.le_of_ble_eq_true rfl⟩ hV (⟨(bI_t (by omega)).symm, rfl, rfl⟩)

abbrev rmX11_many : Room := { frames := 1, cells := 0, slots := 0, locals := 40 }
set_option maxHeartbeats 4000000 in
set_option maxRecDepth 100000 in
theorem kX11_many (l_ : Launch) (G : sG) (b_ : Nat) (M : sM) (N : Nat) (m : Nat) (th ch tn ea sn nm wn : Int) (f : sF) (hm0 : M m = some (mO m th ch tn ea sn nm wn)) (hm1 : M (m + 1) = some (sArr G 574 f)) : cP l_ yX11_many wsX11_many rmX11_many G b_ M N [.ref m] (f 568) := by
  refine sE.ofI (cc := cX11_many) (nL := 1) (ret := (some .int)) (by decide) rfl (Nat.le_of_ble_eq_true rfl) ?_
  intro p_ e_ s_ m_ args_ below_ meth_ c_ ls Q hQ E hl
  have E : sE p_ l_ e_ rmX11_many s_ m_ args_ below_ meth_ c_ cX11_many 1 wsX11_many RX11 "many" (some .int) G b_ M N := E
  have S := E.1
  have hx_ := S.1
  have hb_ := S.2.1
  have hK := E.2.2.2.2.1
  have hV := E.2.2.2.2.2.2
  have hl : lv_has ls 1 [(0, .ref m)] := hl
  have inX11_ : ∀ w ∈ wsX110, w ∈ wsX11_many := fun _ h => List.mem_cons_of_mem _ (List.mem_append_right _ h)
  refine lv_aload_n hx_ hb_ dX11_many_0 rfl (lv_at hl 0 rfl) ?_
  refine sc_get (ci := 9) (C := RX11) (T := TX11) (n := 22) S hK hV inX11_ hm0 rfl 1 (by decide) (S.2.2.2.2 _ (List.mem_of_getElem? (i := 1) rfl)) rfl rfl dX11_many_1 ?_
  refine si_sipush S dX11_many_4 (by decide) ?_
  refine sc_iald S hK hV hm1 (by omega) dX11_many_7 ?_
  exact sr_i E hQ dX11_many_8 ⟨Nat.le_of_ble_eq_true rfl, Nat.le_of_ble_eq_true rfl⟩ hV (⟨rfl, rfl, rfl⟩)

abbrev rmX11_fails : Room := { frames := 1, cells := 0, slots := 0, locals := 40 }
set_option maxHeartbeats 4000000 in
set_option maxRecDepth 100000 in
theorem kX11_fails (l_ : Launch) (G : sG) (b_ : Nat) (M : sM) (N : Nat) (m : Nat) (ch tn ea sn nm wn : Int) (k : Int) (B : Prop) (hm0 : M m = some (mO m 0 ch tn ea sn nm wn)) (hk : 1 ≤ k ∧ k ≤ 3) : cI l_ yX11_fails wsX11_fails rmX11_fails G b_ M N [.ref m, .int (sI (bI B)), .int (sI k)] (fun z_ M1 N1 => N1 = N ∧ (∀ x : Nat, ¬ (x = m) → M1 x = M x) ∧ (((B) ∧ z_ = 0 ∧ M1 m = some (mO m 0 ch tn ea sn nm wn)) ∨ ((¬ B) ∧ z_ = 1 ∧ M1 m = some (mO m k ch tn ea sn nm wn)))) := by
  refine sE.ofI (cc := cX11_fails) (nL := 3) (ret := (some .boolean)) (by decide) rfl (Nat.le_of_ble_eq_true rfl) ?_
  intro p_ e_ s_ m_ args_ below_ meth_ c_ ls Q hQ E hl
  have E : sE p_ l_ e_ rmX11_fails s_ m_ args_ below_ meth_ c_ cX11_fails 3 wsX11_fails RX11 "fails" (some .boolean) G b_ M N := E
  have S := E.1
  have hx_ := S.1
  have hb_ := S.2.1
  have hK := E.2.2.2.2.1
  have hV := E.2.2.2.2.2.2
  have hl : lv_has ls 3 [(0, .ref m), (1, .int (sI (bI B))), (2, .int (sI k))] := hl
  have inX11_ : ∀ w ∈ wsX110, w ∈ wsX11_fails := fun _ h => List.mem_cons_of_mem _ (List.mem_append_right _ h)
  refine lv_iload_n hx_ hb_ dX11_fails_0 rfl (lv_at hl 1 rfl) ?_
  refine sq_ne (tgt := 16) S dX11_fails_1 (by decide) (fun c1 => ?_) (fun c1 => ?_)
  · refine lv_aload_n hx_ hb_ dX11_fails_16 rfl (lv_at hl 0 rfl) ?_
    refine sc_get (ci := 9) (C := RX11) (T := TX11) (n := 22) S hK hV inX11_ hm0 rfl 0 (by decide) (S.2.2.2.2 _ (List.mem_of_getElem? (i := 1) rfl)) rfl rfl dX11_fails_17 ?_
    refine sz_eq (tgt := 27) S dX11_fails_20 (by decide) (by omega) (fun _ => ?_) (fun c2 => absurd c2 (by omega))
    refine si_const S dX11_fails_27 ?_
    exact sr_z E hQ (Or.inl rfl) dX11_fails_28 ⟨Nat.le_of_ble_eq_true rfl, Nat.le_of_ble_eq_true rfl⟩ hV (⟨rfl, fun x q0 => rfl, Or.inl ⟨(by first | assumption | exact Classical.not_not.mp ‹_›), rfl, hm0⟩⟩)
  · refine lv_aload_n hx_ hb_ dX11_fails_4 rfl (lv_at hl 0 rfl) ?_
    refine sc_get (ci := 9) (C := RX11) (T := TX11) (n := 22) S hK hV inX11_ hm0 rfl 0 (by decide) (S.2.2.2.2 _ (List.mem_of_getElem? (i := 1) rfl)) rfl rfl dX11_fails_5 ?_
    refine sz_ne (tgt := 16) S dX11_fails_8 (by decide) (by omega) (fun c3 => absurd c3 (by omega)) (fun _ => ?_)
    refine lv_aload_n hx_ hb_ dX11_fails_11 rfl (lv_at hl 0 rfl) ?_
    refine lv_iload_n hx_ hb_ dX11_fails_12 rfl (lv_at hl 2 rfl) ?_
    refine sc_put (ci := 9) (C := RX11) (T := TX11) (n := 22) S hK hV inX11_ tyX11_ok nmX11 hm0 rfl 0 (by decide) (S.2.2.2.2 _ (List.mem_of_getElem? (i := 1) rfl)) rfl rfl rfl rfl (Nat.le_of_ble_eq_true rfl) dX11_fails_13 (fs1 := [.int (sI k), .ref (m + 1), .ref (m + 2), .int (sI ch), .ref (m + 3), .int (sI tn), .int (sI ea), .ref (m + 4), .ref (m + 5), .ref (m + 6), .ref (m + 7), .ref (m + 8), .ref (m + 9), .int (sI sn), .ref (m + 10), .ref (m + 11), .ref (m + 12), .ref (m + 13), .int (sI nm), .ref (m + 14), .ref (m + 15), .int (sI wn)]) rfl (fun M4 H locs hM4 hV => ?_)
    have hc5 : M4 m = some (mO m k ch tn ea sn nm wn) := (congrFun hM4 m).trans (va_up_self M m _)
    refine lv_aload_n hx_ hb_ dX11_fails_16 rfl (lv_at hl 0 rfl) ?_
    refine sc_get (ci := 9) (C := RX11) (T := TX11) (n := 22) S hK hV inX11_ hc5 rfl 0 (by decide) (S.2.2.2.2 _ (List.mem_of_getElem? (i := 1) rfl)) rfl rfl dX11_fails_17 ?_
    refine sz_eq (tgt := 27) S dX11_fails_20 (by decide) (by omega) (fun c6 => absurd c6 (by omega)) (fun _ => ?_)
    refine si_const S dX11_fails_23 ?_
    refine lv_goto (tgt := 28) hx_ hb_ dX11_fails_24 (by decide) ?_
    exact sr_z E hQ (Or.inr rfl) dX11_fails_28 ⟨Nat.le_of_ble_eq_true rfl, Nat.le_of_ble_eq_true rfl⟩ hV (⟨rfl, fun x q0 => (congrFun hM4 x).trans (va_up_ne M _ (by omega)), Or.inr (⟨(by assumption), rfl, hc5⟩)⟩)

set_option maxHeartbeats 4000000 in
set_option maxRecDepth 100000 in
theorem kX11_fails1 (l_ : Launch) (G : sG) (b_ : Nat) (M : sM) (N : Nat) (m : Nat) (ch tn ea sn nm wn : Int) (k : Int) (hm0 : M m = some (mO m 0 ch tn ea sn nm wn)) (hk : 1 ≤ k ∧ k ≤ 3) : cI l_ yX11_fails wsX11_fails rmX11_fails G b_ M N [.ref m, .int (sI 1), .int (sI k)] (fun z_ M1 N1 => z_ = 0 ∧ N1 = N ∧ M1 m = some (mO m 0 ch tn ea sn nm wn) ∧ (∀ x : Nat, ¬ (x = m) → M1 x = M x)) := by
  refine sE.ofI (cc := cX11_fails) (nL := 3) (ret := (some .boolean)) (by decide) rfl (Nat.le_of_ble_eq_true rfl) ?_
  intro p_ e_ s_ m_ args_ below_ meth_ c_ ls Q hQ E hl
  have E : sE p_ l_ e_ rmX11_fails s_ m_ args_ below_ meth_ c_ cX11_fails 3 wsX11_fails RX11 "fails" (some .boolean) G b_ M N := E
  have S := E.1
  have hx_ := S.1
  have hb_ := S.2.1
  have hK := E.2.2.2.2.1
  have hV := E.2.2.2.2.2.2
  have hl : lv_has ls 3 [(0, .ref m), (1, .int (sI 1)), (2, .int (sI k))] := hl
  have inX11_ : ∀ w ∈ wsX110, w ∈ wsX11_fails := fun _ h => List.mem_cons_of_mem _ (List.mem_append_right _ h)
  refine lv_iload_n hx_ hb_ dX11_fails_0 rfl (lv_at hl 1 rfl) ?_
  refine sz_ne (tgt := 16) S dX11_fails_1 (by decide) (by omega) (fun _ => ?_) (fun c1 => absurd c1 (by omega))
  refine lv_aload_n hx_ hb_ dX11_fails_16 rfl (lv_at hl 0 rfl) ?_
  refine sc_get (ci := 9) (C := RX11) (T := TX11) (n := 22) S hK hV inX11_ hm0 rfl 0 (by decide) (S.2.2.2.2 _ (List.mem_of_getElem? (i := 1) rfl)) rfl rfl dX11_fails_17 ?_
  refine sz_eq (tgt := 27) S dX11_fails_20 (by decide) (by omega) (fun _ => ?_) (fun c2 => absurd c2 (by omega))
  refine si_const S dX11_fails_27 ?_
  exact sr_z E hQ (Or.inl rfl) dX11_fails_28 ⟨Nat.le_of_ble_eq_true rfl, Nat.le_of_ble_eq_true rfl⟩ hV (⟨by first | rfl | omega, rfl, hm0, fun x q0 => rfl⟩)

set_option maxHeartbeats 4000000 in
set_option maxRecDepth 100000 in
theorem kX11_fails0 (l_ : Launch) (G : sG) (b_ : Nat) (M : sM) (N : Nat) (m : Nat) (ch tn ea sn nm wn : Int) (k : Int) (hm0 : M m = some (mO m 0 ch tn ea sn nm wn)) (hk : 1 ≤ k ∧ k ≤ 3) : cI l_ yX11_fails wsX11_fails rmX11_fails G b_ M N [.ref m, .int (sI 0), .int (sI k)] (fun z_ M1 N1 => z_ = 1 ∧ N1 = N ∧ M1 m = some (mO m k ch tn ea sn nm wn) ∧ (∀ x : Nat, ¬ (x = m) → M1 x = M x)) := by
  refine sE.ofI (cc := cX11_fails) (nL := 3) (ret := (some .boolean)) (by decide) rfl (Nat.le_of_ble_eq_true rfl) ?_
  intro p_ e_ s_ m_ args_ below_ meth_ c_ ls Q hQ E hl
  have E : sE p_ l_ e_ rmX11_fails s_ m_ args_ below_ meth_ c_ cX11_fails 3 wsX11_fails RX11 "fails" (some .boolean) G b_ M N := E
  have S := E.1
  have hx_ := S.1
  have hb_ := S.2.1
  have hK := E.2.2.2.2.1
  have hV := E.2.2.2.2.2.2
  have hl : lv_has ls 3 [(0, .ref m), (1, .int (sI 0)), (2, .int (sI k))] := hl
  have inX11_ : ∀ w ∈ wsX110, w ∈ wsX11_fails := fun _ h => List.mem_cons_of_mem _ (List.mem_append_right _ h)
  refine lv_iload_n hx_ hb_ dX11_fails_0 rfl (lv_at hl 1 rfl) ?_
  refine sz_ne (tgt := 16) S dX11_fails_1 (by decide) (by omega) (fun c1 => absurd c1 (by omega)) (fun _ => ?_)
  refine lv_aload_n hx_ hb_ dX11_fails_4 rfl (lv_at hl 0 rfl) ?_
  refine sc_get (ci := 9) (C := RX11) (T := TX11) (n := 22) S hK hV inX11_ hm0 rfl 0 (by decide) (S.2.2.2.2 _ (List.mem_of_getElem? (i := 1) rfl)) rfl rfl dX11_fails_5 ?_
  refine sz_ne (tgt := 16) S dX11_fails_8 (by decide) (by omega) (fun c2 => absurd c2 (by omega)) (fun _ => ?_)
  refine lv_aload_n hx_ hb_ dX11_fails_11 rfl (lv_at hl 0 rfl) ?_
  refine lv_iload_n hx_ hb_ dX11_fails_12 rfl (lv_at hl 2 rfl) ?_
  refine sc_put (ci := 9) (C := RX11) (T := TX11) (n := 22) S hK hV inX11_ tyX11_ok nmX11 hm0 rfl 0 (by decide) (S.2.2.2.2 _ (List.mem_of_getElem? (i := 1) rfl)) rfl rfl rfl rfl (Nat.le_of_ble_eq_true rfl) dX11_fails_13 (fs1 := [.int (sI k), .ref (m + 1), .ref (m + 2), .int (sI ch), .ref (m + 3), .int (sI tn), .int (sI ea), .ref (m + 4), .ref (m + 5), .ref (m + 6), .ref (m + 7), .ref (m + 8), .ref (m + 9), .int (sI sn), .ref (m + 10), .ref (m + 11), .ref (m + 12), .ref (m + 13), .int (sI nm), .ref (m + 14), .ref (m + 15), .int (sI wn)]) rfl (fun M3 H locs hM3 hV => ?_)
  have hc4 : M3 m = some (mO m k ch tn ea sn nm wn) := (congrFun hM3 m).trans (va_up_self M m _)
  refine lv_aload_n hx_ hb_ dX11_fails_16 rfl (lv_at hl 0 rfl) ?_
  refine sc_get (ci := 9) (C := RX11) (T := TX11) (n := 22) S hK hV inX11_ hc4 rfl 0 (by decide) (S.2.2.2.2 _ (List.mem_of_getElem? (i := 1) rfl)) rfl rfl dX11_fails_17 ?_
  refine sz_eq (tgt := 27) S dX11_fails_20 (by decide) (by omega) (fun c5 => absurd c5 (by omega)) (fun _ => ?_)
  refine si_const S dX11_fails_23 ?_
  refine lv_goto (tgt := 28) hx_ hb_ dX11_fails_24 (by decide) ?_
  exact sr_z E hQ (Or.inr rfl) dX11_fails_28 ⟨Nat.le_of_ble_eq_true rfl, Nat.le_of_ble_eq_true rfl⟩ hV (⟨by first | rfl | omega, rfl, hc4, fun x q0 => (congrFun hM3 x).trans (va_up_ne M _ (by omega))⟩)

abbrev rmX11_noStone : Room := { frames := 2, cells := 0, slots := 0, locals := 62 }
set_option maxHeartbeats 4000000 in
set_option maxRecDepth 100000 in
theorem kX11_noStone (l_ : Launch) (G : sG) (b_ : Nat) (M : sM) (N : Nat) (m : Nat) (ch tn ea sn nm wn : Int) (f : sF) (s : Int) (hm0 : M m = some (mO m 0 ch tn ea sn nm wn)) (hm1 : M (m + 1) = some (sArr G 574 f)) (hok : sOk f) (hs : sR s) : cI l_ yX11_noStone wsX11_noStone rmX11_noStone G b_ M N [.ref m, .int (sI s)] (fun z_ M1 N1 => N1 = N ∧ (∀ x : Nat, ¬ (x = m) → M1 x = M x) ∧ (((0 ≤ s ∧ s < f 568) ∧ z_ = 0 ∧ M1 m = some (mO m 0 ch tn ea sn nm wn)) ∨ ((¬ (0 ≤ s ∧ s < f 568)) ∧ z_ = 1 ∧ M1 m = some (mO m 1 ch tn ea sn nm wn)))) := by
  refine sE.ofI (cc := cX11_noStone) (nL := 2) (ret := (some .boolean)) (by decide) rfl (Nat.le_of_ble_eq_true rfl) ?_
  intro p_ e_ s_ m_ args_ below_ meth_ c_ ls Q hQ E hl
  have E : sE p_ l_ e_ rmX11_noStone s_ m_ args_ below_ meth_ c_ cX11_noStone 2 wsX11_noStone RX11 "noStone" (some .boolean) G b_ M N := E
  have S := E.1
  have hx_ := S.1
  have hb_ := S.2.1
  have hK := E.2.2.2.2.1
  have hV := E.2.2.2.2.2.2
  have hl : lv_has ls 2 [(0, .ref m), (1, .int (sI s))] := hl
  have inX11_ : ∀ w ∈ wsX110, w ∈ wsX11_noStone := fun _ h => List.mem_cons_of_mem _ (List.mem_append_right _ h)
  have kn0 := sOk_N hok
  refine lv_aload_n hx_ hb_ dX11_noStone_0 rfl (lv_at hl 0 rfl) ?_
  refine lv_iload_n hx_ hb_ dX11_noStone_1 rfl (lv_at hl 1 rfl) ?_
  refine si_const S dX11_noStone_2 ?_
  refine lv_aload_n hx_ hb_ dX11_noStone_3 rfl (lv_at hl 0 rfl) ?_
  refine sk_VP E hV (As := []) (rest := [.int (sI 0), .int (sI s), .ref m]) (kX11_many l_ G b_ M N m 0 ch tn ea sn nm wn f hm0 hm1) (cwV 0 S.2.2.2.2 gX11_noStone_X11_many rfl rfl rfl (by decide +kernel) ⟨Nat.le_of_ble_eq_true rfl, Nat.le_of_ble_eq_true rfl⟩) (ci := 9) hm0 rfl rfl rfl hl.1 (Nat.le_of_ble_eq_true rfl) dX11_noStone_4 (c1 := 0) (s1 := 0) ⟨⟨rfl, rfl⟩, by decide, by decide⟩ (fun H locs hV => ?_)
  refine si_const S dX11_noStone_7 ?_
  refine si_sub S dX11_noStone_8 ?_
  refine sk_SP E hV (As := [.int (sI s), .int (sI 0), .int (sI ((f 568) - 1))]) (rest := [.ref m]) (kX11_in l_ G b_ M N s 0 ((f 568) - 1) (by omega)) (va_cwS 3 S.2.2.2.2 gX11_noStone_X11_in rfl rfl rfl (by decide +kernel) ⟨Nat.le_of_ble_eq_true rfl, Nat.le_of_ble_eq_true rfl⟩) rfl rfl hl.1 (Nat.le_of_ble_eq_true rfl) dX11_noStone_9 (c1 := 0) (s1 := 0) ⟨⟨rfl, rfl⟩, by decide, by decide⟩ (fun H locs hV => ?_)
  refine si_const S dX11_noStone_12 ?_
  refine sk_Vi E hV (As := [.int (sI (bI (0 ≤ s ∧ s ≤ ((f 568) - 1)))), .int (sI 1)]) (rest := []) (kX11_fails l_ G b_ M N m ch tn ea sn nm wn 1 (0 ≤ s ∧ s ≤ ((f 568) - 1)) hm0 (by omega)) (cwV 2 S.2.2.2.2 gX11_noStone_X11_fails rfl rfl rfl (by decide +kernel) ⟨Nat.le_of_ble_eq_true rfl, Nat.le_of_ble_eq_true rfl⟩) (ci := 9) hm0 rfl rfl rfl hl.1 (Nat.le_of_ble_eq_true rfl) dX11_noStone_13 (c1 := 0) (s1 := 0) ⟨⟨rfl, rfl⟩, by decide, by decide⟩ (fun z4 M1 N2 H locs hp3 hV => ?_)
  obtain ⟨hN5, hf6, hq7⟩ := hp3
  rw [hN5] at hV
  rcases hq7 with ⟨c8, ez9, hc10⟩ | ⟨c11, ez12, hc13⟩
  · rw [ez9]
    exact sr_z E hQ (Or.inl rfl) dX11_noStone_16 ⟨Nat.le_of_ble_eq_true rfl, Nat.le_of_ble_eq_true rfl⟩ hV (⟨rfl, fun x q0 => hf6 x (by omega), Or.inl ⟨(by omega), rfl, hc10⟩⟩)
  · rw [ez12]
    exact sr_z E hQ (Or.inr rfl) dX11_noStone_16 ⟨Nat.le_of_ble_eq_true rfl, Nat.le_of_ble_eq_true rfl⟩ hV (⟨rfl, fun x q0 => hf6 x (by omega), Or.inr (⟨(by omega), rfl, hc13⟩)⟩)

abbrev rmX11_bytesIn : Room := { frames := 1, cells := 0, slots := 0, locals := 40 }
set_option maxHeartbeats 4000000 in
set_option maxRecDepth 100000 in
theorem kX11_bytesIn (l_ : Launch) (G : sG) (b_ : Nat) (M : sM) (N : Nat) (x : Int) : cP l_ yX11_bytesIn wsX11_bytesIn rmX11_bytesIn G b_ M N [.int (sI x)] (bn x) := by
  refine sE.ofI (cc := cX11_bytesIn) (nL := 3) (ret := (some .int)) (by decide) rfl (Nat.le_of_ble_eq_true rfl) ?_
  intro p_ e_ s_ m_ args_ below_ meth_ c_ ls Q hQ E hl
  have E : sE p_ l_ e_ rmX11_bytesIn s_ m_ args_ below_ meth_ c_ cX11_bytesIn 3 wsX11_bytesIn RX11 "bytesIn" (some .int) G b_ M N := E
  have S := E.1
  have hx_ := S.1
  have hb_ := S.2.1
  have hK := E.2.2.2.2.1
  have hV := E.2.2.2.2.2.2
  have hl : lv_has ls 3 [(0, .int (sI x))] := hl
  refine si_const S dX11_bytesIn_0 ?_
  refine lv_istore_n (lv' := [(1, .int (sI 0)), (0, .int (sI x))]) hx_ hb_ dX11_bytesIn_1 rfl hl (by decide) rfl (fun ls hl => ?_)
  refine si_const S dX11_bytesIn_2 ?_
  refine lv_istore_n (lv' := [(2, .int (sI 0)), (1, .int (sI 0)), (0, .int (sI x))]) hx_ hb_ dX11_bytesIn_3 rfl hl (by decide) rfl (fun ls hl => ?_)
  have L4 : ∀ (fuel : Nat) (n : Int) (k : Int)  (H : Heap) (locs : List Loc) (ls : Array Slot), ((32 - k).toNat) < fuel → (k = 0 ∨ k = 8 ∨ k = 16 ∨ k = 24 ∨ k = 32) → (n = (if 0 < k then nzb x 0 else 0) + (if 8 < k then nzb x 8 else 0) + (if 16 < k then nzb x 16 else 0) + (if 24 < k then nzb x 24 else 0)) → sV G b_ M N s_ H locs → lv_has ls 3 [(0, .int (sI x)), (1, .int (sI n)), (2, .int (sI k))] → W p_ l_ e_ rmX11_bytesIn s_ m_ args_ below_ meth_ c_ H locs 0 0 Q (F0 m_ 4 ls []) := by
    intro fuel
    induction fuel with
    | zero => intro n k H locs ls hmu; exact absurd hmu (Nat.not_lt_zero _)
    | succ fuel ih4 =>
      intro n k H locs ls hmu4 hk hn  hV hl
      refine lv_iload_n hx_ hb_ dX11_bytesIn_4 rfl (lv_at hl 2 rfl) ?_
      refine si_bipush S dX11_bytesIn_5 (by decide) ?_
      refine sb_ge (tgt := 34) S dX11_bytesIn_7 (by decide) (by omega) (fun c1 => ?_) (fun c1 => ?_)
      · refine lv_iload_n hx_ hb_ dX11_bytesIn_34 rfl (lv_at hl 1 rfl) ?_
        exact sr_i E hQ dX11_bytesIn_35 ⟨Nat.le_of_ble_eq_true rfl, Nat.le_of_ble_eq_true rfl⟩ hV (⟨by rcases hk with rfl | rfl | rfl | rfl | rfl <;> first | omega | (simp at hn; unfold bn; omega), rfl, rfl⟩)
      · refine lv_iload_n hx_ hb_ dX11_bytesIn_10 rfl (lv_at hl 1 rfl) ?_
        refine lv_iload_n hx_ hb_ dX11_bytesIn_11 rfl (lv_at hl 0 rfl) ?_
        refine lv_iload_n hx_ hb_ dX11_bytesIn_12 rfl (lv_at hl 2 rfl) ?_
        refine si_shr S dX11_bytesIn_13 ?_
        refine si_sipush S dX11_bytesIn_14 (by decide) ?_
        refine si_and S dX11_bytesIn_17 ?_
        refine sz_ne (tgt := 25) S dX11_bytesIn_18 (by decide) (by have := byt_r x k; unfold byt at this; omega) (fun c2 => ?_) (fun c2 => ?_)
        · refine si_const S dX11_bytesIn_25 ?_
          refine si_add S dX11_bytesIn_26 ?_
          refine lv_istore_n (lv' := [(1, .int (sI (n + 1))), (0, .int (sI x)), (2, .int (sI k))]) hx_ hb_ dX11_bytesIn_27 rfl hl (by decide) rfl (fun ls hl => ?_)
          refine si_inc (lv' := [(2, .int (sI (k + 8))), (1, .int (sI (n + 1))), (0, .int (sI x))]) S dX11_bytesIn_28 hl (k := 2) rfl (by decide) rfl (fun ls hl => ?_)
          refine lv_goto (tgt := 4) hx_ hb_ dX11_bytesIn_31 (by decide) ?_
          exact ih4 (n + 1) (k + 8) _ _ _ (by omega) (by omega) (by have e0 : nzb x k = if byt x k = 0 then 0 else 1 := rfl; rcases hk with rfl | rfl | rfl | rfl | rfl <;> simp at hn ⊢ <;> split at e0 <;> first | omega | (unfold byt at *; omega)) hV (lv_sub hl [2, 1, 0] rfl)
        · refine si_const S dX11_bytesIn_21 ?_
          refine lv_goto (tgt := 26) hx_ hb_ dX11_bytesIn_22 (by decide) ?_
          refine si_add S dX11_bytesIn_26 ?_
          refine lv_istore_n (lv' := [(1, .int (sI (n + 0))), (0, .int (sI x)), (2, .int (sI k))]) hx_ hb_ dX11_bytesIn_27 rfl hl (by decide) rfl (fun ls hl => ?_)
          refine si_inc (lv' := [(2, .int (sI (k + 8))), (1, .int (sI (n + 0))), (0, .int (sI x))]) S dX11_bytesIn_28 hl (k := 2) rfl (by decide) rfl (fun ls hl => ?_)
          refine lv_goto (tgt := 4) hx_ hb_ dX11_bytesIn_31 (by decide) ?_
          exact ih4 (n + 0) (k + 8) _ _ _ (by omega) (by omega) (by have e0 : nzb x k = if byt x k = 0 then 0 else 1 := rfl; rcases hk with rfl | rfl | rfl | rfl | rfl <;> simp at hn ⊢ <;> split at e0 <;> first | omega | (unfold byt at *; omega)) hV (lv_sub hl [2, 1, 0] rfl)
  exact L4 _ 0 0 _ _ _ (Nat.lt_succ_self _) (by omega) (by simp) hV (lv_sub hl [2, 1, 0] rfl)

abbrev rmX11_takesBytes : Room := { frames := 1, cells := 0, slots := 0, locals := 40 }
set_option maxHeartbeats 4000000 in
set_option maxRecDepth 100000 in
theorem kX11_takesBytes (l_ : Launch) (G : sG) (b_ : Nat) (M : sM) (N : Nat) (m : Nat) (th ch tn ea sn nm wn : Int) (t : Int → Int) (x : Int) (hm0 : M m = some (mO m th ch tn ea sn nm wn)) (hm3 : M (m + 3) = some (sArr G 300 t)) (hb : 0 ≤ tn ∧ tn + bn x ≤ 300) : cV l_ yX11_takesBytes wsX11_takesBytes rmX11_takesBytes G b_ M N [.ref m, .int (sI x)] (fun M1 N1 => N1 = N ∧ M1 m = some (mO m th ch (tn + bn x) ea sn nm wn) ∧ M1 (m + 3) = some (sArr G 300 (tpt x t tn 4)) ∧ (∀ x : Nat, ¬ (x = m) → ¬ (x = m + 3) → M1 x = M x)) := by
  refine sE.ofV (cc := cX11_takesBytes) (nL := 4) (ret := none) (by decide) rfl (Nat.le_of_ble_eq_true rfl) ?_
  intro p_ e_ s_ m_ args_ below_ meth_ c_ ls Q hQ E hl
  have E : sE p_ l_ e_ rmX11_takesBytes s_ m_ args_ below_ meth_ c_ cX11_takesBytes 4 wsX11_takesBytes RX11 "takesBytes" none G b_ M N := E
  have S := E.1
  have hx_ := S.1
  have hb_ := S.2.1
  have hK := E.2.2.2.2.1
  have hV := E.2.2.2.2.2.2
  have hl : lv_has ls 4 [(0, .ref m), (1, .int (sI x))] := hl
  have inX11_ : ∀ w ∈ wsX110, w ∈ wsX11_takesBytes := fun _ h => List.mem_cons_of_mem _ (List.mem_append_right _ h)
  refine si_bipush S dX11_takesBytes_0 (by decide) ?_
  refine lv_istore_n (lv' := [(2, .int (sI 24)), (0, .ref m), (1, .int (sI x))]) hx_ hb_ dX11_takesBytes_2 rfl hl (by decide) rfl (fun ls hl => ?_)
  have L3 : ∀ (fuel : Nat) (k : Int) (n2 : Int) (t2 : Int → Int) (Ml3 : sM) (H : Heap) (locs : List Loc) (ls : Array Slot), ((k + 8).toNat) < fuel → (∃ j : Nat, j ≤ 4 ∧ k = 24 - 8 * (j : Int) ∧ n2 = tpn x tn j ∧ t2 = tpt x t tn j) → (Ml3 m = some (mO m th ch n2 ea sn nm wn)) → (Ml3 (m + 3) = some (sArr G 300 t2)) → (∀ x : Nat, ¬ (x = m) → ¬ (x = m + 3) → Ml3 x = M x) → sV G b_ Ml3 N s_ H locs → lv_has ls 4 [(0, .ref m), (1, .int (sI x)), (2, .int (sI k))] → W p_ l_ e_ rmX11_takesBytes s_ m_ args_ below_ meth_ c_ H locs 0 0 Q (F0 m_ 3 ls []) := by
    intro fuel
    induction fuel with
    | zero => intro k n2 t2 Ml3 H locs ls hmu; exact absurd hmu (Nat.not_lt_zero _)
    | succ fuel ih3 =>
      intro k n2 t2 Ml3 H locs ls hmu3 hj hm3_0 hm3_1 hfr3 hV hl
      obtain ⟨j, hj4, hkj, hn2, ht2⟩ := hj
      have hle := tpn_le x tn j hj4
      refine lv_iload_n hx_ hb_ dX11_takesBytes_3 rfl (lv_at hl 2 rfl) ?_
      refine sz_lt (tgt := 48) S dX11_takesBytes_4 (by decide) (by omega) (fun c1 => ?_) (fun c1 => ?_)
      · exact sr_v E hQ dX11_takesBytes_48 ⟨Nat.le_of_ble_eq_true rfl, Nat.le_of_ble_eq_true rfl⟩ hV (⟨rfl, (by have e4 : j = 4 := (by omega); rw [e4, tpn_4] at hn2; rw [← hn2]; exact hm3_0), (by have e4 : j = 4 := (by omega); rw [e4] at ht2; rw [← ht2]; exact hm3_1), fun x q0 q1 => hfr3 x (by omega) (by omega)⟩)
      · refine lv_iload_n hx_ hb_ dX11_takesBytes_7 rfl (lv_at hl 1 rfl) ?_
        refine lv_iload_n hx_ hb_ dX11_takesBytes_8 rfl (lv_at hl 2 rfl) ?_
        refine si_shr S dX11_takesBytes_9 ?_
        refine si_sipush S dX11_takesBytes_10 (by decide) ?_
        refine si_and S dX11_takesBytes_13 ?_
        refine lv_istore_n (lv' := [(3, .int (sI (iand (ishr x k) 255))), (0, .ref m), (1, .int (sI x)), (2, .int (sI k))]) hx_ hb_ dX11_takesBytes_14 rfl hl (by decide) rfl (fun ls hl => ?_)
        refine lv_iload_n hx_ hb_ dX11_takesBytes_15 rfl (lv_at hl 0 rfl) ?_
        refine sz_ne (tgt := 22) S dX11_takesBytes_16 (by decide) (by have := byt_r x k; unfold byt at this; omega) (fun c2 => ?_) (fun c2 => ?_)
        · have hz : byt x (24 - 8 * (j : Int)) ≠ 0 := by rw [← hkj]; exact c2
          refine lv_aload_n hx_ hb_ dX11_takesBytes_22 rfl (lv_at hl 1 rfl) ?_
          refine sc_get (ci := 9) (C := RX11) (T := TX11) (n := 22) S hK hV inX11_ hm3_0 rfl 4 (by decide) (S.2.2.2.2 _ (List.mem_of_getElem? (i := 1) rfl)) rfl rfl dX11_takesBytes_23 ?_
          refine lv_aload_n hx_ hb_ dX11_takesBytes_26 rfl (lv_at hl 1 rfl) ?_
          refine sc_get (ci := 9) (C := RX11) (T := TX11) (n := 22) S hK hV inX11_ hm3_0 rfl 5 (by decide) (S.2.2.2.2 _ (List.mem_of_getElem? (i := 2) rfl)) rfl rfl dX11_takesBytes_27 ?_
          refine lv_iload_n hx_ hb_ dX11_takesBytes_30 rfl (lv_at hl 0 rfl) ?_
          have hle2 := tpn_le x tn (j + 1) (by omega)
          rw [(tp_w (t := t) hz).1] at hle2
          refine sc_iast S hK hV hm3_1 (by omega) dX11_takesBytes_31 (fun M3 H locs hM3 hV => ?_)
          have hc4 : M3 (m + 3) = some (sArr G 300 (iup t2 n2 (iand (ishr x k) 255))) := (congrFun hM3 (m + 3)).trans (va_up_self Ml3 (m + 3) _)
          refine lv_aload_n hx_ hb_ dX11_takesBytes_32 rfl (lv_at hl 1 rfl) ?_
          refine lv_dup hx_ hb_ dX11_takesBytes_33 rfl ?_
          have hc5 : M3 m = some (mO m th ch n2 ea sn nm wn) := ((congrFun hM3 m).trans (va_up_ne Ml3 _ (by omega))).trans hm3_0
          refine sc_get (ci := 9) (C := RX11) (T := TX11) (n := 22) S hK hV inX11_ hc5 rfl 5 (by decide) (S.2.2.2.2 _ (List.mem_of_getElem? (i := 2) rfl)) rfl rfl dX11_takesBytes_34 ?_
          refine si_const S dX11_takesBytes_37 ?_
          refine si_add S dX11_takesBytes_38 ?_
          refine sc_put (ci := 9) (C := RX11) (T := TX11) (n := 22) S hK hV inX11_ tyX11_ok nmX11 hc5 rfl 5 (by decide) (S.2.2.2.2 _ (List.mem_of_getElem? (i := 2) rfl)) rfl rfl rfl rfl (Nat.le_of_ble_eq_true rfl) dX11_takesBytes_39 (fs1 := [.int (sI th), .ref (m + 1), .ref (m + 2), .int (sI ch), .ref (m + 3), .int (sI (n2 + 1)), .int (sI ea), .ref (m + 4), .ref (m + 5), .ref (m + 6), .ref (m + 7), .ref (m + 8), .ref (m + 9), .int (sI sn), .ref (m + 10), .ref (m + 11), .ref (m + 12), .ref (m + 13), .int (sI nm), .ref (m + 14), .ref (m + 15), .int (sI wn)]) rfl (fun M6 H locs hM6 hV => ?_)
          have hc7 : M6 m = some (mO m th ch (n2 + 1) ea sn nm wn) := (congrFun hM6 m).trans (va_up_self M3 m _)
          refine si_inc (lv' := [(2, .int (sI (k + (-8)))), (3, .int (sI (iand (ishr x k) 255))), (0, .ref m), (1, .int (sI x))]) S dX11_takesBytes_42 hl (k := 3) rfl (by decide) rfl (fun ls hl => ?_)
          refine lv_goto (tgt := 3) hx_ hb_ dX11_takesBytes_45 (by decide) ?_
          have hc8 : M6 (m + 3) = some (sArr G 300 (iup t2 n2 (iand (ishr x k) 255))) := ((congrFun hM6 (m + 3)).trans (va_up_ne M3 _ (by omega))).trans hc4
          exact ih3 (k + (-8)) (n2 + 1) (iup t2 n2 (iand (ishr x k) 255)) M6 _ _ _ (by omega) (⟨j + 1, by omega, by omega, by rw [(tp_w (t := t) hz).1, hn2], by rw [(tp_w (n := tn) (t := t) hz).2, hn2, ht2, ← hkj]; rfl⟩) hc7 hc8 (fun x q0 q1 => (((congrFun hM6 x).trans (va_up_ne M3 _ (by omega))).trans ((congrFun hM3 x).trans (va_up_ne Ml3 _ (by omega)))).trans (hfr3 x (by omega) (by omega))) hV (lv_sub hl [2, 3, 0] rfl)
        · have hz : byt x (24 - 8 * (j : Int)) = 0 := by rw [← hkj]; exact c2
          refine lv_goto (tgt := 42) hx_ hb_ dX11_takesBytes_19 (by decide) ?_
          refine si_inc (lv' := [(2, .int (sI (k + (-8)))), (3, .int (sI (iand (ishr x k) 255))), (0, .ref m), (1, .int (sI x))]) S dX11_takesBytes_42 hl (k := 3) rfl (by decide) rfl (fun ls hl => ?_)
          refine lv_goto (tgt := 3) hx_ hb_ dX11_takesBytes_45 (by decide) ?_
          exact ih3 (k + (-8)) n2 t2 Ml3 _ _ _ (by omega) (⟨j + 1, by omega, by omega, by rw [(tp_z (n := tn) (t := t) hz).1]; exact hn2, by rw [(tp_z (n := tn) (t := t) hz).2]; exact ht2⟩) hm3_0 hm3_1 (fun x q0 q1 => hfr3 x (by omega) (by omega)) hV (lv_sub hl [2, 3, 0] rfl)
  exact L3 _ 24 tn t M _ _ _ (Nat.lt_succ_self _) (⟨0, by omega, by omega, rfl, rfl⟩) hm0 hm3 (fun x q0 q1 => rfl) hV (lv_sub hl [1, 2, 0] rfl)
