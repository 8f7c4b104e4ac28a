/-! What is kept for undo, what calls need, the greatest divisor. -/
theorem stC.lt {G : sG} {b : Nat} {M : sM} {N : Nat} {H : Heap} {z : Nat} {g : sF} (h : stC G M z g) (hH : sH G b M N H) : z + 15 ≤ N := by
  obtain ⟨-, -, -, -, -, -, -, -, w, h2, -⟩ := h
  have h3 := hH.lt h2
  omega
/-- the row of kept States at a: kf its references, all above kb; ch of them are kept, fs 0 the eldest, and kn is the next place -/
def kpC (G : sG) (M : sM) (a kb : Nat) (kn ch : Int) (fs : Int → sF) : Prop :=
  ∃ kf : Nat → Option Nat, M a = some (sArS G 15 kf) ∧ (0 ≤ kn ∧ kn < 15 ∧ 0 ≤ ch ∧ ch ≤ 15) ∧ (∀ i y, i < 15 → kf i = some y → kb ≤ y ∧ ∃ g, stC G M y g) ∧
    (∀ i j y z, i < 15 → j < 15 → i ≠ j → kf i = some y → kf j = some z → y + 15 ≤ z ∨ z + 15 ≤ y) ∧ (∀ p : Int, 0 ≤ p → p < ch → ∃ y, kf ((kn + 14 - p) % 15).toNat = some y ∧ stC G M y (fs (ch - 1 - p)))
theorem kpC.fr {G : sG} {M M1 : sM} {a kb : Nat} {kn ch : Int} {fs : Int → sF} (h : kpC G M a kb kn ch fs) (hf : ∀ x : Nat, x = a ∨ kb ≤ x → M1 x = M x) : kpC G M1 a kb kn ch fs := by
  obtain ⟨kf, h1, h2, h3, h4, h5⟩ := h
  refine ⟨kf, (hf a (Or.inl rfl)).trans h1, h2, fun i y hi hy => ?_, h4, fun p p1 p2 => ?_⟩
  · obtain ⟨a1, g, a2⟩ := h3 i y hi hy
    exact ⟨a1, g, a2.fr fun x q r => hf x (Or.inr (by omega))⟩
  · obtain ⟨y, a1, a2⟩ := h5 p p1 p2
    have a3 := (h3 _ y (by omega) a1).1
    exact ⟨y, a1, a2.fr fun x q r => hf x (Or.inr (by omega))⟩
theorem kpC.r {G : sG} {M : sM} {a kb : Nat} {kn ch : Int} {fs : Int → sF} (h : kpC G M a kb kn ch fs) : 0 ≤ kn ∧ kn < 15 ∧ 0 ≤ ch ∧ ch ≤ 15 := by
  obtain ⟨kf, h1, h2, -⟩ := h
  exact h2
theorem kp_put {G : sG} {M M1 : sM} {a kb : Nat} {kn ch kn1 : Int} {fs : Int → sF} {f : sF} {kf kf1 : Nat → Option Nat} {y : Nat} (hr : 0 ≤ kn ∧ kn < 15 ∧ 0 ≤ ch ∧ ch ≤ 15) (h3 : ∀ i y, i < 15 → kf i = some y → kb ≤ y ∧ ∃ g, stC G M y g)
    (h4 : ∀ i j y z, i < 15 → j < 15 → i ≠ j → kf i = some y → kf j = some z → y + 15 ≤ z ∨ z + 15 ≤ y) (h5 : ∀ p : Int, 0 ≤ p → p < ch → ∃ y, kf ((kn + 14 - p) % 15).toNat = some y ∧ stC G M y (fs (ch - 1 - p)))
    (e0 : M1 a = some (sArS G 15 kf1)) (e1 : kf1 kn.toNat = some y) (e2 : ∀ i, i ≠ kn.toNat → kf1 i = kf i) (hy : kb ≤ y) (hs : stC G M1 y f) (hap : ∀ i z, i < 15 → i ≠ kn.toNat → kf i = some z → y + 15 ≤ z ∨ z + 15 ≤ y)
    (hfr : ∀ x : Nat, kb ≤ x → ¬ (y ≤ x ∧ x < y + 15) → M1 x = M x) (hk : (kn = 14 ∧ kn1 = 0) ∨ (kn ≠ 14 ∧ kn1 = kn + 1)) : kpC G M1 a kb kn1 (chn ch) (fsn ch fs f) := by
  have hc : 0 ≤ chn ch ∧ chn ch ≤ 15 ∧ chn ch ≤ ch + 1 ∧ 1 ≤ chn ch := by unfold chn; split <;> omega
  refine ⟨kf1, e0, by omega, fun i z hi hz => ?_, fun i j z w hi hj hij hz hw => ?_, fun p p1 p2 => ?_⟩
  · by_cases q : i = kn.toNat
    · rw [q, e1] at hz
      rw [← Option.some.inj hz]
      exact ⟨hy, f, hs⟩
    · rw [e2 i q] at hz
      obtain ⟨a1, g, a2⟩ := h3 i z hi hz
      have a3 := hap i z hi q hz
      exact ⟨a1, g, a2.fr fun x q r => hfr x (by omega) (by omega)⟩
  · by_cases q : i = kn.toNat
    · rw [q, e1] at hz
      rw [e2 j (by omega)] at hw
      rw [← Option.some.inj hz]
      exact hap j w hj (by omega) hw
    · rw [e2 i q] at hz
      by_cases q2 : j = kn.toNat
      · rw [q2, e1] at hw
        rw [← Option.some.inj hw]
        have := hap i z hi q hz
        omega
      · rw [e2 j q2] at hw
        exact h4 i j z w hi hj hij hz hw
  · by_cases q : p = 0
    · refine ⟨y, ?_, ?_⟩
      · rw [show ((kn1 + 14 - p) % 15).toNat = kn.toNat by omega]
        exact e1
      · rw [show fsn ch fs f (chn ch - 1 - p) = f by
          unfold fsn chn
          split
          · show (if (15 : Int) - 1 - p = 14 then f else _) = f
            rw [if_pos (by omega)]
          · show (if ch + 1 - 1 - p = ch then f else _) = f
            rw [if_pos (by omega)]]
        exact hs
    · obtain ⟨z, a1, a2⟩ := h5 (p - 1) (by omega) (by omega)
      rw [show ((kn + 14 - (p - 1)) % 15).toNat = ((kn1 + 14 - p) % 15).toNat by omega] at a1
      have a4 : ((kn1 + 14 - p) % 15).toNat ≠ kn.toNat := by omega
      refine ⟨z, by rw [e2 _ a4]; exact a1, ?_⟩
      have a3 := (h3 _ z (by omega) a1).1
      have a5 := hap _ z (by omega) a4 a1
      rw [show fsn ch fs f (chn ch - 1 - p) = fs (ch - 1 - (p - 1)) by
        unfold fsn chn
        split
        · show (if (15 : Int) - 1 - p = 14 then f else fs (15 - 1 - p + 1)) = _
          rw [if_neg (by omega)]
          congr 1
          omega
        · show (if ch + 1 - 1 - p = ch then f else fs (ch + 1 - 1 - p)) = _
          rw [if_neg (by omega)]
          congr 1
          omega]
      exact a2.fr fun x q r => hfr x (by omega) (by omega)
theorem kp_undo {G : sG} {M M1 : sM} {a kb : Nat} {kn ch kn1 : Int} {fs : Int → sF} {kf : Nat → Option Nat} (hr : 0 ≤ kn ∧ kn < 15 ∧ 0 ≤ ch ∧ ch ≤ 15) (h3 : ∀ i y, i < 15 → kf i = some y → kb ≤ y ∧ ∃ g, stC G M y g)
    (h4 : ∀ i j y z, i < 15 → j < 15 → i ≠ j → kf i = some y → kf j = some z → y + 15 ≤ z ∨ z + 15 ≤ y) (h5 : ∀ p : Int, 0 ≤ p → p < ch → ∃ y, kf ((kn + 14 - p) % 15).toNat = some y ∧ stC G M y (fs (ch - 1 - p)))
    (e0 : M1 a = some (sArS G 15 kf)) (hfr : ∀ x : Nat, kb ≤ x → M1 x = M x) (hc : 1 ≤ ch) (hk : (kn = 0 ∧ kn1 = 14) ∨ (kn ≠ 0 ∧ kn1 = kn - 1)) : kpC G M1 a kb kn1 (ch - 1) fs := by
  refine ⟨kf, e0, by omega, fun i z hi hz => ?_, h4, fun p p1 p2 => ?_⟩
  · obtain ⟨a1, g, a2⟩ := h3 i z hi hz
    exact ⟨a1, g, a2.fr fun x q r => hfr x (by omega)⟩
  · obtain ⟨z, a1, a2⟩ := h5 (p + 1) (by omega) (by omega)
    rw [show ((kn + 14 - (p + 1)) % 15).toNat = ((kn1 + 14 - p) % 15).toNat by omega] at a1
    have a3 := (h3 _ z (by omega) a1).1
    refine ⟨z, a1, ?_⟩
    rw [show ch - 1 - 1 - p = ch - 1 - (p + 1) by omega]
    exact a2.fr fun x q r => hfr x (by omega)
theorem kp_0 {G : sG} {M : sM} {a : Nat} (kb : Nat) (fs : Int → sF) (h : M a = some (sArS G 15 (fun _ => none))) : kpC G M a kb 0 0 fs :=
  ⟨_, h, by omega, (fun i y _ q => by cases q), (fun i j y z _ _ _ q => by cases q), fun p _ q => by omega⟩
def gnI9 (k x y : Int) : Prop := (0 ≤ y ∧ y ≤ x ∧ x ≤ 2147483647) ∧ x * y * 2 ^ k.toNat < 2 ^ 62
theorem gn9_0 {p q : Int} (h : 0 ≤ q ∧ q ≤ p ∧ p ≤ 2147483647) : gnI9 0 p q := by
  refine ⟨h, ?_⟩
  have h1 : p * q ≤ 2147483647 * 2147483647 := Int.mul_le_mul h.2.2 (by omega) h.1 (by omega)
  show p * q * 2 ^ 0 < 2 ^ 62
  omega
theorem gn9_s {k x y : Int} (h : gnI9 k x y) (hk : 0 ≤ k) (hy : 0 < y) : gnI9 (k + 1) y (x % y) := by
  obtain ⟨h1, h2⟩ := h
  have m1 := Int.emod_nonneg x (show y ≠ 0 by omega)
  have m2 := Int.emod_lt_of_pos x hy
  refine ⟨by omega, ?_⟩
  have m3 : 2 * (x % y) ≤ x := by
    have d1 := Int.mul_ediv_add_emod x y
    have d2 : 1 ≤ x / y := (Int.le_ediv_iff_mul_le hy).mpr (by omega)
    have d3 : y * 1 ≤ y * (x / y) := Int.mul_le_mul_of_nonneg_left d2 (by omega)
    omega
  have e1 : (k + 1).toNat = k.toNat + 1 := by omega
  have e2 : y * (x % y) * 2 ^ (k + 1).toNat = y * (2 * (x % y)) * 2 ^ k.toNat := by
    rw [e1, Int.pow_succ, Int.mul_comm (2 ^ k.toNat) 2, ← Int.mul_assoc, Int.mul_assoc y, Int.mul_comm (x % y) 2]
  have e3 : y * (2 * (x % y)) ≤ y * x := Int.mul_le_mul_of_nonneg_left m3 (by omega)
  have e4 : y * (2 * (x % y)) * 2 ^ k.toNat ≤ y * x * 2 ^ k.toNat := Int.mul_le_mul_of_nonneg_right e3 (Int.le_of_lt (Int.pow_pos (by decide)))
  rw [e2]
  rw [Int.mul_comm x y] at h2
  exact Int.lt_of_le_of_lt e4 h2
theorem gn9_e {x y : Int} (h : gnI9 64 x y) : y = 0 := by
  obtain ⟨h1, h2⟩ := h
  rcases (show y = 0 ∨ 0 < y by omega) with e | e
  · exact e
  · have h3 : 1 * 1 ≤ x * y := Int.mul_le_mul (by omega) (by omega) (by omega) (by omega)
    have h4 : x * y * 2 ^ 64 < 2 ^ 62 := h2
    omega

abbrev rmX10_keepState : Room := { frames := 4, cells := 15, slots := 2900, locals := 105 }
set_option maxHeartbeats 4000000 in
set_option maxRecDepth 100000 in
theorem kX10_keepState (l_ : Launch) (G : sG) (b_ : Nat) (M : sM) (N : Nat) (c : Nat) (kn ch : Int) (f : sF) (kb : Nat) (fs : Int → sF) (hc0 : M c = some (xO c kn ch)) (hst : stC G M (c + 1) f) (hkp : kpC G M (c + 31) kb kn ch fs) (hok : sOk f) (hkb : c + 60 ≤ kb) (hkN : kb ≤ N) : cV l_ yX10_keepState wsX10_keepState rmX10_keepState G b_ M N [.ref c] (fun M1 N1 => ∃ kn1 : Int, N ≤ N1 ∧ M1 c = some (xO c kn1 (chn ch)) ∧ kpC G M1 (c + 31) kb kn1 (chn ch) (fsn ch fs f) ∧ (∀ x : Nat, ¬ (x = c) → ¬ (x = c + 31) → ¬ (kb ≤ x) → M1 x = M x)) := by
  refine sE.ofV (cc := cX10_keepState) (nL := 1) (ret := none) (by decide) rfl (Nat.le_of_ble_eq_true rfl) ?_
  intro p_ e_ s_ m_ args_ below_ meth_ c_ ls Q hQ E hl
  have E : sE p_ l_ e_ rmX10_keepState s_ m_ args_ below_ meth_ c_ cX10_keepState 1 wsX10_keepState RX10 "keepState" none G b_ M N := E
  have S := E.1
  have hx_ := S.1
  have hb_ := S.2.1
  have hK := E.2.2.2.2.1
  have hV := E.2.2.2.2.2.2
  have hl : lv_has ls 1 [(0, .ref c)] := hl
  have inX10_ : ∀ w ∈ wsX100, w ∈ wsX10_keepState := fun _ h => List.mem_cons_of_mem _ (List.mem_append_left _ (List.mem_append_left _ (List.mem_append_right _ h)))
  have inX6_ : ∀ w ∈ wsX60, w ∈ wsX10_keepState := fun _ h => List.mem_cons_of_mem _ (List.mem_append_left _ (List.mem_append_right _ h))
  have inX8_ : ∀ w ∈ wsX80, w ∈ wsX10_keepState := fun _ h => List.mem_cons_of_mem _ (List.mem_append_right _ h)
  have hbN : b_ ≤ N := by have h1 := hV.1.1; have h2 := hV.2.2; omega
  have kn0 := sOk_N hok
  have hlt9 : ∀ z g, stC G M z g → z + 15 ≤ N := fun z g h => h.lt hV.1
  obtain ⟨kf, hk1, hk2, hk3, hk4, hk5⟩ := hkp
  refine lv_aload_n hx_ hb_ dX10_keepState_0 rfl (lv_at hl 0 rfl) ?_
  refine sc_get (ci := 8) (C := RX10) (T := TX10) (n := 11) S hK hV inX10_ hc0 rfl 2 (by decide) (S.2.2.2.2 _ (List.mem_of_getElem? (i := 1) rfl)) rfl rfl dX10_keepState_1 ?_
  refine lv_aload_n hx_ hb_ dX10_keepState_4 rfl (lv_at hl 0 rfl) ?_
  refine sc_get (ci := 8) (C := RX10) (T := TX10) (n := 11) S hK hV inX10_ hc0 rfl 3 (by decide) (S.2.2.2.2 _ (List.mem_of_getElem? (i := 2) rfl)) rfl rfl dX10_keepState_5 ?_
  rcases hk9 : kf (kn).toNat with _ | y0
  · refine sc_qldN S hK hV hk1 (by omega) hk9 dX10_keepState_8 ?_
    refine lv_ifnonnullN hx_ hb_ dX10_keepState_9 ?_
    refine lv_aload_n hx_ hb_ dX10_keepState_12 rfl (lv_at hl 0 rfl) ?_
    refine sc_get (ci := 8) (C := RX10) (T := TX10) (n := 11) S hK hV inX10_ hc0 rfl 2 (by decide) (S.2.2.2.2 _ (List.mem_of_getElem? (i := 1) rfl)) rfl rfl dX10_keepState_13 ?_
    refine lv_aload_n hx_ hb_ dX10_keepState_16 rfl (lv_at hl 0 rfl) ?_
    refine sc_get (ci := 8) (C := RX10) (T := TX10) (n := 11) S hK hV inX10_ hc0 rfl 3 (by decide) (S.2.2.2.2 _ (List.mem_of_getElem? (i := 2) rfl)) rfl rfl dX10_keepState_17 ?_
    refine sc_newo (ci := 4) (C := RX6) (T := TX6) (n := 8) (fs := [.null, .null, .null, .null, .null, .null, .null, .int (sI 0)]) S hK hV inX6_ tyX6_ok (S.2.2.2.2 _ (List.mem_of_getElem? (i := 3) rfl)) (S.2.2.2.2 _ (List.mem_of_getElem? (i := 4) rfl)) (S.2.2.2.2 _ (List.mem_of_getElem? (i := 5) rfl)) rfl (fun j hj => by rcases (show j = 0 ∨ j = 1 ∨ j = 2 ∨ j = 3 ∨ j = 4 ∨ j = 5 ∨ j = 6 ∨ j = 7 by omega) with rfl | rfl | rfl | rfl | rfl | rfl | rfl | rfl <;> rfl) ⟨by decide, by decide⟩ dX10_keepState_20 (fun M1 H locs hM1 hV => ?_)
    have hc2 : M1 N = some (sObj 4 [.null, .null, .null, .null, .null, .null, .null, .int (sI 0)]) := (congrFun hM1 N).trans (va_up_self M N _)
    refine lv_dup hx_ hb_ dX10_keepState_23 rfl ?_
    refine sk_I E hV (As := []) (rest := [.ref N, .int (sI kn), .ref (c + 31)]) (kX6_init l_ G b_ M1 (N + 1) N 0 hc2 (rfl)) (cwI 0 S.2.2.2.2 gX10_keepState_X6_init rfl rfl rfl (S.2.2.2.2 _ (List.mem_of_getElem? (i := 5) rfl)) (S.2.2.2.2 _ (List.mem_of_getElem? (i := 12) rfl)) (S.2.2.2.2 _ (List.mem_of_getElem? (i := 13) rfl)) rfl (by decide +kernel) ⟨Nat.le_of_ble_eq_true rfl, Nat.le_of_ble_eq_true rfl⟩) rfl rfl hl.1 (Nat.le_of_ble_eq_true rfl) dX10_keepState_24 (c1 := 15) (s1 := 2829) ⟨⟨rfl, rfl⟩, by decide, by decide⟩ (fun M3 N4 H locs hp5 hV => ?_)
    obtain ⟨hN7, hc8, hf9⟩ := hp5
    subst hN7
    have hc10 : M3 (c + 31) = some (sArS G 15 kf) := ((hf9 (c + 31) (by omega)).trans ((congrFun hM1 (c + 31)).trans (va_up_ne M _ (by omega)))).trans hk1
    refine sc_qst S hK hV hc10 (by omega) ((hc8).1) rfl dX10_keepState_27 (fun M11 H locs hM11 hV => ?_)
    have hc12 : M11 (c + 31) = some (sArS G 15 (va_up kf (kn).toNat (some N))) := (congrFun hM11 (c + 31)).trans (va_up_self M3 (c + 31) _)
    refine lv_aload_n hx_ hb_ dX10_keepState_28 rfl (lv_at hl 0 rfl) ?_
    have hc13 : M11 c = some (xO c kn ch) := ((((congrFun hM11 c).trans (va_up_ne M3 _ (by omega))).trans (hf9 c (by omega))).trans ((congrFun hM1 c).trans (va_up_ne M _ (by omega)))).trans hc0
    refine sc_get (ci := 8) (C := RX10) (T := TX10) (n := 11) S hK hV inX10_ hc13 rfl 2 (by decide) (S.2.2.2.2 _ (List.mem_of_getElem? (i := 1) rfl)) rfl rfl dX10_keepState_29 ?_
    refine lv_aload_n hx_ hb_ dX10_keepState_32 rfl (lv_at hl 0 rfl) ?_
    refine sc_get (ci := 8) (C := RX10) (T := TX10) (n := 11) S hK hV inX10_ hc13 rfl 3 (by decide) (S.2.2.2.2 _ (List.mem_of_getElem? (i := 2) rfl)) rfl rfl dX10_keepState_33 ?_
    refine sc_qldR S hK hV hc12 (by omega) (y := N) (va_up_self kf _ _) dX10_keepState_36 ?_
    refine lv_aload_n hx_ hb_ dX10_keepState_37 rfl (lv_at hl 0 rfl) ?_
    refine sc_get (ci := 8) (C := RX10) (T := TX10) (n := 11) S hK hV inX10_ hc13 rfl 0 (by decide) (S.2.2.2.2 _ (List.mem_of_getElem? (i := 6) rfl)) rfl rfl dX10_keepState_38 ?_
    have hc14 : stC G M11 N f0 := hc8.fr (fun x q8 q9 => (congrFun hM11 x).trans (va_up_ne M3 _ (by omega)))
    have hc15 : stC G M11 (c + 1) f := hst.fr (fun x q8 q9 => (((congrFun hM11 x).trans (va_up_ne M3 _ (by omega))).trans (hf9 x (by omega))).trans ((congrFun hM1 x).trans (va_up_ne M _ (by omega))))
    refine sk_Vv E hV (As := [.ref (c + 1)]) (rest := []) (kX6_copyFrom l_ G b_ M11 (N + 15) N f0 (c + 1) f hc14 hc15 (by omega) (by omega)) (cwV 1 S.2.2.2.2 gX10_keepState_X6_copyFrom rfl rfl rfl (by decide +kernel) ⟨Nat.le_of_ble_eq_true rfl, Nat.le_of_ble_eq_true rfl⟩) (ci := 4) (hc14).1 rfl rfl rfl hl.1 (Nat.le_of_ble_eq_true rfl) dX10_keepState_41 (c1 := 15) (s1 := 2829) ⟨⟨rfl, rfl⟩, by decide, by decide⟩ (fun M16 N17 H locs hp18 hV => ?_)
    obtain ⟨hN20, hc21, hf22⟩ := hp18
    rw [hN20] at hV
    refine lv_aload_n hx_ hb_ dX10_keepState_44 rfl (lv_at hl 0 rfl) ?_
    refine lv_aload_n hx_ hb_ dX10_keepState_45 rfl (lv_at hl 0 rfl) ?_
    have hc23 : M16 c = some (xO c kn ch) := (hf22 c (by omega)).trans hc13
    refine sc_get (ci := 8) (C := RX10) (T := TX10) (n := 11) S hK hV inX10_ hc23 rfl 3 (by decide) (S.2.2.2.2 _ (List.mem_of_getElem? (i := 2) rfl)) rfl rfl dX10_keepState_46 ?_
    refine si_bipush S dX10_keepState_49 (by decide) ?_
    refine sb_ne (tgt := 58) S dX10_keepState_51 (by decide) (by omega) (fun c24 => ?_) (fun c24 => ?_)
    · refine lv_aload_n hx_ hb_ dX10_keepState_58 rfl (lv_at hl 0 rfl) ?_
      refine sc_get (ci := 8) (C := RX10) (T := TX10) (n := 11) S hK hV inX10_ hc23 rfl 3 (by decide) (S.2.2.2.2 _ (List.mem_of_getElem? (i := 2) rfl)) rfl rfl dX10_keepState_59 ?_
      refine si_const S dX10_keepState_62 ?_
      refine si_add S dX10_keepState_63 ?_
      refine sc_put (ci := 8) (C := RX10) (T := TX10) (n := 11) S hK hV inX10_ tyX10_ok nmX10 hc23 rfl 3 (by decide) (S.2.2.2.2 _ (List.mem_of_getElem? (i := 2) rfl)) rfl rfl rfl rfl (Nat.le_of_ble_eq_true rfl) dX10_keepState_64 (fs1 := [.ref (c + 1), .ref (c + 16), .ref (c + 31), .int (sI (kn + 1)), .int (sI ch), .ref (c + 32), .ref (c + 34), .ref (c + 38), .ref (c + 48), .ref (c + 54), .ref (c + 57)]) rfl (fun M25 H locs hM25 hV => ?_)
      have hc26 : M25 c = some (xO c (kn + 1) ch) := (congrFun hM25 c).trans (va_up_self M16 c _)
      refine lv_aload_n hx_ hb_ dX10_keepState_67 rfl (lv_at hl 0 rfl) ?_
      refine si_bipush S dX10_keepState_68 (by decide) ?_
      refine lv_aload_n hx_ hb_ dX10_keepState_70 rfl (lv_at hl 0 rfl) ?_
      refine sc_get (ci := 8) (C := RX10) (T := TX10) (n := 11) S hK hV inX10_ hc26 rfl 4 (by decide) (S.2.2.2.2 _ (List.mem_of_getElem? (i := 7) rfl)) rfl rfl dX10_keepState_71 ?_
      refine si_const S dX10_keepState_74 ?_
      refine si_add S dX10_keepState_75 ?_
      refine si_min S hl.1 (S.2.2.2.2 _ (List.mem_of_getElem? (i := 8) rfl)) (S.2.2.2.2 _ (List.mem_of_getElem? (i := 9) rfl)) (S.2.2.2.2 _ (List.mem_of_getElem? (i := 10) rfl)) (S.2.2.2.2 _ (List.mem_of_getElem? (i := 11) rfl)) ⟨by decide, Nat.le_of_ble_eq_true rfl, by decide, by decide⟩ (by omega) dX10_keepState_76 ?_
      rw [show min 15 (ch + 1) = chn ch from by unfold chn; split <;> omega]
      refine sc_put (ci := 8) (C := RX10) (T := TX10) (n := 11) S hK hV inX10_ tyX10_ok nmX10 hc26 rfl 4 (by decide) (S.2.2.2.2 _ (List.mem_of_getElem? (i := 7) rfl)) rfl rfl rfl rfl (Nat.le_of_ble_eq_true rfl) dX10_keepState_79 (fs1 := [.ref (c + 1), .ref (c + 16), .ref (c + 31), .int (sI (kn + 1)), .int (sI (chn ch)), .ref (c + 32), .ref (c + 34), .ref (c + 38), .ref (c + 48), .ref (c + 54), .ref (c + 57)]) rfl (fun M27 H locs hM27 hV => ?_)
      have hc28 : M27 c = some (xO c (kn + 1) (chn ch)) := (congrFun hM27 c).trans (va_up_self M25 c _)
      have hc29 : M27 (c + 31) = some (sArS G 15 (va_up kf (kn).toNat (some N))) := ((((congrFun hM27 (c + 31)).trans (va_up_ne M25 _ (by omega))).trans ((congrFun hM25 (c + 31)).trans (va_up_ne M16 _ (by omega)))).trans (hf22 (c + 31) (by omega))).trans hc12
      have hc30 : stC G M27 N f := hc21.fr (fun x q8 q9 => ((congrFun hM27 x).trans (va_up_ne M25 _ (by omega))).trans ((congrFun hM25 x).trans (va_up_ne M16 _ (by omega))))
      exact sr_v E hQ dX10_keepState_82 ⟨Nat.le_of_ble_eq_true rfl, Nat.le_of_ble_eq_true rfl⟩ hV (⟨kn + 1, by omega, hc28, kp_put hk2 hk3 hk4 hk5 hc29 (va_up_self kf _ _) (fun i q => va_up_ne kf _ q) hkN hc30 (fun i z i1 i2 i3 => by obtain ⟨-, g9, h9⟩ := hk3 i z i1 i3; have := hlt9 z g9 h9; omega) (fun x q1 q2 => ((((((congrFun hM27 x).trans (va_up_ne M25 _ (by omega))).trans ((congrFun hM25 x).trans (va_up_ne M16 _ (by omega)))).trans (hf22 x (by omega))).trans ((congrFun hM11 x).trans (va_up_ne M3 _ (by omega)))).trans (hf9 x (by omega))).trans ((congrFun hM1 x).trans (va_up_ne M _ (by omega)))) (by omega), fun x q0 q1 q2 => ((((((congrFun hM27 x).trans (va_up_ne M25 _ (by omega))).trans ((congrFun hM25 x).trans (va_up_ne M16 _ (by omega)))).trans (hf22 x (by omega))).trans ((congrFun hM11 x).trans (va_up_ne M3 _ (by omega)))).trans (hf9 x (by omega))).trans ((congrFun hM1 x).trans (va_up_ne M _ (by omega)))⟩)
    · refine si_const S dX10_keepState_54 ?_
      refine lv_goto (tgt := 64) hx_ hb_ dX10_keepState_55 (by decide) ?_
      refine sc_put (ci := 8) (C := RX10) (T := TX10) (n := 11) S hK hV inX10_ tyX10_ok nmX10 hc23 rfl 3 (by decide) (S.2.2.2.2 _ (List.mem_of_getElem? (i := 2) rfl)) rfl rfl rfl rfl (Nat.le_of_ble_eq_true rfl) dX10_keepState_64 (fs1 := [.ref (c + 1), .ref (c + 16), .ref (c + 31), .int (sI 0), .int (sI ch), .ref (c + 32), .ref (c + 34), .ref (c + 38), .ref (c + 48), .ref (c + 54), .ref (c + 57)]) rfl (fun M31 H locs hM31 hV => ?_)
      have hc32 : M31 c = some (xO c 0 ch) := (congrFun hM31 c).trans (va_up_self M16 c _)
      refine lv_aload_n hx_ hb_ dX10_keepState_67 rfl (lv_at hl 0 rfl) ?_
      refine si_bipush S dX10_keepState_68 (by decide) ?_
      refine lv_aload_n hx_ hb_ dX10_keepState_70 rfl (lv_at hl 0 rfl) ?_
      refine sc_get (ci := 8) (C := RX10) (T := TX10) (n := 11) S hK hV inX10_ hc32 rfl 4 (by decide) (S.2.2.2.2 _ (List.mem_of_getElem? (i := 7) rfl)) rfl rfl dX10_keepState_71 ?_
      refine si_const S dX10_keepState_74 ?_
      refine si_add S dX10_keepState_75 ?_
      refine si_min S hl.1 (S.2.2.2.2 _ (List.mem_of_getElem? (i := 8) rfl)) (S.2.2.2.2 _ (List.mem_of_getElem? (i := 9) rfl)) (S.2.2.2.2 _ (List.mem_of_getElem? (i := 10) rfl)) (S.2.2.2.2 _ (List.mem_of_getElem? (i := 11) rfl)) ⟨by decide, Nat.le_of_ble_eq_true rfl, by decide, by decide⟩ (by omega) dX10_keepState_76 ?_
      rw [show min 15 (ch + 1) = chn ch from by unfold chn; split <;> omega]
      refine sc_put (ci := 8) (C := RX10) (T := TX10) (n := 11) S hK hV inX10_ tyX10_ok nmX10 hc32 rfl 4 (by decide) (S.2.2.2.2 _ (List.mem_of_getElem? (i := 7) rfl)) rfl rfl rfl rfl (Nat.le_of_ble_eq_true rfl) dX10_keepState_79 (fs1 := [.ref (c + 1), .ref (c + 16), .ref (c + 31), .int (sI 0), .int (sI (chn ch)), .ref (c + 32), .ref (c + 34), .ref (c + 38), .ref (c + 48), .ref (c + 54), .ref (c + 57)]) rfl (fun M33 H locs hM33 hV => ?_)
      have hc34 : M33 c = some (xO c 0 (chn ch)) := (congrFun hM33 c).trans (va_up_self M31 c _)
      have hc35 : M33 (c + 31) = some (sArS G 15 (va_up kf (kn).toNat (some N))) := ((((congrFun hM33 (c + 31)).trans (va_up_ne M31 _ (by omega))).trans ((congrFun hM31 (c + 31)).trans (va_up_ne M16 _ (by omega)))).trans (hf22 (c + 31) (by omega))).trans hc12
      have hc36 : stC G M33 N f := hc21.fr (fun x q8 q9 => ((congrFun hM33 x).trans (va_up_ne M31 _ (by omega))).trans ((congrFun hM31 x).trans (va_up_ne M16 _ (by omega))))
      exact sr_v E hQ dX10_keepState_82 ⟨Nat.le_of_ble_eq_true rfl, Nat.le_of_ble_eq_true rfl⟩ hV (⟨0, by omega, hc34, kp_put hk2 hk3 hk4 hk5 hc35 (va_up_self kf _ _) (fun i q => va_up_ne kf _ q) hkN hc36 (fun i z i1 i2 i3 => by obtain ⟨-, g9, h9⟩ := hk3 i z i1 i3; have := hlt9 z g9 h9; omega) (fun x q1 q2 => ((((((congrFun hM33 x).trans (va_up_ne M31 _ (by omega))).trans ((congrFun hM31 x).trans (va_up_ne M16 _ (by omega)))).trans (hf22 x (by omega))).trans ((congrFun hM11 x).trans (va_up_ne M3 _ (by omega)))).trans (hf9 x (by omega))).trans ((congrFun hM1 x).trans (va_up_ne M _ (by omega)))) (by omega), fun x q0 q1 q2 => ((((((congrFun hM33 x).trans (va_up_ne M31 _ (by omega))).trans ((congrFun hM31 x).trans (va_up_ne M16 _ (by omega)))).trans (hf22 x (by omega))).trans ((congrFun hM11 x).trans (va_up_ne M3 _ (by omega)))).trans (hf9 x (by omega))).trans ((congrFun hM1 x).trans (va_up_ne M _ (by omega)))⟩)
  · obtain ⟨hy0, g0, hg0⟩ := hk3 _ y0 (by omega) hk9
    refine sc_qldR S hK hV hk1 (by omega) hk9 dX10_keepState_8 ?_
    refine lv_ifnonnull (tgt := 28) hx_ hb_ dX10_keepState_9 (by decide) ?_
    refine lv_aload_n hx_ hb_ dX10_keepState_28 rfl (lv_at hl 0 rfl) ?_
    refine sc_get (ci := 8) (C := RX10) (T := TX10) (n := 11) S hK hV inX10_ hc0 rfl 2 (by decide) (S.2.2.2.2 _ (List.mem_of_getElem? (i := 1) rfl)) rfl rfl dX10_keepState_29 ?_
    refine lv_aload_n hx_ hb_ dX10_keepState_32 rfl (lv_at hl 0 rfl) ?_
    refine sc_get (ci := 8) (C := RX10) (T := TX10) (n := 11) S hK hV inX10_ hc0 rfl 3 (by decide) (S.2.2.2.2 _ (List.mem_of_getElem? (i := 2) rfl)) rfl rfl dX10_keepState_33 ?_
    refine sc_qldR S hK hV hk1 (by omega) (y := y0) (hk9) dX10_keepState_36 ?_
    refine lv_aload_n hx_ hb_ dX10_keepState_37 rfl (lv_at hl 0 rfl) ?_
    refine sc_get (ci := 8) (C := RX10) (T := TX10) (n := 11) S hK hV inX10_ hc0 rfl 0 (by decide) (S.2.2.2.2 _ (List.mem_of_getElem? (i := 6) rfl)) rfl rfl dX10_keepState_38 ?_
    refine sk_Vv E hV (As := [.ref (c + 1)]) (rest := []) (kX6_copyFrom l_ G b_ M N y0 g0 (c + 1) f hg0 hst (by omega) (by omega)) (cwV 1 S.2.2.2.2 gX10_keepState_X6_copyFrom rfl rfl rfl (by decide +kernel) ⟨Nat.le_of_ble_eq_true rfl, Nat.le_of_ble_eq_true rfl⟩) (ci := 4) (hg0).1 rfl rfl rfl hl.1 (Nat.le_of_ble_eq_true rfl) dX10_keepState_41 (c1 := 0) (s1 := 0) ⟨⟨rfl, rfl⟩, by decide, by decide⟩ (fun M37 N38 H locs hp39 hV => ?_)
    obtain ⟨hN41, hc42, hf43⟩ := hp39
    rw [hN41] at hV
    refine lv_aload_n hx_ hb_ dX10_keepState_44 rfl (lv_at hl 0 rfl) ?_
    refine lv_aload_n hx_ hb_ dX10_keepState_45 rfl (lv_at hl 0 rfl) ?_
    have hc44 : M37 c = some (xO c kn ch) := (hf43 c (by omega)).trans hc0
    refine sc_get (ci := 8) (C := RX10) (T := TX10) (n := 11) S hK hV inX10_ hc44 rfl 3 (by decide) (S.2.2.2.2 _ (List.mem_of_getElem? (i := 2) rfl)) rfl rfl dX10_keepState_46 ?_
    refine si_bipush S dX10_keepState_49 (by decide) ?_
    refine sb_ne (tgt := 58) S dX10_keepState_51 (by decide) (by omega) (fun c45 => ?_) (fun c45 => ?_)
    · refine lv_aload_n hx_ hb_ dX10_keepState_58 rfl (lv_at hl 0 rfl) ?_
      refine sc_get (ci := 8) (C := RX10) (T := TX10) (n := 11) S hK hV inX10_ hc44 rfl 3 (by decide) (S.2.2.2.2 _ (List.mem_of_getElem? (i := 2) rfl)) rfl rfl dX10_keepState_59 ?_
      refine si_const S dX10_keepState_62 ?_
      refine si_add S dX10_keepState_63 ?_
      refine sc_put (ci := 8) (C := RX10) (T := TX10) (n := 11) S hK hV inX10_ tyX10_ok nmX10 hc44 rfl 3 (by decide) (S.2.2.2.2 _ (List.mem_of_getElem? (i := 2) rfl)) rfl rfl rfl rfl (Nat.le_of_ble_eq_true rfl) dX10_keepState_64 (fs1 := [.ref (c + 1), .ref (c + 16), .ref (c + 31), .int (sI (kn + 1)), .int (sI ch), .ref (c + 32), .ref (c + 34), .ref (c + 38), .ref (c + 48), .ref (c + 54), .ref (c + 57)]) rfl (fun M46 H locs hM46 hV => ?_)
      have hc47 : M46 c = some (xO c (kn + 1) ch) := (congrFun hM46 c).trans (va_up_self M37 c _)
      refine lv_aload_n hx_ hb_ dX10_keepState_67 rfl (lv_at hl 0 rfl) ?_
      refine si_bipush S dX10_keepState_68 (by decide) ?_
      refine lv_aload_n hx_ hb_ dX10_keepState_70 rfl (lv_at hl 0 rfl) ?_
      refine sc_get (ci := 8) (C := RX10) (T := TX10) (n := 11) S hK hV inX10_ hc47 rfl 4 (by decide) (S.2.2.2.2 _ (List.mem_of_getElem? (i := 7) rfl)) rfl rfl dX10_keepState_71 ?_
      refine si_const S dX10_keepState_74 ?_
      refine si_add S dX10_keepState_75 ?_
      refine si_min S hl.1 (S.2.2.2.2 _ (List.mem_of_getElem? (i := 8) rfl)) (S.2.2.2.2 _ (List.mem_of_getElem? (i := 9) rfl)) (S.2.2.2.2 _ (List.mem_of_getElem? (i := 10) rfl)) (S.2.2.2.2 _ (List.mem_of_getElem? (i := 11) rfl)) ⟨by decide, Nat.le_of_ble_eq_true rfl, by decide, by decide⟩ (by omega) dX10_keepState_76 ?_
      rw [show min 15 (ch + 1) = chn ch from by unfold chn; split <;> omega]
      refine sc_put (ci := 8) (C := RX10) (T := TX10) (n := 11) S hK hV inX10_ tyX10_ok nmX10 hc47 rfl 4 (by decide) (S.2.2.2.2 _ (List.mem_of_getElem? (i := 7) rfl)) rfl rfl rfl rfl (Nat.le_of_ble_eq_true rfl) dX10_keepState_79 (fs1 := [.ref (c + 1), .ref (c + 16), .ref (c + 31), .int (sI (kn + 1)), .int (sI (chn ch)), .ref (c + 32), .ref (c + 34), .ref (c + 38), .ref (c + 48), .ref (c + 54), .ref (c + 57)]) rfl (fun M48 H locs hM48 hV => ?_)
      have hc49 : M48 c = some (xO c (kn + 1) (chn ch)) := (congrFun hM48 c).trans (va_up_self M46 c _)
      have hc50 : M48 (c + 31) = some (sArS G 15 kf) := ((((congrFun hM48 (c + 31)).trans (va_up_ne M46 _ (by omega))).trans ((congrFun hM46 (c + 31)).trans (va_up_ne M37 _ (by omega)))).trans (hf43 (c + 31) (by omega))).trans hk1
      have hc51 : stC G M48 y0 f := hc42.fr (fun x q8 q9 => ((congrFun hM48 x).trans (va_up_ne M46 _ (by omega))).trans ((congrFun hM46 x).trans (va_up_ne M37 _ (by omega))))
      exact sr_v E hQ dX10_keepState_82 ⟨Nat.le_of_ble_eq_true rfl, Nat.le_of_ble_eq_true rfl⟩ hV (⟨kn + 1, by omega, hc49, kp_put hk2 hk3 hk4 hk5 hc50 hk9 (fun i _ => rfl) hy0 hc51 (fun i z i1 i2 i3 => hk4 _ i y0 z (by omega) i1 (by omega) hk9 i3) (fun x q1 q2 => (((congrFun hM48 x).trans (va_up_ne M46 _ (by omega))).trans ((congrFun hM46 x).trans (va_up_ne M37 _ (by omega)))).trans (hf43 x (by omega))) (by omega), fun x q0 q1 q2 => (((congrFun hM48 x).trans (va_up_ne M46 _ (by omega))).trans ((congrFun hM46 x).trans (va_up_ne M37 _ (by omega)))).trans (hf43 x (by omega))⟩)
    · refine si_const S dX10_keepState_54 ?_
      refine lv_goto (tgt := 64) hx_ hb_ dX10_keepState_55 (by decide) ?_
      refine sc_put (ci := 8) (C := RX10) (T := TX10) (n := 11) S hK hV inX10_ tyX10_ok nmX10 hc44 rfl 3 (by decide) (S.2.2.2.2 _ (List.mem_of_getElem? (i := 2) rfl)) rfl rfl rfl rfl (Nat.le_of_ble_eq_true rfl) dX10_keepState_64 (fs1 := [.ref (c + 1), .ref (c + 16), .ref (c + 31), .int (sI 0), .int (sI ch), .ref (c + 32), .ref (c + 34), .ref (c + 38), .ref (c + 48), .ref (c + 54), .ref (c + 57)]) rfl (fun M52 H locs hM52 hV => ?_)
      have hc53 : M52 c = some (xO c 0 ch) := (congrFun hM52 c).trans (va_up_self M37 c _)
      refine lv_aload_n hx_ hb_ dX10_keepState_67 rfl (lv_at hl 0 rfl) ?_
      refine si_bipush S dX10_keepState_68 (by decide) ?_
      refine lv_aload_n hx_ hb_ dX10_keepState_70 rfl (lv_at hl 0 rfl) ?_
      refine sc_get (ci := 8) (C := RX10) (T := TX10) (n := 11) S hK hV inX10_ hc53 rfl 4 (by decide) (S.2.2.2.2 _ (List.mem_of_getElem? (i := 7) rfl)) rfl rfl dX10_keepState_71 ?_
      refine si_const S dX10_keepState_74 ?_
      refine si_add S dX10_keepState_75 ?_
      refine si_min S hl.1 (S.2.2.2.2 _ (List.mem_of_getElem? (i := 8) rfl)) (S.2.2.2.2 _ (List.mem_of_getElem? (i := 9) rfl)) (S.2.2.2.2 _ (List.mem_of_getElem? (i := 10) rfl)) (S.2.2.2.2 _ (List.mem_of_getElem? (i := 11) rfl)) ⟨by decide, Nat.le_of_ble_eq_true rfl, by decide, by decide⟩ (by omega) dX10_keepState_76 ?_
      rw [show min 15 (ch + 1) = chn ch from by unfold chn; split <;> omega]
      refine sc_put (ci := 8) (C := RX10) (T := TX10) (n := 11) S hK hV inX10_ tyX10_ok nmX10 hc53 rfl 4 (by decide) (S.2.2.2.2 _ (List.mem_of_getElem? (i := 7) rfl)) rfl rfl rfl rfl (Nat.le_of_ble_eq_true rfl) dX10_keepState_79 (fs1 := [.ref (c + 1), .ref (c + 16), .ref (c + 31), .int (sI 0), .int (sI (chn ch)), .ref (c + 32), .ref (c + 34), .ref (c + 38), .ref (c + 48), .ref (c + 54), .ref (c + 57)]) rfl (fun M54 H locs hM54 hV => ?_)
      have hc55 : M54 c = some (xO c 0 (chn ch)) := (congrFun hM54 c).trans (va_up_self M52 c _)
      have hc56 : M54 (c + 31) = some (sArS G 15 kf) := ((((congrFun hM54 (c + 31)).trans (va_up_ne M52 _ (by omega))).trans ((congrFun hM52 (c + 31)).trans (va_up_ne M37 _ (by omega)))).trans (hf43 (c + 31) (by omega))).trans hk1
      have hc57 : stC G M54 y0 f := hc42.fr (fun x q8 q9 => ((congrFun hM54 x).trans (va_up_ne M52 _ (by omega))).trans ((congrFun hM52 x).trans (va_up_ne M37 _ (by omega))))
      exact sr_v E hQ dX10_keepState_82 ⟨Nat.le_of_ble_eq_true rfl, Nat.le_of_ble_eq_true rfl⟩ hV (⟨0, by omega, hc55, kp_put hk2 hk3 hk4 hk5 hc56 hk9 (fun i _ => rfl) hy0 hc57 (fun i z i1 i2 i3 => hk4 _ i y0 z (by omega) i1 (by omega) hk9 i3) (fun x q1 q2 => (((congrFun hM54 x).trans (va_up_ne M52 _ (by omega))).trans ((congrFun hM52 x).trans (va_up_ne M37 _ (by omega)))).trans (hf43 x (by omega))) (by omega), fun x q0 q1 q2 => (((congrFun hM54 x).trans (va_up_ne M52 _ (by omega))).trans ((congrFun hM52 x).trans (va_up_ne M37 _ (by omega)))).trans (hf43 x (by omega))⟩)

abbrev rmX10_undo : Room := { frames := 3, cells := 0, slots := 0, locals := 82 }
set_option maxHeartbeats 4000000 in
set_option maxRecDepth 100000 in
theorem kX10_undo (l_ : Launch) (G : sG) (b_ : Nat) (M : sM) (N : Nat) (c : Nat) (kn ch : Int) (f : sF) (kb : Nat) (fs : Int → sF) (hc0 : M c = some (xO c kn ch)) (hst : stC G M (c + 1) f) (hkp : kpC G M (c + 31) kb kn ch fs) (hokS : ∀ i, 0 ≤ i → i < ch → sOk (fs i)) (hkb : c + 60 ≤ kb) : cI l_ yX10_undo wsX10_undo rmX10_undo G b_ M N [.ref c] (fun z_ M1 N1 => ∃ kn1 : Int, N1 = N ∧ (∀ x : Nat, ¬ (x = c) → ¬ (x = c + 31) → ¬ (c + 1 ≤ x ∧ x < c + 1 + 15) → M1 x = M x) ∧ (((ch = 0) ∧ z_ = -1 ∧ M1 c = some (xO c kn1 ch) ∧ stC G M1 (c + 1) f ∧ kpC G M1 (c + 31) kb kn1 ch fs) ∨ ((1 ≤ ch) ∧ z_ = ch - 1 ∧ M1 c = some (xO c kn1 (ch - 1)) ∧ stC G M1 (c + 1) (fs (ch - 1)) ∧ kpC G M1 (c + 31) kb kn1 (ch - 1) fs))) := by
  refine sE.ofI (cc := cX10_undo) (nL := 2) (ret := (some .int)) (by decide) rfl (Nat.le_of_ble_eq_true rfl) ?_
  intro p_ e_ s_ m_ args_ below_ meth_ c_ ls Q hQ E hl
  have E : sE p_ l_ e_ rmX10_undo s_ m_ args_ below_ meth_ c_ cX10_undo 2 wsX10_undo RX10 "undo" (some .int) G b_ M N := E
  have S := E.1
  have hx_ := S.1
  have hb_ := S.2.1
  have hK := E.2.2.2.2.1
  have hV := E.2.2.2.2.2.2
  have hl : lv_has ls 2 [(0, .ref c)] := hl
  have inX10_ : ∀ w ∈ wsX100, w ∈ wsX10_undo := fun _ h => List.mem_cons_of_mem _ (List.mem_append_left _ (List.mem_append_left _ (List.mem_append_right _ h)))
  have inX6_ : ∀ w ∈ wsX60, w ∈ wsX10_undo := fun _ h => List.mem_cons_of_mem _ (List.mem_append_left _ (List.mem_append_right _ h))
  have inX8_ : ∀ w ∈ wsX80, w ∈ wsX10_undo := fun _ h => List.mem_cons_of_mem _ (List.mem_append_right _ h)
  obtain ⟨kf, hk1, hk2, hk3, hk4, hk5⟩ := hkp
  refine lv_aload_n hx_ hb_ dX10_undo_0 rfl (lv_at hl 0 rfl) ?_
  refine sc_get (ci := 8) (C := RX10) (T := TX10) (n := 11) S hK hV inX10_ hc0 rfl 3 (by decide) (S.2.2.2.2 _ (List.mem_of_getElem? (i := 1) rfl)) rfl rfl dX10_undo_1 ?_
  refine sz_ne (tgt := 12) S dX10_undo_4 (by decide) (by omega) (fun c1 => ?_) (fun c1 => ?_)
  · refine lv_aload_n hx_ hb_ dX10_undo_12 rfl (lv_at hl 0 rfl) ?_
    refine sc_get (ci := 8) (C := RX10) (T := TX10) (n := 11) S hK hV inX10_ hc0 rfl 3 (by decide) (S.2.2.2.2 _ (List.mem_of_getElem? (i := 1) rfl)) rfl rfl dX10_undo_13 ?_
    refine si_const S dX10_undo_16 ?_
    refine si_sub S dX10_undo_17 ?_
    refine lv_istore_n (lv' := [(1, .int (sI (kn - 1))), (0, .ref c)]) hx_ hb_ dX10_undo_18 rfl hl (by decide) rfl (fun ls hl => ?_)
    refine lv_aload_n hx_ hb_ dX10_undo_19 rfl (lv_at hl 1 rfl) ?_
    refine sc_get (ci := 8) (C := RX10) (T := TX10) (n := 11) S hK hV inX10_ hc0 rfl 4 (by decide) (S.2.2.2.2 _ (List.mem_of_getElem? (i := 2) rfl)) rfl rfl dX10_undo_20 ?_
    refine sz_eq (tgt := 35) S dX10_undo_23 (by decide) (by omega) (fun c2 => ?_) (fun c2 => ?_)
    · refine si_const S dX10_undo_35 ?_
      exact sr_i E hQ dX10_undo_36 ⟨Nat.le_of_ble_eq_true rfl, Nat.le_of_ble_eq_true rfl⟩ hV (⟨kn, rfl, fun x q0 q1 q2 => rfl, Or.inl ⟨(by omega), rfl, hc0, hst, ⟨kf, hk1, hk2, hk3, hk4, hk5⟩⟩⟩)
    · refine lv_aload_n hx_ hb_ dX10_undo_26 rfl (lv_at hl 1 rfl) ?_
      refine sc_get (ci := 8) (C := RX10) (T := TX10) (n := 11) S hK hV inX10_ hc0 rfl 2 (by decide) (S.2.2.2.2 _ (List.mem_of_getElem? (i := 3) rfl)) rfl rfl dX10_undo_27 ?_
      refine lv_iload_n hx_ hb_ dX10_undo_30 rfl (lv_at hl 0 rfl) ?_
      obtain ⟨y0, hk9, hg0⟩ := hk5 0 (by omega) (by omega)
      rw [show ((kn + 14 - 0) % 15).toNat = (kn - 1 : Int).toNat by omega] at hk9
      rw [show ch - 1 - 0 = ch - 1 by omega] at hg0
      have hy0 := (hk3 _ y0 (by omega) hk9).1
      refine sc_qldR S hK hV hk1 (by omega) (y := y0) (hk9) dX10_undo_31 ?_
      refine lv_ifnonnull (tgt := 37) hx_ hb_ dX10_undo_32 (by decide) ?_
      refine lv_aload_n hx_ hb_ dX10_undo_37 rfl (lv_at hl 1 rfl) ?_
      refine sc_get (ci := 8) (C := RX10) (T := TX10) (n := 11) S hK hV inX10_ hc0 rfl 0 (by decide) (S.2.2.2.2 _ (List.mem_of_getElem? (i := 4) rfl)) rfl rfl dX10_undo_38 ?_
      refine lv_aload_n hx_ hb_ dX10_undo_41 rfl (lv_at hl 1 rfl) ?_
      refine sc_get (ci := 8) (C := RX10) (T := TX10) (n := 11) S hK hV inX10_ hc0 rfl 2 (by decide) (S.2.2.2.2 _ (List.mem_of_getElem? (i := 3) rfl)) rfl rfl dX10_undo_42 ?_
      refine lv_iload_n hx_ hb_ dX10_undo_45 rfl (lv_at hl 0 rfl) ?_
      refine sc_qldR S hK hV hk1 (by omega) (y := y0) (hk9) dX10_undo_46 ?_
      refine sk_Vv E hV (As := [.ref y0]) (rest := []) (kX6_copyFrom l_ G b_ M N (c + 1) f y0 (fs (ch - 1)) hst hg0 (sOk_N (hokS _ (by omega) (by omega))) (by omega)) (cwV 1 S.2.2.2.2 gX10_undo_X6_copyFrom rfl rfl rfl (by decide +kernel) ⟨Nat.le_of_ble_eq_true rfl, Nat.le_of_ble_eq_true rfl⟩) (ci := 4) (hst).1 rfl rfl rfl hl.1 (Nat.le_of_ble_eq_true rfl) dX10_undo_47 (c1 := 0) (s1 := 0) ⟨⟨rfl, rfl⟩, by decide, by decide⟩ (fun M3 N4 H locs hp5 hV => ?_)
      obtain ⟨hN7, hc8, hf9⟩ := hp5
      rw [hN7] at hV
      refine lv_aload_n hx_ hb_ dX10_undo_50 rfl (lv_at hl 1 rfl) ?_
      refine lv_iload_n hx_ hb_ dX10_undo_51 rfl (lv_at hl 0 rfl) ?_
      have hc10 : M3 c = some (xO c kn ch) := (hf9 c (by omega)).trans hc0
      refine sc_put (ci := 8) (C := RX10) (T := TX10) (n := 11) S hK hV inX10_ tyX10_ok nmX10 hc10 rfl 3 (by decide) (S.2.2.2.2 _ (List.mem_of_getElem? (i := 1) rfl)) rfl rfl rfl rfl (Nat.le_of_ble_eq_true rfl) dX10_undo_52 (fs1 := [.ref (c + 1), .ref (c + 16), .ref (c + 31), .int (sI (kn - 1)), .int (sI ch), .ref (c + 32), .ref (c + 34), .ref (c + 38), .ref (c + 48), .ref (c + 54), .ref (c + 57)]) rfl (fun M11 H locs hM11 hV => ?_)
      have hc12 : M11 c = some (xO c (kn - 1) ch) := (congrFun hM11 c).trans (va_up_self M3 c _)
      refine lv_aload_n hx_ hb_ dX10_undo_55 rfl (lv_at hl 1 rfl) ?_
      refine lv_dup hx_ hb_ dX10_undo_56 rfl ?_
      refine sc_get (ci := 8) (C := RX10) (T := TX10) (n := 11) S hK hV inX10_ hc12 rfl 4 (by decide) (S.2.2.2.2 _ (List.mem_of_getElem? (i := 2) rfl)) rfl rfl dX10_undo_57 ?_
      refine si_const S dX10_undo_60 ?_
      refine si_sub S dX10_undo_61 ?_
      refine sc_put (ci := 8) (C := RX10) (T := TX10) (n := 11) S hK hV inX10_ tyX10_ok nmX10 hc12 rfl 4 (by decide) (S.2.2.2.2 _ (List.mem_of_getElem? (i := 2) rfl)) rfl rfl rfl rfl (Nat.le_of_ble_eq_true rfl) dX10_undo_62 (fs1 := [.ref (c + 1), .ref (c + 16), .ref (c + 31), .int (sI (kn - 1)), .int (sI (ch - 1)), .ref (c + 32), .ref (c + 34), .ref (c + 38), .ref (c + 48), .ref (c + 54), .ref (c + 57)]) rfl (fun M13 H locs hM13 hV => ?_)
      have hc14 : M13 c = some (xO c (kn - 1) (ch - 1)) := (congrFun hM13 c).trans (va_up_self M11 c _)
      refine lv_aload_n hx_ hb_ dX10_undo_65 rfl (lv_at hl 1 rfl) ?_
      refine sc_get (ci := 8) (C := RX10) (T := TX10) (n := 11) S hK hV inX10_ hc14 rfl 4 (by decide) (S.2.2.2.2 _ (List.mem_of_getElem? (i := 2) rfl)) rfl rfl dX10_undo_66 ?_
      have hc15 : M13 (c + 31) = some (sArS G 15 kf) := ((((congrFun hM13 (c + 31)).trans (va_up_ne M11 _ (by omega))).trans ((congrFun hM11 (c + 31)).trans (va_up_ne M3 _ (by omega)))).trans (hf9 (c + 31) (by omega))).trans hk1
      have hc16 : stC G M13 (c + 1) (fs (ch - 1)) := hc8.fr (fun x q8 q9 => ((congrFun hM13 x).trans (va_up_ne M11 _ (by omega))).trans ((congrFun hM11 x).trans (va_up_ne M3 _ (by omega))))
      exact sr_i E hQ dX10_undo_69 ⟨Nat.le_of_ble_eq_true rfl, Nat.le_of_ble_eq_true rfl⟩ hV (⟨kn - 1, rfl, fun x q0 q1 q2 => (((congrFun hM13 x).trans (va_up_ne M11 _ (by omega))).trans ((congrFun hM11 x).trans (va_up_ne M3 _ (by omega)))).trans (hf9 x (by omega)), Or.inr (⟨(by omega), rfl, hc14, hc16, kp_undo hk2 hk3 hk4 hk5 hc15 (fun x q1 => (((congrFun hM13 x).trans (va_up_ne M11 _ (by omega))).trans ((congrFun hM11 x).trans (va_up_ne M3 _ (by omega)))).trans (hf9 x (by omega))) (by omega) (by omega)⟩)⟩)
  · refine si_bipush S dX10_undo_7 (by decide) ?_
    refine lv_goto (tgt := 18) hx_ hb_ dX10_undo_9 (by decide) ?_
    refine lv_istore_n (lv' := [(1, .int (sI 14)), (0, .ref c)]) hx_ hb_ dX10_undo_18 rfl hl (by decide) rfl (fun ls hl => ?_)
    refine lv_aload_n hx_ hb_ dX10_undo_19 rfl (lv_at hl 1 rfl) ?_
    refine sc_get (ci := 8) (C := RX10) (T := TX10) (n := 11) S hK hV inX10_ hc0 rfl 4 (by decide) (S.2.2.2.2 _ (List.mem_of_getElem? (i := 2) rfl)) rfl rfl dX10_undo_20 ?_
    refine sz_eq (tgt := 35) S dX10_undo_23 (by decide) (by omega) (fun c17 => ?_) (fun c17 => ?_)
    · refine si_const S dX10_undo_35 ?_
      exact sr_i E hQ dX10_undo_36 ⟨Nat.le_of_ble_eq_true rfl, Nat.le_of_ble_eq_true rfl⟩ hV (⟨kn, rfl, fun x q0 q1 q2 => rfl, Or.inl ⟨(by omega), rfl, hc0, hst, ⟨kf, hk1, hk2, hk3, hk4, hk5⟩⟩⟩)
    · refine lv_aload_n hx_ hb_ dX10_undo_26 rfl (lv_at hl 1 rfl) ?_
      refine sc_get (ci := 8) (C := RX10) (T := TX10) (n := 11) S hK hV inX10_ hc0 rfl 2 (by decide) (S.2.2.2.2 _ (List.mem_of_getElem? (i := 3) rfl)) rfl rfl dX10_undo_27 ?_
      refine lv_iload_n hx_ hb_ dX10_undo_30 rfl (lv_at hl 0 rfl) ?_
      obtain ⟨y0, hk9, hg0⟩ := hk5 0 (by omega) (by omega)
      rw [show ((kn + 14 - 0) % 15).toNat = (14 : Int).toNat by omega] at hk9
      rw [show ch - 1 - 0 = ch - 1 by omega] at hg0
      have hy0 := (hk3 _ y0 (by omega) hk9).1
      refine sc_qldR S hK hV hk1 (by omega) (y := y0) (hk9) dX10_undo_31 ?_
      refine lv_ifnonnull (tgt := 37) hx_ hb_ dX10_undo_32 (by decide) ?_
      refine lv_aload_n hx_ hb_ dX10_undo_37 rfl (lv_at hl 1 rfl) ?_
      refine sc_get (ci := 8) (C := RX10) (T := TX10) (n := 11) S hK hV inX10_ hc0 rfl 0 (by decide) (S.2.2.2.2 _ (List.mem_of_getElem? (i := 4) rfl)) rfl rfl dX10_undo_38 ?_
      refine lv_aload_n hx_ hb_ dX10_undo_41 rfl (lv_at hl 1 rfl) ?_
      refine sc_get (ci := 8) (C := RX10) (T := TX10) (n := 11) S hK hV inX10_ hc0 rfl 2 (by decide) (S.2.2.2.2 _ (List.mem_of_getElem? (i := 3) rfl)) rfl rfl dX10_undo_42 ?_
      refine lv_iload_n hx_ hb_ dX10_undo_45 rfl (lv_at hl 0 rfl) ?_
      refine sc_qldR S hK hV hk1 (by omega) (y := y0) (hk9) dX10_undo_46 ?_
      refine sk_Vv E hV (As := [.ref y0]) (rest := []) (kX6_copyFrom l_ G b_ M N (c + 1) f y0 (fs (ch - 1)) hst hg0 (sOk_N (hokS _ (by omega) (by omega))) (by omega)) (cwV 1 S.2.2.2.2 gX10_undo_X6_copyFrom rfl rfl rfl (by decide +kernel) ⟨Nat.le_of_ble_eq_true rfl, Nat.le_of_ble_eq_true rfl⟩) (ci := 4) (hst).1 rfl rfl rfl hl.1 (Nat.le_of_ble_eq_true rfl) dX10_undo_47 (c1 := 0) (s1 := 0) ⟨⟨rfl, rfl⟩, by decide, by decide⟩ (fun M18 N19 H locs hp20 hV => ?_)
      obtain ⟨hN22, hc23, hf24⟩ := hp20
      rw [hN22] at hV
      refine lv_aload_n hx_ hb_ dX10_undo_50 rfl (lv_at hl 1 rfl) ?_
      refine lv_iload_n hx_ hb_ dX10_undo_51 rfl (lv_at hl 0 rfl) ?_
      have hc25 : M18 c = some (xO c kn ch) := (hf24 c (by omega)).trans hc0
      refine sc_put (ci := 8) (C := RX10) (T := TX10) (n := 11) S hK hV inX10_ tyX10_ok nmX10 hc25 rfl 3 (by decide) (S.2.2.2.2 _ (List.mem_of_getElem? (i := 1) rfl)) rfl rfl rfl rfl (Nat.le_of_ble_eq_true rfl) dX10_undo_52 (fs1 := [.ref (c + 1), .ref (c + 16), .ref (c + 31), .int (sI 14), .int (sI ch), .ref (c + 32), .ref (c + 34), .ref (c + 38), .ref (c + 48), .ref (c + 54), .ref (c + 57)]) rfl (fun M26 H locs hM26 hV => ?_)
      have hc27 : M26 c = some (xO c 14 ch) := (congrFun hM26 c).trans (va_up_self M18 c _)
      refine lv_aload_n hx_ hb_ dX10_undo_55 rfl (lv_at hl 1 rfl) ?_
      refine lv_dup hx_ hb_ dX10_undo_56 rfl ?_
      refine sc_get (ci := 8) (C := RX10) (T := TX10) (n := 11) S hK hV inX10_ hc27 rfl 4 (by decide) (S.2.2.2.2 _ (List.mem_of_getElem? (i := 2) rfl)) rfl rfl dX10_undo_57 ?_
      refine si_const S dX10_undo_60 ?_
      refine si_sub S dX10_undo_61 ?_
      refine sc_put (ci := 8) (C := RX10) (T := TX10) (n := 11) S hK hV inX10_ tyX10_ok nmX10 hc27 rfl 4 (by decide) (S.2.2.2.2 _ (List.mem_of_getElem? (i := 2) rfl)) rfl rfl rfl rfl (Nat.le_of_ble_eq_true rfl) dX10_undo_62 (fs1 := [.ref (c + 1), .ref (c + 16), .ref (c + 31), .int (sI 14), .int (sI (ch - 1)), .ref (c + 32), .ref (c + 34), .ref (c + 38), .ref (c + 48), .ref (c + 54), .ref (c + 57)]) rfl (fun M28 H locs hM28 hV => ?_)
      have hc29 : M28 c = some (xO c 14 (ch - 1)) := (congrFun hM28 c).trans (va_up_self M26 c _)
      refine lv_aload_n hx_ hb_ dX10_undo_65 rfl (lv_at hl 1 rfl) ?_
      refine sc_get (ci := 8) (C := RX10) (T := TX10) (n := 11) S hK hV inX10_ hc29 rfl 4 (by decide) (S.2.2.2.2 _ (List.mem_of_getElem? (i := 2) rfl)) rfl rfl dX10_undo_66 ?_
      have hc30 : M28 (c + 31) = some (sArS G 15 kf) := ((((congrFun hM28 (c + 31)).trans (va_up_ne M26 _ (by omega))).trans ((congrFun hM26 (c + 31)).trans (va_up_ne M18 _ (by omega)))).trans (hf24 (c + 31) (by omega))).trans hk1
      have hc31 : stC G M28 (c + 1) (fs (ch - 1)) := hc23.fr (fun x q8 q9 => ((congrFun hM28 x).trans (va_up_ne M26 _ (by omega))).trans ((congrFun hM26 x).trans (va_up_ne M18 _ (by omega))))
      exact sr_i E hQ dX10_undo_69 ⟨Nat.le_of_ble_eq_true rfl, Nat.le_of_ble_eq_true rfl⟩ hV (⟨14, rfl, fun x q0 q1 q2 => (((congrFun hM28 x).trans (va_up_ne M26 _ (by omega))).trans ((congrFun hM26 x).trans (va_up_ne M18 _ (by omega)))).trans (hf24 x (by omega)), Or.inr (⟨(by omega), rfl, hc29, hc31, kp_undo hk2 hk3 hk4 hk5 hc30 (fun x q1 => (((congrFun hM28 x).trans (va_up_ne M26 _ (by omega))).trans ((congrFun hM26 x).trans (va_up_ne M18 _ (by omega)))).trans (hf24 x (by omega))) (by omega) (by omega)⟩)⟩)

abbrev rmX10_needStone : Room := { frames := 6, cells := 1, slots := 6, locals := 100 }
set_option maxHeartbeats 4000000 in
set_option maxRecDepth 100000 in
theorem kX10_needStone (l_ : Launch) (G : sG) (b_ : Nat) (M : sM) (N : Nat) (c : Nat) (kn ch : Int) (f : sF) (s : Int) (hc0 : M c = some (xO c kn ch)) (hst : stC G M (c + 1) f) (hlt : l_.stackTraces = false) (hok : sOk f) (hs : sR s) : xcV l_ yX10_needStone wsX10_needStone rmX10_needStone G b_ M N [.ref c, .int (sI s)] (fun M1 N1 => N1 = N ∧ (∀ x : Nat, M1 x = M x) ∧ (((0 ≤ s ∧ s < f 568)))) (fun E_ M1 N1 => N ≤ N1 ∧ (∀ x : Nat, M1 x = M x) ∧ (((¬ (0 ≤ s ∧ s < f 568)) ∧ E_ = "java/lang/IndexOutOfBoundsException"))) := by
  refine xcE.ofV (cc := cX10_needStone) (nL := 2) (ret := none) (by decide) rfl (Nat.le_of_ble_eq_true rfl) ?_
  intro p_ e_ s_ m_ args_ below_ meth_ c_ ls Q hQ E hF_ hxt_ hl
  have E : sE p_ l_ e_ rmX10_needStone s_ m_ args_ below_ meth_ c_ cX10_needStone 2 wsX10_needStone RX10 "needStone" none G b_ M N := E
  have S := E.1
  have hx_ := S.1
  have hb_ := S.2.1
  have hK := E.2.2.2.2.1
  have hV := E.2.2.2.2.2.2
  have hl : lv_has ls 2 [(0, .ref c), (1, .int (sI s))] := hl
  have inX10_ : ∀ w ∈ wsX100, w ∈ wsX10_needStone := fun _ h => List.mem_cons_of_mem _ (List.mem_append_left _ (List.mem_append_left _ (List.mem_append_left _ (List.mem_append_right _ h))))
  have inX6_ : ∀ w ∈ wsX60, w ∈ wsX10_needStone := fun _ h => List.mem_cons_of_mem _ (List.mem_append_left _ (List.mem_append_left _ (List.mem_append_right _ h)))
  have inX8_ : ∀ w ∈ wsX80, w ∈ wsX10_needStone := fun _ h => List.mem_cons_of_mem _ (List.mem_append_left _ (List.mem_append_right _ h))
  have hbN : b_ ≤ N := by have h1 := hV.1.1; have h2 := hV.2.2; omega
  have kn0 := sOk_N hok
  refine lv_aload_n hx_ hb_ dX10_needStone_0 rfl (lv_at hl 0 rfl) ?_
  refine sc_get (ci := 8) (C := RX10) (T := TX10) (n := 11) S hK hV inX10_ hc0 rfl 0 (by decide) (S.2.2.2.2 _ (List.mem_of_getElem? (i := 3) rfl)) rfl rfl dX10_needStone_1 ?_
  refine sc_getN (ci := 4) (C := RX6) (T := TX6) (n := 8) S hK hV inX6_ (hst).1 rfl 0 (by decide) (E.2.2.2.2.2.1.1.2.1 _ (List.mem_of_getElem? (i := 3) rfl)) rfl rfl dX10_needStone_4 ?_
  refine lv_iload_n hx_ hb_ dX10_needStone_7 rfl (lv_at hl 1 rfl) ?_
  refine sk_VP E hV (As := [.int (sI s)]) (rest := []) (kTh l_ G b_ M N (c + 2) 7 (f 568) 70 (tvS f) s ((hst).2.1) (by omega)) (cwV 1 S.2.2.2.2 gX10_needStone_X8_has rfl rfl rfl (by decide +kernel) ⟨Nat.le_of_ble_eq_true rfl, Nat.le_of_ble_eq_true rfl⟩) (ci := 6) ((hst).2.1).1 rfl rfl rfl hl.1 (Nat.le_of_ble_eq_true rfl) dX10_needStone_8 (c1 := 0) (s1 := 0) ⟨⟨rfl, rfl⟩, by decide, by decide⟩ (fun H locs hV => ?_)
  refine sq_ne (tgt := 25) S dX10_needStone_11 (by decide) (fun c1 => ?_) (fun c1 => ?_)
  · exact xr_v E hQ dX10_needStone_25 ⟨Nat.le_of_ble_eq_true rfl, Nat.le_of_ble_eq_true rfl⟩ hV (⟨rfl, fun x  => rfl, (by omega)⟩)
  · exact xt_W (own := RX10) (rest := []) E hF_ hxt_ hQ hlt (ik := 173) (is := 380) (ic := 177) (cls := "java/lang/IndexOutOfBoundsException") (text := "no such stone") (by decide +kernel) xg_IO (List.mem_of_getElem? (i := 1) rfl) (List.mem_of_getElem? (i := 2) rfl) (fun _ h => List.mem_cons_of_mem _ (List.mem_append_right _ h)) (List.mem_of_getElem? (i := 3) rfl) hl.1 dX10_needStone_14 dX10_needStone_17 dX10_needStone_18 dX10_needStone_21 dX10_needStone_24 ⟨Nat.le_of_ble_eq_true rfl, Nat.le_of_ble_eq_true rfl, Nat.le_of_ble_eq_true rfl, Nat.le_of_ble_eq_true rfl⟩ ⟨Nat.le_of_ble_eq_true rfl, Nat.le_of_ble_eq_true rfl⟩ hV (fun N9 h9 => ⟨by omega, fun x  => rfl, ⟨(by first | omega | assumption), rfl⟩⟩)

abbrev rmX10_needTwoStones : Room := { frames := 7, cells := 3, slots := 18, locals := 121 }
set_option maxHeartbeats 4000000 in
set_option maxRecDepth 100000 in
theorem kX10_needTwoStones (l_ : Launch) (G : sG) (b_ : Nat) (M : sM) (N : Nat) (c : Nat) (kn ch : Int) (f : sF) (s o : Int) (hc0 : M c = some (xO c kn ch)) (hst : stC G M (c + 1) f) (hlt : l_.stackTraces = false) (hok : sOk f) (hs : sR s) (ho : sR o) : xcV l_ yX10_needTwoStones wsX10_needTwoStones rmX10_needTwoStones G b_ M N [.ref c, .int (sI s), .int (sI o)] (fun M1 N1 => N1 = N ∧ (∀ x : Nat, M1 x = M x) ∧ ((((0 ≤ s ∧ s < f 568 ∧ 0 ≤ o ∧ o < f 568) ∧ s ≠ o)))) (fun E_ M1 N1 => N ≤ N1 ∧ (∀ x : Nat, M1 x = M x) ∧ (((¬ (0 ≤ s ∧ s < f 568 ∧ 0 ≤ o ∧ o < f 568)) ∧ E_ = "java/lang/IndexOutOfBoundsException") ∨ (((0 ≤ s ∧ s < f 568 ∧ 0 ≤ o ∧ o < f 568) ∧ s = o) ∧ E_ = "java/lang/IllegalArgumentException"))) := by
  refine xcE.ofV (cc := cX10_needTwoStones) (nL := 3) (ret := none) (by decide) rfl (Nat.le_of_ble_eq_true rfl) ?_
  intro p_ e_ s_ m_ args_ below_ meth_ c_ ls Q hQ E hF_ hxt_ hl
  have E : sE p_ l_ e_ rmX10_needTwoStones s_ m_ args_ below_ meth_ c_ cX10_needTwoStones 3 wsX10_needTwoStones RX10 "needTwoStones" none G b_ M N := E
  have S := E.1
  have hx_ := S.1
  have hb_ := S.2.1
  have hK := E.2.2.2.2.1
  have hV := E.2.2.2.2.2.2
  have hl : lv_has ls 3 [(0, .ref c), (1, .int (sI s)), (2, .int (sI o))] := hl
  have inX10_ : ∀ w ∈ wsX100, w ∈ wsX10_needTwoStones := fun _ h => List.mem_cons_of_mem _ (List.mem_append_left _ (List.mem_append_left _ (List.mem_append_left _ (List.mem_append_left _ (List.mem_append_right _ h)))))
  have inX6_ : ∀ w ∈ wsX60, w ∈ wsX10_needTwoStones := fun _ h => List.mem_cons_of_mem _ (List.mem_append_left _ (List.mem_append_left _ (List.mem_append_left _ (List.mem_append_right _ h))))
  have inX8_ : ∀ w ∈ wsX80, w ∈ wsX10_needTwoStones := fun _ h => List.mem_cons_of_mem _ (List.mem_append_left _ (List.mem_append_left _ (List.mem_append_right _ h)))
  have hbN : b_ ≤ N := by have h1 := hV.1.1; have h2 := hV.2.2; omega
  have kn0 := sOk_N hok
  refine lv_aload_n hx_ hb_ dX10_needTwoStones_0 rfl (lv_at hl 0 rfl) ?_
  refine lv_iload_n hx_ hb_ dX10_needTwoStones_1 rfl (lv_at hl 1 rfl) ?_
  refine xk_Vv E hF_ hxt_ hQ hV (As := [.int (sI s)]) (rest := []) (kX10_needStone l_ G b_ M N c kn ch f s hc0 hst (by omega) (by omega) (by omega)) (cwV 1 S.2.2.2.2 gX10_needTwoStones_X10_needStone rfl rfl rfl (by decide +kernel) ⟨Nat.le_of_ble_eq_true rfl, Nat.le_of_ble_eq_true rfl⟩) (ci := 8) hc0 rfl rfl rfl hl.1 (Nat.le_of_ble_eq_true rfl) dX10_needTwoStones_2 (c1 := 1) (s1 := 6) ⟨⟨rfl, rfl⟩, by decide, by decide⟩ ⟨Nat.le_of_ble_eq_true rfl, Nat.le_of_ble_eq_true rfl⟩ ?_ (fun M1 N2 H locs hp3 hV => ?_)
  · rintro E9 M9 N9 ⟨hN5, hf6, hq7⟩
    rcases hq7 with ⟨c8, ee9⟩
    · exact ⟨by omega, fun x  => hf6 x , Or.inl ⟨(by first | exact c8 | omega), ee9⟩⟩
  obtain ⟨hN10, hf11, hq12⟩ := hp3
  rw [hN10] at hV
  rcases hq12 with c13
  · refine lv_aload_n hx_ hb_ dX10_needTwoStones_5 rfl (lv_at hl 0 rfl) ?_
    refine lv_iload_n hx_ hb_ dX10_needTwoStones_6 rfl (lv_at hl 2 rfl) ?_
    have hc14 : M1 c = some (xO c kn ch) := (hf11 c ).trans hc0
    have hc15 : stC G M1 (c + 1) f := hst.fr (fun x q8 q9 => hf11 x )
    refine xk_Vv E hF_ hxt_ hQ hV (As := [.int (sI o)]) (rest := []) (kX10_needStone l_ G b_ M1 N c kn ch f o hc14 hc15 (by omega) (by omega) (by omega)) (cwV 1 S.2.2.2.2 gX10_needTwoStones_X10_needStone rfl rfl rfl (by decide +kernel) ⟨Nat.le_of_ble_eq_true rfl, Nat.le_of_ble_eq_true rfl⟩) (ci := 8) hc14 rfl rfl rfl hl.1 (Nat.le_of_ble_eq_true rfl) dX10_needTwoStones_7 (c1 := 2) (s1 := 12) ⟨⟨rfl, rfl⟩, by decide, by decide⟩ ⟨Nat.le_of_ble_eq_true rfl, Nat.le_of_ble_eq_true rfl⟩ ?_ (fun M16 N17 H locs hp18 hV => ?_)
    · rintro E9 M9 N9 ⟨hN20, hf21, hq22⟩
      rcases hq22 with ⟨c23, ee24⟩
      · exact ⟨by omega, fun x  => (hf21 x ).trans (hf11 x ), Or.inl ⟨(by first | exact c23 | omega), ee24⟩⟩
    obtain ⟨hN25, hf26, hq27⟩ := hp18
    rw [hN25] at hV
    rcases hq27 with c28
    · refine lv_iload_n hx_ hb_ dX10_needTwoStones_10 rfl (lv_at hl 1 rfl) ?_
      refine lv_iload_n hx_ hb_ dX10_needTwoStones_11 rfl (lv_at hl 2 rfl) ?_
      refine sb_ne (tgt := 26) S dX10_needTwoStones_12 (by decide) (by omega) (fun c29 => ?_) (fun c29 => ?_)
      · exact xr_v E hQ dX10_needTwoStones_26 ⟨Nat.le_of_ble_eq_true rfl, Nat.le_of_ble_eq_true rfl⟩ hV (⟨rfl, fun x  => (hf26 x ).trans (hf11 x ), (by omega)⟩)
      · exact xt_W (own := RX10) (rest := []) E hF_ hxt_ hQ hlt (ik := 113) (is := 382) (ic := 117) (cls := "java/lang/IllegalArgumentException") (text := "both are the same stone") (by decide +kernel) xg_IA (List.mem_of_getElem? (i := 1) rfl) (List.mem_of_getElem? (i := 2) rfl) (fun _ h => List.mem_cons_of_mem _ (List.mem_append_left _ (List.mem_append_right _ h))) (List.mem_of_getElem? (i := 5) rfl) hl.1 dX10_needTwoStones_15 dX10_needTwoStones_18 dX10_needTwoStones_19 dX10_needTwoStones_22 dX10_needTwoStones_25 ⟨Nat.le_of_ble_eq_true rfl, Nat.le_of_ble_eq_true rfl, Nat.le_of_ble_eq_true rfl, Nat.le_of_ble_eq_true rfl⟩ ⟨Nat.le_of_ble_eq_true rfl, Nat.le_of_ble_eq_true rfl⟩ hV (fun N9 h9 => ⟨by omega, fun x  => (hf26 x ).trans (hf11 x ), Or.inr (⟨(by first | omega | assumption), rfl⟩)⟩)

abbrev rmX10_needRange : Room := { frames := 6, cells := 1, slots := 6, locals := 100 }
set_option maxHeartbeats 4000000 in
set_option maxRecDepth 100000 in
theorem kX10_needRange (l_ : Launch) (G : sG) (b_ : Nat) (M : sM) (N : Nat) (v lo hi : Int) (hlt : l_.stackTraces = false) (hr : sR v ∧ sR lo ∧ sR hi) : xcV l_ yX10_needRange wsX10_needRange rmX10_needRange G b_ M N [.int (sI v), .int (sI lo), .int (sI hi)] (fun M1 N1 => N1 = N ∧ (∀ x : Nat, M1 x = M x) ∧ (((lo ≤ v ∧ v ≤ hi)))) (fun E_ M1 N1 => N ≤ N1 ∧ (∀ x : Nat, M1 x = M x) ∧ (((¬ (lo ≤ v ∧ v ≤ hi)) ∧ E_ = "java/lang/IllegalArgumentException"))) := by
  refine xcE.ofV (cc := cX10_needRange) (nL := 3) (ret := none) (by decide) rfl (Nat.le_of_ble_eq_true rfl) ?_
  intro p_ e_ s_ m_ args_ below_ meth_ c_ ls Q hQ E hF_ hxt_ hl
  have E : sE p_ l_ e_ rmX10_needRange s_ m_ args_ below_ meth_ c_ cX10_needRange 3 wsX10_needRange RX10 "needRange" none G b_ M N := E
  have S := E.1
  have hx_ := S.1
  have hb_ := S.2.1
  have hK := E.2.2.2.2.1
  have hV := E.2.2.2.2.2.2
  have hl : lv_has ls 3 [(0, .int (sI v)), (1, .int (sI lo)), (2, .int (sI hi))] := hl
  have hbN : b_ ≤ N := by have h1 := hV.1.1; have h2 := hV.2.2; omega
  refine lv_iload_n hx_ hb_ dX10_needRange_0 rfl (lv_at hl 0 rfl) ?_
  refine lv_iload_n hx_ hb_ dX10_needRange_1 rfl (lv_at hl 1 rfl) ?_
  refine sb_lt (tgt := 10) S dX10_needRange_2 (by decide) (by omega) (fun c1 => ?_) (fun c1 => ?_)
  · exact xt_W (own := RX10) (rest := []) E hF_ hxt_ hQ hlt (ik := 113) (is := 384) (ic := 117) (cls := "java/lang/IllegalArgumentException") (text := "a number is out of range") (by decide +kernel) xg_IA (List.mem_of_getElem? (i := 1) rfl) (List.mem_of_getElem? (i := 2) rfl) (fun _ h => List.mem_cons_of_mem _ (List.mem_append_right _ h)) (List.mem_of_getElem? (i := 4) rfl) hl.1 dX10_needRange_10 dX10_needRange_13 dX10_needRange_14 dX10_needRange_17 dX10_needRange_20 ⟨Nat.le_of_ble_eq_true rfl, Nat.le_of_ble_eq_true rfl, Nat.le_of_ble_eq_true rfl, Nat.le_of_ble_eq_true rfl⟩ ⟨Nat.le_of_ble_eq_true rfl, Nat.le_of_ble_eq_true rfl⟩ hV (fun N9 h9 => ⟨by omega, fun x  => rfl, ⟨(by first | omega | assumption), rfl⟩⟩)
  · refine lv_iload_n hx_ hb_ dX10_needRange_5 rfl (lv_at hl 0 rfl) ?_
    refine lv_iload_n hx_ hb_ dX10_needRange_6 rfl (lv_at hl 2 rfl) ?_
    refine sb_le (tgt := 21) S dX10_needRange_7 (by decide) (by omega) (fun c2 => ?_) (fun c2 => ?_)
    · exact xr_v E hQ dX10_needRange_21 ⟨Nat.le_of_ble_eq_true rfl, Nat.le_of_ble_eq_true rfl⟩ hV (⟨rfl, fun x  => rfl, (by omega)⟩)
    · exact xt_W (own := RX10) (rest := []) E hF_ hxt_ hQ hlt (ik := 113) (is := 384) (ic := 117) (cls := "java/lang/IllegalArgumentException") (text := "a number is out of range") (by decide +kernel) xg_IA (List.mem_of_getElem? (i := 1) rfl) (List.mem_of_getElem? (i := 2) rfl) (fun _ h => List.mem_cons_of_mem _ (List.mem_append_right _ h)) (List.mem_of_getElem? (i := 4) rfl) hl.1 dX10_needRange_10 dX10_needRange_13 dX10_needRange_14 dX10_needRange_17 dX10_needRange_20 ⟨Nat.le_of_ble_eq_true rfl, Nat.le_of_ble_eq_true rfl, Nat.le_of_ble_eq_true rfl, Nat.le_of_ble_eq_true rfl⟩ ⟨Nat.le_of_ble_eq_true rfl, Nat.le_of_ble_eq_true rfl⟩ hV (fun N9 h9 => ⟨by omega, fun x  => rfl, ⟨(by first | omega | assumption), rfl⟩⟩)

abbrev rmX10_needDate : Room := { frames := 6, cells := 1, slots := 6, locals := 126 }
set_option maxHeartbeats 4000000 in
set_option maxRecDepth 100000 in
theorem kX10_needDate (l_ : Launch) (G : sG) (b_ : Nat) (M : sM) (N : Nat) (d : Int) (hlt : l_.stackTraces = false) (hr : sR d) : xcV l_ yX10_needDate wsX10_needDate rmX10_needDate G b_ M N [.int (sI d)] (fun M1 N1 => N1 = N ∧ (∀ x : Nat, M1 x = M x) ∧ (((isDt d)))) (fun E_ M1 N1 => N ≤ N1 ∧ (∀ x : Nat, M1 x = M x) ∧ (((¬ isDt d) ∧ E_ = "java/lang/IllegalArgumentException"))) := by
  refine xcE.ofV (cc := cX10_needDate) (nL := 1) (ret := none) (by decide) rfl (Nat.le_of_ble_eq_true rfl) ?_
  intro p_ e_ s_ m_ args_ below_ meth_ c_ ls Q hQ E hF_ hxt_ hl
  have E : sE p_ l_ e_ rmX10_needDate s_ m_ args_ below_ meth_ c_ cX10_needDate 1 wsX10_needDate RX10 "needDate" none G b_ M N := E
  have S := E.1
  have hx_ := S.1
  have hb_ := S.2.1
  have hK := E.2.2.2.2.1
  have hV := E.2.2.2.2.2.2
  have hl : lv_has ls 1 [(0, .int (sI d))] := hl
  have hbN : b_ ≤ N := by have h1 := hV.1.1; have h2 := hV.2.2; omega
  refine lv_iload_n hx_ hb_ dX10_needDate_0 rfl (lv_at hl 0 rfl) ?_
  refine sk_SP E hV (As := [.int (sI d)]) (rest := []) (kX0_isDate l_ G b_ M N d (by omega)) (va_cwS 1 S.2.2.2.2 gX10_needDate_X0_isDate rfl rfl rfl (by decide +kernel) ⟨Nat.le_of_ble_eq_true rfl, Nat.le_of_ble_eq_true rfl⟩) rfl rfl hl.1 (Nat.le_of_ble_eq_true rfl) dX10_needDate_1 (c1 := 0) (s1 := 0) ⟨⟨rfl, rfl⟩, by decide, by decide⟩ (fun H locs hV => ?_)
  refine sq_ne (tgt := 18) S dX10_needDate_4 (by decide) (fun c1 => ?_) (fun c1 => ?_)
  · exact xr_v E hQ dX10_needDate_18 ⟨Nat.le_of_ble_eq_true rfl, Nat.le_of_ble_eq_true rfl⟩ hV (⟨rfl, fun x  => rfl, (by assumption)⟩)
  · exact xt_W (own := RX10) (rest := []) E hF_ hxt_ hQ hlt (ik := 113) (is := 389) (ic := 117) (cls := "java/lang/IllegalArgumentException") (text := "no date in its range") (by decide +kernel) xg_IA (List.mem_of_getElem? (i := 1) rfl) (List.mem_of_getElem? (i := 2) rfl) (fun _ h => List.mem_cons_of_mem _ (List.mem_append_right _ h)) (List.mem_of_getElem? (i := 12) rfl) hl.1 dX10_needDate_7 dX10_needDate_10 dX10_needDate_11 dX10_needDate_14 dX10_needDate_17 ⟨Nat.le_of_ble_eq_true rfl, Nat.le_of_ble_eq_true rfl, Nat.le_of_ble_eq_true rfl, Nat.le_of_ble_eq_true rfl⟩ ⟨Nat.le_of_ble_eq_true rfl, Nat.le_of_ble_eq_true rfl⟩ hV (fun N9 h9 => ⟨by omega, fun x  => rfl, ⟨(by assumption), rfl⟩⟩)

abbrev rmX10_needDates : Room := { frames := 7, cells := 3, slots := 18, locals := 146 }
set_option maxHeartbeats 4000000 in
set_option maxRecDepth 100000 in
theorem kX10_needDates (l_ : Launch) (G : sG) (b_ : Nat) (M : sM) (N : Nat) (d e : Int) (hlt : l_.stackTraces = false) (hr : sR d ∧ sR e) : xcV l_ yX10_needDates wsX10_needDates rmX10_needDates G b_ M N [.int (sI d), .int (sI e)] (fun M1 N1 => N1 = N ∧ (∀ x : Nat, M1 x = M x) ∧ (((isDt d ∧ isDt e ∧ d ≤ e)))) (fun E_ M1 N1 => N ≤ N1 ∧ (∀ x : Nat, M1 x = M x) ∧ (((¬ (isDt d ∧ isDt e ∧ d ≤ e)) ∧ E_ = "java/lang/IllegalArgumentException"))) := by
  refine xcE.ofV (cc := cX10_needDates) (nL := 2) (ret := none) (by decide) rfl (Nat.le_of_ble_eq_true rfl) ?_
  intro p_ e_ s_ m_ args_ below_ meth_ c_ ls Q hQ E hF_ hxt_ hl
  have E : sE p_ l_ e_ rmX10_needDates s_ m_ args_ below_ meth_ c_ cX10_needDates 2 wsX10_needDates RX10 "needDates" none G b_ M N := E
  have S := E.1
  have hx_ := S.1
  have hb_ := S.2.1
  have hK := E.2.2.2.2.1
  have hV := E.2.2.2.2.2.2
  have hl : lv_has ls 2 [(0, .int (sI d)), (1, .int (sI e))] := hl
  have hbN : b_ ≤ N := by have h1 := hV.1.1; have h2 := hV.2.2; omega
  refine lv_iload_n hx_ hb_ dX10_needDates_0 rfl (lv_at hl 0 rfl) ?_
  refine xk_Sv E hF_ hxt_ hQ hV (As := [.int (sI d)]) (rest := []) (kX10_needDate l_ G b_ M N d (by omega) (by omega)) (va_cwS 1 S.2.2.2.2 gX10_needDates_X10_needDate rfl rfl rfl (by decide +kernel) ⟨Nat.le_of_ble_eq_true rfl, Nat.le_of_ble_eq_true rfl⟩) rfl rfl hl.1 (Nat.le_of_ble_eq_true rfl) dX10_needDates_1 (c1 := 1) (s1 := 6) ⟨⟨rfl, rfl⟩, by decide, by decide⟩ ⟨Nat.le_of_ble_eq_true rfl, Nat.le_of_ble_eq_true rfl⟩ ?_ (fun M1 N2 H locs hp3 hV => ?_)
  · rintro E9 M9 N9 ⟨hN5, hf6, hq7⟩
    rcases hq7 with ⟨c8, ee9⟩
    · exact ⟨by omega, fun x  => hf6 x , ⟨(fun h => c8 h.1), ee9⟩⟩
  obtain ⟨hN10, hf11, hq12⟩ := hp3
  rw [hN10] at hV
  rcases hq12 with c13
  · refine lv_iload_n hx_ hb_ dX10_needDates_4 rfl (lv_at hl 1 rfl) ?_
    refine xk_Sv E hF_ hxt_ hQ hV (As := [.int (sI e)]) (rest := []) (kX10_needDate l_ G b_ M1 N e (by omega) (by omega)) (va_cwS 1 S.2.2.2.2 gX10_needDates_X10_needDate rfl rfl rfl (by decide +kernel) ⟨Nat.le_of_ble_eq_true rfl, Nat.le_of_ble_eq_true rfl⟩) rfl rfl hl.1 (Nat.le_of_ble_eq_true rfl) dX10_needDates_5 (c1 := 2) (s1 := 12) ⟨⟨rfl, rfl⟩, by decide, by decide⟩ ⟨Nat.le_of_ble_eq_true rfl, Nat.le_of_ble_eq_true rfl⟩ ?_ (fun M14 N15 H locs hp16 hV => ?_)
    · rintro E9 M9 N9 ⟨hN18, hf19, hq20⟩
      rcases hq20 with ⟨c21, ee22⟩
      · exact ⟨by omega, fun x  => (hf19 x ).trans (hf11 x ), ⟨(fun h => c21 h.2.1), ee22⟩⟩
    obtain ⟨hN23, hf24, hq25⟩ := hp16
    rw [hN23] at hV
    rcases hq25 with c26
    · refine lv_iload_n hx_ hb_ dX10_needDates_8 rfl (lv_at hl 1 rfl) ?_
      refine lv_iload_n hx_ hb_ dX10_needDates_9 rfl (lv_at hl 0 rfl) ?_
      refine sb_ge (tgt := 24) S dX10_needDates_10 (by decide) (by omega) (fun c27 => ?_) (fun c27 => ?_)
      · exact xr_v E hQ dX10_needDates_24 ⟨Nat.le_of_ble_eq_true rfl, Nat.le_of_ble_eq_true rfl⟩ hV (⟨rfl, fun x  => (hf24 x ).trans (hf11 x ), (⟨by assumption, by assumption, by omega⟩)⟩)
      · exact xt_W (own := RX10) (rest := []) E hF_ hxt_ hQ hlt (ik := 113) (is := 391) (ic := 117) (cls := "java/lang/IllegalArgumentException") (text := "the last day is ahead of the first one") (by decide +kernel) xg_IA (List.mem_of_getElem? (i := 1) rfl) (List.mem_of_getElem? (i := 2) rfl) (fun _ h => List.mem_cons_of_mem _ (List.mem_append_right _ h)) (List.mem_of_getElem? (i := 17) rfl) hl.1 dX10_needDates_13 dX10_needDates_16 dX10_needDates_17 dX10_needDates_20 dX10_needDates_23 ⟨Nat.le_of_ble_eq_true rfl, Nat.le_of_ble_eq_true rfl, Nat.le_of_ble_eq_true rfl, Nat.le_of_ble_eq_true rfl⟩ ⟨Nat.le_of_ble_eq_true rfl, Nat.le_of_ble_eq_true rfl⟩ hV (fun N9 h9 => ⟨by omega, fun x  => (hf24 x ).trans (hf11 x ), ⟨(fun h => absurd h.2.2 (by omega)), rfl⟩⟩)

abbrev rmX10_greatestDivisor : Room := { frames := 1, cells := 0, slots := 0, locals := 40 }
set_option maxHeartbeats 4000000 in
set_option maxRecDepth 100000 in
theorem kX10_greatestDivisor (l_ : Launch) (G : sG) (b_ : Nat) (M : sM) (N : Nat) (p q : Int) (hr : 0 ≤ q ∧ q ≤ p ∧ p ≤ 2147483647) : cP l_ yX10_greatestDivisor wsX10_greatestDivisor rmX10_greatestDivisor G b_ M N [.int (sI p), .int (sI q)] (cmI p q) := by
  refine sE.ofI (cc := cX10_greatestDivisor) (nL := 6) (ret := (some .int)) (by decide) rfl (Nat.le_of_ble_eq_true rfl) ?_
  intro p_ e_ s_ m_ args_ below_ meth_ c_ ls Q hQ E hl
  have E : sE p_ l_ e_ rmX10_greatestDivisor s_ m_ args_ below_ meth_ c_ cX10_greatestDivisor 6 wsX10_greatestDivisor RX10 "greatestDivisor" (some .int) G b_ M N := E
  have S := E.1
  have hx_ := S.1
  have hb_ := S.2.1
  have hK := E.2.2.2.2.1
  have hV := E.2.2.2.2.2.2
  have hl : lv_has ls 6 [(0, .int (sI p)), (1, .int (sI q))] := hl
  refine lv_iload_n hx_ hb_ dX10_greatestDivisor_0 rfl (lv_at hl 0 rfl) ?_
  refine lv_istore_n (lv' := [(2, .int (sI p)), (0, .int (sI p)), (1, .int (sI q))]) hx_ hb_ dX10_greatestDivisor_1 rfl hl (by decide) rfl (fun ls hl => ?_)
  refine lv_iload_n hx_ hb_ dX10_greatestDivisor_2 rfl (lv_at hl 2 rfl) ?_
  refine lv_istore_n (lv' := [(3, .int (sI q)), (2, .int (sI p)), (0, .int (sI p)), (1, .int (sI q))]) hx_ hb_ dX10_greatestDivisor_3 rfl hl (by decide) rfl (fun ls hl => ?_)
  refine si_const S dX10_greatestDivisor_4 ?_
  refine lv_istore (lv' := [(4, .int (sI 0)), (3, .int (sI q)), (2, .int (sI p)), (0, .int (sI p)), (1, .int (sI q))]) hx_ hb_ dX10_greatestDivisor_5 hl (by decide) rfl (fun ls hl => ?_)
  have L7 : ∀ (fuel : Nat) (x : Int) (y : Int) (k : Int)  (H : Heap) (locs : List Loc) (ls : Array Slot), ((64 - k).toNat) < fuel → (0 ≤ k ∧ k ≤ 64) → (gnI9 k x y) → (cmI x y = cmI p q) → sV G b_ M N s_ H locs → lv_has ls 6 [(2, .int (sI x)), (3, .int (sI y)), (4, .int (sI k))] → W p_ l_ e_ rmX10_greatestDivisor s_ m_ args_ below_ meth_ c_ H locs 0 0 Q (F0 m_ 7 ls []) := by
    intro fuel
    induction fuel with
    | zero => intro x y k H locs ls hmu; exact absurd hmu (Nat.not_lt_zero _)
    | succ fuel ih7 =>
      intro x y k H locs ls hmu7 hv7_0 hi hg  hV hl
      have hi1 := hi.1
      refine lv_iload hx_ hb_ dX10_greatestDivisor_7 (lv_at hl 2 rfl) ?_
      refine si_bipush S dX10_greatestDivisor_9 (by decide) ?_
      refine sb_ge (tgt := 34) S dX10_greatestDivisor_11 (by decide) (by omega) (fun c1 => ?_) (fun c1 => ?_)
      · refine lv_iload_n hx_ hb_ dX10_greatestDivisor_34 rfl (lv_at hl 0 rfl) ?_
        exact sr_i E hQ dX10_greatestDivisor_35 ⟨Nat.le_of_ble_eq_true rfl, Nat.le_of_ble_eq_true rfl⟩ hV (⟨by rw [show y = 0 from gn9_e (show gnI9 64 x y by rw [← show k = 64 by omega]; exact hi), cmI_0 (by omega)] at hg; exact hg, rfl, rfl⟩)
      · refine lv_iload_n hx_ hb_ dX10_greatestDivisor_14 rfl (lv_at hl 1 rfl) ?_
        refine sz_le (tgt := 34) S dX10_greatestDivisor_15 (by decide) (by omega) (fun c2 => ?_) (fun c2 => ?_)
        · refine lv_iload_n hx_ hb_ dX10_greatestDivisor_34 rfl (lv_at hl 0 rfl) ?_
          exact sr_i E hQ dX10_greatestDivisor_35 ⟨Nat.le_of_ble_eq_true rfl, Nat.le_of_ble_eq_true rfl⟩ hV (⟨by rw [show y = 0 from by omega, cmI_0 (by omega)] at hg; exact hg, rfl, rfl⟩)
        · refine lv_iload_n hx_ hb_ dX10_greatestDivisor_18 rfl (lv_at hl 0 rfl) ?_
          refine lv_iload_n hx_ hb_ dX10_greatestDivisor_19 rfl (lv_at hl 1 rfl) ?_
          have hm1 := Int.emod_nonneg x (show y ≠ 0 by omega)
          have hm2 := Int.emod_lt_of_pos x (show 0 < y by omega)
          refine si_remN S dX10_greatestDivisor_20 (by omega) ?_
          refine lv_istore (lv' := [(5, .int (sI (x % y))), (2, .int (sI x)), (3, .int (sI y)), (4, .int (sI k))]) hx_ hb_ dX10_greatestDivisor_21 hl (by decide) rfl (fun ls hl => ?_)
          refine lv_iload_n hx_ hb_ dX10_greatestDivisor_23 rfl (lv_at hl 2 rfl) ?_
          refine lv_istore_n (lv' := [(2, .int (sI y)), (5, .int (sI (x % y))), (3, .int (sI y)), (4, .int (sI k))]) hx_ hb_ dX10_greatestDivisor_24 rfl hl (by decide) rfl (fun ls hl => ?_)
          refine lv_iload hx_ hb_ dX10_greatestDivisor_25 (lv_at hl 1 rfl) ?_
          refine lv_istore_n (lv' := [(3, .int (sI (x % y))), (2, .int (sI y)), (5, .int (sI (x % y))), (4, .int (sI k))]) hx_ hb_ dX10_greatestDivisor_27 rfl hl (by decide) rfl (fun ls hl => ?_)
          refine si_inc (lv' := [(4, .int (sI (k + 1))), (3, .int (sI (x % y))), (2, .int (sI y)), (5, .int (sI (x % y)))]) S dX10_greatestDivisor_28 hl (k := 3) rfl (by decide) rfl (fun ls hl => ?_)
          refine lv_goto (tgt := 7) hx_ hb_ dX10_greatestDivisor_31 (by decide) ?_
          exact ih7 y (x % y) (k + 1) _ _ _ (by omega) (by omega) (gn9_s hi (by omega) (by omega)) (by rw [cmI_s (by omega) (by omega)]; exact hg) hV (lv_sub hl [2, 1, 0] rfl)
  exact L7 _ p q 0 _ _ _ (Nat.lt_succ_self _) (by omega) (gn9_0 hr) (rfl) hV (lv_sub hl [2, 1, 0] rfl)
