/-- how much is left to try, of rows with numbers up to 10 -/
def pwJ (i : Int) : Int := ((12 ^ (20 - i).toNat : Nat) : Int)
theorem pwJ_s {k : Int} (h : 0 ≤ k ∧ k < 20) : pwJ k = 12 * pwJ (k + 1) := by
  unfold pwJ
  rw [show (20 - k).toNat = (20 - (k + 1)).toNat + 1 by omega, Nat.pow_succ]
  omega
theorem pwJ_p (k : Int) : 1 ≤ pwJ k := by
  unfold pwJ
  have : 0 < 12 ^ (20 - k).toNat := Nat.pow_pos (by omega)
  omega
def lgI (G : Int → Int) (k : Int) : Int := isum (k + 1) (fun i => (10 - G i) * pwJ i)
theorem lgI_n {G : Int → Int} {k : Int} (h : ∀ i, 0 ≤ i → i ≤ k → G i ≤ 10) : 0 ≤ lgI G k := isum_n fun i a b => Int.mul_nonneg (by have := h i a (by omega); omega) (by have := pwJ_p i; omega)
theorem lgI_s {G : Int → Int} {k : Int} (hk : 0 ≤ k) : lgI G k = lgI G (k - 1) + (10 - G k) * pwJ k := by
  unfold lgI
  rw [isum_s _ hk, show k - 1 + 1 = k by omega]
theorem lgI_c {G G2 : Int → Int} {k : Int} (h : ∀ i, 0 ≤ i → i ≤ k → G i = G2 i) : lgI G k = lgI G2 k := isum_c fun i a b => by show (10 - G i) * pwJ i = (10 - G2 i) * pwJ i; rw [h i a (by omega)]
theorem lg_A {G G3 : Int → Int} {k : Int} (hk : 0 ≤ k) (ha : ∀ i, i ≠ k → G3 i = G i) (h8 : G k ≤ 9) : lgI G3 (k - 1) < lgI G k := by
  have h1 := lgI_s (G := G) hk
  have h2 := lgI_c (G := G3) (G2 := G) (k := k - 1) (fun i a b => ha i (by omega))
  have h3 := mul_lt (a := 0) (b := 10 - G k) (w := pwJ k) (by omega) (pwJ_p k)
  have h4 := pwJ_p k
  omega
theorem lg_C {G G3 : Int → Int} {k : Int} (hk : 0 ≤ k) (ha : ∀ i, i ≠ k → G3 i = G i) (h8 : G k < G3 k) : lgI G3 k < lgI G k := by
  have h1 := lgI_s (G := G) hk
  have h1b := lgI_s (G := G3) hk
  have h2 := lgI_c (G := G3) (G2 := G) (k := k - 1) (fun i a b => ha i (by omega))
  have h3 := mul_lt (a := 10 - G3 k) (b := 10 - G k) (w := pwJ k) (by omega) (pwJ_p k)
  have h4 := pwJ_p k
  omega
theorem lg_B {G G3 : Int → Int} {k v : Int} (hk : 0 ≤ k ∧ k < 20) (ha : ∀ i, i ≠ k → G3 i = G i) (h8 : G k < G3 k) (hv : -1 ≤ v) : lgI (iup G3 (k + 1) v) (k + 1) < lgI G k := by
  have h1 := lgI_s (G := G) hk.1
  have h1b := lgI_s (G := iup G3 (k + 1) v) (k := k + 1) (by omega)
  have h1c := lgI_s (G := iup G3 (k + 1) v) (k := k) hk.1
  have h2 := lgI_c (G := iup G3 (k + 1) v) (G2 := G) (k := k - 1) (fun i a b => by rw [show iup G3 (k + 1) v i = G3 i from if_neg (by omega)]; exact ha i (by omega))
  rw [show k + 1 - 1 = k by omega, show iup G3 (k + 1) v (k + 1) = v from if_pos rfl] at h1b
  rw [show iup G3 (k + 1) v k = G3 k from if_neg (by omega)] at h1c
  have h3 := mul_lt (a := 10 - G3 k) (b := 10 - G k) (w := pwJ k) (by omega) (pwJ_p k)
  have h4 := pwJ_s hk
  have h5 := pwJ_p (k + 1)
  have h6 : (10 - v) * pwJ (k + 1) ≤ 11 * pwJ (k + 1) := Int.mul_le_mul_of_nonneg_right (by omega) (by omega)
  omega
theorem lex_t (n : Int) (B g : Int → Int) : lexL n B g ∨ ∃ j, 0 ≤ j ∧ j < n ∧ (∀ i, 0 ≤ i → i < j → g i = B i) ∧ g j < B j := by
  rcases idx_cases (fun i => B i ≠ g i) n with ⟨-, h⟩ | ⟨h1, h2, h3, h4⟩
  · exact Or.inl (Or.inr fun i a b => Classical.not_not.mp (h i a b))
  · have e : ∀ i, 0 ≤ i → i < idx (fun i => B i ≠ g i) n → B i = g i := fun i a b => Classical.not_not.mp (h4 i a b)
    rcases Int.lt_or_le (B (idx (fun i => B i ≠ g i) n)) (g (idx (fun i => B i ≠ g i) n)) with q | q
    · exact Or.inl (Or.inl ⟨_, h1, h2, e, q⟩)
    · exact Or.inr ⟨_, h1, h2, fun i a b => (e i a b).symm, by omega⟩
/-! Rings. -/
def riP (f : sF) (L : Int) (r : Int → Int) : Prop := (2 ≤ L ∧ L ≤ f 568) ∧ (∀ i, 0 ≤ i → i < L → 0 ≤ r i ∧ r i < f 568) ∧ (∀ i, 1 ≤ i → i < L → r 0 < r i) ∧ (∀ i j, 0 ≤ i → i < j → j < L → r i ≠ r j) ∧ (∀ i, 0 ≤ i → i + 1 < L → doP f (r i) (r (i + 1))) ∧ doP f (r (L - 1)) (r 0)
def rgR (f : sF) (L : Int) (r : Int → Int) : Prop := (L = 0 ∧ ∀ L2 r2, ¬ riP f L2 r2) ∨ (riP f L r ∧ (∀ L2 r2, riP f L2 r2 → L ≤ L2) ∧ ∀ r2, riP f L r2 → lexL L r r2)
theorem rgR_u {f : sF} {L L2 : Int} {r r2 : Int → Int} (h : rgR f L r) (h2 : rgR f L2 r2) : L = L2 ∧ ∀ i, 0 ≤ i → i < L → r i = r2 i := by
  rcases h with ⟨a1, a2⟩ | ⟨a1, a2, a3⟩
  · rcases h2 with ⟨b1, b2⟩ | ⟨b1, b2, b3⟩
    · exact ⟨by omega, fun i x y => by omega⟩
    · exact absurd b1 (a2 L2 r2)
  · rcases h2 with ⟨b1, b2⟩ | ⟨b1, b2, b3⟩
    · exact absurd a1 (b2 L r)
    · have c1 := a2 _ _ b1
      have c2 := b2 _ _ a1
      have e : L = L2 := by omega
      subst e
      exact ⟨rfl, lexL_a (a3 r2 b1) (b3 r a1)⟩
noncomputable def rgL (f : sF) : Int := @dite Int (∃ L r, rgR f L r) (Classical.propDecidable _) (fun q => q.choose) (fun _ => 0)
noncomputable def rgS (f : sF) : Int → Int := @dite (Int → Int) (∃ L r, rgR f L r) (Classical.propDecidable _) (fun q => q.choose_spec.choose) (fun _ => fun _ => 0)
theorem rg_eq {f : sF} {L : Int} {r : Int → Int} (h : rgR f L r) : rgL f = L ∧ (∀ i, 0 ≤ i → i < L → rgS f i = r i) ∧ rgR f (rgL f) (rgS f) := by
  have hx : ∃ L r, rgR f L r := ⟨L, r, h⟩
  have e1 : rgL f = hx.choose := dif_pos hx
  have e2 : rgS f = hx.choose_spec.choose := dif_pos hx
  have h2 := hx.choose_spec.choose_spec
  have h3 := rgR_u h h2
  rw [e1, e2]
  exact ⟨h3.1.symm, fun o a b => (h3.2 o a b).symm, h2⟩
theorem rgR_r {f : sF} {L : Int} {r : Int → Int} (hn : 0 ≤ f 568) (h : rgR f L r) : 0 ≤ L ∧ L ≤ f 568 := by
  rcases h with ⟨a1, a2⟩ | ⟨a1, a2, a3⟩
  · omega
  · have := a1.1; omega
/-- a row that may begin a ring -/
def rpP (f : sF) (a : Int) (G : Int → Int) (k : Int) : Prop := (∀ i, 1 ≤ i → i < k → a < G i ∧ G i < f 568) ∧ (∀ i j, 0 ≤ i → i < j → j < k → G i ≠ G j) ∧ (∀ i, 0 ≤ i → i + 1 < k → doP f (G i) (G (i + 1)))
theorem rp_1 (f : sF) (a : Int) (G : Int → Int) : rpP f a G 1 := ⟨fun i x y => by omega, fun i j x y z => by omega, fun i x y => by omega⟩
theorem rp_c {f : sF} {a k k2 : Int} {G G2 : Int → Int} (h : rpP f a G k) (e : ∀ i, 0 ≤ i → i < k2 → G2 i = G i) (hk : k2 ≤ k) : rpP f a G2 k2 :=
  ⟨fun i x y => by rw [e i (by omega) y]; exact h.1 i x (by omega), fun i j x y z => by rw [e i x (by omega), e j (by omega) z]; exact h.2.1 i j x y (by omega), fun i x y => by rw [e i x (by omega), e (i + 1) (by omega) y]; exact h.2.2 i x (by omega)⟩
theorem rp_s {f : sF} {a k : Int} {G : Int → Int} (h : rpP f a G k) (hk : 1 ≤ k) (h1 : a < G k ∧ G k < f 568) (h2 : ¬ ∃ i, 0 ≤ i ∧ i < k ∧ G i = G k) (h3 : doP f (G (k - 1)) (G k)) : rpP f a G (k + 1) := by
  refine ⟨fun i x y => ?_, fun i j x y z => ?_, fun i x y => ?_⟩
  · by_cases e : i = k
    · rw [e]; exact h1
    · exact h.1 i x (by omega)
  · by_cases e : j = k
    · rw [e]; exact fun q => h2 ⟨i, x, by omega, q⟩
    · exact h.2.1 i j x y (by omega)
  · by_cases e : i + 1 = k
    · rw [e, show i = k - 1 by omega]; exact h3
    · exact h.2.2 i x (by omega)
theorem rp_r {f : sF} {a L : Int} {G : Int → Int} (h : rpP f a G L) (h0 : G 0 = a) (ha : 0 ≤ a ∧ a < f 568) (hL : 2 ≤ L ∧ L ≤ f 568) (h1 : doP f (G (L - 1)) a) : riP f L G := by
  refine ⟨hL, fun i x y => ?_, fun i x y => by rw [h0]; exact (h.1 i x y).1, h.2.1, h.2.2, by rw [h0]; exact h1⟩
  by_cases e : i = 0
  · rw [e, h0]; exact ha
  · have := h.1 i (by omega) y; omega
/-- no ring has been passed by -/
def rnP (f : sF) (L a : Int) (G : Int → Int) (k : Int) : Prop := ∀ r2, riP f L r2 → r2 0 = a → ¬ Bef G k r2
theorem rn_0 {f : sF} {L a : Int} {G : Int → Int} (h0 : G 0 = a) (h1 : G 1 = a) : rnP f L a G 1 := fun r2 h e q => by
  obtain ⟨j, x, y, z, w, v⟩ := q
  by_cases e1 : j = 1
  · have h2 := v e1
    have h3 := h.2.2.1 1 (by omega) (by have := h.1; omega)
    rw [e1] at h2
    omega
  · have h2 := w (by omega)
    rw [show j = 0 by omega] at h2
    omega
theorem rn_A {f : sF} {L a k : Int} {G G3 : Int → Int} (h : rnP f L a G k) (ha : ∀ i, i ≠ k → G3 i = G i) (hk : 1 ≤ k ∧ k < L) (hn : f 568 ≤ G k + 1) : rnP f L a G3 (k - 1) := fun r2 hr e q => by
  have q1 : Bef G (k - 1) r2 := Bef_c (fun i x y => ha i (by omega)) q
  rcases Bef_dn q1 with q2 | ⟨q2, q3⟩
  · exact h r2 hr e q2
  · have := (hr.2.1 k (by omega) hk.2).2
    omega
theorem rn_B {f : sF} {L a k w : Int} {G : Int → Int} (h : rnP f L a G k) (hw : w = G k + 1) (hb : ∀ r2, riP f L r2 → r2 0 = a → (∀ i, 0 ≤ i → i < k → r2 i = G i) → r2 k = w → False) : rnP f L a (iup G k w) k := fun r2 hr e q => by
  rcases Bef_up (by omega) q with q2 | ⟨q2, q3, q4⟩
  · exact h r2 hr e q2
  · exact hb r2 hr e q2 (by omega)
theorem rn_C {f : sF} {L a k w : Int} {G : Int → Int} (h : rnP f L a G k) (hw : w = G k + 1) (hk : 0 ≤ k ∧ k + 1 < L) : rnP f L a (iup (iup G k w) (k + 1) a) (k + 1) := fun r2 hr e q => by
  obtain ⟨j, x, y, z, u, v⟩ := q
  by_cases e1 : j = k + 1
  · have h2 := v e1
    have h3 := hr.2.2.1 (k + 1) (by omega) hk.2
    rw [e1, show iup (iup G k w) (k + 1) a (k + 1) = a from if_pos rfl] at h2
    omega
  · have h2 := u (by omega)
    have z2 : ∀ i, 0 ≤ i → i < j → r2 i = G i := fun i c d => by
      rw [z i c d]
      unfold iup
      rw [if_neg (by omega), if_neg (by omega)]
    by_cases e2 : j = k
    · rw [e2] at h2 z2
      rw [show iup (iup G k w) (k + 1) a k = w from by unfold iup; rw [if_neg (by omega), if_pos rfl]] at h2
      exact h r2 hr e ⟨k, hk.1, Int.le_refl _, z2, fun c => by omega, fun _ => by omega⟩
    · rw [show iup (iup G k w) (k + 1) a j = G j from by unfold iup; rw [if_neg (by omega), if_neg (by omega)]] at h2
      exact h r2 hr e ⟨j, x, by omega, z2, fun _ => h2, fun c => absurd c e2⟩
theorem rn_D {f : sF} {L a k w : Int} {G : Int → Int} (h : rnP f L a G k) (hw : w = G k + 1) (hk : 0 ≤ k ∧ k + 1 = L) (r2 : Int → Int) (hr : riP f L r2) (e : r2 0 = a) : lexL L (iup G k w) r2 := by
  rcases lex_t L (iup G k w) r2 with q | ⟨j, x, y, z, u⟩
  · exact q
  · have z2 : ∀ i, 0 ≤ i → i < j → r2 i = G i := fun i c d => by
      rw [z i c d]
      exact if_neg (by omega)
    by_cases e2 : j = k
    · rw [e2] at u z2
      rw [show iup G k w k = w from if_pos rfl] at u
      exact absurd ⟨k, hk.1, Int.le_refl _, z2, fun c => by omega, fun _ => by omega⟩ (h r2 hr e)
    · rw [show iup G k w j = G j from if_neg e2] at u
      exact absurd ⟨j, x, by omega, z2, fun _ => u, fun c => absurd c e2⟩ (h r2 hr e)
theorem rn_E {f : sF} {L a k : Int} {G : Int → Int} (h : rnP f L a G k) (hk : k ≤ 0) (hk0 : 0 ≤ k) (h0 : G 0 = a) : ∀ r2, riP f L r2 → ¬ r2 0 = a := fun r2 hr e => h r2 hr e ⟨0, by omega, by omega, fun i x y => by omega, fun x => by omega, fun _ => by omega⟩

abbrev rmX11_isInRow : Room := { frames := 1, cells := 0, slots := 0, locals := 40 }
set_option maxHeartbeats 4000000 in
set_option maxRecDepth 100000 in
theorem kX11_isInRow (l_ : Launch) (G : sG) (b_ : Nat) (M : sM) (N : Nat) (m : Nat) (th ch tn ea sn nm wn : Int) (g : sF) (v n : Int) (hm0 : M m = some (mO m th ch tn ea sn nm wn)) (hm4 : M (m + 4) = some (sArr G 11 g)) (hn : 0 ≤ n ∧ n ≤ 11) (hv : sR v) (hg : ∀ i, 0 ≤ i → i < n → sR (g i)) : cP l_ yX11_isInRow wsX11_isInRow rmX11_isInRow G b_ M N [.ref m, .int (sI v), .int (sI n)] (bI (∃ i, 0 ≤ i ∧ i < n ∧ g i = v)) := by
  refine sE.ofI (cc := cX11_isInRow) (nL := 4) (ret := (some .boolean)) (by decide) rfl (Nat.le_of_ble_eq_true rfl) ?_
  intro p_ e_ s_ m_ args_ below_ meth_ c_ ls Q hQ E hl
  have E : sE p_ l_ e_ rmX11_isInRow s_ m_ args_ below_ meth_ c_ cX11_isInRow 4 wsX11_isInRow RX11 "isInRow" (some .boolean) G b_ M N := E
  have S := E.1
  have hx_ := S.1
  have hb_ := S.2.1
  have hK := E.2.2.2.2.1
  have hV := E.2.2.2.2.2.2
  have hl : lv_has ls 4 [(0, .ref m), (1, .int (sI v)), (2, .int (sI n))] := hl
  have inX11_ : ∀ w ∈ wsX110, w ∈ wsX11_isInRow := fun _ h => List.mem_cons_of_mem _ (List.mem_append_right _ h)
  refine si_const S dX11_isInRow_0 ?_
  refine lv_istore_n (lv' := [(3, .int (sI 0)), (0, .ref m), (1, .int (sI v)), (2, .int (sI n))]) hx_ hb_ dX11_isInRow_1 rfl hl (by decide) rfl (fun ls hl => ?_)
  have L2 : ∀ (fuel : Nat) (i : Int)  (H : Heap) (locs : List Loc) (ls : Array Slot), ((n - i).toNat) < fuel → (0 ≤ i ∧ i ≤ n) → (∀ k, 0 ≤ k → k < i → ¬ g k = v) → sV G b_ M N s_ H locs → lv_has ls 4 [(0, .ref m), (1, .int (sI v)), (2, .int (sI n)), (3, .int (sI i))] → W p_ l_ e_ rmX11_isInRow s_ m_ args_ below_ meth_ c_ H locs 0 0 Q (F0 m_ 2 ls []) := by
    intro fuel
    induction fuel with
    | zero => intro i H locs ls hmu; exact absurd hmu (Nat.not_lt_zero _)
    | succ fuel ih2 =>
      intro i H locs ls hmu2 hv2_0 hq  hV hl
      refine lv_iload_n hx_ hb_ dX11_isInRow_2 rfl (lv_at hl 3 rfl) ?_
      refine lv_iload_n hx_ hb_ dX11_isInRow_3 rfl (lv_at hl 2 rfl) ?_
      refine sb_ge (tgt := 25) S dX11_isInRow_4 (by decide) (by omega) (fun c1 => ?_) (fun c1 => ?_)
      · refine si_const S dX11_isInRow_25 ?_
        exact sr_z E hQ (Or.inl rfl) dX11_isInRow_26 ⟨Nat.le_of_ble_eq_true rfl, Nat.le_of_ble_eq_true rfl⟩ hV (⟨(bI_f (fun h => by obtain ⟨k, a, b, c⟩ := h; exact hq k a (by omega) c)).symm, rfl, rfl⟩)
      · refine lv_aload_n hx_ hb_ dX11_isInRow_7 rfl (lv_at hl 0 rfl) ?_
        refine sc_get (ci := 9) (C := RX11) (T := TX11) (n := 22) S hK hV inX11_ hm0 rfl 7 (by decide) (S.2.2.2.2 _ (List.mem_of_getElem? (i := 1) rfl)) rfl rfl dX11_isInRow_8 ?_
        refine lv_iload_n hx_ hb_ dX11_isInRow_11 rfl (lv_at hl 3 rfl) ?_
        refine sc_iald S hK hV hm4 (by omega) dX11_isInRow_12 ?_
        have hgi := hg i (by omega) (by omega)
        refine lv_iload_n hx_ hb_ dX11_isInRow_13 rfl (lv_at hl 1 rfl) ?_
        refine sb_ne (tgt := 19) S dX11_isInRow_14 (by decide) (by omega) (fun h14 => ?_) (fun h14 => ?_)
        · refine si_inc (lv' := [(3, .int (sI (i + 1))), (0, .ref m), (1, .int (sI v)), (2, .int (sI n))]) S dX11_isInRow_19 hl (k := 3) rfl (by decide) rfl (fun ls hl => ?_)
          refine lv_goto (tgt := 2) hx_ hb_ dX11_isInRow_22 (by decide) ?_
          exact ih2 (i + 1) _ _ _ (by omega) (by omega) (idx_st hq (by omega)) hV (lv_sub hl [1, 2, 3, 0] rfl)
        · refine si_const S dX11_isInRow_17 ?_
          exact sr_z E hQ (Or.inr rfl) dX11_isInRow_18 ⟨Nat.le_of_ble_eq_true rfl, Nat.le_of_ble_eq_true rfl⟩ hV (⟨(bI_t ⟨i, by omega, by omega, by omega⟩).symm, rfl, rfl⟩)
  exact L2 _ 0 _ _ _ (Nat.lt_succ_self _) (by omega) (fun k a b => by omega) hV (lv_sub hl [1, 2, 3, 0] rfl)

abbrev rmX11_isRing : Room := { frames := 2, cells := 0, slots := 0, locals := 63 }
set_option maxHeartbeats 4000000 in
set_option maxRecDepth 100000 in
theorem kX11_isRing (l_ : Launch) (G : sG) (b_ : Nat) (M : sM) (N : Nat) (m : Nat) (th ch tn ea sn nm wn : Int) (f : sF) (g : sF) (L a : Int) (hm0 : M m = some (mO m th ch tn ea sn nm wn)) (hm1 : M (m + 1) = some (sArr G 574 f)) (hm4 : M (m + 4) = some (sArr G 11 g)) (hok : sOk f) (hL : 2 ≤ L ∧ L ≤ f 568) (ha : 0 ≤ a ∧ a < f 568) : cI l_ yX11_isRing wsX11_isRing rmX11_isRing G b_ M N [.ref m, .int (sI L), .int (sI a)] (fun z_ M1 N1 => ∃ r9 : Int → Int, z_ = bI (∃ r2, riP f L r2 ∧ r2 0 = a) ∧ N1 = N ∧ M1 (m + 4) = some (sArr G 11 r9) ∧ (∀ x : Nat, ¬ (x = m + 4) → M1 x = M x) ∧ ((∃ r2, riP f L r2 ∧ r2 0 = a) → riP f L r9 ∧ r9 0 = a ∧ ∀ r2, riP f L r2 → r2 0 = a → lexL L r9 r2)) := by
  refine sE.ofI (cc := cX11_isRing) (nL := 4) (ret := (some .boolean)) (by decide) rfl (Nat.le_of_ble_eq_true rfl) ?_
  intro p_ e_ s_ m_ args_ below_ meth_ c_ ls Q hQ E hl
  have E : sE p_ l_ e_ rmX11_isRing s_ m_ args_ below_ meth_ c_ cX11_isRing 4 wsX11_isRing RX11 "isRing" (some .boolean) G b_ M N := E
  have S := E.1
  have hx_ := S.1
  have hb_ := S.2.1
  have hK := E.2.2.2.2.1
  have hV := E.2.2.2.2.2.2
  have hl : lv_has ls 4 [(0, .ref m), (1, .int (sI L)), (2, .int (sI a))] := hl
  have inX11_ : ∀ w ∈ wsX110, w ∈ wsX11_isRing := fun _ h => List.mem_cons_of_mem _ (List.mem_append_right _ h)
  have kn0 := sOk_N hok
  refine si_const S dX11_isRing_0 ?_
  refine lv_istore_n (lv' := [(3, .int (sI 1)), (0, .ref m), (1, .int (sI L)), (2, .int (sI a))]) hx_ hb_ dX11_isRing_1 rfl hl (by decide) rfl (fun ls hl => ?_)
  refine lv_aload_n hx_ hb_ dX11_isRing_2 rfl (lv_at hl 1 rfl) ?_
  refine sc_get (ci := 9) (C := RX11) (T := TX11) (n := 22) S hK hV inX11_ hm0 rfl 7 (by decide) (S.2.2.2.2 _ (List.mem_of_getElem? (i := 1) rfl)) rfl rfl dX11_isRing_3 ?_
  refine si_const S dX11_isRing_6 ?_
  refine lv_iload_n hx_ hb_ dX11_isRing_7 rfl (lv_at hl 3 rfl) ?_
  refine sc_iast S hK hV hm4 (by omega) dX11_isRing_8 (fun M1 H locs hM1 hV => ?_)
  have hc2 : M1 (m + 4) = some (sArr G 11 (iup g 0 a)) := (congrFun hM1 (m + 4)).trans (va_up_self M (m + 4) _)
  refine lv_aload_n hx_ hb_ dX11_isRing_9 rfl (lv_at hl 1 rfl) ?_
  have hc3 : M1 m = some (mO m th ch tn ea sn nm wn) := ((congrFun hM1 m).trans (va_up_ne M _ (by omega))).trans hm0
  refine sc_get (ci := 9) (C := RX11) (T := TX11) (n := 22) S hK hV inX11_ hc3 rfl 7 (by decide) (S.2.2.2.2 _ (List.mem_of_getElem? (i := 1) rfl)) rfl rfl dX11_isRing_10 ?_
  refine si_const S dX11_isRing_13 ?_
  refine lv_iload_n hx_ hb_ dX11_isRing_14 rfl (lv_at hl 3 rfl) ?_
  refine sc_iast S hK hV hc2 (by omega) dX11_isRing_15 (fun M4 H locs hM4 hV => ?_)
  have hc5 : M4 (m + 4) = some (sArr G 11 (iup (iup g 0 a) 1 a)) := (congrFun hM4 (m + 4)).trans (va_up_self M1 (m + 4) _)
  have L16 : ∀ (fuel : Nat) (k : Int) (g2 : Int → Int) (Ml16 : sM) (H : Heap) (locs : List Loc) (ls : Array Slot), ((lgI g2 k + 1).toNat) < fuel → (0 ≤ k ∧ k < L) → (g2 0 = a) → (1 ≤ k → a ≤ g2 k ∧ g2 k < f 568) → (rpP f a g2 k) → (rnP f L a g2 k) → (Ml16 (m + 4) = some (sArr G 11 g2)) → (∀ x : Nat, ¬ (x = m + 4) → Ml16 x = M4 x) → sV G b_ Ml16 N s_ H locs → lv_has ls 4 [(0, .ref m), (1, .int (sI L)), (2, .int (sI a)), (3, .int (sI k))] → W p_ l_ e_ rmX11_isRing s_ m_ args_ below_ meth_ c_ H locs 0 0 Q (F0 m_ 16 ls []) := by
    intro fuel
    induction fuel with
    | zero => intro k g2 Ml16 H locs ls hmu; exact absurd hmu (Nat.not_lt_zero _)
    | succ fuel ih16 =>
      intro k g2 Ml16 H locs ls hmu16 hv16_0 hg0 hgk hpre hno hm16_0 hfr16 hV hl
      refine lv_iload_n hx_ hb_ dX11_isRing_16 rfl (lv_at hl 3 rfl) ?_
      refine sz_le (tgt := 123) S dX11_isRing_17 (by decide) (by omega) (fun c6 => ?_) (fun c6 => ?_)
      · refine si_const S dX11_isRing_123 ?_
        exact sr_z E hQ (Or.inl rfl) dX11_isRing_124 ⟨Nat.le_of_ble_eq_true rfl, Nat.le_of_ble_eq_true rfl⟩ hV (⟨g2, (bI_f (fun h => by obtain ⟨r2, c, d⟩ := h; exact rn_E hno (by omega) (by omega) hg0 r2 c d)).symm, rfl, hm16_0, fun x q0 => ((hfr16 x (by omega)).trans ((congrFun hM4 x).trans (va_up_ne M1 _ (by omega)))).trans ((congrFun hM1 x).trans (va_up_ne M _ (by omega))), fun h => by obtain ⟨r2, c, d⟩ := h; exact absurd d (rn_E hno (by omega) (by omega) hg0 r2 c)⟩)
      · refine lv_aload_n hx_ hb_ dX11_isRing_20 rfl (lv_at hl 0 rfl) ?_
        have hc7 : Ml16 m = some (mO m th ch tn ea sn nm wn) := ((hfr16 m (by omega)).trans ((congrFun hM4 m).trans (va_up_ne M1 _ (by omega)))).trans hc3
        refine sc_get (ci := 9) (C := RX11) (T := TX11) (n := 22) S hK hV inX11_ hc7 rfl 7 (by decide) (S.2.2.2.2 _ (List.mem_of_getElem? (i := 1) rfl)) rfl rfl dX11_isRing_21 ?_
        refine lv_iload_n hx_ hb_ dX11_isRing_24 rfl (lv_at hl 3 rfl) ?_
        refine lv_dup2_11 hx_ hb_ dX11_isRing_25 rfl rfl ?_
        refine sc_iald S hK hV hm16_0 (by omega) dX11_isRing_26 ?_
        refine si_const S dX11_isRing_27 ?_
        refine si_add S dX11_isRing_28 ?_
        refine sc_iast S hK hV hm16_0 (by omega) dX11_isRing_29 (fun M8 H locs hM8 hV => ?_)
        have hc9 : M8 (m + 4) = some (sArr G 11 (iup g2 k ((g2 k) + 1))) := (congrFun hM8 (m + 4)).trans (va_up_self Ml16 (m + 4) _)
        refine lv_aload_n hx_ hb_ dX11_isRing_30 rfl (lv_at hl 0 rfl) ?_
        have hc10 : M8 m = some (mO m th ch tn ea sn nm wn) := ((congrFun hM8 m).trans (va_up_ne Ml16 _ (by omega))).trans hc7
        refine sc_get (ci := 9) (C := RX11) (T := TX11) (n := 22) S hK hV inX11_ hc10 rfl 7 (by decide) (S.2.2.2.2 _ (List.mem_of_getElem? (i := 1) rfl)) rfl rfl dX11_isRing_31 ?_
        refine lv_iload_n hx_ hb_ dX11_isRing_34 rfl (lv_at hl 3 rfl) ?_
        refine sc_iald S hK hV hc9 (by omega) dX11_isRing_35 ?_
        rw [show (iup g2 k ((g2 k) + 1)) k = g2 k + 1 from by unfold iup; (repeat (first | rw [if_pos (by omega)] | rw [if_neg (by omega)]))]
        refine lv_aload_n hx_ hb_ dX11_isRing_36 rfl (lv_at hl 0 rfl) ?_
        have hc11 : M8 (m + 1) = some (sArr G 574 f) := (((((congrFun hM8 (m + 1)).trans (va_up_ne Ml16 _ (by omega))).trans (hfr16 (m + 1) (by omega))).trans ((congrFun hM4 (m + 1)).trans (va_up_ne M1 _ (by omega)))).trans ((congrFun hM1 (m + 1)).trans (va_up_ne M _ (by omega)))).trans hm1
        refine sk_VP E hV (As := []) (rest := [.int (sI (g2 k + 1))]) (kX11_many l_ G b_ M8 N m th ch tn ea sn nm wn f hc10 hc11) (cwV 0 S.2.2.2.2 gX11_isRing_X11_many rfl rfl rfl (by decide +kernel) ⟨Nat.le_of_ble_eq_true rfl, Nat.le_of_ble_eq_true rfl⟩) (ci := 9) hc10 rfl rfl rfl hl.1 (Nat.le_of_ble_eq_true rfl) dX11_isRing_37 (c1 := 0) (s1 := 0) ⟨⟨rfl, rfl⟩, by decide, by decide⟩ (fun H locs hV => ?_)
        refine sb_lt (tgt := 49) S dX11_isRing_40 (by decide) (by omega) (fun c12 => ?_) (fun c12 => ?_)
        · refine lv_aload_n hx_ hb_ dX11_isRing_49 rfl (lv_at hl 0 rfl) ?_
          refine lv_aload_n hx_ hb_ dX11_isRing_50 rfl (lv_at hl 0 rfl) ?_
          refine sc_get (ci := 9) (C := RX11) (T := TX11) (n := 22) S hK hV inX11_ hc10 rfl 7 (by decide) (S.2.2.2.2 _ (List.mem_of_getElem? (i := 1) rfl)) rfl rfl dX11_isRing_51 ?_
          refine lv_iload_n hx_ hb_ dX11_isRing_54 rfl (lv_at hl 3 rfl) ?_
          refine sc_iald S hK hV hc9 (by omega) dX11_isRing_55 ?_
          rw [show (iup g2 k ((g2 k) + 1)) k = g2 k + 1 from by unfold iup; (repeat (first | rw [if_pos (by omega)] | rw [if_neg (by omega)]))]
          refine lv_iload_n hx_ hb_ dX11_isRing_56 rfl (lv_at hl 3 rfl) ?_
          refine sk_VP E hV (As := [.int (sI (g2 k + 1)), .int (sI k)]) (rest := []) (kX11_isInRow l_ G b_ M8 N m th ch tn ea sn nm wn (iup g2 k ((g2 k) + 1)) (g2 k + 1) k hc10 hc9 (by omega) (by omega) (fun i c d => by rw [show (iup g2 k (g2 k + 1)) i = g2 i from if_neg (by omega)]; by_cases e0 : i = 0; exact (by rw [e0]; omega); exact (by have := hpre.1 i (by omega) (by omega); omega))) (cwV 2 S.2.2.2.2 gX11_isRing_X11_isInRow rfl rfl rfl (by decide +kernel) ⟨Nat.le_of_ble_eq_true rfl, Nat.le_of_ble_eq_true rfl⟩) (ci := 9) hc10 rfl rfl rfl hl.1 (Nat.le_of_ble_eq_true rfl) dX11_isRing_57 (c1 := 0) (s1 := 0) ⟨⟨rfl, rfl⟩, by decide, by decide⟩ (fun H locs hV => ?_)
          refine sq_ne (tgt := 16) S dX11_isRing_60 (by decide) (fun h60 => ?_) (fun h60 => ?_)
          · exact ih16 k (iup g2 k ((g2 k) + 1)) M8 _ _ _ (by have hm9 := lg_C (G := g2) (G3 := (iup g2 k (g2 k + 1))) (k := k) (by omega) (fun i c => if_neg c) (by rw [show (iup g2 k (g2 k + 1)) k = g2 k + 1 from if_pos rfl]; omega); have hl0 := lgI_n (G := g2) (k := k) (fun i c d => by by_cases e : i = k; exact (by rw [e]; omega); by_cases e0 : i = 0; exact (by rw [e0]; omega); exact (by have := hpre.1 i (by omega) (by omega); omega)); omega) (by omega) (by unfold iup; rw [if_neg (by omega)]; exact hg0) (fun c => by rw [show (iup g2 k (g2 k + 1)) k = g2 k + 1 from if_pos rfl]; omega) (rp_c hpre (fun i c d => if_neg (by omega)) (by omega)) (rn_B hno rfl (fun r2 hr e hp hk => by obtain ⟨i, c, d, e2⟩ := h60; exact hr.2.2.2.1 i k c d (by omega) (by rw [hk, hp i c d, ← e2]; exact (if_neg (by omega)).symm))) hc9 (fun x q0 => ((congrFun hM8 x).trans (va_up_ne Ml16 _ (by omega))).trans (hfr16 x (by omega))) hV (lv_sub hl [0, 1, 2, 3] rfl)
          · refine lv_aload_n hx_ hb_ dX11_isRing_63 rfl (lv_at hl 0 rfl) ?_
            refine lv_aload_n hx_ hb_ dX11_isRing_64 rfl (lv_at hl 0 rfl) ?_
            refine sc_get (ci := 9) (C := RX11) (T := TX11) (n := 22) S hK hV inX11_ hc10 rfl 7 (by decide) (S.2.2.2.2 _ (List.mem_of_getElem? (i := 1) rfl)) rfl rfl dX11_isRing_65 ?_
            refine lv_iload_n hx_ hb_ dX11_isRing_68 rfl (lv_at hl 3 rfl) ?_
            refine si_const S dX11_isRing_69 ?_
            refine si_sub S dX11_isRing_70 ?_
            have hk1 : a ≤ g2 (k - 1) ∧ g2 (k - 1) < f 568 := by by_cases e0 : k - 1 = 0; exact (by rw [e0]; omega); exact (by have := hpre.1 (k - 1) (by omega) (by omega); omega)
            refine sc_iald S hK hV hc9 (by omega) dX11_isRing_71 ?_
            rw [show (iup g2 k ((g2 k) + 1)) (k - 1) = g2 (k - 1) from by unfold iup; (repeat (first | rw [if_pos (by omega)] | rw [if_neg (by omega)]))]
            refine lv_aload_n hx_ hb_ dX11_isRing_72 rfl (lv_at hl 0 rfl) ?_
            refine sc_get (ci := 9) (C := RX11) (T := TX11) (n := 22) S hK hV inX11_ hc10 rfl 7 (by decide) (S.2.2.2.2 _ (List.mem_of_getElem? (i := 1) rfl)) rfl rfl dX11_isRing_73 ?_
            refine lv_iload_n hx_ hb_ dX11_isRing_76 rfl (lv_at hl 3 rfl) ?_
            refine sc_iald S hK hV hc9 (by omega) dX11_isRing_77 ?_
            rw [show (iup g2 k ((g2 k) + 1)) k = g2 k + 1 from by unfold iup; (repeat (first | rw [if_pos (by omega)] | rw [if_neg (by omega)]))]
            refine sk_VP E hV (As := [.int (sI (g2 (k - 1))), .int (sI (g2 k + 1))]) (rest := []) (kX11_does l_ G b_ M8 N m th ch tn ea sn nm wn f (g2 (k - 1)) (g2 k + 1) hc10 hc11 (by omega) (by omega)) (cwV 2 S.2.2.2.2 gX11_isRing_X11_does rfl rfl rfl (by decide +kernel) ⟨Nat.le_of_ble_eq_true rfl, Nat.le_of_ble_eq_true rfl⟩) (ci := 9) hc10 rfl rfl rfl hl.1 (Nat.le_of_ble_eq_true rfl) dX11_isRing_78 (c1 := 0) (s1 := 0) ⟨⟨rfl, rfl⟩, by decide, by decide⟩ (fun H locs hV => ?_)
            refine sq_ne (tgt := 87) S dX11_isRing_81 (by decide) (fun h81 => ?_) (fun h81 => ?_)
            · have hps : rpP f a (iup g2 k (g2 k + 1)) (k + 1) := rp_s (rp_c hpre (fun i c d => if_neg (by omega)) (Int.le_refl _)) (by omega) (by rw [show (iup g2 k (g2 k + 1)) k = g2 k + 1 from if_pos rfl]; have := hgk (by omega); omega) (by rw [show (iup g2 k (g2 k + 1)) k = g2 k + 1 from if_pos rfl]; exact h60) (by rw [show (iup g2 k (g2 k + 1)) k = g2 k + 1 from if_pos rfl, show (iup g2 k (g2 k + 1)) (k - 1) = g2 (k - 1) from if_neg (by omega)]; exact h81)
              refine lv_iload_n hx_ hb_ dX11_isRing_87 rfl (lv_at hl 3 rfl) ?_
              refine lv_iload_n hx_ hb_ dX11_isRing_88 rfl (lv_at hl 1 rfl) ?_
              refine si_const S dX11_isRing_89 ?_
              refine si_sub S dX11_isRing_90 ?_
              refine sb_ge (tgt := 107) S dX11_isRing_91 (by decide) (by omega) (fun c13 => ?_) (fun c13 => ?_)
              · refine lv_aload_n hx_ hb_ dX11_isRing_107 rfl (lv_at hl 0 rfl) ?_
                refine lv_aload_n hx_ hb_ dX11_isRing_108 rfl (lv_at hl 0 rfl) ?_
                refine sc_get (ci := 9) (C := RX11) (T := TX11) (n := 22) S hK hV inX11_ hc10 rfl 7 (by decide) (S.2.2.2.2 _ (List.mem_of_getElem? (i := 1) rfl)) rfl rfl dX11_isRing_109 ?_
                refine lv_iload_n hx_ hb_ dX11_isRing_112 rfl (lv_at hl 3 rfl) ?_
                refine sc_iald S hK hV hc9 (by omega) dX11_isRing_113 ?_
                rw [show (iup g2 k ((g2 k) + 1)) k = g2 k + 1 from by unfold iup; (repeat (first | rw [if_pos (by omega)] | rw [if_neg (by omega)]))]
                refine lv_iload_n hx_ hb_ dX11_isRing_114 rfl (lv_at hl 2 rfl) ?_
                refine sk_VP E hV (As := [.int (sI (g2 k + 1)), .int (sI a)]) (rest := []) (kX11_does l_ G b_ M8 N m th ch tn ea sn nm wn f (g2 k + 1) a hc10 hc11 (by omega) (by omega)) (cwV 2 S.2.2.2.2 gX11_isRing_X11_does rfl rfl rfl (by decide +kernel) ⟨Nat.le_of_ble_eq_true rfl, Nat.le_of_ble_eq_true rfl⟩) (ci := 9) hc10 rfl rfl rfl hl.1 (Nat.le_of_ble_eq_true rfl) dX11_isRing_115 (c1 := 0) (s1 := 0) ⟨⟨rfl, rfl⟩, by decide, by decide⟩ (fun H locs hV => ?_)
                refine sq_eq (tgt := 16) S dX11_isRing_118 (by decide) (fun h118 => ?_) (fun h118 => ?_)
                · exact ih16 k (iup g2 k ((g2 k) + 1)) M8 _ _ _ (by have hm9 := lg_C (G := g2) (G3 := (iup g2 k (g2 k + 1))) (k := k) (by omega) (fun i c => if_neg c) (by rw [show (iup g2 k (g2 k + 1)) k = g2 k + 1 from if_pos rfl]; omega); have hl0 := lgI_n (G := g2) (k := k) (fun i c d => by by_cases e : i = k; exact (by rw [e]; omega); by_cases e0 : i = 0; exact (by rw [e0]; omega); exact (by have := hpre.1 i (by omega) (by omega); omega)); omega) (by omega) (by unfold iup; rw [if_neg (by omega)]; exact hg0) (fun c => by rw [show (iup g2 k (g2 k + 1)) k = g2 k + 1 from if_pos rfl]; omega) (rp_c hpre (fun i c d => if_neg (by omega)) (by omega)) (rn_B hno rfl (fun r2 hr e hp hk => h118 (by have h9 := hr.2.2.2.2.2; rw [show L - 1 = k by omega, hk, e] at h9; exact h9))) hc9 (fun x q0 => ((congrFun hM8 x).trans (va_up_ne Ml16 _ (by omega))).trans (hfr16 x (by omega))) hV (lv_sub hl [0, 1, 2, 3] rfl)
                · refine si_const S dX11_isRing_121 ?_
                  have hf0 : (iup g2 k (g2 k + 1)) 0 = a := by rw [show (iup g2 k (g2 k + 1)) 0 = g2 0 from if_neg (by omega)]; exact hg0
                  have hfin : riP f L (iup g2 k (g2 k + 1)) := rp_r (by rw [show L = k + 1 by omega]; exact hps) hf0 (by omega) (by omega) (by rw [show L - 1 = k by omega, show (iup g2 k (g2 k + 1)) k = g2 k + 1 from if_pos rfl]; exact h118)
                  exact sr_z E hQ (Or.inr rfl) dX11_isRing_122 ⟨Nat.le_of_ble_eq_true rfl, Nat.le_of_ble_eq_true rfl⟩ hV (⟨(iup g2 k ((g2 k) + 1)), (bI_t ⟨_, hfin, hf0⟩).symm, rfl, hc9, fun x q0 => ((((congrFun hM8 x).trans (va_up_ne Ml16 _ (by omega))).trans (hfr16 x (by omega))).trans ((congrFun hM4 x).trans (va_up_ne M1 _ (by omega)))).trans ((congrFun hM1 x).trans (va_up_ne M _ (by omega))), fun _ => ⟨hfin, hf0, fun r2 hr e => rn_D hno rfl (by omega) r2 hr e⟩⟩)
              · refine si_inc (lv' := [(3, .int (sI (k + 1))), (0, .ref m), (1, .int (sI L)), (2, .int (sI a))]) S dX11_isRing_94 hl (k := 3) rfl (by decide) rfl (fun ls hl => ?_)
                refine lv_aload_n hx_ hb_ dX11_isRing_97 rfl (lv_at hl 1 rfl) ?_
                refine sc_get (ci := 9) (C := RX11) (T := TX11) (n := 22) S hK hV inX11_ hc10 rfl 7 (by decide) (S.2.2.2.2 _ (List.mem_of_getElem? (i := 1) rfl)) rfl rfl dX11_isRing_98 ?_
                refine lv_iload_n hx_ hb_ dX11_isRing_101 rfl (lv_at hl 0 rfl) ?_
                refine lv_iload_n hx_ hb_ dX11_isRing_102 rfl (lv_at hl 3 rfl) ?_
                refine sc_iast S hK hV hc9 (by omega) dX11_isRing_103 (fun M14 H locs hM14 hV => ?_)
                have hc15 : M14 (m + 4) = some (sArr G 11 (iup (iup g2 k ((g2 k) + 1)) (k + 1) a)) := (congrFun hM14 (m + 4)).trans (va_up_self M8 (m + 4) _)
                refine lv_goto (tgt := 16) hx_ hb_ dX11_isRing_104 (by decide) ?_
                exact ih16 (k + 1) (iup (iup g2 k ((g2 k) + 1)) (k + 1) a) M14 _ _ _ (by have hm9 := lg_B (G := g2) (G3 := (iup g2 k (g2 k + 1))) (k := k) (v := a) (by omega) (fun i c => if_neg c) (by rw [show (iup g2 k (g2 k + 1)) k = g2 k + 1 from if_pos rfl]; omega) (by omega); have hl0 := lgI_n (G := g2) (k := k) (fun i c d => by by_cases e : i = k; exact (by rw [e]; omega); by_cases e0 : i = 0; exact (by rw [e0]; omega); exact (by have := hpre.1 i (by omega) (by omega); omega)); omega) (by omega) (by unfold iup; rw [if_neg (by omega), if_neg (by omega)]; exact hg0) (fun c => by rw [show iup (iup g2 k (g2 k + 1)) (k + 1) a (k + 1) = a from if_pos rfl]; omega) (rp_c hps (fun i c d => if_neg (by omega)) (by omega)) (rn_C hno rfl (by omega)) hc15 (fun x q0 => (((congrFun hM14 x).trans (va_up_ne M8 _ (by omega))).trans ((congrFun hM8 x).trans (va_up_ne Ml16 _ (by omega)))).trans (hfr16 x (by omega))) hV (lv_sub hl [1, 2, 3, 0] rfl)
            · refine lv_goto (tgt := 16) hx_ hb_ dX11_isRing_84 (by decide) ?_
              exact ih16 k (iup g2 k ((g2 k) + 1)) M8 _ _ _ (by have hm9 := lg_C (G := g2) (G3 := (iup g2 k (g2 k + 1))) (k := k) (by omega) (fun i c => if_neg c) (by rw [show (iup g2 k (g2 k + 1)) k = g2 k + 1 from if_pos rfl]; omega); have hl0 := lgI_n (G := g2) (k := k) (fun i c d => by by_cases e : i = k; exact (by rw [e]; omega); by_cases e0 : i = 0; exact (by rw [e0]; omega); exact (by have := hpre.1 i (by omega) (by omega); omega)); omega) (by omega) (by unfold iup; rw [if_neg (by omega)]; exact hg0) (fun c => by rw [show (iup g2 k (g2 k + 1)) k = g2 k + 1 from if_pos rfl]; omega) (rp_c hpre (fun i c d => if_neg (by omega)) (by omega)) (rn_B hno rfl (fun r2 hr e hp hk => h81 (by have h9 := hr.2.2.2.2.1 (k - 1) (by omega) (by omega); rw [show k - 1 + 1 = k by omega, hk, hp (k - 1) (by omega) (by omega)] at h9; exact h9))) hc9 (fun x q0 => ((congrFun hM8 x).trans (va_up_ne Ml16 _ (by omega))).trans (hfr16 x (by omega))) hV (lv_sub hl [0, 1, 2, 3] rfl)
        · refine si_inc (lv' := [(3, .int (sI (k + (-1)))), (0, .ref m), (1, .int (sI L)), (2, .int (sI a))]) S dX11_isRing_43 hl (k := 3) rfl (by decide) rfl (fun ls hl => ?_)
          refine lv_goto (tgt := 16) hx_ hb_ dX11_isRing_46 (by decide) ?_
          exact ih16 (k + (-1)) (iup g2 k ((g2 k) + 1)) M8 _ _ _ (by have hm9 := lg_A (G := g2) (G3 := (iup g2 k (g2 k + 1))) (k := k) (by omega) (fun i c => if_neg c) (by omega); rw [show k + (-1) = k - 1 from rfl]; have hl0 := lgI_n (G := g2) (k := k) (fun i c d => by by_cases e : i = k; exact (by rw [e]; omega); by_cases e0 : i = 0; exact (by rw [e0]; omega); exact (by have := hpre.1 i (by omega) (by omega); omega)); omega) (by omega) (by unfold iup; rw [if_neg (by omega)]; exact hg0) (fun c => by rw [show (iup g2 k (g2 k + 1)) (k + (-1)) = g2 (k + (-1)) from if_neg (by omega)]; have := hpre.1 (k + (-1)) (by omega) (by omega); omega) (rp_c hpre (fun i c d => if_neg (by omega)) (by omega)) (rn_A hno (fun i c => if_neg c) (by omega) (by omega)) hc9 (fun x q0 => ((congrFun hM8 x).trans (va_up_ne Ml16 _ (by omega))).trans (hfr16 x (by omega))) hV (lv_sub hl [1, 2, 3, 0] rfl)
  exact L16 _ 1 (iup (iup g 0 a) 1 a) M4 _ _ _ (Nat.lt_succ_self _) (by omega) (by unfold iup; rw [if_neg (by omega), if_pos rfl]) (fun _ => by rw [show iup (iup g 0 a) 1 a 1 = a from if_pos rfl]; omega) (rp_1 f a _) (rn_0 (by unfold iup; rw [if_neg (by omega), if_pos rfl]) (if_pos rfl)) hc5 (fun x q0 => rfl) hV (lv_sub hl [1, 2, 3, 0] rfl)

abbrev rmX11_findsRing : Room := { frames := 3, cells := 0, slots := 0, locals := 86 }
set_option maxHeartbeats 4000000 in
set_option maxRecDepth 100000 in
theorem kX11_findsRing (l_ : Launch) (G : sG) (b_ : Nat) (M : sM) (N : Nat) (m : Nat) (th ch tn ea sn nm wn : Int) (f : sF) (g : sF) (hm0 : M m = some (mO m th ch tn ea sn nm wn)) (hm1 : M (m + 1) = some (sArr G 574 f)) (hm4 : M (m + 4) = some (sArr G 11 g)) (hok : sOk f) : cI l_ yX11_findsRing wsX11_findsRing rmX11_findsRing G b_ M N [.ref m] (fun z_ M1 N1 => ∃ r9 : Int → Int, z_ = rgL f ∧ N1 = N ∧ M1 (m + 4) = some (sArr G 11 r9) ∧ (∀ x : Nat, ¬ (x = m + 4) → M1 x = M x) ∧ (rgR f (rgL f) (rgS f) ∧ ∀ i, 0 ≤ i → i < rgL f → r9 i = rgS f i)) := by
  refine sE.ofI (cc := cX11_findsRing) (nL := 3) (ret := (some .int)) (by decide) rfl (Nat.le_of_ble_eq_true rfl) ?_
  intro p_ e_ s_ m_ args_ below_ meth_ c_ ls Q hQ E hl
  have E : sE p_ l_ e_ rmX11_findsRing s_ m_ args_ below_ meth_ c_ cX11_findsRing 3 wsX11_findsRing RX11 "findsRing" (some .int) G b_ M N := E
  have S := E.1
  have hx_ := S.1
  have hb_ := S.2.1
  have hK := E.2.2.2.2.1
  have hV := E.2.2.2.2.2.2
  have hl : lv_has ls 3 [(0, .ref m)] := hl
  have inX11_ : ∀ w ∈ wsX110, w ∈ wsX11_findsRing := fun _ h => List.mem_cons_of_mem _ (List.mem_append_right _ h)
  have kn0 := sOk_N hok
  refine si_const S dX11_findsRing_0 ?_
  refine lv_istore_n (lv' := [(1, .int (sI 2)), (0, .ref m)]) hx_ hb_ dX11_findsRing_1 rfl hl (by decide) rfl (fun ls hl => ?_)
  have L2 : ∀ (fuel : Nat) (q : Int) (g2 : Int → Int) (Ml2 : sM) (H : Heap) (locs : List Loc) (ls : Array Slot), ((11 - q).toNat) < fuel → (2 ≤ q ∧ q ≤ 11) → (∀ L2 r2, riP f L2 r2 → q ≤ L2) → (Ml2 (m + 4) = some (sArr G 11 g2)) → (∀ x : Nat, ¬ (x = m + 4) → Ml2 x = M x) → sV G b_ Ml2 N s_ H locs → lv_has ls 3 [(0, .ref m), (1, .int (sI q))] → W p_ l_ e_ rmX11_findsRing s_ m_ args_ below_ meth_ c_ H locs 0 0 Q (F0 m_ 2 ls []) := by
    intro fuel
    induction fuel with
    | zero => intro q g2 Ml2 H locs ls hmu; exact absurd hmu (Nat.not_lt_zero _)
    | succ fuel ih2 =>
      intro q g2 Ml2 H locs ls hmu2 hv2_0 hnl hm2_0 hfr2 hV hl
      refine lv_iload_n hx_ hb_ dX11_findsRing_2 rfl (lv_at hl 1 rfl) ?_
      refine lv_aload_n hx_ hb_ dX11_findsRing_3 rfl (lv_at hl 0 rfl) ?_
      have hc1 : Ml2 m = some (mO m th ch tn ea sn nm wn) := (hfr2 m (by omega)).trans hm0
      have hc2 : Ml2 (m + 1) = some (sArr G 574 f) := (hfr2 (m + 1) (by omega)).trans hm1
      refine sk_VP E hV (As := []) (rest := [.int (sI q)]) (kX11_many l_ G b_ Ml2 N m th ch tn ea sn nm wn f hc1 hc2) (cwV 0 S.2.2.2.2 gX11_findsRing_X11_many rfl rfl rfl (by decide +kernel) ⟨Nat.le_of_ble_eq_true rfl, Nat.le_of_ble_eq_true rfl⟩) (ci := 9) hc1 rfl rfl rfl hl.1 (Nat.le_of_ble_eq_true rfl) dX11_findsRing_4 (c1 := 0) (s1 := 0) ⟨⟨rfl, rfl⟩, by decide, by decide⟩ (fun H locs hV => ?_)
      refine sb_gt (tgt := 43) S dX11_findsRing_7 (by decide) (by omega) (fun c3 => ?_) (fun c3 => ?_)
      · refine si_const S dX11_findsRing_43 ?_
        have hre := rg_eq (f := f) (L := 0) (r := g2) (Or.inl ⟨rfl, fun L2 r2 h => by have h1 := hnl L2 r2 h; have h2 := h.1; omega⟩)
        exact sr_i E hQ dX11_findsRing_44 ⟨Nat.le_of_ble_eq_true rfl, Nat.le_of_ble_eq_true rfl⟩ hV (⟨g2, hre.1.symm, rfl, hm2_0, fun x q0 => hfr2 x (by omega), ⟨hre.2.2, fun i c d => by omega⟩⟩)
      · refine si_const S dX11_findsRing_10 ?_
        refine lv_istore_n (lv' := [(2, .int (sI 0)), (0, .ref m), (1, .int (sI q))]) hx_ hb_ dX11_findsRing_11 rfl hl (by decide) rfl (fun ls hl => ?_)
        have L12 : ∀ (fuel : Nat) (s : Int) (g3 : Int → Int) (Ml12 : sM) (H : Heap) (locs : List Loc) (ls : Array Slot), ((f 568 - s).toNat) < fuel → (0 ≤ s ∧ s ≤ f 568) → (∀ r2, riP f q r2 → s ≤ r2 0) → (Ml12 (m + 4) = some (sArr G 11 g3)) → (∀ x : Nat, ¬ (x = m + 4) → Ml12 x = Ml2 x) → sV G b_ Ml12 N s_ H locs → lv_has ls 3 [(0, .ref m), (1, .int (sI q)), (2, .int (sI s))] → W p_ l_ e_ rmX11_findsRing s_ m_ args_ below_ meth_ c_ H locs 0 0 Q (F0 m_ 12 ls []) := by
          intro fuel
          induction fuel with
          | zero => intro s g3 Ml12 H locs ls hmu; exact absurd hmu (Nat.not_lt_zero _)
          | succ fuel ih12 =>
            intro s g3 Ml12 H locs ls hmu12 hv12_0 hna hm12_0 hfr12 hV hl
            refine lv_iload_n hx_ hb_ dX11_findsRing_12 rfl (lv_at hl 2 rfl) ?_
            refine lv_aload_n hx_ hb_ dX11_findsRing_13 rfl (lv_at hl 0 rfl) ?_
            have hc4 : Ml12 m = some (mO m th ch tn ea sn nm wn) := (hfr12 m (by omega)).trans hc1
            have hc5 : Ml12 (m + 1) = some (sArr G 574 f) := (hfr12 (m + 1) (by omega)).trans hc2
            refine sk_VP E hV (As := []) (rest := [.int (sI s)]) (kX11_many l_ G b_ Ml12 N m th ch tn ea sn nm wn f hc4 hc5) (cwV 0 S.2.2.2.2 gX11_findsRing_X11_many rfl rfl rfl (by decide +kernel) ⟨Nat.le_of_ble_eq_true rfl, Nat.le_of_ble_eq_true rfl⟩) (ci := 9) hc4 rfl rfl rfl hl.1 (Nat.le_of_ble_eq_true rfl) dX11_findsRing_14 (c1 := 0) (s1 := 0) ⟨⟨rfl, rfl⟩, by decide, by decide⟩ (fun H locs hV => ?_)
            refine sb_ge (tgt := 37) S dX11_findsRing_17 (by decide) (by omega) (fun c6 => ?_) (fun c6 => ?_)
            · refine si_inc (lv' := [(1, .int (sI (q + 1))), (0, .ref m), (2, .int (sI s))]) S dX11_findsRing_37 hl (k := 1) rfl (by decide) rfl (fun ls hl => ?_)
              refine lv_goto (tgt := 2) hx_ hb_ dX11_findsRing_40 (by decide) ?_
              exact ih2 (q + 1) g3 Ml12 _ _ _ (by omega) (by omega) (fun L2 r2 h => by by_cases e : L2 = q; exact (by have h2 := hna r2 (by rw [← e]; exact h); have h3 := (h.2.1 0 (by omega) (by have := h.1; omega)).2; omega); exact (by have := hnl L2 r2 h; omega)) hm12_0 (fun x q0 => (hfr12 x (by omega)).trans (hfr2 x (by omega))) hV (lv_sub hl [1, 0] rfl)
            · refine lv_aload_n hx_ hb_ dX11_findsRing_20 rfl (lv_at hl 0 rfl) ?_
              refine lv_iload_n hx_ hb_ dX11_findsRing_21 rfl (lv_at hl 1 rfl) ?_
              refine lv_iload_n hx_ hb_ dX11_findsRing_22 rfl (lv_at hl 2 rfl) ?_
              refine sk_Vi E hV (As := [.int (sI q), .int (sI s)]) (rest := []) (kX11_isRing l_ G b_ Ml12 N m th ch tn ea sn nm wn f g3 q s hc4 hc5 hm12_0 (by omega) (by omega) (by omega)) (cwV 2 S.2.2.2.2 gX11_findsRing_X11_isRing rfl rfl rfl (by decide +kernel) ⟨Nat.le_of_ble_eq_true rfl, Nat.le_of_ble_eq_true rfl⟩) (ci := 9) hc4 rfl rfl rfl hl.1 (Nat.le_of_ble_eq_true rfl) dX11_findsRing_23 (c1 := 0) (s1 := 0) ⟨⟨rfl, rfl⟩, by decide, by decide⟩ (fun z10 M7 N8 H locs hp9 hV => ?_)
              obtain ⟨r911, ez12, hN13, hc14, hf15, hr916⟩ := hp9
              rw [hN13] at hV
              rw [ez12]
              have hr9 := hr916
              refine sq_eq (tgt := 31) S dX11_findsRing_26 (by decide) (fun h26 => ?_) (fun h26 => ?_)
              · refine si_inc (lv' := [(2, .int (sI (s + 1))), (0, .ref m), (1, .int (sI q))]) S dX11_findsRing_31 hl (k := 2) rfl (by decide) rfl (fun ls hl => ?_)
                refine lv_goto (tgt := 12) hx_ hb_ dX11_findsRing_34 (by decide) ?_
                exact ih12 (s + 1) r911 M7 _ _ _ (by omega) (by omega) (fun r2 h => by have h2 := hna r2 h; by_cases e : r2 0 = s; exact absurd ⟨r2, h, e⟩ h26; omega) hc14 (fun x q0 => (hf15 x (by omega)).trans (hfr12 x (by omega))) hV (lv_sub hl [1, 2, 0] rfl)
              · refine lv_iload_n hx_ hb_ dX11_findsRing_29 rfl (lv_at hl 1 rfl) ?_
                have hr8 := hr9 h26
                have hre := rg_eq (f := f) (Or.inr ⟨hr8.1, hnl, fun r2 h => by have h2 := hna r2 h; by_cases e : r2 0 = s; exact hr8.2.2 r2 h e; exact Or.inl ⟨0, by omega, by omega, fun i c d => by omega, by omega⟩⟩)
                exact sr_i E hQ dX11_findsRing_30 ⟨Nat.le_of_ble_eq_true rfl, Nat.le_of_ble_eq_true rfl⟩ hV (⟨r911, hre.1.symm, rfl, hc14, fun x q0 => ((hf15 x (by omega)).trans (hfr12 x (by omega))).trans (hfr2 x (by omega)), ⟨hre.2.2, fun i c d => (hre.2.1 i c (by omega)).symm⟩⟩)
        exact L12 _ 0 g2 Ml2 _ _ _ (Nat.lt_succ_self _) (by omega) (fun r2 h => (h.2.1 0 (by omega) (by omega)).1) hm2_0 (fun x q0 => rfl) hV (lv_sub hl [1, 2, 0] rfl)
  exact L2 _ 2 g M _ _ _ (Nat.lt_succ_self _) (by omega) (fun L2 r2 h => by have := h.1; omega) hm4 (fun x q0 => rfl) hV (lv_sub hl [1, 0] rfl)

abbrev rmX11_ring : Room := { frames := 4, cells := 0, slots := 0, locals := 108 }
set_option maxHeartbeats 4000000 in
set_option maxRecDepth 100000 in
theorem kX11_ring (l_ : Launch) (G : sG) (b_ : Nat) (M : sM) (N : Nat) (m : Nat) (th ch tn ea sn nm wn : Int) (f : sF) (g : sF) (hm0 : M m = some (mO m th ch tn ea sn nm wn)) (hm1 : M (m + 1) = some (sArr G 574 f)) (hm4 : M (m + 4) = some (sArr G 11 g)) (hok : sOk f) : cI l_ yX11_ring wsX11_ring rmX11_ring G b_ M N [.ref m] (fun z_ M1 N1 => ∃ r9 : Int → Int, N1 = N ∧ M1 (m + 4) = some (sArr G 11 r9) ∧ (∀ x : Nat, ¬ (x = m) → ¬ (x = m + 4) → M1 x = M x) ∧ (((True) ∧ z_ = rgL f ∧ M1 m = some (mO m 0 ch tn ea sn nm wn)))) := by
  refine sE.ofI (cc := cX11_ring) (nL := 1) (ret := (some .int)) (by decide) rfl (Nat.le_of_ble_eq_true rfl) ?_
  intro p_ e_ s_ m_ args_ below_ meth_ c_ ls Q hQ E hl
  have E : sE p_ l_ e_ rmX11_ring s_ m_ args_ below_ meth_ c_ cX11_ring 1 wsX11_ring RX11 "ring" (some .int) G b_ M N := E
  have S := E.1
  have hx_ := S.1
  have hb_ := S.2.1
  have hK := E.2.2.2.2.1
  have hV := E.2.2.2.2.2.2
  have hl : lv_has ls 1 [(0, .ref m)] := hl
  have inX11_ : ∀ w ∈ wsX110, w ∈ wsX11_ring := fun _ h => List.mem_cons_of_mem _ (List.mem_append_right _ h)
  have kn0 := sOk_N hok
  refine lv_aload_n hx_ hb_ dX11_ring_0 rfl (lv_at hl 0 rfl) ?_
  refine si_const S dX11_ring_1 ?_
  refine sc_put (ci := 9) (C := RX11) (T := TX11) (n := 22) S hK hV inX11_ tyX11_ok nmX11 hm0 rfl 0 (by decide) (S.2.2.2.2 _ (List.mem_of_getElem? (i := 1) rfl)) rfl rfl rfl rfl (Nat.le_of_ble_eq_true rfl) dX11_ring_2 (fs1 := [.int (sI 0), .ref (m + 1), .ref (m + 2), .int (sI ch), .ref (m + 3), .int (sI tn), .int (sI ea), .ref (m + 4), .ref (m + 5), .ref (m + 6), .ref (m + 7), .ref (m + 8), .ref (m + 9), .int (sI sn), .ref (m + 10), .ref (m + 11), .ref (m + 12), .ref (m + 13), .int (sI nm), .ref (m + 14), .ref (m + 15), .int (sI wn)]) rfl (fun M1 H locs hM1 hV => ?_)
  have hc2 : M1 m = some (mO m 0 ch tn ea sn nm wn) := (congrFun hM1 m).trans (va_up_self M m _)
  refine lv_aload_n hx_ hb_ dX11_ring_5 rfl (lv_at hl 0 rfl) ?_
  have hc3 : M1 (m + 1) = some (sArr G 574 f) := ((congrFun hM1 (m + 1)).trans (va_up_ne M _ (by omega))).trans hm1
  have hc4 : M1 (m + 4) = some (sArr G 11 g) := ((congrFun hM1 (m + 4)).trans (va_up_ne M _ (by omega))).trans hm4
  refine sk_Vi E hV (As := []) (rest := []) (kX11_findsRing l_ G b_ M1 N m 0 ch tn ea sn nm wn f g hc2 hc3 hc4 (by omega)) (cwV 0 S.2.2.2.2 gX11_ring_X11_findsRing rfl rfl rfl (by decide +kernel) ⟨Nat.le_of_ble_eq_true rfl, Nat.le_of_ble_eq_true rfl⟩) (ci := 9) hc2 rfl rfl rfl hl.1 (Nat.le_of_ble_eq_true rfl) dX11_ring_6 (c1 := 0) (s1 := 0) ⟨⟨rfl, rfl⟩, by decide, by decide⟩ (fun z8 M5 N6 H locs hp7 hV => ?_)
  obtain ⟨r99, ez10, hN11, hc12, hf13, hrs14⟩ := hp7
  rw [hN11] at hV
  rw [ez10]
  have hrs := hrs14
  have hrl := rgR_r (by omega) hrs.1
  have hc15 : M5 m = some (mO m 0 ch tn ea sn nm wn) := (hf13 m (by omega)).trans hc2
  exact sr_i E hQ dX11_ring_9 ⟨Nat.le_of_ble_eq_true rfl, Nat.le_of_ble_eq_true rfl⟩ hV (⟨r99, rfl, hc12, fun x q0 q1 => (hf13 x (by omega)).trans ((congrFun hM1 x).trans (va_up_ne M _ (by omega))), ⟨(trivial), rfl, hc15⟩⟩)

abbrev rmX11_ringAt : Room := { frames := 4, cells := 0, slots := 0, locals := 108 }
set_option maxHeartbeats 4000000 in
set_option maxRecDepth 100000 in
theorem kX11_ringAt (l_ : Launch) (G : sG) (b_ : Nat) (M : sM) (N : Nat) (m : Nat) (th ch tn ea sn nm wn : Int) (f : sF) (g : sF) (p : Int) (hm0 : M m = some (mO m th ch tn ea sn nm wn)) (hm1 : M (m + 1) = some (sArr G 574 f)) (hm4 : M (m + 4) = some (sArr G 11 g)) (hok : sOk f) (hr : sR p) : cI l_ yX11_ringAt wsX11_ringAt rmX11_ringAt G b_ M N [.ref m, .int (sI p)] (fun z_ M1 N1 => ∃ r9 : Int → Int, N1 = N ∧ M1 (m + 4) = some (sArr G 11 r9) ∧ (∀ x : Nat, ¬ (x = m) → ¬ (x = m + 4) → M1 x = M x) ∧ (((¬ (0 ≤ p ∧ p < rgL f)) ∧ z_ = 0 ∧ M1 m = some (mO m 1 ch tn ea sn nm wn)) ∨ ((0 ≤ p ∧ p < rgL f) ∧ z_ = rgS f p ∧ M1 m = some (mO m 0 ch tn ea sn nm wn)))) := by
  refine sE.ofI (cc := cX11_ringAt) (nL := 2) (ret := (some .int)) (by decide) rfl (Nat.le_of_ble_eq_true rfl) ?_
  intro p_ e_ s_ m_ args_ below_ meth_ c_ ls Q hQ E hl
  have E : sE p_ l_ e_ rmX11_ringAt s_ m_ args_ below_ meth_ c_ cX11_ringAt 2 wsX11_ringAt RX11 "ringAt" (some .int) G b_ M N := E
  have S := E.1
  have hx_ := S.1
  have hb_ := S.2.1
  have hK := E.2.2.2.2.1
  have hV := E.2.2.2.2.2.2
  have hl : lv_has ls 2 [(0, .ref m), (1, .int (sI p))] := hl
  have inX11_ : ∀ w ∈ wsX110, w ∈ wsX11_ringAt := fun _ h => List.mem_cons_of_mem _ (List.mem_append_right _ h)
  have kn0 := sOk_N hok
  refine lv_aload_n hx_ hb_ dX11_ringAt_0 rfl (lv_at hl 0 rfl) ?_
  refine si_const S dX11_ringAt_1 ?_
  refine sc_put (ci := 9) (C := RX11) (T := TX11) (n := 22) S hK hV inX11_ tyX11_ok nmX11 hm0 rfl 0 (by decide) (S.2.2.2.2 _ (List.mem_of_getElem? (i := 1) rfl)) rfl rfl rfl rfl (Nat.le_of_ble_eq_true rfl) dX11_ringAt_2 (fs1 := [.int (sI 0), .ref (m + 1), .ref (m + 2), .int (sI ch), .ref (m + 3), .int (sI tn), .int (sI ea), .ref (m + 4), .ref (m + 5), .ref (m + 6), .ref (m + 7), .ref (m + 8), .ref (m + 9), .int (sI sn), .ref (m + 10), .ref (m + 11), .ref (m + 12), .ref (m + 13), .int (sI nm), .ref (m + 14), .ref (m + 15), .int (sI wn)]) rfl (fun M1 H locs hM1 hV => ?_)
  have hc2 : M1 m = some (mO m 0 ch tn ea sn nm wn) := (congrFun hM1 m).trans (va_up_self M m _)
  refine lv_aload_n hx_ hb_ dX11_ringAt_5 rfl (lv_at hl 0 rfl) ?_
  refine lv_iload_n hx_ hb_ dX11_ringAt_6 rfl (lv_at hl 1 rfl) ?_
  refine si_const S dX11_ringAt_7 ?_
  refine lv_aload_n hx_ hb_ dX11_ringAt_8 rfl (lv_at hl 0 rfl) ?_
  have hc3 : M1 (m + 1) = some (sArr G 574 f) := ((congrFun hM1 (m + 1)).trans (va_up_ne M _ (by omega))).trans hm1
  have hc4 : M1 (m + 4) = some (sArr G 11 g) := ((congrFun hM1 (m + 4)).trans (va_up_ne M _ (by omega))).trans hm4
  refine sk_Vi E hV (As := []) (rest := [.int (sI 0), .int (sI p), .ref m]) (kX11_findsRing l_ G b_ M1 N m 0 ch tn ea sn nm wn f g hc2 hc3 hc4 (by omega)) (cwV 0 S.2.2.2.2 gX11_ringAt_X11_findsRing rfl rfl rfl (by decide +kernel) ⟨Nat.le_of_ble_eq_true rfl, Nat.le_of_ble_eq_true rfl⟩) (ci := 9) hc2 rfl rfl rfl hl.1 (Nat.le_of_ble_eq_true rfl) dX11_ringAt_9 (c1 := 0) (s1 := 0) ⟨⟨rfl, rfl⟩, by decide, by decide⟩ (fun z8 M5 N6 H locs hp7 hV => ?_)
  obtain ⟨r99, ez10, hN11, hc12, hf13, hrs14⟩ := hp7
  rw [hN11] at hV
  rw [ez10]
  have hrs := hrs14
  have hrl := rgR_r (by omega) hrs.1
  refine si_const S dX11_ringAt_12 ?_
  refine si_sub S dX11_ringAt_13 ?_
  refine sk_SP E hV (As := [.int (sI p), .int (sI 0), .int (sI ((rgL f) - 1))]) (rest := [.ref m]) (kX11_in l_ G b_ M5 N p 0 ((rgL f) - 1) (by omega)) (va_cwS 3 S.2.2.2.2 gX11_ringAt_X11_in rfl rfl rfl (by decide +kernel) ⟨Nat.le_of_ble_eq_true rfl, Nat.le_of_ble_eq_true rfl⟩) rfl rfl hl.1 (Nat.le_of_ble_eq_true rfl) dX11_ringAt_14 (c1 := 0) (s1 := 0) ⟨⟨rfl, rfl⟩, by decide, by decide⟩ (fun H locs hV => ?_)
  refine si_const S dX11_ringAt_17 ?_
  have hc15 : M5 m = some (mO m 0 ch tn ea sn nm wn) := (hf13 m (by omega)).trans hc2
  refine sk_Vi E hV (As := [.int (sI (bI (0 ≤ p ∧ p ≤ ((rgL f) - 1)))), .int (sI 1)]) (rest := []) (kX11_fails l_ G b_ M5 N m ch tn ea sn nm wn 1 (0 ≤ p ∧ p ≤ ((rgL f) - 1)) hc15 (by omega)) (cwV 2 S.2.2.2.2 gX11_ringAt_X11_fails rfl rfl rfl (by decide +kernel) ⟨Nat.le_of_ble_eq_true rfl, Nat.le_of_ble_eq_true rfl⟩) (ci := 9) hc15 rfl rfl rfl hl.1 (Nat.le_of_ble_eq_true rfl) dX11_ringAt_18 (c1 := 0) (s1 := 0) ⟨⟨rfl, rfl⟩, by decide, by decide⟩ (fun z19 M16 N17 H locs hp18 hV => ?_)
  obtain ⟨hN20, hf21, hq22⟩ := hp18
  rw [hN20] at hV
  rcases hq22 with ⟨c23, ez24, hc25⟩ | ⟨c26, ez27, hc28⟩
  · rw [ez24]
    refine sz_eq (tgt := 28) S dX11_ringAt_21 (by decide) (by omega) (fun _ => ?_) (fun c29 => absurd c29 (by omega))
    refine lv_aload_n hx_ hb_ dX11_ringAt_28 rfl (lv_at hl 0 rfl) ?_
    refine sc_get (ci := 9) (C := RX11) (T := TX11) (n := 22) S hK hV inX11_ hc25 rfl 7 (by decide) (S.2.2.2.2 _ (List.mem_of_getElem? (i := 2) rfl)) rfl rfl dX11_ringAt_29 ?_
    refine lv_iload_n hx_ hb_ dX11_ringAt_32 rfl (lv_at hl 1 rfl) ?_
    have hc30 : M16 (m + 4) = some (sArr G 11 r99) := (hf21 (m + 4) (by omega)).trans hc12
    refine sc_iald S hK hV hc30 (by omega) dX11_ringAt_33 ?_
    exact sr_i E hQ dX11_ringAt_34 ⟨Nat.le_of_ble_eq_true rfl, Nat.le_of_ble_eq_true rfl⟩ hV (⟨r99, rfl, hc30, fun x q0 q1 => ((hf21 x (by omega)).trans (hf13 x (by omega))).trans ((congrFun hM1 x).trans (va_up_ne M _ (by omega))), Or.inr (⟨(by omega), hrs.2 p (by omega) (by omega), hc25⟩)⟩)
  · rw [ez27]
    refine sz_eq (tgt := 28) S dX11_ringAt_21 (by decide) (by omega) (fun c31 => absurd c31 (by omega)) (fun _ => ?_)
    refine si_const S dX11_ringAt_24 ?_
    refine lv_goto (tgt := 34) hx_ hb_ dX11_ringAt_25 (by decide) ?_
    have hc32 : M16 (m + 4) = some (sArr G 11 r99) := (hf21 (m + 4) (by omega)).trans hc12
    exact sr_i E hQ dX11_ringAt_34 ⟨Nat.le_of_ble_eq_true rfl, Nat.le_of_ble_eq_true rfl⟩ hV (⟨r99, rfl, hc32, fun x q0 q1 => ((hf21 x (by omega)).trans (hf13 x (by omega))).trans ((congrFun hM1 x).trans (va_up_ne M _ (by omega))), Or.inl ⟨(by omega), rfl, hc28⟩⟩)
