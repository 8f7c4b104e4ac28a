def ofF (f : sF) (p g w : Int) : sF := iup (iup (iup (iup f (544 + f 573) p) (552 + f 573) g) (560 + f 573) w) 573 (f 573 + 1)
def coF (f : sF) : sF := iup f 573 0
/-- how many bits are set -/
noncomputable def pcI (m : Int) : Int := isum 31 (fun k => bI (tb m k))
theorem isum_sh {n : Int} (g : Int → Int) (h : 0 ≤ n) : isum (n + 1) g = g 0 + isum n (fun k => g (k + 1)) := by
  have key : ∀ m : Nat, isum ((m : Int) + 1) g = g 0 + isum (m : Int) (fun k => g (k + 1)) := by
    intro m
    induction m with
    | zero => rw [show ((0 : Nat) : Int) = 0 from rfl, isum_s g (by omega), isum_0, isum_0]; omega
    | succ m ih =>
      rw [show ((m + 1 : Nat) : Int) = (m : Int) + 1 by omega, isum_s (n := (m : Int) + 1) g (by omega), isum_s (n := (m : Int)) (fun k => g (k + 1)) (by omega), ih]
      omega
  have := key n.toNat
  rw [show ((n.toNat : Nat) : Int) = n by omega] at this
  exact this
theorem tb_half {m k : Int} (hm : 0 ≤ m) (hk : 0 ≤ k) : tb (m / 2) k ↔ tb m (k + 1) := by
  rw [tb_eq, tb_eq, show (k + 1).toNat = k.toNat + 1 by omega, Nat.pow_succ, Nat.mul_comm, show (m / 2).toNat = m.toNat / 2 by omega, Nat.div_div_eq_div_mul]
theorem tb_big {m k : Int} (hm : 0 ≤ m ∧ m ≤ 2147483647) (hk : 31 ≤ k) : ¬ tb m k := by
  rw [tb_eq]
  have h1 : m.toNat < 2 ^ 31 := by omega
  have h2 : 2 ^ 31 ≤ 2 ^ k.toNat := Nat.pow_le_pow_right (by omega) (by omega)
  rw [Nat.div_eq_of_lt (by omega)]
  omega
theorem pc_0 : pcI 0 = 0 := by
  unfold pcI
  rw [isum_c (g' := fun _ => 0) (fun k _ _ => bI_f (tb_0 k))]
  rfl
theorem tb_00 {m : Int} (hm : 0 ≤ m) : tb m 0 ↔ m % 2 = 1 := by
  rw [tb_eq, show (0 : Int).toNat = 0 from rfl, Nat.pow_zero, Nat.div_one]
  omega
theorem pc_half {m : Int} (hm : 0 ≤ m ∧ m ≤ 2147483647) : pcI m = m % 2 + pcI (m / 2) := by
  have h1 := isum_sh (n := 31) (fun k => bI (tb m k)) (by omega)
  have h2 := isum_s (n := 31) (fun k => bI (tb m k)) (by omega)
  have h3 : bI (tb m 31) = 0 := bI_f (tb_big hm (by omega))
  have h4 : isum 31 (fun k => bI (tb m (k + 1))) = pcI (m / 2) := isum_c fun k a _ => bI_c (tb_half hm.1 a).symm
  have h5 : bI (tb m 0) = m % 2 := by
    by_cases q : m % 2 = 1
    · rw [bI_t ((tb_00 hm.1).mpr q), q]
    · rw [bI_f (fun r => q ((tb_00 hm.1).mp r))]; omega
  have h6 : (fun k => bI (tb m k)) 31 = bI (tb m 31) := rfl
  unfold pcI at h4 ⊢
  rw [← h4]
  omega
theorem pc_or {m k : Int} (hm : 0 ≤ m ∧ m ≤ 2147483647) (hk : 0 ≤ k ∧ k ≤ 30) (h : ¬ tb m k) : pcI (ior m (ishl 1 k)) = pcI m + 1 := by
  have hs : 0 ≤ ishl 1 k ∧ ishl 1 k ≤ 2147483647 := by
    rw [ishl_1 hk]
    have := two_pow_30 (k := k.toNat) (by omega)
    generalize 2 ^ k.toNat = P at this ⊢
    omega
  have h1 := isum_one (n := 31) (g := fun q => bI (tb m q)) (g' := fun q => bI (tb (ior m (ishl 1 k)) q)) k (by omega) (fun q a b c => bI_c (by rw [tb_or hm hs, tb_one hk a]; exact ⟨fun r => r.elim id (fun s => absurd s c), Or.inl⟩))
  have h2 : bI (tb (ior m (ishl 1 k)) k) = 1 := bI_t (by rw [tb_or hm hs, tb_one hk hk.1]; exact Or.inr rfl)
  have h3 : bI (tb m k) = 0 := bI_f h
  unfold pcI
  rw [h1]
  show _ + (bI (tb (ior m (ishl 1 k)) k) - bI (tb m k)) = _
  omega
theorem pc_r (m : Int) : 0 ≤ pcI m ∧ pcI m ≤ 31 := by
  have := isum_b (n := 31) (g := fun k => bI (tb m k)) 0 1 (by omega) (fun k _ _ => bI_r)
  unfold pcI
  omega
theorem ior_r31 {a b : Int} (ha : 0 ≤ a ∧ a ≤ 2147483647) (hb : 0 ≤ b ∧ b ≤ 2147483647) : 0 ≤ ior a b ∧ ior a b ≤ 2147483647 := by
  have h := Nat.or_lt_two_pow (x := a.toNat) (y := b.toNat) (n := 31) (by omega) (by omega)
  rw [ior_n ha hb]
  omega
theorem ishl_r31 {k : Int} (hk : 0 ≤ k ∧ k ≤ 30) : 0 ≤ ishl 1 k ∧ ishl 1 k ≤ 2147483647 := by
  rw [ishl_1 hk]
  have := two_pow_30 (k := k.toNat) (by omega)
  generalize 2 ^ k.toNat = P at this ⊢
  omega
/-! Plans. -/
def cgP (f G : sF) (n : Int) : Prop := G n = 8 ∨ (G n < f 573 ∧ f (552 + G n) = f (560 + n) ∧ f (544 + G n) ≠ f (544 + n) ∧ ∀ o, 0 ≤ o → o < n → G o ≠ G n)
theorem cgP_c {f G G2 : sF} {n : Int} (h : ∀ i, 0 ≤ i → i ≤ n → G i = G2 i) (hn : 0 ≤ n) : cgP f G n ↔ cgP f G2 n := by
  unfold cgP
  rw [h n hn (Int.le_refl _)]
  constructor
  · rintro (q | ⟨a, b, c, d⟩)
    · exact Or.inl q
    · exact Or.inr ⟨a, b, c, fun o u v => by rw [← h o u (by omega)]; exact d o u v⟩
  · rintro (q | ⟨a, b, c, d⟩)
    · exact Or.inl q
    · exact Or.inr ⟨a, b, c, fun o u v => by rw [h o u (by omega)]; exact d o u v⟩
def allG (f G : sF) : Prop := ∀ o, 0 ≤ o → o < f 573 → (0 ≤ G o ∧ G o ≤ 8) ∧ cgP f G o
/-- each that gets gives, and the other way round -/
def prmP (f G : sF) : Prop := ∀ x, 0 ≤ x → x < f 573 → (G x ≠ 8 ↔ ∃ q, 0 ≤ q ∧ q < f 573 ∧ G q = x)
def pgT (G : sF) (o : Int) : Int := if G o ≠ 8 then 1 else 0
noncomputable def plI (f G : sF) : Int := pif (prmP f G) (isum (f 573) (pgT G)) (-1)
def lexL (n : Int) (B g : Int → Int) : Prop := (∃ j, 0 ≤ j ∧ j < n ∧ (∀ i, 0 ≤ i → i < j → B i = g i) ∧ B j < g j) ∨ (∀ i, 0 ≤ i → i < n → B i = g i)
theorem lexL_a {n : Int} {B g : Int → Int} (h : lexL n B g) (h2 : lexL n g B) : ∀ i, 0 ≤ i → i < n → B i = g i := by
  rcases h with ⟨j, a, b, c, d⟩ | h
  · rcases h2 with ⟨k, a2, b2, c2, d2⟩ | h2
    · rcases Int.lt_trichotomy j k with q | q | q
      · have := c2 j a q; omega
      · subst q; omega
      · have := c k a2 q; omega
    · have := h2 j a b; omega
  · exact h
def optP (f : sF) (m : Int) (B : Int → Int) : Prop := allG f B ∧ plI f B = m ∧ 0 ≤ m ∧ ∀ g, allG f g → plI f g ≤ m ∧ (plI f g = m → lexL (f 573) B g)
theorem optP_u {f : sF} {m m2 : Int} {B B2 : Int → Int} (h : optP f m B) (h2 : optP f m2 B2) : m = m2 ∧ ∀ o, 0 ≤ o → o < f 573 → B o = B2 o := by
  obtain ⟨a1, a2, a3, a4⟩ := h
  obtain ⟨b1, b2, b3, b4⟩ := h2
  have c1 := a4 B2 b1
  have c2 := b4 B a1
  have e : m = m2 := by omega
  exact ⟨e, lexL_a (c1.2 (by omega)) (c2.2 (by omega))⟩
noncomputable def plnM (f : sF) : Int := @dite Int (∃ m B, optP f m B) (Classical.propDecidable _) (fun q => q.choose) (fun _ => 0)
noncomputable def plnB (f : sF) : Int → Int := @dite (Int → Int) (∃ m B, optP f m B) (Classical.propDecidable _) (fun q => q.choose_spec.choose) (fun _ => fun _ => 0)
theorem pln_eq {f : sF} {m : Int} {B : Int → Int} (h : optP f m B) : plnM f = m ∧ (∀ o, 0 ≤ o → o < f 573 → plnB f o = B o) ∧ optP f m (plnB f) := by
  have hx : ∃ m B, optP f m B := ⟨m, B, h⟩
  have e1 : plnM f = hx.choose := dif_pos hx
  have e2 : plnB f = hx.choose_spec.choose := dif_pos hx
  have h2 := hx.choose_spec.choose_spec
  have h3 := optP_u h h2
  rw [e1, e2]
  exact ⟨h3.1.symm, fun o a b => (h3.2 o a b).symm, by rw [h3.1]; exact h2⟩
/-- what was tried before -/
def Bef (G : Int → Int) (k : Int) (g : Int → Int) : Prop := ∃ j, 0 ≤ j ∧ j ≤ k ∧ (∀ i, 0 ≤ i → i < j → g i = G i) ∧ (j < k → g j < G j) ∧ (j = k → g j ≤ G j)
theorem Bef_up {G g : Int → Int} {k v : Int} (hv : G k ≤ v) (h : Bef (iup G k v) k g) : Bef G k g ∨ ((∀ i, 0 ≤ i → i < k → g i = G i) ∧ G k < g k ∧ g k ≤ v) := by
  obtain ⟨j, a, b, c, d, e⟩ := h
  have c2 : ∀ i, 0 ≤ i → i < j → g i = G i := fun i u w => by rw [c i u w]; exact if_neg (by omega)
  by_cases q : j = k
  · subst q
    have e1 := e rfl
    rw [show iup G j v j = v from if_pos rfl] at e1
    by_cases r : g j ≤ G j
    · exact Or.inl ⟨j, a, b, c2, fun s => by omega, fun _ => r⟩
    · exact Or.inr ⟨c2, by omega, e1⟩
  · have d1 := d (by omega)
    rw [show iup G k v j = G j from if_neg q] at d1
    exact Or.inl ⟨j, a, b, c2, fun _ => d1, fun s => absurd s q⟩
theorem Bef_dn {G g : Int → Int} {k : Int} (h : Bef G (k - 1) g) : Bef G k g ∨ ((∀ i, 0 ≤ i → i < k → g i = G i) ∧ G k < g k) := by
  obtain ⟨j, a, b, c, d, e⟩ := h
  by_cases q : j = k - 1
  · by_cases r : g j = G j
    · have c2 : ∀ i, 0 ≤ i → i < k → g i = G i := fun i u w => by
        by_cases s : i = j
        · rw [s]; exact r
        · exact c i u (by omega)
      by_cases t : g k ≤ G k
      · exact Or.inl ⟨k, by omega, Int.le_refl _, c2, fun s => by omega, fun _ => t⟩
      · exact Or.inr ⟨c2, by omega⟩
    · have := e q
      exact Or.inl ⟨j, a, by omega, c, fun _ => by omega, fun s => by omega⟩
  · exact Or.inl ⟨j, a, by omega, c, fun _ => d (by omega), fun s => by omega⟩
theorem Bef_lx {G g : Int → Int} {n : Int} (h : Bef G (n - 1) g) (hn : 1 ≤ n) : lexL n g G := by
  obtain ⟨j, a, b, c, d, e⟩ := h
  by_cases q : j = n - 1
  · by_cases r : g j = G j
    · exact Or.inr fun i u w => by
        by_cases s : i = j
        · rw [s]; exact r
        · exact c i u (by omega)
    · have := e q
      exact Or.inl ⟨j, a, by omega, c, by omega⟩
  · exact Or.inl ⟨j, a, by omega, c, d (by omega)⟩
def pw11 (i : Int) : Int := ((11 ^ (8 - i).toNat : Nat) : Int)
theorem pw11_s {k : Int} (h : 0 ≤ k ∧ k < 8) : pw11 k = 11 * pw11 (k + 1) := by
  unfold pw11
  rw [show (8 - k).toNat = (8 - (k + 1)).toNat + 1 by omega, Nat.pow_succ]
  omega
theorem pw11_p (k : Int) : 1 ≤ pw11 k := by
  unfold pw11
  have : 0 < 11 ^ (8 - k).toNat := Nat.pow_pos (by omega)
  omega
/-- how much is left to try -/
def lfI (G : Int → Int) (k : Int) : Int := isum (k + 1) (fun i => (9 - G i) * pw11 i)
theorem lfI_n {G : Int → Int} {k : Int} (h : ∀ i, 0 ≤ i → i ≤ k → G i ≤ 8) : 0 ≤ lfI G k := by
  by_cases hk : 0 ≤ k + 1
  · have := isum_ind (P := fun n s => n ≤ k + 1 → 0 ≤ s) (g := fun i => (9 - G i) * pw11 i) (fun _ => Int.le_refl _) (fun q s a b c => by
      have h1 := b (by omega)
      have h2 := h q a (by omega)
      have h3 : 0 ≤ (9 - G q) * pw11 q := Int.mul_nonneg (by omega) (by have := pw11_p q; omega)
      show 0 ≤ s + (9 - G q) * pw11 q
      omega) hk
    exact this (Int.le_refl _)
  · unfold lfI
    rw [isum_neg _ (by omega)]
    exact Int.le_refl _
theorem lfI_s {G : Int → Int} {k : Int} (hk : 0 ≤ k) : lfI G k = lfI G (k - 1) + (9 - G k) * pw11 k := by
  unfold lfI
  rw [isum_s _ hk, show k - 1 + 1 = k by omega]
theorem lfI_c {G G2 : Int → Int} {k : Int} (h : ∀ i, 0 ≤ i → i ≤ k → G i = G2 i) : lfI G k = lfI G2 k := isum_c fun i a b => by show (9 - G i) * pw11 i = (9 - G2 i) * pw11 i; rw [h i a (by omega)]
theorem mul_lt {a b w : Int} (h : a < b) (hw : 1 ≤ w) : a * w + w ≤ b * w := by
  have : (a + 1) * w ≤ b * w := Int.mul_le_mul_of_nonneg_right (by omega) (by omega)
  rw [Int.add_mul, Int.one_mul] at this
  exact this
theorem prm_s {f G : sF} (h8 : f 573 ≤ 8) (hG : allG f G) (h : prmP f G) {i : Int} (hi : i = f 573) (x : Int) (a : 0 ≤ x) : (x < i ∧ G x ≠ 8) ↔ ∃ q, 0 ≤ q ∧ q < i ∧ G q = x ∧ x ≠ 8 := by
  subst hi
  constructor
  · rintro ⟨b, c⟩
    obtain ⟨q, d, e, g⟩ := (h x a b).mp c
    exact ⟨q, d, e, g, by omega⟩
  · rintro ⟨q, b, c, d, e⟩
    have h1 := (hG q b c).2.resolve_left (by rw [d]; exact e)
    have hx : x < f 573 := by rw [← d]; exact h1.1
    exact ⟨hx, (h x a hx).mpr ⟨q, b, c, d⟩⟩
theorem prm_t {f G : sF} (h8 : f 573 ≤ 8) {i u v : Int} (hi : i = f 573) (hu : ∀ x, 0 ≤ x → (tb u x ↔ x < i ∧ G x ≠ 8)) (hw : ∀ x, 0 ≤ x → (tb v x ↔ ∃ q, 0 ≤ q ∧ q < i ∧ G q = x ∧ x ≠ 8)) (e : u = v) : prmP f G := by
  subst hi
  intro x a b
  have h1 := hu x a
  have h2 := hw x a
  rw [e] at h1
  constructor
  · intro c
    obtain ⟨q, d, e2, g, -⟩ := h2.mp (h1.mpr ⟨b, c⟩)
    exact ⟨q, d, e2, g⟩
  · rintro ⟨q, c, d, g⟩
    exact (h1.mp (h2.mpr ⟨q, c, d, g, by omega⟩)).2

abbrev rmX11_offer : Room := { frames := 2, cells := 0, slots := 0, locals := 62 }
set_option maxHeartbeats 4000000 in
set_option maxRecDepth 100000 in
theorem kX11_offer (l_ : Launch) (G : sG) (b_ : Nat) (M : sM) (N : Nat) (m : Nat) (th ch tn ea sn nm wn : Int) (f : sF) (fs : Int → sF) (p g w : Int) (hm0 : M m = some (mO m th ch tn ea sn nm wn)) (hm1 : M (m + 1) = some (sArr G 574 f)) (hsv : svC G M (m + 2) ch fs) (hok : sOk f) (hch : 0 ≤ ch ∧ ch ≤ 15) (hr : sR p ∧ sR g ∧ sR w) : cI l_ yX11_offer wsX11_offer rmX11_offer G b_ M N [.ref m, .int (sI p), .int (sI g), .int (sI w)] (fun z_ M1 N1 => N1 = N ∧ (∀ x : Nat, ¬ (x = m) → ¬ (x = m + 1) → ¬ (x = m + 2) → M1 x = M x) ∧ (((¬ ((0 ≤ p ∧ p ≤ 4) ∧ (0 ≤ g ∧ g ≤ 5) ∧ (0 ≤ w ∧ w ≤ 5) ∧ g ≠ w)) ∧ z_ = 0 ∧ M1 m = some (mO m 1 ch tn ea sn nm wn) ∧ M1 (m + 1) = some (sArr G 574 f) ∧ svC G M1 (m + 2) ch fs) ∨ ((((0 ≤ p ∧ p ≤ 4) ∧ (0 ≤ g ∧ g ≤ 5) ∧ (0 ≤ w ∧ w ≤ 5) ∧ g ≠ w) ∧ 8 ≤ f 573) ∧ z_ = 0 ∧ M1 m = some (mO m 2 ch tn ea sn nm wn) ∧ M1 (m + 1) = some (sArr G 574 f) ∧ svC G M1 (m + 2) ch fs) ∨ ((((0 ≤ p ∧ p ≤ 4) ∧ (0 ≤ g ∧ g ≤ 5) ∧ (0 ≤ w ∧ w ≤ 5) ∧ g ≠ w) ∧ f 573 < 8) ∧ z_ = f 573 ∧ M1 m = some (mO m 0 (chn ch) tn ea sn nm wn) ∧ M1 (m + 1) = some (sArr G 574 (ofF f p g w)) ∧ svC G M1 (m + 2) (chn ch) (fsn ch fs f)))) := by
  refine sE.ofI (cc := cX11_offer) (nL := 5) (ret := (some .int)) (by decide) rfl (Nat.le_of_ble_eq_true rfl) ?_
  intro p_ e_ s_ m_ args_ below_ meth_ c_ ls Q hQ E hl
  have E : sE p_ l_ e_ rmX11_offer s_ m_ args_ below_ meth_ c_ cX11_offer 5 wsX11_offer RX11 "offer" (some .int) G b_ M N := E
  have S := E.1
  have hx_ := S.1
  have hb_ := S.2.1
  have hK := E.2.2.2.2.1
  have hV := E.2.2.2.2.2.2
  have hl : lv_has ls 5 [(0, .ref m), (1, .int (sI p)), (2, .int (sI g)), (3, .int (sI w))] := hl
  have inX11_ : ∀ w ∈ wsX110, w ∈ wsX11_offer := fun _ h => List.mem_cons_of_mem _ (List.mem_append_right _ h)
  have kn0 := sOk_N hok
  refine lv_aload_n hx_ hb_ dX11_offer_0 rfl (lv_at hl 0 rfl) ?_
  refine si_const S dX11_offer_1 ?_
  refine sc_put (ci := 9) (C := RX11) (T := TX11) (n := 22) S hK hV inX11_ tyX11_ok nmX11 hm0 rfl 0 (by decide) (S.2.2.2.2 _ (List.mem_of_getElem? (i := 1) rfl)) rfl rfl rfl rfl (Nat.le_of_ble_eq_true rfl) dX11_offer_2 (fs1 := [.int (sI 0), .ref (m + 1), .ref (m + 2), .int (sI ch), .ref (m + 3), .int (sI tn), .int (sI ea), .ref (m + 4), .ref (m + 5), .ref (m + 6), .ref (m + 7), .ref (m + 8), .ref (m + 9), .int (sI sn), .ref (m + 10), .ref (m + 11), .ref (m + 12), .ref (m + 13), .int (sI nm), .ref (m + 14), .ref (m + 15), .int (sI wn)]) rfl (fun M1 H locs hM1 hV => ?_)
  have hc2 : M1 m = some (mO m 0 ch tn ea sn nm wn) := (congrFun hM1 m).trans (va_up_self M m _)
  refine lv_aload_n hx_ hb_ dX11_offer_5 rfl (lv_at hl 0 rfl) ?_
  refine lv_iload_n hx_ hb_ dX11_offer_6 rfl (lv_at hl 1 rfl) ?_
  refine si_const S dX11_offer_7 ?_
  refine si_const S dX11_offer_8 ?_
  refine sk_SP E hV (As := [.int (sI p), .int (sI 0), .int (sI 4)]) (rest := [.ref m]) (kX11_in l_ G b_ M1 N p 0 4 (by omega)) (va_cwS 3 S.2.2.2.2 gX11_offer_X11_in rfl rfl rfl (by decide +kernel) ⟨Nat.le_of_ble_eq_true rfl, Nat.le_of_ble_eq_true rfl⟩) rfl rfl hl.1 (Nat.le_of_ble_eq_true rfl) dX11_offer_9 (c1 := 0) (s1 := 0) ⟨⟨rfl, rfl⟩, by decide, by decide⟩ (fun H locs hV => ?_)
  refine sq_eq (tgt := 42) S dX11_offer_12 (by decide) (fun c3 => ?_) (fun c3 => ?_)
  · refine si_const S dX11_offer_42 ?_
    refine si_const S dX11_offer_43 ?_
    refine sk_Vi E hV (As := [.int (sI 0), .int (sI 1)]) (rest := []) (kX11_fails0 l_ G b_ M1 N m ch tn ea sn nm wn 1 hc2 (by omega)) (cwV 2 S.2.2.2.2 gX11_offer_X11_fails rfl rfl rfl (by decide +kernel) ⟨Nat.le_of_ble_eq_true rfl, Nat.le_of_ble_eq_true rfl⟩) (ci := 9) hc2 rfl rfl rfl hl.1 (Nat.le_of_ble_eq_true rfl) dX11_offer_44 (c1 := 0) (s1 := 0) ⟨⟨rfl, rfl⟩, by decide, by decide⟩ (fun z7 M4 N5 H locs hp6 hV => ?_)
    obtain ⟨ez8, hN9, hc10, hf11⟩ := hp6
    rw [hN9] at hV
    rw [ez8]
    refine sz_ne (tgt := 76) S dX11_offer_47 (by decide) (by omega) (fun _ => ?_) (fun c12 => absurd c12 (by omega))
    refine si_const S dX11_offer_76 ?_
    have hc13 : M4 (m + 1) = some (sArr G 574 f) := ((hf11 (m + 1) (by omega)).trans ((congrFun hM1 (m + 1)).trans (va_up_ne M _ (by omega)))).trans hm1
    have hc14 : svC G M4 (m + 2) ch fs := hsv.fr (fun x q8 q9 => (hf11 x (by omega)).trans ((congrFun hM1 x).trans (va_up_ne M _ (by omega))))
    exact sr_i E hQ dX11_offer_77 ⟨Nat.le_of_ble_eq_true rfl, Nat.le_of_ble_eq_true rfl⟩ hV (⟨rfl, fun x q0 q1 q2 => (hf11 x (by omega)).trans ((congrFun hM1 x).trans (va_up_ne M _ (by omega))), Or.inl ⟨(by omega), rfl, hc10, hc13, hc14⟩⟩)
  · refine lv_iload_n hx_ hb_ dX11_offer_15 rfl (lv_at hl 2 rfl) ?_
    refine si_const S dX11_offer_16 ?_
    refine si_const S dX11_offer_17 ?_
    refine sk_SP E hV (As := [.int (sI g), .int (sI 0), .int (sI 5)]) (rest := [.ref m]) (kX11_in l_ G b_ M1 N g 0 5 (by omega)) (va_cwS 3 S.2.2.2.2 gX11_offer_X11_in rfl rfl rfl (by decide +kernel) ⟨Nat.le_of_ble_eq_true rfl, Nat.le_of_ble_eq_true rfl⟩) rfl rfl hl.1 (Nat.le_of_ble_eq_true rfl) dX11_offer_18 (c1 := 0) (s1 := 0) ⟨⟨rfl, rfl⟩, by decide, by decide⟩ (fun H locs hV => ?_)
    refine sq_eq (tgt := 42) S dX11_offer_21 (by decide) (fun c15 => ?_) (fun c15 => ?_)
    · refine si_const S dX11_offer_42 ?_
      refine si_const S dX11_offer_43 ?_
      refine sk_Vi E hV (As := [.int (sI 0), .int (sI 1)]) (rest := []) (kX11_fails0 l_ G b_ M1 N m ch tn ea sn nm wn 1 hc2 (by omega)) (cwV 2 S.2.2.2.2 gX11_offer_X11_fails rfl rfl rfl (by decide +kernel) ⟨Nat.le_of_ble_eq_true rfl, Nat.le_of_ble_eq_true rfl⟩) (ci := 9) hc2 rfl rfl rfl hl.1 (Nat.le_of_ble_eq_true rfl) dX11_offer_44 (c1 := 0) (s1 := 0) ⟨⟨rfl, rfl⟩, by decide, by decide⟩ (fun z19 M16 N17 H locs hp18 hV => ?_)
      obtain ⟨ez20, hN21, hc22, hf23⟩ := hp18
      rw [hN21] at hV
      rw [ez20]
      refine sz_ne (tgt := 76) S dX11_offer_47 (by decide) (by omega) (fun _ => ?_) (fun c24 => absurd c24 (by omega))
      refine si_const S dX11_offer_76 ?_
      have hc25 : M16 (m + 1) = some (sArr G 574 f) := ((hf23 (m + 1) (by omega)).trans ((congrFun hM1 (m + 1)).trans (va_up_ne M _ (by omega)))).trans hm1
      have hc26 : svC G M16 (m + 2) ch fs := hsv.fr (fun x q8 q9 => (hf23 x (by omega)).trans ((congrFun hM1 x).trans (va_up_ne M _ (by omega))))
      exact sr_i E hQ dX11_offer_77 ⟨Nat.le_of_ble_eq_true rfl, Nat.le_of_ble_eq_true rfl⟩ hV (⟨rfl, fun x q0 q1 q2 => (hf23 x (by omega)).trans ((congrFun hM1 x).trans (va_up_ne M _ (by omega))), Or.inl ⟨(by omega), rfl, hc22, hc25, hc26⟩⟩)
    · refine lv_iload_n hx_ hb_ dX11_offer_24 rfl (lv_at hl 3 rfl) ?_
      refine si_const S dX11_offer_25 ?_
      refine si_const S dX11_offer_26 ?_
      refine sk_SP E hV (As := [.int (sI w), .int (sI 0), .int (sI 5)]) (rest := [.ref m]) (kX11_in l_ G b_ M1 N w 0 5 (by omega)) (va_cwS 3 S.2.2.2.2 gX11_offer_X11_in rfl rfl rfl (by decide +kernel) ⟨Nat.le_of_ble_eq_true rfl, Nat.le_of_ble_eq_true rfl⟩) rfl rfl hl.1 (Nat.le_of_ble_eq_true rfl) dX11_offer_27 (c1 := 0) (s1 := 0) ⟨⟨rfl, rfl⟩, by decide, by decide⟩ (fun H locs hV => ?_)
      refine sq_eq (tgt := 42) S dX11_offer_30 (by decide) (fun c27 => ?_) (fun c27 => ?_)
      · refine si_const S dX11_offer_42 ?_
        refine si_const S dX11_offer_43 ?_
        refine sk_Vi E hV (As := [.int (sI 0), .int (sI 1)]) (rest := []) (kX11_fails0 l_ G b_ M1 N m ch tn ea sn nm wn 1 hc2 (by omega)) (cwV 2 S.2.2.2.2 gX11_offer_X11_fails rfl rfl rfl (by decide +kernel) ⟨Nat.le_of_ble_eq_true rfl, Nat.le_of_ble_eq_true rfl⟩) (ci := 9) hc2 rfl rfl rfl hl.1 (Nat.le_of_ble_eq_true rfl) dX11_offer_44 (c1 := 0) (s1 := 0) ⟨⟨rfl, rfl⟩, by decide, by decide⟩ (fun z31 M28 N29 H locs hp30 hV => ?_)
        obtain ⟨ez32, hN33, hc34, hf35⟩ := hp30
        rw [hN33] at hV
        rw [ez32]
        refine sz_ne (tgt := 76) S dX11_offer_47 (by decide) (by omega) (fun _ => ?_) (fun c36 => absurd c36 (by omega))
        refine si_const S dX11_offer_76 ?_
        have hc37 : M28 (m + 1) = some (sArr G 574 f) := ((hf35 (m + 1) (by omega)).trans ((congrFun hM1 (m + 1)).trans (va_up_ne M _ (by omega)))).trans hm1
        have hc38 : svC G M28 (m + 2) ch fs := hsv.fr (fun x q8 q9 => (hf35 x (by omega)).trans ((congrFun hM1 x).trans (va_up_ne M _ (by omega))))
        exact sr_i E hQ dX11_offer_77 ⟨Nat.le_of_ble_eq_true rfl, Nat.le_of_ble_eq_true rfl⟩ hV (⟨rfl, fun x q0 q1 q2 => (hf35 x (by omega)).trans ((congrFun hM1 x).trans (va_up_ne M _ (by omega))), Or.inl ⟨(by omega), rfl, hc34, hc37, hc38⟩⟩)
      · refine lv_iload_n hx_ hb_ dX11_offer_33 rfl (lv_at hl 2 rfl) ?_
        refine lv_iload_n hx_ hb_ dX11_offer_34 rfl (lv_at hl 3 rfl) ?_
        refine sb_eq (tgt := 42) S dX11_offer_35 (by decide) (by omega) (fun c39 => ?_) (fun c39 => ?_)
        · refine si_const S dX11_offer_42 ?_
          refine si_const S dX11_offer_43 ?_
          refine sk_Vi E hV (As := [.int (sI 0), .int (sI 1)]) (rest := []) (kX11_fails0 l_ G b_ M1 N m ch tn ea sn nm wn 1 hc2 (by omega)) (cwV 2 S.2.2.2.2 gX11_offer_X11_fails rfl rfl rfl (by decide +kernel) ⟨Nat.le_of_ble_eq_true rfl, Nat.le_of_ble_eq_true rfl⟩) (ci := 9) hc2 rfl rfl rfl hl.1 (Nat.le_of_ble_eq_true rfl) dX11_offer_44 (c1 := 0) (s1 := 0) ⟨⟨rfl, rfl⟩, by decide, by decide⟩ (fun z43 M40 N41 H locs hp42 hV => ?_)
          obtain ⟨ez44, hN45, hc46, hf47⟩ := hp42
          rw [hN45] at hV
          rw [ez44]
          refine sz_ne (tgt := 76) S dX11_offer_47 (by decide) (by omega) (fun _ => ?_) (fun c48 => absurd c48 (by omega))
          refine si_const S dX11_offer_76 ?_
          have hc49 : M40 (m + 1) = some (sArr G 574 f) := ((hf47 (m + 1) (by omega)).trans ((congrFun hM1 (m + 1)).trans (va_up_ne M _ (by omega)))).trans hm1
          have hc50 : svC G M40 (m + 2) ch fs := hsv.fr (fun x q8 q9 => (hf47 x (by omega)).trans ((congrFun hM1 x).trans (va_up_ne M _ (by omega))))
          exact sr_i E hQ dX11_offer_77 ⟨Nat.le_of_ble_eq_true rfl, Nat.le_of_ble_eq_true rfl⟩ hV (⟨rfl, fun x q0 q1 q2 => (hf47 x (by omega)).trans ((congrFun hM1 x).trans (va_up_ne M _ (by omega))), Or.inl ⟨(by omega), rfl, hc46, hc49, hc50⟩⟩)
        · refine si_const S dX11_offer_38 ?_
          refine lv_goto (tgt := 43) hx_ hb_ dX11_offer_39 (by decide) ?_
          refine si_const S dX11_offer_43 ?_
          refine sk_Vi E hV (As := [.int (sI 1), .int (sI 1)]) (rest := []) (kX11_fails1 l_ G b_ M1 N m ch tn ea sn nm wn 1 hc2 (by omega)) (cwV 2 S.2.2.2.2 gX11_offer_X11_fails rfl rfl rfl (by decide +kernel) ⟨Nat.le_of_ble_eq_true rfl, Nat.le_of_ble_eq_true rfl⟩) (ci := 9) hc2 rfl rfl rfl hl.1 (Nat.le_of_ble_eq_true rfl) dX11_offer_44 (c1 := 0) (s1 := 0) ⟨⟨rfl, rfl⟩, by decide, by decide⟩ (fun z54 M51 N52 H locs hp53 hV => ?_)
          obtain ⟨ez55, hN56, hc57, hf58⟩ := hp53
          rw [hN56] at hV
          rw [ez55]
          refine sz_ne (tgt := 76) S dX11_offer_47 (by decide) (by omega) (fun c59 => absurd c59 (by omega)) (fun _ => ?_)
          refine lv_aload_n hx_ hb_ dX11_offer_50 rfl (lv_at hl 0 rfl) ?_
          refine lv_aload_n hx_ hb_ dX11_offer_51 rfl (lv_at hl 0 rfl) ?_
          refine sc_get (ci := 9) (C := RX11) (T := TX11) (n := 22) S hK hV inX11_ hc57 rfl 1 (by decide) (S.2.2.2.2 _ (List.mem_of_getElem? (i := 2) rfl)) rfl rfl dX11_offer_52 ?_
          refine si_sipush S dX11_offer_55 (by decide) ?_
          have hc60 : M51 (m + 1) = some (sArr G 574 f) := ((hf58 (m + 1) (by omega)).trans ((congrFun hM1 (m + 1)).trans (va_up_ne M _ (by omega)))).trans hm1
          refine sc_iald S hK hV hc60 (by omega) dX11_offer_58 ?_
          refine si_bipush S dX11_offer_59 (by decide) ?_
          refine sb_ge (tgt := 68) S dX11_offer_61 (by decide) (by omega) (fun c61 => ?_) (fun c61 => ?_)
          · refine si_const S dX11_offer_68 ?_
            refine si_const S dX11_offer_69 ?_
            refine sk_Vi E hV (As := [.int (sI 0), .int (sI 2)]) (rest := []) (kX11_fails0 l_ G b_ M51 N m ch tn ea sn nm wn 2 hc57 (by omega)) (cwV 2 S.2.2.2.2 gX11_offer_X11_fails rfl rfl rfl (by decide +kernel) ⟨Nat.le_of_ble_eq_true rfl, Nat.le_of_ble_eq_true rfl⟩) (ci := 9) hc57 rfl rfl rfl hl.1 (Nat.le_of_ble_eq_true rfl) dX11_offer_70 (c1 := 0) (s1 := 0) ⟨⟨rfl, rfl⟩, by decide, by decide⟩ (fun z65 M62 N63 H locs hp64 hV => ?_)
            obtain ⟨ez66, hN67, hc68, hf69⟩ := hp64
            rw [hN67] at hV
            rw [ez66]
            refine sz_eq (tgt := 78) S dX11_offer_73 (by decide) (by omega) (fun c70 => absurd c70 (by omega)) (fun _ => ?_)
            refine si_const S dX11_offer_76 ?_
            have hc71 : M62 (m + 1) = some (sArr G 574 f) := (hf69 (m + 1) (by omega)).trans hc60
            have hc72 : svC G M62 (m + 2) ch fs := hsv.fr (fun x q8 q9 => ((hf69 x (by omega)).trans (hf58 x (by omega))).trans ((congrFun hM1 x).trans (va_up_ne M _ (by omega))))
            exact sr_i E hQ dX11_offer_77 ⟨Nat.le_of_ble_eq_true rfl, Nat.le_of_ble_eq_true rfl⟩ hV (⟨rfl, fun x q0 q1 q2 => ((hf69 x (by omega)).trans (hf58 x (by omega))).trans ((congrFun hM1 x).trans (va_up_ne M _ (by omega))), Or.inr (Or.inl ⟨(by omega), rfl, hc68, hc71, hc72⟩)⟩)
          · refine si_const S dX11_offer_64 ?_
            refine lv_goto (tgt := 69) hx_ hb_ dX11_offer_65 (by decide) ?_
            refine si_const S dX11_offer_69 ?_
            refine sk_Vi E hV (As := [.int (sI 1), .int (sI 2)]) (rest := []) (kX11_fails1 l_ G b_ M51 N m ch tn ea sn nm wn 2 hc57 (by omega)) (cwV 2 S.2.2.2.2 gX11_offer_X11_fails rfl rfl rfl (by decide +kernel) ⟨Nat.le_of_ble_eq_true rfl, Nat.le_of_ble_eq_true rfl⟩) (ci := 9) hc57 rfl rfl rfl hl.1 (Nat.le_of_ble_eq_true rfl) dX11_offer_70 (c1 := 0) (s1 := 0) ⟨⟨rfl, rfl⟩, by decide, by decide⟩ (fun z76 M73 N74 H locs hp75 hV => ?_)
            obtain ⟨ez77, hN78, hc79, hf80⟩ := hp75
            rw [hN78] at hV
            rw [ez77]
            refine sz_eq (tgt := 78) S dX11_offer_73 (by decide) (by omega) (fun _ => ?_) (fun c81 => absurd c81 (by omega))
            refine lv_aload_n hx_ hb_ dX11_offer_78 rfl (lv_at hl 0 rfl) ?_
            have hc82 : M73 (m + 1) = some (sArr G 574 f) := (hf80 (m + 1) (by omega)).trans hc60
            have hc83 : svC G M73 (m + 2) ch fs := hsv.fr (fun x q8 q9 => ((hf80 x (by omega)).trans (hf58 x (by omega))).trans ((congrFun hM1 x).trans (va_up_ne M _ (by omega))))
            refine sk_Vv E hV (As := []) (rest := []) (kX11_keeps l_ G b_ M73 N m 0 ch tn ea sn nm wn f fs hc79 hc82 hc83 (by omega)) (cwV 0 S.2.2.2.2 gX11_offer_X11_keeps rfl rfl rfl (by decide +kernel) ⟨Nat.le_of_ble_eq_true rfl, Nat.le_of_ble_eq_true rfl⟩) (ci := 9) hc79 rfl rfl rfl hl.1 (Nat.le_of_ble_eq_true rfl) dX11_offer_79 (c1 := 0) (s1 := 0) ⟨⟨rfl, rfl⟩, by decide, by decide⟩ (fun M84 N85 H locs hp86 hV => ?_)
            obtain ⟨hN88, hc89, hc90, hf91⟩ := hp86
            rw [hN88] at hV
            refine lv_aload_n hx_ hb_ dX11_offer_82 rfl (lv_at hl 0 rfl) ?_
            refine sc_get (ci := 9) (C := RX11) (T := TX11) (n := 22) S hK hV inX11_ hc89 rfl 1 (by decide) (S.2.2.2.2 _ (List.mem_of_getElem? (i := 2) rfl)) rfl rfl dX11_offer_83 ?_
            refine si_sipush S dX11_offer_86 (by decide) ?_
            have hc92 : M84 (m + 1) = some (sArr G 574 f) := (hf91 (m + 1) (by omega) (by omega)).trans hc82
            refine sc_iald S hK hV hc92 (by omega) dX11_offer_89 ?_
            refine lv_istore (lv' := [(4, .int (sI (f 573))), (0, .ref m), (1, .int (sI p)), (2, .int (sI g)), (3, .int (sI w))]) hx_ hb_ dX11_offer_90 hl (by decide) rfl (fun ls hl => ?_)
            refine lv_aload_n hx_ hb_ dX11_offer_92 rfl (lv_at hl 1 rfl) ?_
            refine sc_get (ci := 9) (C := RX11) (T := TX11) (n := 22) S hK hV inX11_ hc89 rfl 1 (by decide) (S.2.2.2.2 _ (List.mem_of_getElem? (i := 2) rfl)) rfl rfl dX11_offer_93 ?_
            refine si_sipush S dX11_offer_96 (by decide) ?_
            refine lv_iload hx_ hb_ dX11_offer_99 (lv_at hl 0 rfl) ?_
            refine si_add S dX11_offer_101 ?_
            refine lv_iload_n hx_ hb_ dX11_offer_102 rfl (lv_at hl 2 rfl) ?_
            refine sc_iast S hK hV hc92 (by omega) dX11_offer_103 (fun M93 H locs hM93 hV => ?_)
            have hc94 : M93 (m + 1) = some (sArr G 574 (iup f (544 + (f 573)) p)) := (congrFun hM93 (m + 1)).trans (va_up_self M84 (m + 1) _)
            refine lv_aload_n hx_ hb_ dX11_offer_104 rfl (lv_at hl 1 rfl) ?_
            have hc95 : M93 m = some (mO m 0 (chn ch) tn ea sn nm wn) := ((congrFun hM93 m).trans (va_up_ne M84 _ (by omega))).trans hc89
            refine sc_get (ci := 9) (C := RX11) (T := TX11) (n := 22) S hK hV inX11_ hc95 rfl 1 (by decide) (S.2.2.2.2 _ (List.mem_of_getElem? (i := 2) rfl)) rfl rfl dX11_offer_105 ?_
            refine si_sipush S dX11_offer_108 (by decide) ?_
            refine lv_iload hx_ hb_ dX11_offer_111 (lv_at hl 0 rfl) ?_
            refine si_add S dX11_offer_113 ?_
            refine lv_iload_n hx_ hb_ dX11_offer_114 rfl (lv_at hl 3 rfl) ?_
            refine sc_iast S hK hV hc94 (by omega) dX11_offer_115 (fun M96 H locs hM96 hV => ?_)
            have hc97 : M96 (m + 1) = some (sArr G 574 (iup (iup f (544 + (f 573)) p) (552 + (f 573)) g)) := (congrFun hM96 (m + 1)).trans (va_up_self M93 (m + 1) _)
            refine lv_aload_n hx_ hb_ dX11_offer_116 rfl (lv_at hl 1 rfl) ?_
            have hc98 : M96 m = some (mO m 0 (chn ch) tn ea sn nm wn) := ((congrFun hM96 m).trans (va_up_ne M93 _ (by omega))).trans hc95
            refine sc_get (ci := 9) (C := RX11) (T := TX11) (n := 22) S hK hV inX11_ hc98 rfl 1 (by decide) (S.2.2.2.2 _ (List.mem_of_getElem? (i := 2) rfl)) rfl rfl dX11_offer_117 ?_
            refine si_sipush S dX11_offer_120 (by decide) ?_
            refine lv_iload hx_ hb_ dX11_offer_123 (lv_at hl 0 rfl) ?_
            refine si_add S dX11_offer_125 ?_
            refine lv_iload_n hx_ hb_ dX11_offer_126 rfl (lv_at hl 4 rfl) ?_
            refine sc_iast S hK hV hc97 (by omega) dX11_offer_127 (fun M99 H locs hM99 hV => ?_)
            have hc100 : M99 (m + 1) = some (sArr G 574 (iup (iup (iup f (544 + (f 573)) p) (552 + (f 573)) g) (560 + (f 573)) w)) := (congrFun hM99 (m + 1)).trans (va_up_self M96 (m + 1) _)
            refine lv_aload_n hx_ hb_ dX11_offer_128 rfl (lv_at hl 1 rfl) ?_
            have hc101 : M99 m = some (mO m 0 (chn ch) tn ea sn nm wn) := ((congrFun hM99 m).trans (va_up_ne M96 _ (by omega))).trans hc98
            refine sc_get (ci := 9) (C := RX11) (T := TX11) (n := 22) S hK hV inX11_ hc101 rfl 1 (by decide) (S.2.2.2.2 _ (List.mem_of_getElem? (i := 2) rfl)) rfl rfl dX11_offer_129 ?_
            refine si_sipush S dX11_offer_132 (by decide) ?_
            refine lv_dup2_11 hx_ hb_ dX11_offer_135 rfl rfl ?_
            refine sc_iald S hK hV hc100 (by omega) dX11_offer_136 ?_
            rw [show (iup (iup (iup f (544 + (f 573)) p) (552 + (f 573)) g) (560 + (f 573)) w) 573 = f 573 from by unfold iup; (repeat (first | rw [if_pos (by omega)] | rw [if_neg (by omega)]))]
            refine si_const S dX11_offer_137 ?_
            refine si_add S dX11_offer_138 ?_
            refine sc_iast S hK hV hc100 (by omega) dX11_offer_139 (fun M102 H locs hM102 hV => ?_)
            have hc103 : M102 (m + 1) = some (sArr G 574 (iup (iup (iup (iup f (544 + (f 573)) p) (552 + (f 573)) g) (560 + (f 573)) w) 573 ((f 573) + 1))) := (congrFun hM102 (m + 1)).trans (va_up_self M99 (m + 1) _)
            refine lv_iload hx_ hb_ dX11_offer_140 (lv_at hl 0 rfl) ?_
            have hc104 : M102 m = some (mO m 0 (chn ch) tn ea sn nm wn) := ((congrFun hM102 m).trans (va_up_ne M99 _ (by omega))).trans hc101
            have hc105 : svC G M102 (m + 2) (chn ch) (fsn ch fs f) := hc90.fr (fun x q8 q9 => ((((congrFun hM102 x).trans (va_up_ne M99 _ (by omega))).trans ((congrFun hM99 x).trans (va_up_ne M96 _ (by omega)))).trans ((congrFun hM96 x).trans (va_up_ne M93 _ (by omega)))).trans ((congrFun hM93 x).trans (va_up_ne M84 _ (by omega))))
            exact sr_i E hQ dX11_offer_142 ⟨Nat.le_of_ble_eq_true rfl, Nat.le_of_ble_eq_true rfl⟩ hV (⟨rfl, fun x q0 q1 q2 => ((((((((congrFun hM102 x).trans (va_up_ne M99 _ (by omega))).trans ((congrFun hM99 x).trans (va_up_ne M96 _ (by omega)))).trans ((congrFun hM96 x).trans (va_up_ne M93 _ (by omega)))).trans ((congrFun hM93 x).trans (va_up_ne M84 _ (by omega)))).trans (hf91 x (by omega) (by omega))).trans (hf80 x (by omega))).trans (hf58 x (by omega))).trans ((congrFun hM1 x).trans (va_up_ne M _ (by omega))), Or.inr (Or.inr (⟨(by omega), rfl, hc104, hc103, hc105⟩))⟩)

abbrev rmX11_clearOffers : Room := { frames := 2, cells := 0, slots := 0, locals := 61 }
set_option maxHeartbeats 4000000 in
set_option maxRecDepth 100000 in
theorem kX11_clearOffers (l_ : Launch) (G : sG) (b_ : Nat) (M : sM) (N : Nat) (m : Nat) (th ch tn ea sn nm wn : Int) (f : sF) (fs : Int → sF) (hm0 : M m = some (mO m th ch tn ea sn nm wn)) (hm1 : M (m + 1) = some (sArr G 574 f)) (hsv : svC G M (m + 2) ch fs) (hch : 0 ≤ ch ∧ ch ≤ 15) : cI l_ yX11_clearOffers wsX11_clearOffers rmX11_clearOffers G b_ M N [.ref m] (fun z_ M1 N1 => z_ = f 573 ∧ N1 = N ∧ M1 m = some (mO m 0 (chn ch) tn ea sn nm wn) ∧ M1 (m + 1) = some (sArr G 574 (coF f)) ∧ svC G M1 (m + 2) (chn ch) (fsn ch fs f) ∧ (∀ x : Nat, ¬ (x = m) → ¬ (x = m + 1) → ¬ (x = m + 2) → M1 x = M x)) := by
  refine sE.ofI (cc := cX11_clearOffers) (nL := 2) (ret := (some .int)) (by decide) rfl (Nat.le_of_ble_eq_true rfl) ?_
  intro p_ e_ s_ m_ args_ below_ meth_ c_ ls Q hQ E hl
  have E : sE p_ l_ e_ rmX11_clearOffers s_ m_ args_ below_ meth_ c_ cX11_clearOffers 2 wsX11_clearOffers RX11 "clearOffers" (some .int) G b_ M N := E
  have S := E.1
  have hx_ := S.1
  have hb_ := S.2.1
  have hK := E.2.2.2.2.1
  have hV := E.2.2.2.2.2.2
  have hl : lv_has ls 2 [(0, .ref m)] := hl
  have inX11_ : ∀ w ∈ wsX110, w ∈ wsX11_clearOffers := fun _ h => List.mem_cons_of_mem _ (List.mem_append_right _ h)
  refine lv_aload_n hx_ hb_ dX11_clearOffers_0 rfl (lv_at hl 0 rfl) ?_
  refine si_const S dX11_clearOffers_1 ?_
  refine sc_put (ci := 9) (C := RX11) (T := TX11) (n := 22) S hK hV inX11_ tyX11_ok nmX11 hm0 rfl 0 (by decide) (S.2.2.2.2 _ (List.mem_of_getElem? (i := 1) rfl)) rfl rfl rfl rfl (Nat.le_of_ble_eq_true rfl) dX11_clearOffers_2 (fs1 := [.int (sI 0), .ref (m + 1), .ref (m + 2), .int (sI ch), .ref (m + 3), .int (sI tn), .int (sI ea), .ref (m + 4), .ref (m + 5), .ref (m + 6), .ref (m + 7), .ref (m + 8), .ref (m + 9), .int (sI sn), .ref (m + 10), .ref (m + 11), .ref (m + 12), .ref (m + 13), .int (sI nm), .ref (m + 14), .ref (m + 15), .int (sI wn)]) rfl (fun M1 H locs hM1 hV => ?_)
  have hc2 : M1 m = some (mO m 0 ch tn ea sn nm wn) := (congrFun hM1 m).trans (va_up_self M m _)
  refine lv_aload_n hx_ hb_ dX11_clearOffers_5 rfl (lv_at hl 0 rfl) ?_
  have hc3 : M1 (m + 1) = some (sArr G 574 f) := ((congrFun hM1 (m + 1)).trans (va_up_ne M _ (by omega))).trans hm1
  have hc4 : svC G M1 (m + 2) ch fs := hsv.fr (fun x q8 q9 => (congrFun hM1 x).trans (va_up_ne M _ (by omega)))
  refine sk_Vv E hV (As := []) (rest := []) (kX11_keeps l_ G b_ M1 N m 0 ch tn ea sn nm wn f fs hc2 hc3 hc4 (by omega)) (cwV 0 S.2.2.2.2 gX11_clearOffers_X11_keeps rfl rfl rfl (by decide +kernel) ⟨Nat.le_of_ble_eq_true rfl, Nat.le_of_ble_eq_true rfl⟩) (ci := 9) hc2 rfl rfl rfl hl.1 (Nat.le_of_ble_eq_true rfl) dX11_clearOffers_6 (c1 := 0) (s1 := 0) ⟨⟨rfl, rfl⟩, by decide, by decide⟩ (fun M5 N6 H locs hp7 hV => ?_)
  obtain ⟨hN9, hc10, hc11, hf12⟩ := hp7
  rw [hN9] at hV
  refine lv_aload_n hx_ hb_ dX11_clearOffers_9 rfl (lv_at hl 0 rfl) ?_
  refine sc_get (ci := 9) (C := RX11) (T := TX11) (n := 22) S hK hV inX11_ hc10 rfl 1 (by decide) (S.2.2.2.2 _ (List.mem_of_getElem? (i := 2) rfl)) rfl rfl dX11_clearOffers_10 ?_
  refine si_sipush S dX11_clearOffers_13 (by decide) ?_
  have hc13 : M5 (m + 1) = some (sArr G 574 f) := (hf12 (m + 1) (by omega) (by omega)).trans hc3
  refine sc_iald S hK hV hc13 (by omega) dX11_clearOffers_16 ?_
  refine lv_istore_n (lv' := [(1, .int (sI (f 573))), (0, .ref m)]) hx_ hb_ dX11_clearOffers_17 rfl hl (by decide) rfl (fun ls hl => ?_)
  refine lv_aload_n hx_ hb_ dX11_clearOffers_18 rfl (lv_at hl 1 rfl) ?_
  refine sc_get (ci := 9) (C := RX11) (T := TX11) (n := 22) S hK hV inX11_ hc10 rfl 1 (by decide) (S.2.2.2.2 _ (List.mem_of_getElem? (i := 2) rfl)) rfl rfl dX11_clearOffers_19 ?_
  refine si_sipush S dX11_clearOffers_22 (by decide) ?_
  refine si_const S dX11_clearOffers_25 ?_
  refine sc_iast S hK hV hc13 (by omega) dX11_clearOffers_26 (fun M14 H locs hM14 hV => ?_)
  have hc15 : M14 (m + 1) = some (sArr G 574 (iup f 573 0)) := (congrFun hM14 (m + 1)).trans (va_up_self M5 (m + 1) _)
  refine lv_iload_n hx_ hb_ dX11_clearOffers_27 rfl (lv_at hl 0 rfl) ?_
  have hc16 : M14 m = some (mO m 0 (chn ch) tn ea sn nm wn) := ((congrFun hM14 m).trans (va_up_ne M5 _ (by omega))).trans hc10
  have hc17 : svC G M14 (m + 2) (chn ch) (fsn ch fs f) := hc11.fr (fun x q8 q9 => (congrFun hM14 x).trans (va_up_ne M5 _ (by omega)))
  exact sr_i E hQ dX11_clearOffers_28 ⟨Nat.le_of_ble_eq_true rfl, Nat.le_of_ble_eq_true rfl⟩ hV (⟨rfl, rfl, hc16, hc15, hc17, fun x q0 q1 q2 => (((congrFun hM14 x).trans (va_up_ne M5 _ (by omega))).trans (hf12 x (by omega) (by omega))).trans ((congrFun hM1 x).trans (va_up_ne M _ (by omega)))⟩)

abbrev rmX11_bits : Room := { frames := 1, cells := 0, slots := 0, locals := 40 }
set_option maxHeartbeats 4000000 in
set_option maxRecDepth 100000 in
theorem kX11_bits (l_ : Launch) (G : sG) (b_ : Nat) (M : sM) (N : Nat) (x : Int) (hr : 0 ≤ x ∧ x ≤ 2147483647) : cP l_ yX11_bits wsX11_bits rmX11_bits G b_ M N [.int (sI x)] (pcI x) := by
  refine sE.ofI (cc := cX11_bits) (nL := 3) (ret := (some .int)) (by decide) rfl (Nat.le_of_ble_eq_true rfl) ?_
  intro p_ e_ s_ m_ args_ below_ meth_ c_ ls Q hQ E hl
  have E : sE p_ l_ e_ rmX11_bits s_ m_ args_ below_ meth_ c_ cX11_bits 3 wsX11_bits RX11 "bits" (some .int) G b_ M N := E
  have S := E.1
  have hx_ := S.1
  have hb_ := S.2.1
  have hK := E.2.2.2.2.1
  have hV := E.2.2.2.2.2.2
  have hl : lv_has ls 3 [(0, .int (sI x))] := hl
  refine si_const S dX11_bits_0 ?_
  refine lv_istore_n (lv' := [(1, .int (sI 0)), (0, .int (sI x))]) hx_ hb_ dX11_bits_1 rfl hl (by decide) rfl (fun ls hl => ?_)
  refine lv_iload_n hx_ hb_ dX11_bits_2 rfl (lv_at hl 1 rfl) ?_
  refine lv_istore_n (lv' := [(2, .int (sI x)), (1, .int (sI 0)), (0, .int (sI x))]) hx_ hb_ dX11_bits_3 rfl hl (by decide) rfl (fun ls hl => ?_)
  have L4 : ∀ (fuel : Nat) (c : Int) (y : Int)  (H : Heap) (locs : List Loc) (ls : Array Slot), (y.toNat) < fuel → (0 ≤ y ∧ y ≤ x) → (c + pcI y = pcI x) → sV G b_ M N s_ H locs → lv_has ls 3 [(1, .int (sI c)), (2, .int (sI y))] → W p_ l_ e_ rmX11_bits s_ m_ args_ below_ meth_ c_ H locs 0 0 Q (F0 m_ 4 ls []) := by
    intro fuel
    induction fuel with
    | zero => intro c y H locs ls hmu; exact absurd hmu (Nat.not_lt_zero _)
    | succ fuel ih4 =>
      intro c y H locs ls hmu4 hv4_0 hc  hV hl
      have ea : iand y 1 = y % 2 := by rw [iand_n (by omega) (by omega), show (1 : Int).toNat = 1 from rfl, Nat.and_one_is_mod]; omega
      have eh : ishr y 1 = y / 2 := by rw [ishr_n (by omega) (by omega), show (1 : Int).toNat = 1 from rfl, Nat.shiftRight_eq_div_pow]; omega
      refine lv_iload_n hx_ hb_ dX11_bits_4 rfl (lv_at hl 1 rfl) ?_
      refine sz_le (tgt := 21) S dX11_bits_5 (by decide) (by omega) (fun c1 => ?_) (fun c1 => ?_)
      · refine lv_iload_n hx_ hb_ dX11_bits_21 rfl (lv_at hl 0 rfl) ?_
        exact sr_i E hQ dX11_bits_22 ⟨Nat.le_of_ble_eq_true rfl, Nat.le_of_ble_eq_true rfl⟩ hV (⟨by rw [show y = 0 by omega, pc_0] at hc; omega, rfl, rfl⟩)
      · refine lv_iload_n hx_ hb_ dX11_bits_8 rfl (lv_at hl 0 rfl) ?_
        refine lv_iload_n hx_ hb_ dX11_bits_9 rfl (lv_at hl 1 rfl) ?_
        refine si_const S dX11_bits_10 ?_
        refine si_and S dX11_bits_11 ?_
        refine si_add S dX11_bits_12 ?_
        refine lv_istore_n (lv' := [(1, .int (sI (c + (iand y 1)))), (2, .int (sI y))]) hx_ hb_ dX11_bits_13 rfl hl (by decide) rfl (fun ls hl => ?_)
        refine lv_iload_n hx_ hb_ dX11_bits_14 rfl (lv_at hl 1 rfl) ?_
        refine si_const S dX11_bits_15 ?_
        refine si_shr S dX11_bits_16 ?_
        refine lv_istore_n (lv' := [(2, .int (sI (ishr y 1))), (1, .int (sI (c + (iand y 1))))]) hx_ hb_ dX11_bits_17 rfl hl (by decide) rfl (fun ls hl => ?_)
        refine lv_goto (tgt := 4) hx_ hb_ dX11_bits_18 (by decide) ?_
        exact ih4 (c + (iand y 1)) (ishr y 1) _ _ _ (by omega) (by omega) (by have e := pc_half (m := y) (by omega); rw [eh, ea]; omega) hV (lv_sub hl [1, 0] rfl)
  exact L4 _ 0 x _ _ _ (Nat.lt_succ_self _) (by omega) (by omega) hV (lv_sub hl [1, 0] rfl)

abbrev rmX11_canGet : Room := { frames := 1, cells := 0, slots := 0, locals := 40 }
set_option maxHeartbeats 4000000 in
set_option maxRecDepth 100000 in
theorem kX11_canGet (l_ : Launch) (G : sG) (b_ : Nat) (M : sM) (N : Nat) (m : Nat) (th ch tn ea sn nm wn : Int) (f : sF) (gt : sF) (n : Int) (hm0 : M m = some (mO m th ch tn ea sn nm wn)) (hm1 : M (m + 1) = some (sArr G 574 f)) (hm10 : M (m + 10) = some (sArr G 8 gt)) (hok : sOk f) (hn : 0 ≤ n ∧ n < f 573) (hG : ∀ i, 0 ≤ i → i ≤ n → 0 ≤ gt i ∧ gt i ≤ 8) : cP l_ yX11_canGet wsX11_canGet rmX11_canGet G b_ M N [.ref m, .int (sI n)] (bI (cgP f gt n)) := by
  refine sE.ofI (cc := cX11_canGet) (nL := 4) (ret := (some .boolean)) (by decide) rfl (Nat.le_of_ble_eq_true rfl) ?_
  intro p_ e_ s_ m_ args_ below_ meth_ c_ ls Q hQ E hl
  have E : sE p_ l_ e_ rmX11_canGet s_ m_ args_ below_ meth_ c_ cX11_canGet 4 wsX11_canGet RX11 "canGet" (some .boolean) G b_ M N := E
  have S := E.1
  have hx_ := S.1
  have hb_ := S.2.1
  have hK := E.2.2.2.2.1
  have hV := E.2.2.2.2.2.2
  have hl : lv_has ls 4 [(0, .ref m), (1, .int (sI n))] := hl
  have inX11_ : ∀ w ∈ wsX110, w ∈ wsX11_canGet := fun _ h => List.mem_cons_of_mem _ (List.mem_append_right _ h)
  have kn0 := sOk_N hok
  have hGn := hG n (by omega) (by omega)
  refine lv_aload_n hx_ hb_ dX11_canGet_0 rfl (lv_at hl 0 rfl) ?_
  refine sc_get (ci := 9) (C := RX11) (T := TX11) (n := 22) S hK hV inX11_ hm0 rfl 14 (by decide) (S.2.2.2.2 _ (List.mem_of_getElem? (i := 1) rfl)) rfl rfl dX11_canGet_1 ?_
  refine lv_iload_n hx_ hb_ dX11_canGet_4 rfl (lv_at hl 1 rfl) ?_
  refine sc_iald S hK hV hm10 (by omega) dX11_canGet_5 ?_
  have kn1 := hG n (by omega) (by omega)
  refine lv_istore_n (lv' := [(2, .int (sI (gt n))), (0, .ref m), (1, .int (sI n))]) hx_ hb_ dX11_canGet_6 rfl hl (by decide) rfl (fun ls hl => ?_)
  refine lv_iload_n hx_ hb_ dX11_canGet_7 rfl (lv_at hl 0 rfl) ?_
  refine si_bipush S dX11_canGet_8 (by decide) ?_
  refine sb_ne (tgt := 15) S dX11_canGet_10 (by decide) (by omega) (fun c2 => ?_) (fun c2 => ?_)
  · refine lv_iload_n hx_ hb_ dX11_canGet_15 rfl (lv_at hl 0 rfl) ?_
    refine lv_aload_n hx_ hb_ dX11_canGet_16 rfl (lv_at hl 1 rfl) ?_
    refine sc_get (ci := 9) (C := RX11) (T := TX11) (n := 22) S hK hV inX11_ hm0 rfl 1 (by decide) (S.2.2.2.2 _ (List.mem_of_getElem? (i := 2) rfl)) rfl rfl dX11_canGet_17 ?_
    refine si_sipush S dX11_canGet_20 (by decide) ?_
    refine sc_iald S hK hV hm1 (by omega) dX11_canGet_23 ?_
    refine sb_ge (tgt := 73) S dX11_canGet_24 (by decide) (by omega) (fun c3 => ?_) (fun c3 => ?_)
    · refine si_const S dX11_canGet_73 ?_
      exact sr_z E hQ (Or.inl rfl) dX11_canGet_74 ⟨Nat.le_of_ble_eq_true rfl, Nat.le_of_ble_eq_true rfl⟩ hV (⟨(bI_f (fun h => by rcases h with h | ⟨h1, h2, h3, h4⟩ <;> omega)).symm, rfl, rfl⟩)
    · refine lv_aload_n hx_ hb_ dX11_canGet_27 rfl (lv_at hl 1 rfl) ?_
      refine sc_get (ci := 9) (C := RX11) (T := TX11) (n := 22) S hK hV inX11_ hm0 rfl 1 (by decide) (S.2.2.2.2 _ (List.mem_of_getElem? (i := 2) rfl)) rfl rfl dX11_canGet_28 ?_
      refine si_sipush S dX11_canGet_31 (by decide) ?_
      refine lv_iload_n hx_ hb_ dX11_canGet_34 rfl (lv_at hl 0 rfl) ?_
      refine si_add S dX11_canGet_35 ?_
      refine sc_iald S hK hV hm1 (by omega) dX11_canGet_36 ?_
      have kn4 : 0 ≤ f (552 + (gt n)) ∧ f (552 + (gt n)) ≤ 5 := (sOk_O hok (gt n) (by omega) (by omega)).2.1
      refine lv_aload_n hx_ hb_ dX11_canGet_37 rfl (lv_at hl 1 rfl) ?_
      refine sc_get (ci := 9) (C := RX11) (T := TX11) (n := 22) S hK hV inX11_ hm0 rfl 1 (by decide) (S.2.2.2.2 _ (List.mem_of_getElem? (i := 2) rfl)) rfl rfl dX11_canGet_38 ?_
      refine si_sipush S dX11_canGet_41 (by decide) ?_
      refine lv_iload_n hx_ hb_ dX11_canGet_44 rfl (lv_at hl 2 rfl) ?_
      refine si_add S dX11_canGet_45 ?_
      refine sc_iald S hK hV hm1 (by omega) dX11_canGet_46 ?_
      have kn5 : 0 ≤ f (560 + n) ∧ f (560 + n) ≤ 5 := (sOk_O hok n (by omega) (by omega)).2.2.1
      refine sb_ne (tgt := 73) S dX11_canGet_47 (by decide) (by omega) (fun c6 => ?_) (fun c6 => ?_)
      · refine si_const S dX11_canGet_73 ?_
        exact sr_z E hQ (Or.inl rfl) dX11_canGet_74 ⟨Nat.le_of_ble_eq_true rfl, Nat.le_of_ble_eq_true rfl⟩ hV (⟨(bI_f (fun h => by rcases h with h | ⟨h1, h2, h3, h4⟩ <;> omega)).symm, rfl, rfl⟩)
      · refine lv_aload_n hx_ hb_ dX11_canGet_50 rfl (lv_at hl 1 rfl) ?_
        refine sc_get (ci := 9) (C := RX11) (T := TX11) (n := 22) S hK hV inX11_ hm0 rfl 1 (by decide) (S.2.2.2.2 _ (List.mem_of_getElem? (i := 2) rfl)) rfl rfl dX11_canGet_51 ?_
        refine si_sipush S dX11_canGet_54 (by decide) ?_
        refine lv_iload_n hx_ hb_ dX11_canGet_57 rfl (lv_at hl 0 rfl) ?_
        refine si_add S dX11_canGet_58 ?_
        refine sc_iald S hK hV hm1 (by omega) dX11_canGet_59 ?_
        have kn7 : 0 ≤ f (544 + (gt n)) ∧ f (544 + (gt n)) ≤ 4 := (sOk_O hok (gt n) (by omega) (by omega)).1
        refine lv_aload_n hx_ hb_ dX11_canGet_60 rfl (lv_at hl 1 rfl) ?_
        refine sc_get (ci := 9) (C := RX11) (T := TX11) (n := 22) S hK hV inX11_ hm0 rfl 1 (by decide) (S.2.2.2.2 _ (List.mem_of_getElem? (i := 2) rfl)) rfl rfl dX11_canGet_61 ?_
        refine si_sipush S dX11_canGet_64 (by decide) ?_
        refine lv_iload_n hx_ hb_ dX11_canGet_67 rfl (lv_at hl 2 rfl) ?_
        refine si_add S dX11_canGet_68 ?_
        refine sc_iald S hK hV hm1 (by omega) dX11_canGet_69 ?_
        have kn8 : 0 ≤ f (544 + n) ∧ f (544 + n) ≤ 4 := (sOk_O hok n (by omega) (by omega)).1
        refine sb_ne (tgt := 75) S dX11_canGet_70 (by decide) (by omega) (fun c9 => ?_) (fun c9 => ?_)
        · refine si_const S dX11_canGet_75 ?_
          refine lv_istore_n (lv' := [(3, .int (sI 0)), (2, .int (sI (gt n))), (0, .ref m), (1, .int (sI n))]) hx_ hb_ dX11_canGet_76 rfl hl (by decide) rfl (fun ls hl => ?_)
          have L77 : ∀ (fuel : Nat) (o : Int)  (H : Heap) (locs : List Loc) (ls : Array Slot), ((n - o).toNat) < fuel → (0 ≤ o ∧ o ≤ n) → (∀ q, 0 ≤ q → q < o → ¬ gt q = gt n) → sV G b_ M N s_ H locs → lv_has ls 4 [(0, .ref m), (1, .int (sI n)), (2, .int (sI (gt n))), (3, .int (sI o))] → W p_ l_ e_ rmX11_canGet s_ m_ args_ below_ meth_ c_ H locs 0 0 Q (F0 m_ 77 ls []) := by
            intro fuel
            induction fuel with
            | zero => intro o H locs ls hmu; exact absurd hmu (Nat.not_lt_zero _)
            | succ fuel ih77 =>
              intro o H locs ls hmu77 hv77_0 hno  hV hl
              refine lv_iload_n hx_ hb_ dX11_canGet_77 rfl (lv_at hl 3 rfl) ?_
              refine lv_iload_n hx_ hb_ dX11_canGet_78 rfl (lv_at hl 1 rfl) ?_
              refine sb_ge (tgt := 100) S dX11_canGet_79 (by decide) (by omega) (fun c10 => ?_) (fun c10 => ?_)
              · refine si_const S dX11_canGet_100 ?_
                exact sr_z E hQ (Or.inr rfl) dX11_canGet_101 ⟨Nat.le_of_ble_eq_true rfl, Nat.le_of_ble_eq_true rfl⟩ hV (⟨(bI_t (Or.inr ⟨by omega, by omega, by omega, fun q a b => hno q a (by omega)⟩)).symm, rfl, rfl⟩)
              · refine lv_aload_n hx_ hb_ dX11_canGet_82 rfl (lv_at hl 0 rfl) ?_
                refine sc_get (ci := 9) (C := RX11) (T := TX11) (n := 22) S hK hV inX11_ hm0 rfl 14 (by decide) (S.2.2.2.2 _ (List.mem_of_getElem? (i := 1) rfl)) rfl rfl dX11_canGet_83 ?_
                refine lv_iload_n hx_ hb_ dX11_canGet_86 rfl (lv_at hl 3 rfl) ?_
                refine sc_iald S hK hV hm10 (by omega) dX11_canGet_87 ?_
                have kn11 := hG o (by omega) (by omega)
                refine lv_iload_n hx_ hb_ dX11_canGet_88 rfl (lv_at hl 2 rfl) ?_
                refine sb_ne (tgt := 94) S dX11_canGet_89 (by decide) (by omega) (fun c12 => ?_) (fun c12 => ?_)
                · refine si_inc (lv' := [(3, .int (sI (o + 1))), (0, .ref m), (1, .int (sI n)), (2, .int (sI (gt n)))]) S dX11_canGet_94 hl (k := 3) rfl (by decide) rfl (fun ls hl => ?_)
                  refine lv_goto (tgt := 77) hx_ hb_ dX11_canGet_97 (by decide) ?_
                  exact ih77 (o + 1) _ _ _ (by omega) (by omega) (idx_st hno (by assumption)) hV (lv_sub hl [1, 2, 3, 0] rfl)
                · refine si_const S dX11_canGet_92 ?_
                  exact sr_z E hQ (Or.inl rfl) dX11_canGet_93 ⟨Nat.le_of_ble_eq_true rfl, Nat.le_of_ble_eq_true rfl⟩ hV (⟨(bI_f (fun h => by rcases h with h | ⟨h1, h2, h3, h4⟩; omega; exact absurd (h4 o (by omega) (by omega)) (by omega))).symm, rfl, rfl⟩)
          exact L77 _ 0 _ _ _ (Nat.lt_succ_self _) (by omega) (fun q a b => by omega) hV (lv_sub hl [2, 3, 1, 0] rfl)
        · refine si_const S dX11_canGet_73 ?_
          exact sr_z E hQ (Or.inl rfl) dX11_canGet_74 ⟨Nat.le_of_ble_eq_true rfl, Nat.le_of_ble_eq_true rfl⟩ hV (⟨(bI_f (fun h => by rcases h with h | ⟨h1, h2, h3, h4⟩ <;> omega)).symm, rfl, rfl⟩)
  · refine si_const S dX11_canGet_13 ?_
    exact sr_z E hQ (Or.inr rfl) dX11_canGet_14 ⟨Nat.le_of_ble_eq_true rfl, Nat.le_of_ble_eq_true rfl⟩ hV (⟨(bI_t (Or.inl (by omega))).symm, rfl, rfl⟩)

abbrev rmX11_planned : Room := { frames := 2, cells := 0, slots := 0, locals := 62 }
set_option maxHeartbeats 4000000 in
set_option maxRecDepth 100000 in
theorem kX11_planned (l_ : Launch) (G : sG) (b_ : Nat) (M : sM) (N : Nat) (m : Nat) (th ch tn ea sn nm wn : Int) (f : sF) (gt : sF) (hm0 : M m = some (mO m th ch tn ea sn nm wn)) (hm1 : M (m + 1) = some (sArr G 574 f)) (hm10 : M (m + 10) = some (sArr G 8 gt)) (hok : sOk f) (hG : allG f gt) : cP l_ yX11_planned wsX11_planned rmX11_planned G b_ M N [.ref m] (plI f gt) := by
  refine sE.ofI (cc := cX11_planned) (nL := 4) (ret := (some .int)) (by decide) rfl (Nat.le_of_ble_eq_true rfl) ?_
  intro p_ e_ s_ m_ args_ below_ meth_ c_ ls Q hQ E hl
  have E : sE p_ l_ e_ rmX11_planned s_ m_ args_ below_ meth_ c_ cX11_planned 4 wsX11_planned RX11 "planned" (some .int) G b_ M N := E
  have S := E.1
  have hx_ := S.1
  have hb_ := S.2.1
  have hK := E.2.2.2.2.1
  have hV := E.2.2.2.2.2.2
  have hl : lv_has ls 4 [(0, .ref m)] := hl
  have inX11_ : ∀ w ∈ wsX110, w ∈ wsX11_planned := fun _ h => List.mem_cons_of_mem _ (List.mem_append_right _ h)
  have kn0 := sOk_N hok
  refine si_const S dX11_planned_0 ?_
  refine lv_istore_n (lv' := [(1, .int (sI 0)), (0, .ref m)]) hx_ hb_ dX11_planned_1 rfl hl (by decide) rfl (fun ls hl => ?_)
  refine si_const S dX11_planned_2 ?_
  refine lv_istore_n (lv' := [(2, .int (sI 0)), (1, .int (sI 0)), (0, .ref m)]) hx_ hb_ dX11_planned_3 rfl hl (by decide) rfl (fun ls hl => ?_)
  refine si_const S dX11_planned_4 ?_
  refine lv_istore_n (lv' := [(3, .int (sI 0)), (2, .int (sI 0)), (1, .int (sI 0)), (0, .ref m)]) hx_ hb_ dX11_planned_5 rfl hl (by decide) rfl (fun ls hl => ?_)
  have L6 : ∀ (fuel : Nat) (u : Int) (v : Int) (i : Int)  (H : Heap) (locs : List Loc) (ls : Array Slot), ((f 573 - i).toNat) < fuel → (0 ≤ i ∧ i ≤ f 573) → (0 ≤ u ∧ u ≤ 2147483647) → (0 ≤ v ∧ v ≤ 2147483647) → (∀ x, 0 ≤ x → (tb u x ↔ x < i ∧ gt x ≠ 8)) → (∀ x, 0 ≤ x → (tb v x ↔ ∃ q, 0 ≤ q ∧ q < i ∧ gt q = x ∧ x ≠ 8)) → (pcI u = isum i (pgT gt)) → sV G b_ M N s_ H locs → lv_has ls 4 [(0, .ref m), (1, .int (sI u)), (2, .int (sI v)), (3, .int (sI i))] → W p_ l_ e_ rmX11_planned s_ m_ args_ below_ meth_ c_ H locs 0 0 Q (F0 m_ 6 ls []) := by
    intro fuel
    induction fuel with
    | zero => intro u v i H locs ls hmu; exact absurd hmu (Nat.not_lt_zero _)
    | succ fuel ih6 =>
      intro u v i H locs ls hmu6 hv6_0 hur hvr hu hw hp  hV hl
      refine lv_iload_n hx_ hb_ dX11_planned_6 rfl (lv_at hl 3 rfl) ?_
      refine lv_aload_n hx_ hb_ dX11_planned_7 rfl (lv_at hl 0 rfl) ?_
      refine sc_get (ci := 9) (C := RX11) (T := TX11) (n := 22) S hK hV inX11_ hm0 rfl 1 (by decide) (S.2.2.2.2 _ (List.mem_of_getElem? (i := 1) rfl)) rfl rfl dX11_planned_8 ?_
      refine si_sipush S dX11_planned_11 (by decide) ?_
      refine sc_iald S hK hV hm1 (by omega) dX11_planned_14 ?_
      refine sb_ge (tgt := 55) S dX11_planned_15 (by decide) (by omega) (fun c1 => ?_) (fun c1 => ?_)
      · refine lv_iload_n hx_ hb_ dX11_planned_55 rfl (lv_at hl 1 rfl) ?_
        refine lv_iload_n hx_ hb_ dX11_planned_56 rfl (lv_at hl 2 rfl) ?_
        refine sb_ne (tgt := 67) S dX11_planned_57 (by decide) (by omega) (fun heq => ?_) (fun heq => ?_)
        · refine si_const S dX11_planned_67 ?_
          exact sr_i E hQ dX11_planned_68 ⟨Nat.le_of_ble_eq_true rfl, Nat.le_of_ble_eq_true rfl⟩ hV (⟨by unfold plI; rw [pif_f (fun h => heq (set_eq (by omega) (by omega) (fun x a => by rw [hu x a, hw x a]; exact prm_s (by omega) hG h (show i = f 573 by omega) x a)))], rfl, rfl⟩)
        · refine lv_iload_n hx_ hb_ dX11_planned_60 rfl (lv_at hl 1 rfl) ?_
          refine sk_SP E hV (As := [.int (sI u)]) (rest := []) (kX11_bits l_ G b_ M N u (by omega)) (va_cwS 1 S.2.2.2.2 gX11_planned_X11_bits rfl rfl rfl (by decide +kernel) ⟨Nat.le_of_ble_eq_true rfl, Nat.le_of_ble_eq_true rfl⟩) rfl rfl hl.1 (Nat.le_of_ble_eq_true rfl) dX11_planned_61 (c1 := 0) (s1 := 0) ⟨⟨rfl, rfl⟩, by decide, by decide⟩ (fun H locs hV => ?_)
          refine lv_goto (tgt := 68) hx_ hb_ dX11_planned_64 (by decide) ?_
          exact sr_i E hQ dX11_planned_68 ⟨Nat.le_of_ble_eq_true rfl, Nat.le_of_ble_eq_true rfl⟩ hV (⟨by unfold plI; rw [pif_t (prm_t (by omega) (show i = f 573 by omega) hu hw heq), hp, show i = f 573 by omega], rfl, rfl⟩)
      · refine lv_aload_n hx_ hb_ dX11_planned_18 rfl (lv_at hl 0 rfl) ?_
        refine sc_get (ci := 9) (C := RX11) (T := TX11) (n := 22) S hK hV inX11_ hm0 rfl 14 (by decide) (S.2.2.2.2 _ (List.mem_of_getElem? (i := 2) rfl)) rfl rfl dX11_planned_19 ?_
        refine lv_iload_n hx_ hb_ dX11_planned_22 rfl (lv_at hl 3 rfl) ?_
        refine sc_iald S hK hV hm10 (by omega) dX11_planned_23 ?_
        have kn2 := (hG i (by omega) (by omega)).1
        refine si_bipush S dX11_planned_24 (by decide) ?_
        refine sb_ne (tgt := 32) S dX11_planned_26 (by decide) (by omega) (fun c3 => ?_) (fun c3 => ?_)
        · refine lv_iload_n hx_ hb_ dX11_planned_32 rfl (lv_at hl 1 rfl) ?_
          refine si_const S dX11_planned_33 ?_
          refine lv_iload_n hx_ hb_ dX11_planned_34 rfl (lv_at hl 3 rfl) ?_
          refine si_shl S dX11_planned_35 ?_
          refine si_or S dX11_planned_36 ?_
          refine lv_istore_n (lv' := [(1, .int (sI (ior u (ishl 1 i)))), (0, .ref m), (2, .int (sI v)), (3, .int (sI i))]) hx_ hb_ dX11_planned_37 rfl hl (by decide) rfl (fun ls hl => ?_)
          refine lv_iload_n hx_ hb_ dX11_planned_38 rfl (lv_at hl 2 rfl) ?_
          refine si_const S dX11_planned_39 ?_
          refine lv_aload_n hx_ hb_ dX11_planned_40 rfl (lv_at hl 1 rfl) ?_
          refine sc_get (ci := 9) (C := RX11) (T := TX11) (n := 22) S hK hV inX11_ hm0 rfl 14 (by decide) (S.2.2.2.2 _ (List.mem_of_getElem? (i := 2) rfl)) rfl rfl dX11_planned_41 ?_
          refine lv_iload_n hx_ hb_ dX11_planned_44 rfl (lv_at hl 3 rfl) ?_
          refine sc_iald S hK hV hm10 (by omega) dX11_planned_45 ?_
          have kn4 := (hG i (by omega) (by omega)).1
          refine si_shl S dX11_planned_46 ?_
          refine si_or S dX11_planned_47 ?_
          refine lv_istore_n (lv' := [(2, .int (sI (ior v (ishl 1 (gt i))))), (1, .int (sI (ior u (ishl 1 i)))), (0, .ref m), (3, .int (sI i))]) hx_ hb_ dX11_planned_48 rfl hl (by decide) rfl (fun ls hl => ?_)
          refine si_inc (lv' := [(3, .int (sI (i + 1))), (2, .int (sI (ior v (ishl 1 (gt i))))), (1, .int (sI (ior u (ishl 1 i)))), (0, .ref m)]) S dX11_planned_49 hl (k := 3) rfl (by decide) rfl (fun ls hl => ?_)
          refine lv_goto (tgt := 6) hx_ hb_ dX11_planned_52 (by decide) ?_
          exact ih6 (ior u (ishl 1 i)) (ior v (ishl 1 (gt i))) (i + 1) _ _ _ (by omega) (by omega) (by first | omega | exact ior_r31 (by omega) (ishl_r31 (by omega))) (by first | omega | exact ior_r31 (by omega) (ishl_r31 (by omega))) (fun x a => by first | (rw [tb_or (by omega) (ishl_r31 (by omega)), hu x a, tb_one (by omega) a]; constructor; (rintro (q | q); exact ⟨by omega, q.2⟩; exact ⟨by omega, by rw [q]; assumption⟩); (intro q; by_cases e : x = i; exact Or.inr e; exact Or.inl ⟨by omega, q.2⟩)) | (rw [hu x a]; constructor; (intro q; exact ⟨by omega, q.2⟩); (intro q; by_cases e : x = i; exact absurd (by rw [e]; assumption) q.2; exact ⟨by omega, q.2⟩))) (fun x a => by first | (rw [tb_or (by omega) (ishl_r31 (by omega)), hw x a, tb_one (by omega) a]; constructor; (rintro (⟨q, h1, h2, h3⟩ | q); exact ⟨q, h1, by omega, h3⟩; exact ⟨i, by omega, by omega, q.symm, by omega⟩); (rintro ⟨q, h1, h2, h3, h4⟩; by_cases e : q = i; exact Or.inr (by rw [← h3, e]); exact Or.inl ⟨q, h1, by omega, h3, h4⟩)) | (rw [hw x a]; constructor; (rintro ⟨q, h1, h2, h3⟩; exact ⟨q, h1, by omega, h3⟩); (rintro ⟨q, h1, h2, h3, h4⟩; by_cases e : q = i; exact absurd (by rw [← h3, e]; assumption) h4; exact ⟨q, h1, by omega, h3, h4⟩))) (by have e := isum_s (pgT gt) (show 0 ≤ i by omega); have e2 : pgT gt i = if gt i ≠ 8 then 1 else 0 := rfl; first | (rw [pc_or (by omega) (by omega) (fun q => by have := (hu i (by omega)).mp q; omega), hp, e, e2, if_pos (by assumption)]) | (rw [hp, e, e2, if_neg (fun q => q (by assumption))]; omega)) hV (lv_sub hl [3, 2, 1, 0] rfl)
        · refine lv_goto (tgt := 49) hx_ hb_ dX11_planned_29 (by decide) ?_
          refine si_inc (lv' := [(3, .int (sI (i + 1))), (0, .ref m), (1, .int (sI u)), (2, .int (sI v))]) S dX11_planned_49 hl (k := 3) rfl (by decide) rfl (fun ls hl => ?_)
          refine lv_goto (tgt := 6) hx_ hb_ dX11_planned_52 (by decide) ?_
          exact ih6 u v (i + 1) _ _ _ (by omega) (by omega) (by first | omega | exact ior_r31 (by omega) (ishl_r31 (by omega))) (by first | omega | exact ior_r31 (by omega) (ishl_r31 (by omega))) (fun x a => by first | (rw [tb_or (by omega) (ishl_r31 (by omega)), hu x a, tb_one (by omega) a]; constructor; (rintro (q | q); exact ⟨by omega, q.2⟩; exact ⟨by omega, by rw [q]; assumption⟩); (intro q; by_cases e : x = i; exact Or.inr e; exact Or.inl ⟨by omega, q.2⟩)) | (rw [hu x a]; constructor; (intro q; exact ⟨by omega, q.2⟩); (intro q; by_cases e : x = i; exact absurd (by rw [e]; assumption) q.2; exact ⟨by omega, q.2⟩))) (fun x a => by first | (rw [tb_or (by omega) (ishl_r31 (by omega)), hw x a, tb_one (by omega) a]; constructor; (rintro (⟨q, h1, h2, h3⟩ | q); exact ⟨q, h1, by omega, h3⟩; exact ⟨i, by omega, by omega, q.symm, by omega⟩); (rintro ⟨q, h1, h2, h3, h4⟩; by_cases e : q = i; exact Or.inr (by rw [← h3, e]); exact Or.inl ⟨q, h1, by omega, h3, h4⟩)) | (rw [hw x a]; constructor; (rintro ⟨q, h1, h2, h3⟩; exact ⟨q, h1, by omega, h3⟩); (rintro ⟨q, h1, h2, h3, h4⟩; by_cases e : q = i; exact absurd (by rw [← h3, e]; assumption) h4; exact ⟨q, h1, by omega, h3, h4⟩))) (by have e := isum_s (pgT gt) (show 0 ≤ i by omega); have e2 : pgT gt i = if gt i ≠ 8 then 1 else 0 := rfl; first | (rw [pc_or (by omega) (by omega) (fun q => by have := (hu i (by omega)).mp q; omega), hp, e, e2, if_pos (by assumption)]) | (rw [hp, e, e2, if_neg (fun q => q (by assumption))]; omega)) hV (lv_sub hl [1, 2, 3, 0] rfl)
  exact L6 _ 0 0 0 _ _ _ (Nat.lt_succ_self _) (by omega) (by omega) (by omega) (fun x a => ⟨fun q => absurd q (tb_0 x), fun q => by omega⟩) (fun x a => ⟨fun q => absurd q (tb_0 x), fun ⟨q, h1, h2, h3⟩ => by omega⟩) (pc_0) hV (lv_sub hl [3, 2, 1, 0] rfl)
