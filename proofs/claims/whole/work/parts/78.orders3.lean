/-! Rings: who reaches a stone through greater ones. -/
def rqN (f : sF) (a : Int) : Nat → Int → Prop
  | 0, x => x = a
  | k + 1, x => (a < x ∧ x < f 568) ∧ ∃ y, doP f x y ∧ rqN f a k y
def rqP (f : sF) (a k x : Int) : Prop := rqN f a k.toNat x
theorem rqP_0 (f : sF) (a x : Int) : rqP f a 0 x ↔ x = a := Iff.rfl
theorem rqP_s (f : sF) (a x : Int) {k : Int} (h : 0 ≤ k) : rqP f a (k + 1) x ↔ (a < x ∧ x < f 568) ∧ ∃ y, doP f x y ∧ rqP f a k y := by
  unfold rqP
  rw [show (k + 1).toNat = k.toNat + 1 by omega]
  exact Iff.rfl
def rdP (f : sF) (a k : Int) : Prop := ∃ y, doP f a y ∧ rqP f a (k - 1) y
def nyQ (f : sF) (a x m : Int) : Prop := ∃ y, doP f x y ∧ rqP f a m y
def rrP (f : sF) (a k v : Int) : Prop := (0 ≤ v ∧ v ≤ 2147483647) ∧ ∀ x, 0 ≤ x → (tb v x ↔ rqP f a k x)
theorem rr_0 {f : sF} {a : Int} (ha : 0 ≤ a ∧ a ≤ 30) : rrP f a 0 (ishl 1 a) := ⟨ishl_r31 ha, fun x b => by rw [tb_one ha b]; exact (rqP_0 f a x).symm⟩
theorem iand_z {x y : Int} (hx : 0 ≤ x ∧ x ≤ 2147483647) (hy : 0 ≤ y ∧ y ≤ 2147483647) : iand x y = 0 ↔ ¬ ∃ o, 0 ≤ o ∧ tb x o ∧ tb y o := by
  constructor
  · rintro h ⟨o, a, b⟩
    have := (tb_and hx hy).mpr b
    rw [h] at this
    exact tb_0 o this
  · intro h
    exact set_eq (iand_r31 hx hy).1 (by omega) fun o a => by
      rw [tb_and hx hy]
      exact ⟨fun q => absurd ⟨o, a, q⟩ h, fun q => absurd q (tb_0 o)⟩
theorem so_z {f T : sF} (hok : sOk f) (hT : sfP f T) {a k s v : Int} (hs : 0 ≤ s ∧ s < 10) (hv : rrP f a k v) : iand (T s) v = 0 ↔ ¬ nyQ f a s k := by
  rw [iand_z (hT s hs.1 hs.2).1 hv.1]
  constructor
  · rintro h ⟨y, h1, h2⟩
    have h3 := (doP_r hok h1).2.1.1
    exact h ⟨y, h3, ((hT s hs.1 hs.2).2 y h3).mpr h1, (hv.2 y h3).mpr h2⟩
  · rintro h ⟨o, a, b, c⟩
    exact h ⟨o, ((hT s hs.1 hs.2).2 o a).mp b, (hv.2 o a).mp c⟩
def rsP (f : sF) (a k q v : Int) : Prop := (0 ≤ v ∧ v ≤ 2147483647) ∧ ∀ x, 0 ≤ x → (tb v x ↔ (a < x ∧ x < q) ∧ nyQ f a x (k - 1))
theorem rsP_0 (f : sF) (a k : Int) : rsP f a k (a + 1) 0 := ⟨by omega, fun x _ => ⟨fun q => absurd q (tb_0 x), fun q => by omega⟩⟩
theorem rsP_f {f : sF} {a k q v : Int} (hq : ¬ nyQ f a q (k - 1)) (h : rsP f a k q v) : rsP f a k (q + 1) v := ⟨h.1, fun x b => by
  rw [h.2 x b]
  constructor
  · exact fun r => ⟨by omega, r.2⟩
  · rintro ⟨r1, r2⟩
    by_cases e : x = q
    · rw [e] at r2; exact absurd r2 hq
    · exact ⟨by omega, r2⟩⟩
theorem rsP_t {f : sF} {a k q v : Int} (h0 : 0 ≤ q ∧ q ≤ 30) (ha : a < q) (hq : nyQ f a q (k - 1)) (h : rsP f a k q v) : rsP f a k (q + 1) (ior v (ishl 1 q)) := ⟨ior_r31 h.1 (ishl_r31 h0), fun x b => by
  rw [tb_or h.1 (ishl_r31 h0), tb_one h0 b, h.2 x b]
  constructor
  · rintro (r | r)
    · exact ⟨by omega, r.2⟩
    · rw [r]; exact ⟨by omega, hq⟩
  · rintro ⟨r1, r2⟩
    by_cases e : x = q
    · exact Or.inr e
    · exact Or.inl ⟨by omega, r2⟩⟩
theorem rsP_e {f : sF} {a k q v : Int} (hk : 1 ≤ k) (hq : q = f 568) (h : rsP f a k q v) : rrP f a k v := ⟨h.1, fun x b => by
  rw [h.2 x b, hq]
  have := rqP_s f a x (k := k - 1) (by omega)
  rw [show k - 1 + 1 = k by omega] at this
  exact this.symm⟩
def srP (f : sF) (a z : Int) : Prop := (z = 0 ∧ ∀ j, 1 ≤ j → j ≤ f 568 → ¬ rdP f a j) ∨ ((1 ≤ z ∧ z ≤ f 568) ∧ rdP f a z ∧ ∀ j, 1 ≤ j → j < z → ¬ rdP f a j)
def rrA (f : sF) (a n : Int) (R : sF) : Prop := ∀ j, 0 ≤ j → j < n → rrP f a j (R j)
theorem rrA_c {f R R2 : sF} {a n : Int} (h : rrA f a n R) (h2 : ∀ j, 0 ≤ j → j < n → R2 j = R j) : rrA f a n R2 := fun j b c => by rw [h2 j b c]; exact h j b c
theorem rrA_s {f R R2 : sF} {a n : Int} (h : rrA f a n R) (h2 : ∀ j, 0 ≤ j → j < n → R2 j = R j) (h3 : rrP f a n (R2 n)) : rrA f a (n + 1) R2 := fun j b c => by
  by_cases e : j = n
  · rw [e]; exact h3
  · rw [h2 j b (by omega)]; exact h j b (by omega)
/-- the walk that takes the least stone each time -/
def wkQ (f : sF) (a L : Int) (G : sF) (p : Int) : Prop := G 0 = a ∧ ∀ i, 1 ≤ i → i < p → (doP f (G (i - 1)) (G i) ∧ rqP f a (L - i) (G i)) ∧ ∀ y, doP f (G (i - 1)) y → rqP f a (L - i) y → G i ≤ y
theorem wk_1 {f : sF} {a L : Int} (G : sF) : wkQ f a L (iup G 0 a) 1 := ⟨if_pos rfl, fun i b c => by omega⟩
theorem wk_s {f : sF} {a L p z : Int} {G : sF} (hp : 1 ≤ p) (h : wkQ f a L G p) (h1 : doP f (G (p - 1)) z ∧ rqP f a (L - p) z) (h2 : ∀ y, doP f (G (p - 1)) y → rqP f a (L - p) y → z ≤ y) : wkQ f a L (iup G p z) (p + 1) := by
  refine ⟨by rw [show iup G p z 0 = G 0 from if_neg (by omega)]; exact h.1, fun i b c => ?_⟩
  rw [show iup G p z (i - 1) = G (i - 1) from if_neg (by omega)]
  by_cases e : i = p
  · rw [e, show iup G p z p = z from if_pos rfl]; exact ⟨h1, h2⟩
  · rw [show iup G p z i = G i from if_neg e]; exact h.2 i b (by omega)
theorem nx_s {f : sF} {a x m : Int} (hm : 1 ≤ m) (h : rqP f a m x) : nyQ f a x (m - 1) := by
  have := rqP_s f a x (k := m - 1) (by omega)
  rw [show m - 1 + 1 = m by omega] at this
  exact (this.mp h).2
def sbP (v : Int) : Prop := ∃ x, 0 ≤ x ∧ x < 10 ∧ tb v x
theorem sb_so {f T : sF} (hok : sOk f) (hT : sfP f T) {a k s v : Int} (hs : 0 ≤ s ∧ s < 10) (hv : rrP f a k v) (h : nyQ f a s k) : sbP (iand (T s) v) := by
  obtain ⟨y, h1, h2⟩ := h
  have h3 := (doP_r hok h1).2.1
  have h4 := (sOk_N hok).1
  exact ⟨y, h3.1, by omega, (tb_and (hT s hs.1 hs.2).1 hv.1).mpr ⟨((hT s hs.1 hs.2).2 y h3.1).mpr h1, (hv.2 y h3.1).mpr h2⟩⟩
theorem tb_so {f T : sF} (hT : sfP f T) {a k s v o : Int} (hs : 0 ≤ s ∧ s < 10) (hv : rrP f a k v) (ho : 0 ≤ o) : tb (iand (T s) v) o ↔ doP f s o ∧ rqP f a k o := by
  rw [tb_and (hT s hs.1 hs.2).1 hv.1, (hT s hs.1 hs.2).2 o ho, hv.2 o ho]
theorem rq_in {f : sF} {a k x : Int} (hk : 1 ≤ k) (h : rqP f a k x) : a < x ∧ x < f 568 := by
  have := rqP_s f a x (k := k - 1) (by omega)
  rw [show k - 1 + 1 = k by omega] at this
  exact (this.mp h).1
theorem wk_ri {f G : sF} {a L : Int} (hok : sOk f) (ha : 0 ≤ a ∧ a < f 568) (hL : 1 ≤ L ∧ L ≤ f 568) (h : wkQ f a L G L) (hd : rdP f a L) (hm : ∀ k, 1 ≤ k → k < L → ¬ rdP f a k) : riP f L G := by
  have hL2 : 2 ≤ L := by
    rcases Int.lt_or_le L 2 with q | q
    · rw [show L = 1 by omega] at hd
      obtain ⟨y, h1, h2⟩ := hd
      have h3 := (rqP_0 f a y).mp h2
      exact absurd h3.symm (doP_r hok h1).2.2
    · exact q
  have hr : ∀ i, 1 ≤ i → i < L → a < G i ∧ G i < f 568 := fun i b c => rq_in (k := L - i) (by omega) (h.2 i b c).1.2
  refine ⟨⟨hL2, hL.2⟩, fun i b c => ?_, fun i b c => by rw [h.1]; exact (hr i b c).1, fun i j b c d e => ?_, fun i b c => ?_, ?_⟩
  · by_cases e : i = 0
    · rw [e, h.1]; exact ha
    · have := hr i (by omega) c; omega
  · by_cases e0 : i = 0
    · rw [e0, h.1] at e
      have := hr j (by omega) d; omega
    · have key : ∀ m : Nat, (m : Int) < i → rqP f a (L - j + (m : Int)) (G (i - (m : Int))) := by
        intro m
        induction m with
        | zero => intro _; rw [show L - j + ((0 : Nat) : Int) = L - j by omega, show i - ((0 : Nat) : Int) = i by omega, e]; exact (h.2 j (by omega) d).1.2
        | succ m ih =>
          intro hm2
          rw [show L - j + ((m + 1 : Nat) : Int) = L - j + (m : Int) + 1 by omega]
          have h5 := (h.2 (i - (m : Int)) (by omega) (by omega)).1.1
          rw [show i - (m : Int) - 1 = i - ((m + 1 : Nat) : Int) by omega] at h5
          exact (rqP_s f a _ (by omega)).mpr ⟨hr _ (by omega) (by omega), _, h5, ih (by omega)⟩
      have h6 := key (i - 1).toNat (by omega)
      rw [show i - (((i - 1).toNat : Nat) : Int) = 1 by omega, show L - j + (((i - 1).toNat : Nat) : Int) = L - j + i - 1 by omega] at h6
      have h7 := (h.2 1 (by omega) (by omega)).1.1
      rw [show (1 : Int) - 1 = 0 from rfl, h.1] at h7
      exact hm (L - j + i) (by omega) (by omega) ⟨_, h7, h6⟩
  · have := (h.2 (i + 1) (by omega) c).1.1
    rw [show i + 1 - 1 = i by omega] at this
    exact this
  · have h8 := (h.2 (L - 1) (by omega) (by omega)).1.2
    rw [show L - (L - 1) = 1 by omega] at h8
    obtain ⟨y, h1, h2⟩ := nx_s (by omega) h8
    rw [show (1 : Int) - 1 = 0 from rfl] at h2
    rw [(rqP_0 f a y).mp h2] at h1
    rw [h.1]
    exact h1
theorem ri_rq {f r : sF} {L : Int} (h : riP f L r) : ∀ i, 1 ≤ i → i < L → rqP f (r 0) (L - i) (r i) := by
  have key : ∀ m : Nat, (m : Int) + 1 < L → rqP f (r 0) ((m : Int) + 1) (r (L - ((m : Int) + 1))) := by
    intro m
    induction m with
    | zero =>
      intro hm
      exact (rqP_s f (r 0) _ (by omega)).mpr ⟨⟨h.2.2.1 _ (by omega) (by omega), (h.2.1 _ (by omega) (by omega)).2⟩, r 0, h.2.2.2.2.2, (rqP_0 f (r 0) _).mpr rfl⟩
    | succ m ih =>
      intro hm
      have h5 := h.2.2.2.2.1 (L - (((m + 1 : Nat) : Int) + 1)) (by omega) (by omega)
      rw [show L - (((m + 1 : Nat) : Int) + 1) + 1 = L - ((m : Int) + 1) by omega] at h5
      exact (rqP_s f (r 0) _ (by omega)).mpr ⟨⟨h.2.2.1 _ (by omega) (by omega), (h.2.1 _ (by omega) (by omega)).2⟩, _, h5, ih (by omega)⟩
  intro i a b
  have := key (L - i - 1).toNat (by omega)
  rw [show (((L - i - 1).toNat : Nat) : Int) + 1 = L - i by omega, show L - (L - i) = i by omega] at this
  exact this
theorem ri_rd {f r : sF} {L : Int} (h : riP f L r) : rdP f (r 0) L := by
  have h1 := h.2.2.2.2.1 0 (by omega) (by have := h.1; omega)
  exact ⟨_, h1, ri_rq h 1 (by omega) (by have := h.1; omega)⟩
/-- the best of the rings that begin before b -/
def fiP (f : sF) (b L : Int) (G : sF) : Prop := (L = 0 ∧ ∀ a, 0 ≤ a → a < b → ∀ k, 1 ≤ k → k ≤ f 568 → ¬ rdP f a k) ∨ ((1 ≤ L ∧ L ≤ f 568) ∧ ∃ a, 0 ≤ a ∧ a < b ∧ wkQ f a L G L ∧ rdP f a L ∧ (∀ c, 0 ≤ c → c < b → ∀ k, 1 ≤ k → k < L → ¬ rdP f c k) ∧ ∀ c, 0 ≤ c → c < a → ¬ rdP f c L)
theorem fi_0 (f : sF) (G : sF) : fiP f 0 0 G := Or.inl ⟨rfl, fun a b c => by omega⟩
theorem fi_n {f G : sF} {b L z : Int} (hz : srP f b z) (h1 : z = 0 ∨ (L ≠ 0 ∧ L ≤ z)) (h : fiP f b L G) : fiP f (b + 1) L G := by
  rcases h with ⟨e, h⟩ | ⟨e, a, h2, h3, h4, h5, h6, h7⟩
  · refine Or.inl ⟨e, fun a a1 a2 k k1 k2 => ?_⟩
    by_cases q : a = b
    · rw [q]
      rcases hz with ⟨_, z2⟩ | ⟨z1, _⟩
      · exact z2 k k1 k2
      · omega
    · exact h a a1 (by omega) k k1 k2
  · refine Or.inr ⟨e, a, h2, by omega, h4, h5, fun c c1 c2 k k1 k2 => ?_, h7⟩
    by_cases q : c = b
    · rw [q]
      rcases hz with ⟨_, z2⟩ | ⟨z1, _, z3⟩
      · exact z2 k k1 (by omega)
      · exact z3 k k1 (by omega)
    · exact h6 c c1 (by omega) k k1 k2
theorem fi_y {f G G2 : sF} {b L z : Int} (hb : 0 ≤ b) (hz : srP f b z) (h0 : 0 < z) (h1 : L = 0 ∨ z < L) (h2 : wkQ f b z G2 z) (h : fiP f b L G) : fiP f (b + 1) z G2 := by
  rcases hz with ⟨z1, _⟩ | ⟨z1, z2, z3⟩
  · omega
  · have hn : ∀ c, 0 ≤ c → c < b → ∀ k, 1 ≤ k → k ≤ z → ¬ rdP f c k := fun c c1 c2 k k1 k2 => by
      rcases h with ⟨_, h⟩ | ⟨e, a, _, _, _, _, h6, _⟩
      · exact h c c1 c2 k k1 (by omega)
      · exact h6 c c1 c2 k k1 (by omega)
    refine Or.inr ⟨z1, b, hb, by omega, h2, z2, fun c c1 c2 k k1 k2 => ?_, fun c c1 c2 => hn c c1 c2 z (by omega) (by omega)⟩
    by_cases q : c = b
    · rw [q]; exact z3 k k1 k2
    · exact hn c c1 (by omega) k k1 (by omega)
theorem fi_rg {f G : sF} {L : Int} (hok : sOk f) (h : fiP f (f 568) L G) : rgR f L G := by
  rcases h with ⟨e, h⟩ | ⟨e, a, h2, h3, h4, h5, h6, h7⟩
  · refine Or.inl ⟨e, fun L2 r2 hr => ?_⟩
    have h8 := hr.2.1 0 (by omega) (by have := hr.1; omega)
    exact h (r2 0) h8.1 h8.2 L2 (by have := hr.1; omega) hr.1.2 (ri_rd hr)
  · refine Or.inr ⟨wk_ri hok ⟨h2, h3⟩ e h4 h5 (h6 a h2 h3), fun L2 r2 hr => ?_, fun r2 hr => ?_⟩
    · have h8 := hr.2.1 0 (by omega) (by have := hr.1; omega)
      rcases Int.lt_or_le L2 L with q | q
      · exact absurd (ri_rd hr) (h6 _ h8.1 h8.2 L2 (by have := hr.1; omega) q)
      · exact q
    · have h8 := hr.2.1 0 (by omega) (by omega)
      rcases Int.lt_trichotomy a (r2 0) with q | q | q
      · exact Or.inl ⟨0, by omega, by omega, fun i x y => by omega, by rw [h4.1]; exact q⟩
      · rcases lex_t L G r2 with w | ⟨j, j1, j2, j3, j4⟩
        · exact w
        · by_cases e0 : j = 0
          · rw [e0, h4.1] at j4; omega
          · have h9 := (h4.2 j (by omega) j2).2 (r2 j) (by
              rw [← j3 (j - 1) (by omega) (by omega)]
              have := hr.2.2.2.2.1 (j - 1) (by omega) (by omega)
              rw [show j - 1 + 1 = j by omega] at this
              exact this) (by rw [q]; exact ri_rq hr j (by omega) j2)
            omega
      · exact absurd (ri_rd hr) (h7 _ h8.1 q)

abbrev rmX5_leastOf : Room := { frames := 1, cells := 0, slots := 0, locals := 40 }
set_option maxHeartbeats 4000000 in
set_option maxRecDepth 100000 in
theorem kX5_leastOf (l_ : Launch) (G : sG) (b_ : Nat) (M : sM) (N : Nat) (v : Int) (hv : 0 ≤ v ∧ v ≤ 2147483647) (hsb : sbP v) : cI l_ yX5_leastOf wsX5_leastOf rmX5_leastOf G b_ M N [.int (sI v)] (fun z_ M1 N1 => N1 = N ∧ (∀ x : Nat, M1 x = M x) ∧ ((0 ≤ z_ ∧ z_ < 10) ∧ tb v z_ ∧ ∀ x, 0 ≤ x → x < z_ → ¬ tb v x)) := by
  refine sE.ofI (cc := cX5_leastOf) (nL := 2) (ret := (some .int)) (by decide) rfl (Nat.le_of_ble_eq_true rfl) ?_
  intro p_ e_ s_ m_ args_ below_ meth_ c_ ls Q hQ E hl
  have E : sE p_ l_ e_ rmX5_leastOf s_ m_ args_ below_ meth_ c_ cX5_leastOf 2 wsX5_leastOf RX5 "leastOf" (some .int) G b_ M N := E
  have S := E.1
  have hx_ := S.1
  have hb_ := S.2.1
  have hK := E.2.2.2.2.1
  have hV := E.2.2.2.2.2.2
  have hl : lv_has ls 2 [(0, .int (sI v))] := hl
  refine si_const S dX5_leastOf_0 ?_
  refine lv_istore_n (lv' := [(1, .int (sI 0)), (0, .int (sI v))]) hx_ hb_ dX5_leastOf_1 rfl hl (by decide) rfl (fun ls hl => ?_)
  have L2 : ∀ (fuel : Nat) (k : Int)  (H : Heap) (locs : List Loc) (ls : Array Slot), ((10 - k).toNat) < fuel → (0 ≤ k ∧ k ≤ 10) → (∀ x, 0 ≤ x → x < k → ¬ tb v x) → sV G b_ M N s_ H locs → lv_has ls 2 [(0, .int (sI v)), (1, .int (sI k))] → W p_ l_ e_ rmX5_leastOf s_ m_ args_ below_ meth_ c_ H locs 0 0 Q (F0 m_ 2 ls []) := by
    intro fuel
    induction fuel with
    | zero => intro k H locs ls hmu; exact absurd hmu (Nat.not_lt_zero _)
    | succ fuel ih2 =>
      intro k H locs ls hmu2 hv2_0 hn  hV hl
      refine lv_iload_n hx_ hb_ dX5_leastOf_2 rfl (lv_at hl 1 rfl) ?_
      refine si_bipush S dX5_leastOf_3 (by decide) ?_
      refine sb_ge (tgt := 24) S dX5_leastOf_5 (by decide) (by omega) (fun c1 => ?_) (fun c1 => ?_)
      · refine si_const S dX5_leastOf_24 ?_
        exact sr_i E hQ dX5_leastOf_25 ⟨Nat.le_of_ble_eq_true rfl, Nat.le_of_ble_eq_true rfl⟩ hV (⟨rfl, fun x  => rfl, by obtain ⟨x, x1, x2, x3⟩ := hsb; exact absurd x3 (hn x x1 (by omega))⟩)
      · refine lv_iload_n hx_ hb_ dX5_leastOf_8 rfl (lv_at hl 0 rfl) ?_
        refine lv_iload_n hx_ hb_ dX5_leastOf_9 rfl (lv_at hl 1 rfl) ?_
        refine si_shr S dX5_leastOf_10 ?_
        refine si_const S dX5_leastOf_11 ?_
        refine si_and S dX5_leastOf_12 ?_
        rw [ibit (m := v) (k := k) (by omega) (by omega)]
        refine sq_eq (tgt := 18) S dX5_leastOf_13 (by decide) (fun h13 => ?_) (fun h13 => ?_)
        · refine si_inc (lv' := [(1, .int (sI (k + 1))), (0, .int (sI v))]) S dX5_leastOf_18 hl (k := 1) rfl (by decide) rfl (fun ls hl => ?_)
          refine lv_goto (tgt := 2) hx_ hb_ dX5_leastOf_21 (by decide) ?_
          exact ih2 (k + 1) _ _ _ (by omega) (by omega) (idx_st hn h13) hV (lv_sub hl [1, 0] rfl)
        · refine lv_iload_n hx_ hb_ dX5_leastOf_16 rfl (lv_at hl 1 rfl) ?_
          exact sr_i E hQ dX5_leastOf_17 ⟨Nat.le_of_ble_eq_true rfl, Nat.le_of_ble_eq_true rfl⟩ hV (⟨rfl, fun x  => rfl, ⟨by omega, h13, hn⟩⟩)
  exact L2 _ 0 _ _ _ (Nat.lt_succ_self _) (by omega) (fun k a b => by omega) hV (lv_sub hl [1, 0] rfl)

abbrev rmX5_stepsRound : Room := { frames := 1, cells := 0, slots := 0, locals := 40 }
set_option maxHeartbeats 4000000 in
set_option maxRecDepth 100000 in
theorem kX5_stepsRound (l_ : Launch) (G : sG) (b_ : Nat) (M : sM) (N : Nat) (o : Nat) (L : Int) (So Rc f : sF) (a : Int) (ho0 : M o = some (sObj 3 [.ref (o + 1), .ref (o + 2), .ref (o + 3), .ref (o + 4), .ref (o + 5), .ref (o + 6), .ref (o + 7), .ref (o + 8), .ref (o + 9), .int (sI L), .int (sI (f 568))])) (ho2 : M (o + 2) = some (sArr G 10 So)) (ho8 : M (o + 8) = some (sArr G 11 Rc)) (hok : sOk f) (hS : sfP f So) (ha : 0 ≤ a ∧ a < f 568) : cI l_ yX5_stepsRound wsX5_stepsRound rmX5_stepsRound G b_ M N [.ref o, .int (sI a)] (fun z_ M1 N1 => ∃ R9 : Int → Int, N1 = N ∧ M1 (o + 8) = some (sArr G 11 R9) ∧ (∀ x : Nat, ¬ (x = o + 8) → M1 x = M x) ∧ (srP f a z_) ∧ (rrA f a z_ R9)) := by
  refine sE.ofI (cc := cX5_stepsRound) (nL := 4) (ret := (some .int)) (by decide) rfl (Nat.le_of_ble_eq_true rfl) ?_
  intro p_ e_ s_ m_ args_ below_ meth_ c_ ls Q hQ E hl
  have E : sE p_ l_ e_ rmX5_stepsRound s_ m_ args_ below_ meth_ c_ cX5_stepsRound 4 wsX5_stepsRound RX5 "stepsRound" (some .int) G b_ M N := E
  have S := E.1
  have hx_ := S.1
  have hb_ := S.2.1
  have hK := E.2.2.2.2.1
  have hV := E.2.2.2.2.2.2
  have hl : lv_has ls 4 [(0, .ref o), (1, .int (sI a))] := hl
  have inX5_ : ∀ w ∈ wsX50, w ∈ wsX5_stepsRound := fun _ h => List.mem_cons_of_mem _ (List.mem_append_right _ h)
  have kn0 := sOk_N hok
  refine lv_aload_n hx_ hb_ dX5_stepsRound_0 rfl (lv_at hl 0 rfl) ?_
  refine sc_get (ci := 3) (C := RX5) (T := TX5) (n := 11) S hK hV inX5_ ho0 rfl 7 (by decide) (S.2.2.2.2 _ (List.mem_of_getElem? (i := 1) rfl)) rfl rfl dX5_stepsRound_1 ?_
  refine si_const S dX5_stepsRound_4 ?_
  refine si_const S dX5_stepsRound_5 ?_
  refine lv_iload_n hx_ hb_ dX5_stepsRound_6 rfl (lv_at hl 1 rfl) ?_
  refine si_shl S dX5_stepsRound_7 ?_
  refine sc_iast S hK hV ho8 (by omega) dX5_stepsRound_8 (fun M1 H locs hM1 hV => ?_)
  have hc2 : M1 (o + 8) = some (sArr G 11 (iup Rc 0 (ishl 1 a))) := (congrFun hM1 (o + 8)).trans (va_up_self M (o + 8) _)
  refine si_const S dX5_stepsRound_9 ?_
  refine lv_istore_n (lv' := [(2, .int (sI 1)), (0, .ref o), (1, .int (sI a))]) hx_ hb_ dX5_stepsRound_10 rfl hl (by decide) rfl (fun ls hl => ?_)
  have L11 : ∀ (fuel : Nat) (k : Int) (R2 : Int → Int) (Ml11 : sM) (H : Heap) (locs : List Loc) (ls : Array Slot), ((f 568 + 1 - k).toNat) < fuel → (1 ≤ k ∧ k ≤ f 568 + 1) → (rrA f a k R2) → (∀ j, 1 ≤ j → j < k → ¬ rdP f a j) → (Ml11 (o + 8) = some (sArr G 11 R2)) → (∀ x : Nat, ¬ (x = o + 8) → Ml11 x = M1 x) → sV G b_ Ml11 N s_ H locs → lv_has ls 4 [(0, .ref o), (1, .int (sI a)), (2, .int (sI k))] → W p_ l_ e_ rmX5_stepsRound s_ m_ args_ below_ meth_ c_ H locs 0 0 Q (F0 m_ 11 ls []) := by
    intro fuel
    induction fuel with
    | zero => intro k R2 Ml11 H locs ls hmu; exact absurd hmu (Nat.not_lt_zero _)
    | succ fuel ih11 =>
      intro k R2 Ml11 H locs ls hmu11 hv11_0 hR2 hno hm11_0 hfr11 hV hl
      refine lv_iload_n hx_ hb_ dX5_stepsRound_11 rfl (lv_at hl 2 rfl) ?_
      refine lv_aload_n hx_ hb_ dX5_stepsRound_12 rfl (lv_at hl 0 rfl) ?_
      have hc3 : Ml11 o = some (sObj 3 [.ref (o + 1), .ref (o + 2), .ref (o + 3), .ref (o + 4), .ref (o + 5), .ref (o + 6), .ref (o + 7), .ref (o + 8), .ref (o + 9), .int (sI L), .int (sI (f 568))]) := ((hfr11 o (by omega)).trans ((congrFun hM1 o).trans (va_up_ne M _ (by omega)))).trans ho0
      refine sc_get (ci := 3) (C := RX5) (T := TX5) (n := 11) S hK hV inX5_ hc3 rfl 10 (by decide) (S.2.2.2.2 _ (List.mem_of_getElem? (i := 2) rfl)) rfl rfl dX5_stepsRound_13 ?_
      refine sb_gt (tgt := 100) S dX5_stepsRound_16 (by decide) (by omega) (fun c4 => ?_) (fun c4 => ?_)
      · refine si_const S dX5_stepsRound_100 ?_
        exact sr_i E hQ dX5_stepsRound_101 ⟨Nat.le_of_ble_eq_true rfl, Nat.le_of_ble_eq_true rfl⟩ hV (⟨R2, rfl, hm11_0, fun x q0 => (hfr11 x (by omega)).trans ((congrFun hM1 x).trans (va_up_ne M _ (by omega))), Or.inl ⟨rfl, fun j b c => hno j b (by omega)⟩, fun j b c => by omega⟩)
      · refine lv_aload_n hx_ hb_ dX5_stepsRound_19 rfl (lv_at hl 0 rfl) ?_
        refine sc_get (ci := 3) (C := RX5) (T := TX5) (n := 11) S hK hV inX5_ hc3 rfl 1 (by decide) (S.2.2.2.2 _ (List.mem_of_getElem? (i := 3) rfl)) rfl rfl dX5_stepsRound_20 ?_
        refine lv_iload_n hx_ hb_ dX5_stepsRound_23 rfl (lv_at hl 1 rfl) ?_
        have hc5 : Ml11 (o + 2) = some (sArr G 10 So) := ((hfr11 (o + 2) (by omega)).trans ((congrFun hM1 (o + 2)).trans (va_up_ne M _ (by omega)))).trans ho2
        refine sc_iald S hK hV hc5 (by omega) dX5_stepsRound_24 ?_
        refine lv_aload_n hx_ hb_ dX5_stepsRound_25 rfl (lv_at hl 0 rfl) ?_
        refine sc_get (ci := 3) (C := RX5) (T := TX5) (n := 11) S hK hV inX5_ hc3 rfl 7 (by decide) (S.2.2.2.2 _ (List.mem_of_getElem? (i := 1) rfl)) rfl rfl dX5_stepsRound_26 ?_
        refine lv_iload_n hx_ hb_ dX5_stepsRound_29 rfl (lv_at hl 2 rfl) ?_
        refine si_const S dX5_stepsRound_30 ?_
        refine si_sub S dX5_stepsRound_31 ?_
        refine sc_iald S hK hV hm11_0 (by omega) dX5_stepsRound_32 ?_
        refine si_and S dX5_stepsRound_33 ?_
        have hr2 := hR2 (k - 1) (by omega) (by omega)
        have hir := iand_r (So a) (R2 (k - 1))
        refine sz_eq (tgt := 39) S dX5_stepsRound_34 (by decide) (by omega) (fun h34 => ?_) (fun h34 => ?_)
        · have hno34 : ¬ rdP f a k := (so_z hok hS (by omega) hr2).mp h34
          refine lv_aload_n hx_ hb_ dX5_stepsRound_39 rfl (lv_at hl 0 rfl) ?_
          refine sc_get (ci := 3) (C := RX5) (T := TX5) (n := 11) S hK hV inX5_ hc3 rfl 7 (by decide) (S.2.2.2.2 _ (List.mem_of_getElem? (i := 1) rfl)) rfl rfl dX5_stepsRound_40 ?_
          refine lv_iload_n hx_ hb_ dX5_stepsRound_43 rfl (lv_at hl 2 rfl) ?_
          refine si_const S dX5_stepsRound_44 ?_
          refine sc_iast S hK hV hm11_0 (by omega) dX5_stepsRound_45 (fun M6 H locs hM6 hV => ?_)
          have hc7 : M6 (o + 8) = some (sArr G 11 (iup R2 k 0)) := (congrFun hM6 (o + 8)).trans (va_up_self Ml11 (o + 8) _)
          refine lv_iload_n hx_ hb_ dX5_stepsRound_46 rfl (lv_at hl 1 rfl) ?_
          refine si_const S dX5_stepsRound_47 ?_
          refine si_add S dX5_stepsRound_48 ?_
          refine lv_istore_n (lv' := [(3, .int (sI (a + 1))), (0, .ref o), (1, .int (sI a)), (2, .int (sI k))]) hx_ hb_ dX5_stepsRound_49 rfl hl (by decide) rfl (fun ls hl => ?_)
          have L50 : ∀ (fuel : Nat) (q : Int) (R3 : Int → Int) (Ml50 : sM) (H : Heap) (locs : List Loc) (ls : Array Slot), ((f 568 - q).toNat) < fuel → (a + 1 ≤ q ∧ q ≤ f 568) → (∀ j, 0 ≤ j → j < k → R3 j = R2 j) → (rsP f a k q (R3 k)) → (Ml50 (o + 8) = some (sArr G 11 R3)) → (∀ x : Nat, ¬ (x = o + 8) → Ml50 x = M6 x) → sV G b_ Ml50 N s_ H locs → lv_has ls 4 [(0, .ref o), (1, .int (sI a)), (2, .int (sI k)), (3, .int (sI q))] → W p_ l_ e_ rmX5_stepsRound s_ m_ args_ below_ meth_ c_ H locs 0 0 Q (F0 m_ 50 ls []) := by
            intro fuel
            induction fuel with
            | zero => intro q R3 Ml50 H locs ls hmu; exact absurd hmu (Nat.not_lt_zero _)
            | succ fuel ih50 =>
              intro q R3 Ml50 H locs ls hmu50 hv50_0 hR3 hq3 hm50_0 hfr50 hV hl
              have hr3 : rrP f a (k - 1) (R3 (k - 1)) := by rw [hR3 (k - 1) (by omega) (by omega)]; exact hR2 (k - 1) (by omega) (by omega)
              refine lv_iload_n hx_ hb_ dX5_stepsRound_50 rfl (lv_at hl 3 rfl) ?_
              refine lv_aload_n hx_ hb_ dX5_stepsRound_51 rfl (lv_at hl 0 rfl) ?_
              have hc8 : Ml50 o = some (sObj 3 [.ref (o + 1), .ref (o + 2), .ref (o + 3), .ref (o + 4), .ref (o + 5), .ref (o + 6), .ref (o + 7), .ref (o + 8), .ref (o + 9), .int (sI L), .int (sI (f 568))]) := ((hfr50 o (by omega)).trans ((congrFun hM6 o).trans (va_up_ne Ml11 _ (by omega)))).trans hc3
              refine sc_get (ci := 3) (C := RX5) (T := TX5) (n := 11) S hK hV inX5_ hc8 rfl 10 (by decide) (S.2.2.2.2 _ (List.mem_of_getElem? (i := 2) rfl)) rfl rfl dX5_stepsRound_52 ?_
              refine sb_ge (tgt := 94) S dX5_stepsRound_55 (by decide) (by omega) (fun c9 => ?_) (fun c9 => ?_)
              · refine si_inc (lv' := [(2, .int (sI (k + 1))), (0, .ref o), (1, .int (sI a)), (3, .int (sI q))]) S dX5_stepsRound_94 hl (k := 2) rfl (by decide) rfl (fun ls hl => ?_)
                refine lv_goto (tgt := 11) hx_ hb_ dX5_stepsRound_97 (by decide) ?_
                exact ih11 (k + 1) R3 Ml50 _ _ _ (by omega) (by omega) (rrA_s hR2 hR3 (rsP_e (by omega) (by omega) hq3)) (fun j b c => by by_cases e : j = k; exact (by rw [e]; exact hno34); exact hno j b (by omega)) hm50_0 (fun x q0 => ((hfr50 x (by omega)).trans ((congrFun hM6 x).trans (va_up_ne Ml11 _ (by omega)))).trans (hfr11 x (by omega))) hV (lv_sub hl [1, 2, 0] rfl)
              · refine lv_aload_n hx_ hb_ dX5_stepsRound_58 rfl (lv_at hl 0 rfl) ?_
                refine sc_get (ci := 3) (C := RX5) (T := TX5) (n := 11) S hK hV inX5_ hc8 rfl 1 (by decide) (S.2.2.2.2 _ (List.mem_of_getElem? (i := 3) rfl)) rfl rfl dX5_stepsRound_59 ?_
                refine lv_iload_n hx_ hb_ dX5_stepsRound_62 rfl (lv_at hl 3 rfl) ?_
                have hc10 : Ml50 (o + 2) = some (sArr G 10 So) := ((hfr50 (o + 2) (by omega)).trans ((congrFun hM6 (o + 2)).trans (va_up_ne Ml11 _ (by omega)))).trans hc5
                refine sc_iald S hK hV hc10 (by omega) dX5_stepsRound_63 ?_
                refine lv_aload_n hx_ hb_ dX5_stepsRound_64 rfl (lv_at hl 0 rfl) ?_
                refine sc_get (ci := 3) (C := RX5) (T := TX5) (n := 11) S hK hV inX5_ hc8 rfl 7 (by decide) (S.2.2.2.2 _ (List.mem_of_getElem? (i := 1) rfl)) rfl rfl dX5_stepsRound_65 ?_
                refine lv_iload_n hx_ hb_ dX5_stepsRound_68 rfl (lv_at hl 2 rfl) ?_
                refine si_const S dX5_stepsRound_69 ?_
                refine si_sub S dX5_stepsRound_70 ?_
                refine sc_iald S hK hV hm50_0 (by omega) dX5_stepsRound_71 ?_
                refine si_and S dX5_stepsRound_72 ?_
                have hir3 := iand_r (So q) (R3 (k - 1))
                refine sz_eq (tgt := 88) S dX5_stepsRound_73 (by decide) (by omega) (fun h73 => ?_) (fun h73 => ?_)
                · refine si_inc (lv' := [(3, .int (sI (q + 1))), (0, .ref o), (1, .int (sI a)), (2, .int (sI k))]) S dX5_stepsRound_88 hl (k := 3) rfl (by decide) rfl (fun ls hl => ?_)
                  refine lv_goto (tgt := 50) hx_ hb_ dX5_stepsRound_91 (by decide) ?_
                  exact ih50 (q + 1) R3 Ml50 _ _ _ (by omega) (by omega) (hR3) (rsP_f ((so_z hok hS (by omega) hr3).mp h73) hq3) hm50_0 (fun x q0 => hfr50 x (by omega)) hV (lv_sub hl [1, 2, 3, 0] rfl)
                · refine lv_aload_n hx_ hb_ dX5_stepsRound_76 rfl (lv_at hl 0 rfl) ?_
                  refine sc_get (ci := 3) (C := RX5) (T := TX5) (n := 11) S hK hV inX5_ hc8 rfl 7 (by decide) (S.2.2.2.2 _ (List.mem_of_getElem? (i := 1) rfl)) rfl rfl dX5_stepsRound_77 ?_
                  refine lv_iload_n hx_ hb_ dX5_stepsRound_80 rfl (lv_at hl 2 rfl) ?_
                  refine lv_dup2_11 hx_ hb_ dX5_stepsRound_81 rfl rfl ?_
                  refine sc_iald S hK hV hm50_0 (by omega) dX5_stepsRound_82 ?_
                  refine si_const S dX5_stepsRound_83 ?_
                  refine lv_iload_n hx_ hb_ dX5_stepsRound_84 rfl (lv_at hl 3 rfl) ?_
                  refine si_shl S dX5_stepsRound_85 ?_
                  refine si_or S dX5_stepsRound_86 ?_
                  refine sc_iast S hK hV hm50_0 (by omega) dX5_stepsRound_87 (fun M11 H locs hM11 hV => ?_)
                  have hc12 : M11 (o + 8) = some (sArr G 11 (iup R3 k (ior (R3 k) (ishl 1 q)))) := (congrFun hM11 (o + 8)).trans (va_up_self Ml50 (o + 8) _)
                  refine si_inc (lv' := [(3, .int (sI (q + 1))), (0, .ref o), (1, .int (sI a)), (2, .int (sI k))]) S dX5_stepsRound_88 hl (k := 3) rfl (by decide) rfl (fun ls hl => ?_)
                  refine lv_goto (tgt := 50) hx_ hb_ dX5_stepsRound_91 (by decide) ?_
                  exact ih50 (q + 1) (iup R3 k (ior (R3 k) (ishl 1 q))) M11 _ _ _ (by omega) (by omega) (fun j b c => by rw [show iup R3 k (ior (R3 k) (ishl 1 q)) j = R3 j from if_neg (by omega)]; exact hR3 j b c) (by rw [show iup R3 k (ior (R3 k) (ishl 1 q)) k = ior (R3 k) (ishl 1 q) from if_pos rfl]; exact rsP_t (by omega) (by omega) (Classical.not_not.mp fun t => h73 ((so_z hok hS (by omega) hr3).mpr t)) hq3) hc12 (fun x q0 => ((congrFun hM11 x).trans (va_up_ne Ml50 _ (by omega))).trans (hfr50 x (by omega))) hV (lv_sub hl [1, 2, 3, 0] rfl)
          exact L50 _ (a + 1) (iup R2 k 0) M6 _ _ _ (Nat.lt_succ_self _) (by omega) (fun j b c => if_neg (by omega)) (by rw [show iup R2 k 0 k = 0 from if_pos rfl]; exact rsP_0 f a k) hc7 (fun x q0 => rfl) hV (lv_sub hl [1, 2, 3, 0] rfl)
        · refine lv_iload_n hx_ hb_ dX5_stepsRound_37 rfl (lv_at hl 2 rfl) ?_
          exact sr_i E hQ dX5_stepsRound_38 ⟨Nat.le_of_ble_eq_true rfl, Nat.le_of_ble_eq_true rfl⟩ hV (⟨R2, rfl, hm11_0, fun x q0 => (hfr11 x (by omega)).trans ((congrFun hM1 x).trans (va_up_ne M _ (by omega))), Or.inr ⟨by omega, Classical.not_not.mp fun t => h34 ((so_z hok hS (by omega) hr2).mpr t), hno⟩, hR2⟩)
  exact L11 _ 1 (iup Rc 0 (ishl 1 a)) M1 _ _ _ (Nat.lt_succ_self _) (by omega) (fun j b c => by rw [show j = 0 by omega, show iup Rc 0 (ishl 1 a) 0 = ishl 1 a from if_pos rfl]; exact rr_0 (by omega)) (fun j b c => by omega) hc2 (fun x q0 => rfl) hV (lv_sub hl [1, 2, 0] rfl)

abbrev rmX5_walkRing : Room := { frames := 2, cells := 0, slots := 0, locals := 61 }
set_option maxHeartbeats 4000000 in
set_option maxRecDepth 100000 in
theorem kX5_walkRing (l_ : Launch) (G : sG) (b_ : Nat) (M : sM) (N : Nat) (o : Nat) (L : Int) (So Rc Rs f : sF) (a : Int) (ho0 : M o = some (sObj 3 [.ref (o + 1), .ref (o + 2), .ref (o + 3), .ref (o + 4), .ref (o + 5), .ref (o + 6), .ref (o + 7), .ref (o + 8), .ref (o + 9), .int (sI L), .int (sI (f 568))])) (ho2 : M (o + 2) = some (sArr G 10 So)) (ho8 : M (o + 8) = some (sArr G 11 Rc)) (ho9 : M (o + 9) = some (sArr G 10 Rs)) (hok : sOk f) (hS : sfP f So) (ha : 0 ≤ a ∧ a < f 568) (hL : 1 ≤ L ∧ L ≤ f 568) (hd : rdP f a L) (hR : rrA f a L Rc) : cV l_ yX5_walkRing wsX5_walkRing rmX5_walkRing G b_ M N [.ref o, .int (sI a)] (fun M1 N1 => ∃ G9 : Int → Int, N1 = N ∧ M1 (o + 9) = some (sArr G 10 G9) ∧ (∀ x : Nat, ¬ (x = o + 9) → M1 x = M x) ∧ (wkQ f a L G9 L)) := by
  refine sE.ofV (cc := cX5_walkRing) (nL := 4) (ret := none) (by decide) rfl (Nat.le_of_ble_eq_true rfl) ?_
  intro p_ e_ s_ m_ args_ below_ meth_ c_ ls Q hQ E hl
  have E : sE p_ l_ e_ rmX5_walkRing s_ m_ args_ below_ meth_ c_ cX5_walkRing 4 wsX5_walkRing RX5 "walkRing" none G b_ M N := E
  have S := E.1
  have hx_ := S.1
  have hb_ := S.2.1
  have hK := E.2.2.2.2.1
  have hV := E.2.2.2.2.2.2
  have hl : lv_has ls 4 [(0, .ref o), (1, .int (sI a))] := hl
  have inX5_ : ∀ w ∈ wsX50, w ∈ wsX5_walkRing := fun _ h => List.mem_cons_of_mem _ (List.mem_append_right _ h)
  have kn0 := sOk_N hok
  refine lv_iload_n hx_ hb_ dX5_walkRing_0 rfl (lv_at hl 1 rfl) ?_
  refine lv_istore_n (lv' := [(2, .int (sI a)), (0, .ref o), (1, .int (sI a))]) hx_ hb_ dX5_walkRing_1 rfl hl (by decide) rfl (fun ls hl => ?_)
  refine lv_aload_n hx_ hb_ dX5_walkRing_2 rfl (lv_at hl 1 rfl) ?_
  refine sc_get (ci := 3) (C := RX5) (T := TX5) (n := 11) S hK hV inX5_ ho0 rfl 8 (by decide) (S.2.2.2.2 _ (List.mem_of_getElem? (i := 1) rfl)) rfl rfl dX5_walkRing_3 ?_
  refine si_const S dX5_walkRing_6 ?_
  refine lv_iload_n hx_ hb_ dX5_walkRing_7 rfl (lv_at hl 2 rfl) ?_
  refine sc_iast S hK hV ho9 (by omega) dX5_walkRing_8 (fun M1 H locs hM1 hV => ?_)
  have hc2 : M1 (o + 9) = some (sArr G 10 (iup Rs 0 a)) := (congrFun hM1 (o + 9)).trans (va_up_self M (o + 9) _)
  refine si_const S dX5_walkRing_9 ?_
  refine lv_istore_n (lv' := [(3, .int (sI 1)), (2, .int (sI a)), (0, .ref o), (1, .int (sI a))]) hx_ hb_ dX5_walkRing_10 rfl hl (by decide) rfl (fun ls hl => ?_)
  have L11 : ∀ (fuel : Nat) (x : Int) (p : Int) (G2 : Int → Int) (Ml11 : sM) (H : Heap) (locs : List Loc) (ls : Array Slot), ((L - p).toNat) < fuel → (1 ≤ p ∧ p ≤ L) → (wkQ f a L G2 p) → (x = G2 (p - 1)) → (0 ≤ x ∧ x < f 568) → (nyQ f a x (L - p)) → (Ml11 (o + 9) = some (sArr G 10 G2)) → (∀ x : Nat, ¬ (x = o + 9) → Ml11 x = M1 x) → sV G b_ Ml11 N s_ H locs → lv_has ls 4 [(0, .ref o), (2, .int (sI x)), (3, .int (sI p))] → W p_ l_ e_ rmX5_walkRing s_ m_ args_ below_ meth_ c_ H locs 0 0 Q (F0 m_ 11 ls []) := by
    intro fuel
    induction fuel with
    | zero => intro x p G2 Ml11 H locs ls hmu; exact absurd hmu (Nat.not_lt_zero _)
    | succ fuel ih11 =>
      intro x p G2 Ml11 H locs ls hmu11 hv11_0 hG2 hx hxr hnx hm11_0 hfr11 hV hl
      refine lv_iload_n hx_ hb_ dX5_walkRing_11 rfl (lv_at hl 2 rfl) ?_
      refine lv_aload_n hx_ hb_ dX5_walkRing_12 rfl (lv_at hl 0 rfl) ?_
      have hc3 : Ml11 o = some (sObj 3 [.ref (o + 1), .ref (o + 2), .ref (o + 3), .ref (o + 4), .ref (o + 5), .ref (o + 6), .ref (o + 7), .ref (o + 8), .ref (o + 9), .int (sI L), .int (sI (f 568))]) := ((hfr11 o (by omega)).trans ((congrFun hM1 o).trans (va_up_ne M _ (by omega)))).trans ho0
      refine sc_get (ci := 3) (C := RX5) (T := TX5) (n := 11) S hK hV inX5_ hc3 rfl 9 (by decide) (S.2.2.2.2 _ (List.mem_of_getElem? (i := 2) rfl)) rfl rfl dX5_walkRing_13 ?_
      refine sb_ge (tgt := 54) S dX5_walkRing_16 (by decide) (by omega) (fun c4 => ?_) (fun c4 => ?_)
      · exact sr_v E hQ dX5_walkRing_54 ⟨Nat.le_of_ble_eq_true rfl, Nat.le_of_ble_eq_true rfl⟩ hV (⟨G2, rfl, hm11_0, fun x q0 => (hfr11 x (by omega)).trans ((congrFun hM1 x).trans (va_up_ne M _ (by omega))), by rw [show p = L by omega] at hG2; exact hG2⟩)
      · refine lv_aload_n hx_ hb_ dX5_walkRing_19 rfl (lv_at hl 0 rfl) ?_
        refine sc_get (ci := 3) (C := RX5) (T := TX5) (n := 11) S hK hV inX5_ hc3 rfl 1 (by decide) (S.2.2.2.2 _ (List.mem_of_getElem? (i := 3) rfl)) rfl rfl dX5_walkRing_20 ?_
        refine lv_iload_n hx_ hb_ dX5_walkRing_23 rfl (lv_at hl 1 rfl) ?_
        have hc5 : Ml11 (o + 2) = some (sArr G 10 So) := ((hfr11 (o + 2) (by omega)).trans ((congrFun hM1 (o + 2)).trans (va_up_ne M _ (by omega)))).trans ho2
        refine sc_iald S hK hV hc5 (by omega) dX5_walkRing_24 ?_
        refine lv_aload_n hx_ hb_ dX5_walkRing_25 rfl (lv_at hl 0 rfl) ?_
        refine sc_get (ci := 3) (C := RX5) (T := TX5) (n := 11) S hK hV inX5_ hc3 rfl 7 (by decide) (S.2.2.2.2 _ (List.mem_of_getElem? (i := 4) rfl)) rfl rfl dX5_walkRing_26 ?_
        refine lv_aload_n hx_ hb_ dX5_walkRing_29 rfl (lv_at hl 0 rfl) ?_
        refine sc_get (ci := 3) (C := RX5) (T := TX5) (n := 11) S hK hV inX5_ hc3 rfl 9 (by decide) (S.2.2.2.2 _ (List.mem_of_getElem? (i := 2) rfl)) rfl rfl dX5_walkRing_30 ?_
        refine lv_iload_n hx_ hb_ dX5_walkRing_33 rfl (lv_at hl 2 rfl) ?_
        refine si_sub S dX5_walkRing_34 ?_
        have hc6 : Ml11 (o + 8) = some (sArr G 11 Rc) := ((hfr11 (o + 8) (by omega)).trans ((congrFun hM1 (o + 8)).trans (va_up_ne M _ (by omega)))).trans ho8
        refine sc_iald S hK hV hc6 (by omega) dX5_walkRing_35 ?_
        refine si_and S dX5_walkRing_36 ?_
        have hrp := hR (L - p) (by omega) (by omega)
        have hir := iand_r31 (a := So x) (b := Rc (L - p)) (by have := (hS x (by omega) (by omega)).1; omega) (by have := hrp.1; omega)
        refine sk_Si E hV (As := [.int (sI (iand (So x) (Rc (L - p))))]) (rest := []) (kX5_leastOf l_ G b_ Ml11 N (iand (So x) (Rc (L - p))) (hir) (sb_so hok hS (by omega) hrp hnx)) (va_cwS 1 S.2.2.2.2 gX5_walkRing_X5_leastOf rfl rfl rfl (by decide +kernel) ⟨Nat.le_of_ble_eq_true rfl, Nat.le_of_ble_eq_true rfl⟩) rfl rfl hl.1 (Nat.le_of_ble_eq_true rfl) dX5_walkRing_37 (c1 := 0) (s1 := 0) ⟨⟨rfl, rfl⟩, by decide, by decide⟩ (fun z10 M7 N8 H locs hp9 hV => ?_)
        obtain ⟨hN11, hf12, hz13⟩ := hp9
        rw [hN11] at hV
        have hzx := (tb_so hS (by omega) hrp (by have := hz13.1; omega)).mp hz13.2.1
        have hzy : ∀ y, doP f x y → rqP f a (L - p) y → z10 ≤ y := fun y y1 y2 => by have y3 := (doP_r hok y1).2.1.1; exact Int.not_lt.mp fun y4 => hz13.2.2 y y3 y4 ((tb_so hS (by omega) hrp y3).mpr ⟨y1, y2⟩)
        have hzr := (doP_r hok hzx.1).2.1
        refine lv_istore_n (lv' := [(2, .int (sI z10)), (0, .ref o), (3, .int (sI p))]) hx_ hb_ dX5_walkRing_40 rfl hl (by decide) rfl (fun ls hl => ?_)
        refine lv_aload_n hx_ hb_ dX5_walkRing_41 rfl (lv_at hl 1 rfl) ?_
        have hc14 : M7 o = some (sObj 3 [.ref (o + 1), .ref (o + 2), .ref (o + 3), .ref (o + 4), .ref (o + 5), .ref (o + 6), .ref (o + 7), .ref (o + 8), .ref (o + 9), .int (sI L), .int (sI (f 568))]) := (hf12 o ).trans hc3
        refine sc_get (ci := 3) (C := RX5) (T := TX5) (n := 11) S hK hV inX5_ hc14 rfl 8 (by decide) (S.2.2.2.2 _ (List.mem_of_getElem? (i := 1) rfl)) rfl rfl dX5_walkRing_42 ?_
        refine lv_iload_n hx_ hb_ dX5_walkRing_45 rfl (lv_at hl 2 rfl) ?_
        refine lv_iload_n hx_ hb_ dX5_walkRing_46 rfl (lv_at hl 0 rfl) ?_
        have hc15 : M7 (o + 9) = some (sArr G 10 G2) := (hf12 (o + 9) ).trans hm11_0
        refine sc_iast S hK hV hc15 (by omega) dX5_walkRing_47 (fun M16 H locs hM16 hV => ?_)
        have hc17 : M16 (o + 9) = some (sArr G 10 (iup G2 p z10)) := (congrFun hM16 (o + 9)).trans (va_up_self M7 (o + 9) _)
        refine si_inc (lv' := [(3, .int (sI (p + 1))), (2, .int (sI z10)), (0, .ref o)]) S dX5_walkRing_48 hl (k := 2) rfl (by decide) rfl (fun ls hl => ?_)
        refine lv_goto (tgt := 11) hx_ hb_ dX5_walkRing_51 (by decide) ?_
        exact ih11 z10 (p + 1) (iup G2 p z10) M16 _ _ _ (by omega) (by omega) (wk_s (by omega) hG2 (by rw [← hx]; exact hzx) (fun y y1 y2 => by rw [← hx] at y1; exact hzy y y1 y2)) ((show iup G2 p z10 (p + 1 - 1) = z10 by rw [show p + 1 - 1 = p by omega]; exact if_pos rfl).symm) (hzr) (by have h9 := nx_s (by omega) hzx.2; rw [show L - p - 1 = L - (p + 1) by omega] at h9; exact h9) hc17 (fun x q0 => (((congrFun hM16 x).trans (va_up_ne M7 _ (by omega))).trans (hf12 x )).trans (hfr11 x (by omega))) hV (lv_sub hl [2, 1, 0] rfl)
  exact L11 _ a 1 (iup Rs 0 a) M1 _ _ _ (Nat.lt_succ_self _) (by omega) (wk_1 Rs) ((show iup Rs 0 a (1 - 1) = a from if_pos rfl).symm) (ha) (hd) hc2 (fun x q0 => rfl) hV (lv_sub hl [2, 1, 0] rfl)
