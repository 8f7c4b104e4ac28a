/-! The class's Laying: which set fits a drawer, and what a laying costs. -/
/-- the next smaller part of a set -/
theorem sub_le : ∀ m : Nat, ∀ P su q r : Int, 0 ≤ P → P < (m : Int) → 0 ≤ su → 0 ≤ q → 0 ≤ r → (∀ i, 0 ≤ i → tb P i → tb su i) → (∀ i, 0 ≤ i → tb q i → tb su i) → q < P → (∀ i, 0 ≤ i → (tb r i ↔ tb (P - 1) i ∧ tb su i)) → q ≤ r := by
  intro m
  induction m with
  | zero => intro P su q r a b; omega
  | succ m ih =>
    intro P su q r p0 pm s0 q0 r0 hP hq hlt hr
    by_cases e : P % 2 = 1
    · have h1 : r = P - 1 := set_eq r0 (by omega) fun i a => by
        rw [hr i a]
        refine ⟨fun w => w.1, fun w => ⟨w, ?_⟩⟩
        by_cases e0 : i = 0
        · rw [e0] at w
          have := (tb_00 (m := P - 1) (by omega)).mp w
          omega
        · have h2 := (tb_half (m := P - 1) (k := i - 1) (by omega) (by omega))
          rw [show i - 1 + 1 = i by omega] at h2
          have h3 := (tb_half (m := P) (k := i - 1) (by omega) (by omega))
          rw [show i - 1 + 1 = i by omega] at h3
          have h4 := h2.mpr w
          rw [show (P - 1) / 2 = P / 2 by omega] at h4
          exact hP i a (h3.mp h4)
      omega
    · have h5 := ih (P / 2) (su / 2) (q / 2) (r / 2) (by omega) (by omega) (by omega) (by omega) (by omega) (fun i a w => (tb_half s0 a).mpr (hP (i + 1) (by omega) ((tb_half p0 a).mp w))) (fun i a w => (tb_half s0 a).mpr (hq (i + 1) (by omega) ((tb_half q0 a).mp w))) (by omega) (fun i a => by
        rw [tb_half r0 a, hr (i + 1) (by omega), show P / 2 - 1 = (P - 1) / 2 by omega, tb_half (by omega) a, tb_half s0 a])
      have h6 : q % 2 = 1 → r % 2 = 1 := fun w => (tb_00 r0).mp ((hr 0 (by omega)).mpr ⟨(tb_00 (by omega)).mpr (by omega), hq 0 (by omega) ((tb_00 q0).mpr w)⟩)
      by_cases e2 : q % 2 = 1
      · have := h6 e2; omega
      · omega
def dpK (f : sF) (o s : Int) : Prop := tb (f (158 + f (10 + s))) (f (10 + o))
noncomputable def fsI (f : sF) (b : Int) (C : Int → Prop) (s : Int) : Int := isum s (fun o => pif (C o) (f (b + o)) 0)
def fitC (f : sF) (d : Int) (C : Int → Prop) (s : Int) : Prop := f (20 + s) + fsI f 20 C s ≤ f (150 + d) ∧ f (30 + s) + fsI f 30 C s ≤ f (154 + d) ∧ ∀ o, 0 ≤ o → o < s → C o → ¬ dpK f o s
def gdC (f : sF) (d : Int) (C : Int → Prop) : Prop := ∀ s, 0 ≤ s → s < f 568 → C s → fitC f d C s
theorem fs_c {f : sF} {b s : Int} {C C2 : Int → Prop} (h : ∀ o, 0 ≤ o → o < s → (C o ↔ C2 o)) : fsI f b C s = fsI f b C2 s := isum_c fun o x y => pif_c (h o x y)
theorem fit_c {f : sF} {d s : Int} {C C2 : Int → Prop} (h : ∀ o, 0 ≤ o → o < s → (C o ↔ C2 o)) (h2 : fitC f d C s) : fitC f d C2 s := by
  obtain ⟨a, b, c⟩ := h2
  rw [fs_c h] at a b
  exact ⟨a, b, fun o x y z => c o x y ((h o x y).mpr z)⟩
theorem gd_c {f : sF} {d : Int} {C C2 : Int → Prop} (h : ∀ o, 0 ≤ o → o < f 568 → (C o ↔ C2 o)) (h2 : gdC f d C) : gdC f d C2 := fun s a b c => fit_c (fun o x y => h o x (by omega)) (h2 s a b ((h s a b).mpr c))
def w4 (s : Int) : Int := ((4 ^ (9 - s).toNat : Nat) : Int)
theorem w4_s {s : Int} (h : 0 ≤ s ∧ s < 9) : w4 s = 4 * w4 (s + 1) := by
  unfold w4
  rw [show (9 - s).toNat = (9 - (s + 1)).toNat + 1 by omega, Nat.pow_succ]
  omega
theorem w4_p (s : Int) : 1 ≤ w4 s := by
  unfold w4
  have : 0 < 4 ^ (9 - s).toNat := Nat.pow_pos (by omega)
  omega
theorem w4_b {s : Int} (h : 0 ≤ s) : w4 s ≤ 262144 := by
  unfold w4
  have : 4 ^ (9 - s).toNat ≤ 4 ^ 9 := Nat.pow_le_pow_right (by omega) (by omega)
  omega
noncomputable def mvI (f : sF) (B : Prop) (s d : Int) : Int := pif (B ∧ f (50 + s) ≠ -1 ∧ f (50 + s) ≠ d) 1048576 0
noncomputable def pcD (f : sF) (B : Prop) (s d : Int) : Int := d * w4 s + mvI f B s d
theorem mv_r (f : sF) (B : Prop) (s d : Int) : 0 ≤ mvI f B s d ∧ mvI f B s d ≤ 1048576 := by
  unfold mvI
  rcases pif_cases (B ∧ f (50 + s) ≠ -1 ∧ f (50 + s) ≠ d) 1048576 0 with ⟨-, e⟩ | ⟨-, e⟩ <;> omega
theorem pcD_r (f : sF) (B : Prop) {s d : Int} (hs : 0 ≤ s) (hd : 0 ≤ d ∧ d ≤ 3) : 0 ≤ pcD f B s d ∧ pcD f B s d ≤ 1835008 := by
  have h1 := mv_r f B s d
  have h2 := w4_p s
  have h3 := w4_b hs
  have h4 : d * w4 s ≤ 3 * w4 s := Int.mul_le_mul_of_nonneg_right hd.2 (by omega)
  have h5 : 0 ≤ d * w4 s := Int.mul_nonneg hd.1 (by omega)
  unfold pcD
  omega
noncomputable def coS (f : sF) (B : Prop) (u : Int) (p : sF) : Int := isum (f 568) (fun s => pif (tb u s) (pcD f B s (p s)) 0)
theorem co_r {f p : sF} {B : Prop} {u : Int} (hn : 0 ≤ f 568 ∧ f 568 ≤ 10) (h : ∀ s, 0 ≤ s → s < f 568 → tb u s → 0 ≤ p s ∧ p s ≤ 3) : 0 ≤ coS f B u p ∧ coS f B u p ≤ 18350080 := by
  have h1 := isum_b (n := f 568) (g := fun s => pif (tb u s) (pcD f B s (p s)) 0) 0 1835008 hn.1 (fun s a b => by
    show 0 ≤ pif (tb u s) (pcD f B s (p s)) 0 ∧ pif (tb u s) (pcD f B s (p s)) 0 ≤ 1835008
    rcases pif_cases (tb u s) (pcD f B s (p s)) 0 with ⟨q, e⟩ | ⟨q, e⟩
    · rw [e]; exact pcD_r f B a (h s a b q)
    · omega)
  unfold coS
  omega
def vaP (f : sF) (d u : Int) (p : sF) : Prop := (∀ s, 0 ≤ s → s < f 568 → tb u s → 0 ≤ p s ∧ p s ≤ d) ∧ ∀ e, 0 ≤ e → e ≤ d → gdC f e (fun s => tb u s ∧ p s = e)
def hlP (f : sF) (B : Prop) (d u v : Int) : Prop := (gdC f d (tb u) → v = coS f B u (fun _ => d)) ∧ (¬ gdC f d (tb u) → v = 268435456)
def beP (f : sF) (B : Prop) (d u v : Int) : Prop := ((∃ p, vaP f d u p ∧ v = coS f B u p) ∨ v = 268435456) ∧ ∀ p, vaP f d u p → v ≤ coS f B u p
def hlA (f : sF) (B : Prop) (d : Int) (H : sF) : Prop := ∀ u, 0 ≤ u → u < p2 (f 568) → hlP f B d u (H u)
section LY
variable {f : sF} {B : Prop}
theorem be_0 (hn : 0 ≤ f 568 ∧ f 568 ≤ 10) {u v : Int} (h : hlP f B 0 u v) : beP f B 0 u v := by
  have hc : ∀ p : sF, vaP f 0 u p → gdC f 0 (tb u) := fun p hp => gd_c (fun o a b => ⟨fun q => q.1, fun q => ⟨q, by have := hp.1 o a b q; omega⟩⟩) (hp.2 0 (by omega) (by omega))
  constructor
  · by_cases q : gdC f 0 (tb u)
    · refine Or.inl ⟨fun _ => 0, ⟨fun s _ _ _ => ⟨Int.le_refl 0, Int.le_refl 0⟩, fun e a b => ?_⟩, h.1 q⟩
      rw [show e = 0 by omega]
      exact gd_c (fun o _ _ => ⟨fun w => ⟨w, rfl⟩, fun w => w.1⟩) q
    · exact Or.inr (h.2 q)
  · intro p hp
    rw [h.1 (hc p hp)]
    refine isum_le fun s a b => ?_
    show pif (tb u s) (pcD f B s 0) 0 ≤ pif (tb u s) (pcD f B s (p s)) 0
    by_cases q : tb u s
    · rw [pif_t q, pif_t q, show p s = 0 by have := hp.1 s a b q; omega]; exact Int.le_refl _
    · rw [pif_f q, pif_f q]; exact Int.le_refl _
/-- the part of a set that lies in one drawer -/
def stP (f : sF) (u : Int) (p : sF) (d t : Int) : Prop := (0 ≤ t ∧ t < p2 (f 568)) ∧ ∀ s, 0 ≤ s → (tb t s ↔ tb u s ∧ p s = d)
theorem set_ex {n : Int} (hn : 0 ≤ n ∧ n ≤ 29) (C : Int → Prop) : ∃ t, (0 ≤ t ∧ t < p2 n) ∧ ∀ s, 0 ≤ s → (tb t s ↔ s < n ∧ C s) := by
  have key : ∀ m : Nat, (m : Int) ≤ n → ∃ t, (0 ≤ t ∧ t < p2 (m : Int)) ∧ ∀ s, 0 ≤ s → (tb t s ↔ s < (m : Int) ∧ C s) := by
    intro m
    induction m with
    | zero => exact fun _ => ⟨0, by have := p2_p ((0 : Nat) : Int); omega, fun s a => ⟨fun q => absurd q (tb_0 s), fun q => by omega⟩⟩
    | succ m ih =>
      intro hm
      obtain ⟨t, t1, t2⟩ := ih (by omega)
      have h1 := p2_s (n := (m : Int)) (by omega)
      have h2 := p2_p (m : Int)
      have h3 := p2_29 (n := (m : Int)) (by omega)
      rw [show ((m + 1 : Nat) : Int) = (m : Int) + 1 by omega]
      by_cases q : C (m : Int)
      · have h4 : ¬ tb t (m : Int) := tb_lt t1 (Int.le_refl _)
        refine ⟨t + p2 (m : Int), by omega, fun s a => ?_⟩
        rw [tb_add (by omega) (by omega) a h4, t2 s a]
        constructor
        · rintro (w | w)
          · exact ⟨by omega, w.2⟩
          · rw [w]; exact ⟨by omega, q⟩
        · rintro ⟨w1, w2⟩
          by_cases e : s = (m : Int)
          · exact Or.inr e
          · exact Or.inl ⟨by omega, w2⟩
      · refine ⟨t, by omega, fun s a => ?_⟩
        rw [t2 s a]
        constructor
        · exact fun w => ⟨by omega, w.2⟩
        · rintro ⟨w1, w2⟩
          by_cases e : s = (m : Int)
          · rw [e] at w2; exact absurd w2 q
          · exact ⟨by omega, w2⟩
  have := key n.toNat (by omega)
  rw [show ((n.toNat : Nat) : Int) = n by omega] at this
  exact this
theorem st_ex (hn : 0 ≤ f 568 ∧ f 568 ≤ 10) {u d : Int} (hu : 0 ≤ u ∧ u < p2 (f 568)) (p : sF) : ∃ t, stP f u p d t := by
  obtain ⟨t, t1, t2⟩ := set_ex (n := f 568) (by omega) (fun s => tb u s ∧ p s = d)
  refine ⟨t, t1, fun s a => ?_⟩
  rw [t2 s a]
  refine ⟨fun w => w.2, fun w => ⟨?_, w⟩⟩
  rcases Int.lt_or_le s (f 568) with q | q
  · exact q
  · exact absurd w.1 (tb_lt hu q)
/-- the least so far, with the parts greater than q tried -/
def lsP (f : sF) (B : Prop) (d u q v : Int) : Prop := ((∃ p, vaP f d u p ∧ v = coS f B u p) ∨ v = 268435456) ∧ ∀ p t, vaP f d u p → stP f u p d t → t = 0 ∨ q < t → v ≤ coS f B u p
theorem vaP_up {d u : Int} {p : sF} (h : vaP f (d - 1) u p) : vaP f d u p := ⟨fun s a b c => by have := h.1 s a b c; omega, fun e a b => by
  by_cases q : e = d
  · exact fun s x y z => by have := h.1 s x y z.1; have := z.2; omega
  · exact h.2 e a (by omega)⟩
theorem sub_n {t u : Int} (ht : 0 ≤ t) (hu : 0 ≤ u) (h : ∀ s, 0 ≤ s → tb t s → tb u s) : t ≤ u := by
  have key : ∀ m : Nat, ∀ t u : Int, 0 ≤ t → 0 ≤ u → u < (m : Int) → (∀ s, 0 ≤ s → tb t s → tb u s) → t ≤ u := by
    intro m
    induction m with
    | zero => intro t u a b c; omega
    | succ m ih =>
      intro t u a b c h
      by_cases e : u = 0
      · have : t = 0 := set_eq a (by omega) fun k k0 => ⟨fun q => by have := h k k0 q; rw [e] at this; exact this, fun q => absurd q (tb_0 k)⟩
        omega
      · have h1 := ih (t / 2) (u / 2) (by omega) (by omega) (by omega) (fun s s0 q => (tb_half b s0).mpr (h (s + 1) (by omega) ((tb_half a s0).mp q)))
        have h2 : t % 2 = 1 → u % 2 = 1 := fun q => (tb_00 b).mp (h 0 (by omega) ((tb_00 a).mpr q))
        by_cases e2 : t % 2 = 1
        · have := h2 e2; omega
        · omega
  exact key (u.toNat + 1) t u ht hu (by omega) h
theorem ls_0 {d u v : Int} (hu : 0 ≤ u) (h : beP f B (d - 1) u v) : lsP f B d u u v := by
  refine ⟨?_, fun p t hp ht hq => ?_⟩
  · rcases h.1 with ⟨p, h1, h2⟩ | h1
    · exact Or.inl ⟨p, vaP_up h1, h2⟩
    · exact Or.inr h1
  · have h3 := sub_n ht.1.1 hu (fun s a q => ((ht.2 s a).mp q).1)
    have h4 : t = 0 := by omega
    refine h.2 p ⟨fun s a b c => ?_, fun e a b => hp.2 e a (by omega)⟩
    have h5 := hp.1 s a b c
    have h6 : p s ≠ d := fun w => tb_0 s (by rw [← h4]; exact (ht.2 s a).mpr ⟨c, w⟩)
    omega
theorem co_sp {d u q : Int} {p : sF} (hx : ∀ s, 0 ≤ s → s < f 568 → (tb u s ∧ p s = d ↔ tb q s)) : coS f B u p = coS f B q (fun _ => d) + isum (f 568) (fun s => pif (tb u s ∧ ¬ tb q s) (pcD f B s (p s)) 0) := by
  unfold coS
  rw [← isum_add]
  refine isum_c fun s a b => ?_
  show pif (tb u s) (pcD f B s (p s)) 0 = pif (tb q s) (pcD f B s d) 0 + pif (tb u s ∧ ¬ tb q s) (pcD f B s (p s)) 0
  have h := hx s a b
  by_cases w : tb q s
  · have w2 := h.mpr w
    rw [pif_t w, pif_t w2.1, pif_f (fun r => r.2 w), w2.2]; omega
  · rw [pif_f w, pif_c (show (tb u s ∧ ¬ tb q s) ↔ tb u s from ⟨fun r => r.1, fun r => ⟨r, w⟩⟩)]; omega
/-- one part more -/
theorem ls_s {d u q x v h y w : Int} (hd : 1 ≤ d ∧ d ≤ 3) (hn : 0 ≤ f 568 ∧ f 568 ≤ 10) (hu : 0 ≤ u ∧ u < p2 (f 568)) (hq : 0 < q ∧ q < p2 (f 568)) (hqu : ∀ s, 0 ≤ s → tb q s → tb u s) (hx : ∀ s, 0 ≤ s → (tb x s ↔ tb u s ∧ ¬ tb q s)) (hh : hlP f B d q h) (hy : beP f B (d - 1) x y) (hw : w = if h + y < v then h + y else v) (hr : 0 ≤ h ∧ 0 ≤ y) (hv : v ≤ 268435456) {q2 : Int} (hq2 : 0 ≤ q2 ∧ ∀ s, 0 ≤ s → (tb q2 s ↔ tb (q - 1) s ∧ tb u s)) (hl : lsP f B d u q v) : lsP f B d u q2 w := by
  have hco : ∀ p : sF, (∀ s, 0 ≤ s → s < f 568 → (tb u s ∧ p s = d ↔ tb q s)) → isum (f 568) (fun s => pif (tb u s ∧ ¬ tb q s) (pcD f B s (p s)) 0) = coS f B x p := fun p _ => isum_c fun s a b => pif_c (hx s a).symm
  have hwv : w ≤ v := by rw [hw]; split <;> omega
  have hwh : w ≤ h + y := by rw [hw]; split <;> omega
  refine ⟨?_, fun p t hp ht hqt => ?_⟩
  · by_cases e : h + y < v
    · rw [if_pos e] at hw
      have g1 : gdC f d (tb q) := Classical.not_not.mp fun r => by have := hh.2 r; omega
      rcases hy.1 with ⟨p, p1, p2⟩ | e2
      · have hspl : ∀ s, 0 ≤ s → s < f 568 → (tb u s ∧ (fun s => @ite Int (tb q s) (Classical.propDecidable _) d (p s)) s = d ↔ tb q s) := fun s a b => by
          show tb u s ∧ @ite Int (tb q s) (Classical.propDecidable _) d (p s) = d ↔ tb q s
          by_cases r : tb q s
          · rw [if_pos r]; exact ⟨fun _ => r, fun _ => ⟨hqu s a r, rfl⟩⟩
          · rw [if_neg r]
            refine ⟨fun z => ?_, fun z => absurd z r⟩
            have := p1.1 s a b ((hx s a).mpr ⟨z.1, r⟩)
            have := z.2
            omega
        refine Or.inl ⟨fun s => @ite Int (tb q s) (Classical.propDecidable _) d (p s), ⟨fun s a b c => ?_, fun i a b => ?_⟩, ?_⟩
        · show 0 ≤ @ite Int (tb q s) (Classical.propDecidable _) d (p s) ∧ @ite Int (tb q s) (Classical.propDecidable _) d (p s) ≤ d
          by_cases r : tb q s
          · rw [if_pos r]; omega
          · rw [if_neg r]
            have := p1.1 s a b ((hx s a).mpr ⟨c, r⟩)
            omega
        · by_cases r : i = d
          · rw [r]
            exact gd_c (fun s a b => (hspl s a b).symm) g1
          · refine gd_c (fun s s1 s2 => ?_) (p1.2 i a (by omega))
            show tb x s ∧ p s = i ↔ tb u s ∧ @ite Int (tb q s) (Classical.propDecidable _) d (p s) = i
            rw [hx s s1]
            by_cases z : tb q s
            · rw [if_pos z]; exact ⟨fun k => absurd z k.1.2, fun k => absurd k.2.symm r⟩
            · rw [if_neg z]; exact ⟨fun k => ⟨k.1.1, k.2⟩, fun k => ⟨⟨k.1, z⟩, k.2⟩⟩
        · rw [co_sp hspl, hw, hh.1 g1, p2]
          congr 1
          refine isum_c fun s a b => ?_
          show pif (tb x s) (pcD f B s (p s)) 0 = pif (tb u s ∧ ¬ tb q s) (pcD f B s (@ite Int (tb q s) (Classical.propDecidable _) d (p s))) 0
          by_cases z : tb u s ∧ ¬ tb q s
          · rw [pif_t z, pif_t ((hx s a).mpr z), if_neg z.2]
          · rw [pif_f z, pif_f (fun k => z ((hx s a).mp k))]
      · omega
    · rw [if_neg e] at hw
      rw [hw]
      exact hl.1
  · by_cases e : t = 0 ∨ q < t
    · have := hl.2 p t hp ht e; omega
    · have e1 : t ≤ q := by omega
      by_cases e2 : t = q
      · rw [e2] at ht
        have hs2 : ∀ s, 0 ≤ s → s < f 568 → (tb u s ∧ p s = d ↔ tb q s) := fun s a _ => (ht.2 s a).symm
        have g1 : gdC f d (tb q) := gd_c (fun s a b => hs2 s a b) (hp.2 d (by omega) (by omega))
        have g2 := hy.2 p ⟨fun s a b c => by
          have c2 := (hx s a).mp c
          have c3 := hp.1 s a b c2.1
          have c4 : p s ≠ d := fun k => c2.2 ((ht.2 s a).mpr ⟨c2.1, k⟩)
          omega, fun i a b => gd_c (fun s s1 s2 => by
            show tb u s ∧ p s = i ↔ tb x s ∧ p s = i
            rw [hx s s1]
            exact ⟨fun k => ⟨⟨k.1, fun z => by have := ((ht.2 s s1).mp z).2; have := k.2; omega⟩, k.2⟩, fun k => ⟨k.1.1, k.2⟩⟩) (hp.2 i a (by omega))⟩
        rw [co_sp hs2, hco p hs2, ← hh.1 g1]
        omega
      · have h3 := sub_le (q.toNat + 1) q u t q2 (by omega) (by omega) hu.1 ht.1.1 hq2.1 hqu (fun s a k => ((ht.2 s a).mp k).1) (by omega) hq2.2
        have h4 : t ≠ 0 := fun k => e (Or.inl k)
        omega
theorem ls_e {d u q v : Int} (hn : 0 ≤ f 568 ∧ f 568 ≤ 10) (hu : 0 ≤ u ∧ u < p2 (f 568)) (hq : q ≤ 0) (h : lsP f B d u q v) : beP f B d u v := ⟨h.1, fun p hp => by
  obtain ⟨t, ht⟩ := st_ex hn hu (d := d) p
  exact h.2 p t hp ht (by have := ht.1; omega)⟩
theorem be_r (hn : 0 ≤ f 568 ∧ f 568 ≤ 10) {d u v : Int} (hd : d ≤ 3) (h : beP f B d u v) : 0 ≤ v ∧ v ≤ 268435456 := by
  rcases h.1 with ⟨p, h1, h2⟩ | h1
  · have := co_r (B := B) (u := u) (p := p) hn (fun s a b c => by have := h1.1 s a b c; omega)
    omega
  · omega
theorem hl_r (hn : 0 ≤ f 568 ∧ f 568 ≤ 10) {d u v : Int} (hd : 0 ≤ d ∧ d ≤ 3) (h : hlP f B d u v) : 0 ≤ v ∧ v ≤ 268435456 := by
  by_cases q : gdC f d (tb u)
  · have := co_r (B := B) (u := u) (p := fun _ => d) hn (fun s a b c => hd)
    have := h.1 q
    omega
  · have := h.2 q; omega
end LY
