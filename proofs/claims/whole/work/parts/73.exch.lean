/-! The class's Exchange: who gives to whom, by a least cost. -/
def w9 (o : Int) : Int := ((9 ^ (7 - o).toNat : Nat) : Int)
theorem w9_p (o : Int) : 1 ≤ w9 o := by
  unfold w9
  have : 0 < 9 ^ (7 - o).toNat := Nat.pow_pos (by omega)
  omega
theorem w9_s {o : Int} (h : 0 ≤ o ∧ o < 7) : w9 o = 9 * w9 (o + 1) := by
  unfold w9
  rw [show (7 - o).toNat = (7 - (o + 1)).toNat + 1 by omega, Nat.pow_succ]
  omega
theorem w9_7 : w9 7 = 1 := rfl
theorem w9_d : ∀ k : Nat, k < 8 → max 1 (sDig k) = w9 (k : Int) := by decide
theorem w9_v {o : Int} (h : 0 ≤ o ∧ o < 8) : max 1 (sDig o.toNat) = w9 o := by
  have := w9_d o.toNat (by omega)
  rw [show ((o.toNat : Nat) : Int) = o by omega] at this
  exact this
theorem w9_r {o : Int} (h : 0 ≤ o) : w9 o ≤ 4782969 := by
  unfold w9
  have : 9 ^ (7 - o).toNat ≤ 9 ^ 7 := Nat.pow_le_pow_right (by omega) (by omega)
  have e : (9 : Nat) ^ 7 = 4782969 := rfl
  omega
/-- digits to base 9 -/
def d9 (B : Int → Int) (o : Int) : Int := w9 o * B o
def okB (B : Int → Int) (n : Int) : Prop := ∀ o, 0 ≤ o → o < n → 0 ≤ B o ∧ B o ≤ 8
theorem d9_t {B : Int → Int} {n : Int} (hn : n ≤ 8) (hB : okB B n) : ∀ k : Nat, (k : Int) ≤ n → 0 ≤ isum (k : Int) (fun q => d9 B (n - (k : Int) + q)) ∧ isum (k : Int) (fun q => d9 B (n - (k : Int) + q)) < 9 * w9 (n - (k : Int)) := by
  intro k
  induction k with
  | zero =>
    intro _
    have := w9_p (n - ((0 : Nat) : Int))
    exact ⟨Int.le_refl _, by show (0 : Int) < _; omega⟩
  | succ k ih =>
    intro hk
    have h1 := ih (by omega)
    rw [show ((k + 1 : Nat) : Int) = (k : Int) + 1 by omega, isum_sh _ (by omega)]
    have e : isum (k : Int) (fun q => d9 B (n - ((k : Int) + 1) + (q + 1))) = isum (k : Int) (fun q => d9 B (n - (k : Int) + q)) := isum_c fun q _ _ => by
      show d9 B (n - ((k : Int) + 1) + (q + 1)) = d9 B (n - (k : Int) + q)
      congr 1
      omega
    rw [e, show n - ((k : Int) + 1) + 0 = n - ((k : Int) + 1) by omega]
    have h2 := hB (n - ((k : Int) + 1)) (by omega) (by omega)
    have h3 := w9_p (n - ((k : Int) + 1))
    have h4 : 0 ≤ d9 B (n - ((k : Int) + 1)) := Int.mul_nonneg (by omega) h2.1
    have h5 : d9 B (n - ((k : Int) + 1)) ≤ w9 (n - ((k : Int) + 1)) * 8 := Int.mul_le_mul_of_nonneg_left h2.2 (by omega)
    refine ⟨by omega, ?_⟩
    by_cases e7 : n - ((k : Int) + 1) < 7
    · have h6 := w9_s (o := n - ((k : Int) + 1)) (by omega)
      rw [show n - ((k : Int) + 1) + 1 = n - (k : Int) by omega] at h6
      omega
    · have e8 : n = 8 ∧ (k : Int) = 0 := by omega
      have e9 : k = 0 := by omega
      subst e9
      have e10 : isum ((0 : Nat) : Int) (fun q => d9 B (n - ((0 : Nat) : Int) + q)) = 0 := rfl
      omega
theorem d9_r {B : Int → Int} {n o : Int} (hn : n ≤ 8) (hB : okB B n) (ho : 0 ≤ o ∧ o < n) : ∃ T, isum n (d9 B) = isum (o + 1) (d9 B) + T ∧ 0 ≤ T ∧ T < w9 o := by
  have h := d9_t hn hB (n - (o + 1)).toNat (by omega)
  rw [show (((n - (o + 1)).toNat : Nat) : Int) = n - (o + 1) by omega, show n - (n - (o + 1)) = o + 1 by omega] at h
  refine ⟨isum (n - (o + 1)) (fun q => d9 B (o + 1 + q)), ?_, h.1, ?_⟩
  · have e := isum_ap (a := o + 1) (b := n - (o + 1)) (d9 B) (by omega) (by omega)
    rw [show o + 1 + (n - (o + 1)) = n by omega] at e
    exact e
  · by_cases e7 : o < 7
    · have := w9_s (o := o) (by omega)
      omega
    · have e8 : n - (o + 1) = 0 := by omega
      rw [e8]
      have := w9_p o
      show (0 : Int) < _
      omega
theorem d9_h {B : Int → Int} {o : Int} (ho : 0 ≤ o ∧ o ≤ 7) : ∃ H, isum o (d9 B) = w9 o * (9 * H) := by
  have key : ∀ k : Nat, (k : Int) ≤ 7 → ∃ H, isum (k : Int) (d9 B) = w9 (k : Int) * (9 * H) := by
    intro k
    induction k with
    | zero => intro _; exact ⟨0, by rw [Int.mul_zero, Int.mul_zero]; rfl⟩
    | succ k ih =>
      intro hk
      obtain ⟨H, e⟩ := ih (by omega)
      have h6 := w9_s (o := (k : Int)) (by omega)
      refine ⟨9 * H + B (k : Int), ?_⟩
      rw [show ((k + 1 : Nat) : Int) = (k : Int) + 1 by omega, isum_s _ (by omega), e]
      show _ + w9 (k : Int) * B (k : Int) = _
      rw [h6, ← Int.mul_add, Int.mul_comm 9 (w9 ((k : Int) + 1)), Int.mul_assoc]
  have := key o.toNat (by omega)
  rw [show ((o.toNat : Nat) : Int) = o by omega] at this
  exact this
theorem d9_v {B : Int → Int} {n o : Int} (hn : n ≤ 8) (hB : okB B n) (ho : 0 ≤ o ∧ o < n) : isum n (d9 B) / w9 o % 9 = B o := by
  obtain ⟨T, e, t1, t2⟩ := d9_r hn hB ho
  obtain ⟨H, e2⟩ := d9_h (B := B) (o := o) (by omega)
  have h2 := hB o ho.1 ho.2
  rw [e, isum_s _ ho.1, e2]
  show (w9 o * (9 * H) + w9 o * B o + T) / w9 o % 9 = B o
  rw [← Int.mul_add, Int.add_comm, Int.add_mul_ediv_left _ _ (by omega), Int.ediv_eq_zero_of_lt t1 t2]
  omega
theorem d9_b {B : Int → Int} {n : Int} (hn : 0 ≤ n ∧ n ≤ 8) (hB : okB B n) : 0 ≤ isum n (d9 B) ∧ isum n (d9 B) < 43046721 := by
  have h := d9_t hn.2 hB n.toNat (by omega)
  rw [show ((n.toNat : Nat) : Int) = n by omega, show n - n = 0 by omega] at h
  have e : isum n (fun q => d9 B (0 + q)) = isum n (d9 B) := isum_c fun q _ _ => by show d9 B (0 + q) = d9 B q; rw [Int.zero_add]
  have w : w9 0 = 4782969 := rfl
  rw [e, w] at h
  omega
theorem d9_lex {B C : Int → Int} {n : Int} (hn : n ≤ 8) (hB : okB B n) (hC : okB C n) (h : isum n (d9 B) ≤ isum n (d9 C)) : lexL n B C := by
  rcases lex_t n B C with q | ⟨j, j1, j2, j3, j4⟩
  · exact q
  · obtain ⟨T, e, t1, t2⟩ := d9_r hn hB ⟨j1, j2⟩
    obtain ⟨U, e2, u1, u2⟩ := d9_r hn hC ⟨j1, j2⟩
    rw [isum_s _ j1] at e e2
    have e3 : isum j (d9 C) = isum j (d9 B) := isum_c fun q a b => by unfold d9; rw [j3 q a b]
    have e4 : d9 B j = w9 j * B j := rfl
    have e5 : d9 C j = w9 j * C j := rfl
    have e6 : w9 j * (C j + 1) ≤ w9 j * B j := Int.mul_le_mul_of_nonneg_left (by omega) (by have := w9_p j; omega)
    rw [Int.mul_add, Int.mul_one] at e6
    omega
/-- giver to taker -/
def cgO (f : sF) (g o : Int) : Prop := f (544 + g) ≠ f (544 + o) ∧ f (552 + g) = f (560 + o)
def prI (g o : Int) : Int := if g = o then 43046721 + 8 * w9 o else g * w9 o
def asP (f : sF) (S k : Int) (g : Int → Int) : Prop := (∀ o, 0 ≤ o → o < k → 0 ≤ g o ∧ tb S (g o) ∧ (g o = o ∨ cgO f (g o) o)) ∧ ∀ o p, 0 ≤ o → o < p → p < k → g o ≠ g p
def asC (g : Int → Int) (k : Int) : Int := isum k (fun o => prI (g o) o)
theorem asC_c {g g2 : Int → Int} {k : Int} (h : ∀ o, 0 ≤ o → o < k → g o = g2 o) : asC g k = asC g2 k := isum_c fun o a b => by show prI (g o) o = prI (g2 o) o; rw [h o a b]
def csP (f : sF) (S k c : Int) : Prop := (0 ≤ c ∧ c ≤ 1073741824) ∧ (∀ g, asP f S k g → c ≤ asC g k) ∧ (c = 1073741824 ∨ ∃ g, asP f S k g ∧ asC g k = c)
theorem cs_0 (f : sF) : csP f 0 0 0 := ⟨by omega, fun g _ => Int.le_refl _, Or.inr ⟨fun _ => 0, ⟨fun o a b => by omega, fun o p a b c => by omega⟩, rfl⟩⟩
/-- the least so far, with givers below q for the last taker -/
def csL (f : sF) (S k q c : Int) : Prop := (0 ≤ c ∧ c ≤ 1073741824) ∧ (∀ g, asP f S k g → g (k - 1) < q → c ≤ asC g k) ∧ (c = 1073741824 ∨ ∃ g, asP f S k g ∧ asC g k = c)
theorem cl_0 {f : sF} {S k : Int} (hk : 1 ≤ k) : csL f S k 0 1073741824 := ⟨by omega, fun g h q => by have := (h.1 (k - 1) (by omega) (by omega)).1; omega, Or.inl rfl⟩
theorem cl_n {f : sF} {S k q c : Int} (hk : 1 ≤ k) (h : csL f S k q c) (hq : ¬ (tb S q ∧ (q = k - 1 ∨ cgO f q (k - 1)))) : csL f S k (q + 1) c :=
  ⟨h.1, fun g hg hl => h.2.1 g hg (by
    by_cases e : g (k - 1) = q
    · have := (hg.1 (k - 1) (by omega) (by omega)).2
      rw [e] at this
      exact absurd this hq
    · omega), h.2.2⟩
theorem as_d {f : sF} {S k : Int} {g : Int → Int} (hS : 0 ≤ S ∧ S ≤ 1073741823) (hk : 1 ≤ k) (h : asP f S k g) (h29 : g (k - 1) ≤ 29) : asP f (S - p2 (g (k - 1))) (k - 1) g := by
  have h0 := h.1 (k - 1) (by omega) (by omega)
  refine ⟨fun o a b => ?_, fun o p a b c => h.2 o p a b (by omega)⟩
  have h1 := h.1 o a (by omega)
  have h2 := h.2 o (k - 1) a (by omega) (by omega)
  exact ⟨h1.1, (tb_subk hS ⟨h0.1, h29⟩ h1.1 h0.2.1).mpr ⟨h1.2.1, h2⟩, h1.2.2⟩
theorem as_u {f : sF} {S k q : Int} {g : Int → Int} (hS : 0 ≤ S ∧ S ≤ 1073741823) (hk : 1 ≤ k) (hq : 0 ≤ q ∧ q ≤ 29) (hb : tb S q) (hc : q = k - 1 ∨ cgO f q (k - 1)) (h : asP f (S - p2 q) (k - 1) g) : asP f S k (iup g (k - 1) q) := by
  have e1 : iup g (k - 1) q (k - 1) = q := if_pos rfl
  have e2 : ∀ o, o < k - 1 → iup g (k - 1) q o = g o := fun o a => if_neg (by omega)
  refine ⟨fun o a b => ?_, fun o p a b c => ?_⟩
  · by_cases e : o = k - 1
    · rw [e, e1]; exact ⟨hq.1, hb, hc⟩
    · rw [e2 o (by omega)]
      have h1 := h.1 o a (by omega)
      exact ⟨h1.1, ((tb_subk hS hq h1.1 hb).mp h1.2.1).1, h1.2.2⟩
  · rw [e2 o (by omega)]
    by_cases e : p = k - 1
    · rw [e, e1]
      have h1 := h.1 o a (by omega)
      exact ((tb_subk hS hq h1.1 hb).mp h1.2.1).2
    · rw [e2 p (by omega)]
      exact h.2 o p a b (by omega)
theorem asC_s {g : Int → Int} {k : Int} (hk : 1 ≤ k) : asC g k = asC g (k - 1) + prI (g (k - 1)) (k - 1) := by
  have := isum_s (n := k - 1) (fun o => prI (g o) o) (by omega)
  rw [show k - 1 + 1 = k by omega] at this
  exact this
theorem pr_r {q o : Int} (hq : 0 ≤ q ∧ q < 8) (ho : 0 ≤ o) : 0 ≤ prI q o ∧ prI q o ≤ 81310473 := by
  have h1 := w9_p o
  have h2 := w9_r ho
  have h3 := mul_b (a := q) (A := 7) (b := w9 o) (B := 4782969) (by omega) (by omega)
  unfold prI
  split <;> omega
theorem cl_t {f : sF} {S k q c d : Int} (hS : 0 ≤ S ∧ S ≤ 1073741823) (hk : 1 ≤ k) (hq : 0 ≤ q ∧ q < 8) (h : csL f S k q c) (hb : tb S q) (hc : q = k - 1 ∨ cgO f q (k - 1)) (hd : csP f (S - p2 q) (k - 1) d) : csL f S k (q + 1) (min c (d + prI q (k - 1))) := by
  have hp := pr_r hq (show 0 ≤ k - 1 by omega)
  have h1 := h.1
  have d1 := hd.1
  refine ⟨by omega, fun g hg hl => ?_, ?_⟩
  · by_cases e : g (k - 1) = q
    · have h2 := as_d hS hk hg (by omega)
      rw [e] at h2
      have h3 := hd.2.1 g h2
      have h4 := asC_s (g := g) hk
      rw [e] at h4
      omega
    · have := h.2.1 g hg (by omega)
      omega
  · rcases Int.lt_or_le (d + prI q (k - 1)) c with t | t
    · rw [show min c (d + prI q (k - 1)) = d + prI q (k - 1) by omega]
      rcases hd.2.2 with e | ⟨g, g1, g2⟩
      · omega
      · refine Or.inr ⟨_, as_u hS hk (by omega) hb hc g1, ?_⟩
        have h4 := asC_s (g := iup g (k - 1) q) hk
        rw [h4, show iup g (k - 1) q (k - 1) = q from if_pos rfl, asC_c (g := iup g (k - 1) q) (g2 := g) (k := k - 1) (fun o a b => if_neg (by omega)), g2]
    · rw [show min c (d + prI q (k - 1)) = c by omega]
      exact h.2.2
theorem cl_e {f : sF} {S k q c : Int} (hk : 1 ≤ k) (h : csL f S k q c) (hS : 0 ≤ S ∧ S < p2 q) : csP f S k c :=
  ⟨h.1, fun g hg => h.2.1 g hg (by
    have h1 := (hg.1 (k - 1) (by omega) (by omega)).2.1
    rcases Int.lt_or_le (g (k - 1)) q with t | t
    · exact t
    · exact absurd h1 (tb_lt hS t)), h.2.2⟩
theorem pc_1 {m : Int} (hm : 1 ≤ m ∧ m ≤ 2147483647) : 1 ≤ pcI m := by
  have key : ∀ k : Nat, ∀ m : Int, 1 ≤ m → m ≤ 2147483647 → m < (k : Int) → 1 ≤ pcI m := by
    intro k
    induction k with
    | zero => intro m a b c; omega
    | succ k ih =>
      intro m a b c
      have h1 := pc_half (m := m) (by omega)
      have h2 := pc_r (m / 2)
      by_cases e : m = 1
      · rw [e] at h1 h2 ⊢; omega
      · have h3 := ih (m / 2) (by omega) (by omega) (by omega)
        omega
  exact key (m + 1).toNat m hm.1 hm.2 (by omega)
theorem ixor_p2 {v s : Int} (hv : 0 ≤ v ∧ v ≤ 1073741823) (hs : 0 ≤ s ∧ s ≤ 29) (h : tb v s) : ixor v (ishl 1 s) = v - p2 s := by
  have h1 := tb_sub hv.1 h
  have h2 := tb_ge hv.1 h
  have h3 := two_pow_30 (k := s.toNat) (by omega)
  have h4 := tbN_or (x := (v - p2 s).toNat) (s := s.toNat) (by have := p2_p s; omega) (by omega) (tb_f h1.2)
  have h5 : (v - p2 s).toNat + 2 ^ s.toNat = v.toNat := by unfold p2 at h2 ⊢; omega
  rw [h5] at h4
  have h6 := tb_f h1.2
  rw [ixor_n (by omega) (ishl_r31 (by omega)), ishl_1 (by omega), Int.toNat_natCast, h4]
  have h7 : ((v - p2 s).toNat ||| 2 ^ s.toNat) ^^^ 2 ^ s.toNat = (v - p2 s).toNat := by
    apply Nat.eq_of_testBit_eq
    intro i
    rw [Nat.testBit_xor, Nat.testBit_or, Nat.testBit_two_pow]
    by_cases e : s.toNat = i
    · subst e; rw [h6]; simp
    · simp [e]
  rw [h7]
  omega
/-- who is out counts as 8 -/
def bsO (g : Int → Int) (o : Int) : Int := if g o = o then 8 else g o
def fxI (g : Int → Int) (o : Int) : Int := if g o = o then 1 else 0
theorem as_cost {g : Int → Int} {n : Int} : asC g n = isum n (fxI g) * 43046721 + isum n (d9 (bsO g)) := by
  unfold asC
  rw [isum_mulr, ← isum_add]
  exact isum_c fun o a b => by
    show prI (g o) o = fxI g o * 43046721 + w9 o * bsO g o
    unfold prI fxI bsO
    by_cases e : g o = o
    · rw [if_pos e, if_pos e, if_pos e, Int.mul_comm (w9 o)]; omega
    · rw [if_neg e, if_neg e, if_neg e, Int.mul_comm (w9 o)]; omega
theorem fx_r {g : Int → Int} {n : Int} (hn : 0 ≤ n) : 0 ≤ isum n (fxI g) ∧ isum n (fxI g) ≤ n := by
  have := isum_b (n := n) (g := fxI g) 0 1 hn (fun o _ _ => by unfold fxI; split <;> omega)
  omega
section FX
variable {f : sF} {g : Int → Int}
theorem as_n (hn : 0 ≤ f 573 ∧ f 573 ≤ 8) (h : asP f (p2 (f 573) - 1) (f 573) g) (o : Int) (a : 0 ≤ o) (b : o < f 573) : 0 ≤ g o ∧ g o < f 573 := by
  have h1 := h.1 o a b
  exact ⟨h1.1, (tb_full (by omega) h1.1).mp h1.2.1⟩
theorem as_okB (hn : 0 ≤ f 573 ∧ f 573 ≤ 8) (h : asP f (p2 (f 573) - 1) (f 573) g) : okB (bsO g) (f 573) := fun o a b => by
  have := as_n hn h o a b
  unfold bsO
  split <;> omega
theorem as_opt (hn : 0 ≤ f 573 ∧ f 573 ≤ 8) (h : asP f (p2 (f 573) - 1) (f 573) g) (hm : ∀ g2, asP f (p2 (f 573) - 1) (f 573) g2 → asC g (f 573) ≤ asC g2 (f 573)) : optP f (f 573 - isum (f 573) (fxI g)) (bsO g) := by
  have hr := as_n hn h
  have hB := as_okB hn h
  have hall : allG f (bsO g) := fun o a b => by
    refine ⟨hB o a b, ?_⟩
    have h1 := h.1 o a b
    by_cases e : g o = o
    · exact Or.inl (if_pos e)
    · have e1 : bsO g o = g o := if_neg e
      have h2 := h1.2.2.resolve_left e
      refine Or.inr ⟨by rw [e1]; exact (hr o a b).2, by rw [e1]; exact h2.2, by rw [e1]; exact h2.1, fun p u v => ?_⟩
      rw [e1]
      by_cases e2 : g p = p
      · rw [show bsO g p = 8 from if_pos e2]
        have := hr o a b
        omega
      · rw [show bsO g p = g p from if_neg e2]
        exact h.2 p o u v b
  have hprm : prmP f (bsO g) := fun x a b => by
    have hx : bsO g x ≠ 8 ↔ g x ≠ x := by
      have := hr x a b
      unfold bsO
      constructor
      · intro q e; rw [if_pos e] at q; exact q rfl
      · intro q; rw [if_neg q]; omega
    rw [hx]
    constructor
    · intro q
      obtain ⟨i, c, d, e⟩ := inj_sur hn.1 hr h.2 x ⟨a, b⟩
      have hi : g i ≠ i := fun r => q (by rw [show i = x by omega] at r; exact r)
      exact ⟨i, c, d, by rw [show bsO g i = g i from if_neg hi]; exact e⟩
    · rintro ⟨i, c, d, e⟩ q
      by_cases hi : g i = i
      · rw [show bsO g i = 8 from if_pos hi] at e
        omega
      · rw [show bsO g i = g i from if_neg hi] at e
        rcases Int.lt_trichotomy i x with t | t | t
        · exact h.2 i x c t b (by rw [e, q])
        · rw [t] at hi; exact hi q
        · exact h.2 x i a t d (by rw [e, q])
  have hpl : ∀ B : Int → Int, isum (f 573) (pgT B) = f 573 - isum (f 573) (fun o => if B o = 8 then 1 else 0) := fun B => by
    have e := isum_add (n := f 573) (pgT B) (fun o => if B o = 8 then 1 else 0)
    have e2 : isum (f 573) (fun o => pgT B o + if B o = 8 then 1 else 0) = isum (f 573) (fun _ => 1) := isum_c fun o _ _ => by
      show pgT B o + (if B o = 8 then 1 else 0) = 1
      unfold pgT
      by_cases q : B o = 8
      · rw [if_neg (fun r => r q), if_pos q]; rfl
      · rw [if_pos q, if_neg q]; rfl
    have e3 := isum_b (n := f 573) (g := fun _ => 1) 1 1 hn.1 (fun _ _ _ => ⟨Int.le_refl _, Int.le_refl _⟩)
    omega
  have hpv : plI f (bsO g) = f 573 - isum (f 573) (fxI g) := by
    unfold plI
    rw [pif_t hprm, hpl]
    have e : isum (f 573) (fun o => if bsO g o = 8 then 1 else 0) = isum (f 573) (fxI g) := isum_c fun o a b => by
      have := hr o a b
      show (if bsO g o = 8 then (1 : Int) else 0) = fxI g o
      unfold bsO fxI
      by_cases q : g o = o
      · rw [if_pos q, if_pos q, if_pos rfl]
      · rw [if_neg q, if_neg q, if_neg (by omega)]
    rw [e]
  have hfx := fx_r (g := g) hn.1
  refine ⟨hall, hpv, by omega, fun g2 hg2 => ?_⟩
  by_cases hp2 : prmP f g2
  · have ha : asP f (p2 (f 573) - 1) (f 573) (fun o => if g2 o = 8 then o else g2 o) := by
      have lt : ∀ o, 0 ≤ o → o < f 573 → g2 o ≠ 8 → g2 o < f 573 ∧ cgO f (g2 o) o ∧ ∀ p, 0 ≤ p → p < o → g2 p ≠ g2 o := fun o a b c => by
        have := (hg2 o a b).2.resolve_left c
        exact ⟨this.1, ⟨this.2.2.1, this.2.1⟩, this.2.2.2⟩
      refine ⟨fun o a b => ?_, fun o p a b c => ?_⟩
      · show 0 ≤ (if g2 o = 8 then o else g2 o) ∧ tb (p2 (f 573) - 1) (if g2 o = 8 then o else g2 o) ∧ ((if g2 o = 8 then o else g2 o) = o ∨ cgO f (if g2 o = 8 then o else g2 o) o)
        by_cases q : g2 o = 8
        · rw [if_pos q]
          exact ⟨a, (tb_full (by omega) a).mpr b, Or.inl rfl⟩
        · rw [if_neg q]
          have h1 := lt o a b q
          have h2 := (hg2 o a b).1.1
          exact ⟨h2, (tb_full (by omega) h2).mpr h1.1, Or.inr h1.2.1⟩
      · show (if g2 o = 8 then o else g2 o) ≠ (if g2 p = 8 then p else g2 p)
        by_cases q : g2 o = 8
        · rw [if_pos q]
          by_cases r : g2 p = 8
          · rw [if_pos r]; omega
          · rw [if_neg r]
            exact fun e => (hp2 o a (by omega)).mpr ⟨p, by omega, c, e.symm⟩ q
        · rw [if_neg q]
          by_cases r : g2 p = 8
          · rw [if_pos r]
            exact fun e => (hp2 p (by omega) c).mpr ⟨o, a, by omega, e⟩ r
          · rw [if_neg r]
            exact (lt p (by omega) c r).2.2 o a b
    have hcost := hm _ ha
    rw [as_cost, as_cost] at hcost
    have e1 : isum (f 573) (fxI (fun o => if g2 o = 8 then o else g2 o)) = isum (f 573) (fun o => if g2 o = 8 then 1 else 0) := isum_c fun o a b => by
      show (if (if g2 o = 8 then o else g2 o) = o then (1 : Int) else 0) = if g2 o = 8 then 1 else 0
      by_cases q : g2 o = 8
      · rw [if_pos q, if_pos q, if_pos rfl]
      · rw [if_neg q, if_neg q, if_neg (fun e => by
          have := ((hg2 o a b).2.resolve_left q).2.2.1
          rw [e] at this
          exact this rfl)]
    have e2 : isum (f 573) (d9 (bsO (fun o => if g2 o = 8 then o else g2 o))) = isum (f 573) (d9 g2) := isum_c fun o a b => by
      show w9 o * (if (if g2 o = 8 then o else g2 o) = o then 8 else (if g2 o = 8 then o else g2 o)) = w9 o * g2 o
      by_cases q : g2 o = 8
      · rw [if_pos q, if_pos rfl, q]
      · rw [if_neg q, if_neg (fun e => by
          have := ((hg2 o a b).2.resolve_left q).2.2.1
          rw [e] at this
          exact this rfl)]
    have e3 : plI f g2 = f 573 - isum (f 573) (fun o => if g2 o = 8 then 1 else 0) := by
      unfold plI
      rw [pif_t hp2, hpl]
    rw [e1, e2] at hcost
    have hB2 : okB g2 (f 573) := fun o a b => (hg2 o a b).1
    have b1 := d9_b hn hB
    have b2 := d9_b hn hB2
    refine ⟨by omega, fun e => d9_lex hn.2 hB hB2 (by omega)⟩
  · have e3 : plI f g2 = -1 := by
      unfold plI
      rw [pif_f hp2]
    exact ⟨by omega, fun e => by omega⟩
end FX
/-- what the full set's cost tells -/
theorem cs_f {f : sF} {c : Int} (hn : 0 ≤ f 573 ∧ f 573 ≤ 8) (h : csP f (p2 (f 573) - 1) (f 573) c) : f 573 - c / 43046721 = plnM f ∧ (∀ o, 0 ≤ o → o < f 573 → c % 43046721 / w9 o % 9 = plnB f o) ∧ (0 ≤ c ∧ c ≤ 1073741824) ∧ optP f (plnM f) (plnB f) := by
  have hid : asP f (p2 (f 573) - 1) (f 573) (fun o => o) := ⟨fun o a b => ⟨a, (tb_full (by omega) a).mpr b, Or.inl rfl⟩, fun o p a b c e => by have e2 : o = p := e; omega⟩
  have h1 := h.2.1 _ hid
  rw [as_cost] at h1
  have b1 := d9_b hn (as_okB hn hid)
  have b2 := fx_r (g := fun o => o) hn.1
  rcases h.2.2 with e | ⟨g, g1, g2⟩
  · omega
  · have ho := as_opt hn g1 (fun g3 h3 => by rw [g2]; exact h.2.1 g3 h3)
    have hp := pln_eq ho
    rw [as_cost] at g2
    have b3 := d9_b hn (as_okB hn g1)
    have e1 : c / 43046721 = isum (f 573) (fxI g) := by omega
    have e2 : c % 43046721 = isum (f 573) (d9 (bsO g)) := by omega
    refine ⟨by rw [e1]; exact hp.1.symm, fun o a b => ?_, h.1, by rw [hp.1]; exact hp.2.2⟩
    rw [e2, d9_v hn.2 (as_okB hn g1) ⟨a, b⟩]
    exact (hp.2.1 o a b).symm
