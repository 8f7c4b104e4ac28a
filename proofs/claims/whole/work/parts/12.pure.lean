/-! Sums, first places, choices, bits: whole numbers alone. -/
def isumN (g : Int → Int) : Nat → Int
  | 0 => 0
  | n + 1 => isumN g n + g (n : Int)
def isum (n : Int) (g : Int → Int) : Int := isumN g n.toNat
theorem isum_0 (g : Int → Int) : isum 0 g = 0 := rfl
theorem isum_neg {n : Int} (g : Int → Int) (h : n ≤ 0) : isum n g = 0 := by
  unfold isum
  rw [show n.toNat = 0 by omega]
  rfl
theorem isum_s {n : Int} (g : Int → Int) (h : 0 ≤ n) : isum (n + 1) g = isum n g + g n := by
  unfold isum
  rw [show (n + 1).toNat = n.toNat + 1 by omega]
  show isumN g n.toNat + g ((n.toNat : Nat) : Int) = _
  rw [show ((n.toNat : Nat) : Int) = n by omega]
theorem isum_ind {P : Int → Int → Prop} {g : Int → Int} (h0 : P 0 0) (hs : ∀ k s, 0 ≤ k → P k s → P (k + 1) (s + g k)) {n : Int} (h : 0 ≤ n) : P n (isum n g) := by
  have key : ∀ m : Nat, P (m : Int) (isum (m : Int) g) := by
    intro m
    induction m with
    | zero => exact h0
    | succ m ih =>
      rw [show ((m + 1 : Nat) : Int) = (m : Int) + 1 by omega, isum_s g (by omega)]
      exact hs _ _ (by omega) ih
  have := key n.toNat
  rw [show ((n.toNat : Nat) : Int) = n by omega] at this
  exact this
theorem isum_c {n : Int} {g g' : Int → Int} (h : ∀ k, 0 ≤ k → k < n → g k = g' k) : isum n g = isum n g' := by
  by_cases hn : 0 ≤ n
  · have key : ∀ m : Nat, (m : Int) ≤ n → isum (m : Int) g = isum (m : Int) g' := by
      intro m
      induction m with
      | zero => intro _; rfl
      | succ m ih =>
        intro hm
        rw [show ((m + 1 : Nat) : Int) = (m : Int) + 1 by omega, isum_s g (by omega), isum_s g' (by omega), ih (by omega), h _ (by omega) (by omega)]
    have := key n.toNat (by omega)
    rw [show ((n.toNat : Nat) : Int) = n by omega] at this
    exact this
  · rw [isum_neg g (by omega), isum_neg g' (by omega)]
theorem isum_b {n : Int} {g : Int → Int} (lo hi : Int) (h0 : 0 ≤ n) (h : ∀ k, 0 ≤ k → k < n → lo ≤ g k ∧ g k ≤ hi) : n * lo ≤ isum n g ∧ isum n g ≤ n * hi := by
  have key : ∀ m : Nat, (m : Int) ≤ n → (m : Int) * lo ≤ isum (m : Int) g ∧ isum (m : Int) g ≤ (m : Int) * hi := by
    intro m
    induction m with
    | zero => intro _; simp [isum, isumN]
    | succ m ih =>
      intro hm
      have h1 := ih (by omega)
      have h2 := h (m : Int) (by omega) (by omega)
      rw [show ((m + 1 : Nat) : Int) = (m : Int) + 1 by omega, isum_s g (by omega), Int.add_mul, Int.add_mul, Int.one_mul, Int.one_mul]
      omega
  have := key n.toNat (by omega)
  rw [show ((n.toNat : Nat) : Int) = n by omega] at this
  exact this
/-- bounds by a written number of places -/
theorem isum_bn {n : Int} {g : Int → Int} (hi N : Int) (h0 : 0 ≤ n ∧ n ≤ N) (hh : 0 ≤ hi) (h : ∀ k, 0 ≤ k → k < n → 0 ≤ g k ∧ g k ≤ hi) : 0 ≤ isum n g ∧ isum n g ≤ N * hi := by
  have h1 := isum_b 0 hi h0.1 h
  have h2 : n * hi ≤ N * hi := Int.mul_le_mul_of_nonneg_right h0.2 hh
  rw [Int.mul_zero] at h1
  omega
theorem isum_add {n : Int} (g g' : Int → Int) : isum n (fun k => g k + g' k) = isum n g + isum n g' := by
  by_cases hn : 0 ≤ n
  · have key : ∀ m : Nat, isum (m : Int) (fun k => g k + g' k) = isum (m : Int) g + isum (m : Int) g' := by
      intro m
      induction m with
      | zero => rfl
      | succ m ih =>
        rw [show ((m + 1 : Nat) : Int) = (m : Int) + 1 by omega, isum_s _ (by omega), isum_s _ (by omega), isum_s _ (by omega), ih]
        omega
    have := key n.toNat
    rw [show ((n.toNat : Nat) : Int) = n by omega] at this
    exact this
  · rw [isum_neg _ (by omega), isum_neg _ (by omega), isum_neg _ (by omega)]; rfl
/-- one place of a sum changed -/
theorem isum_one {n : Int} {g g' : Int → Int} (i : Int) (hi : 0 ≤ i ∧ i < n) (h : ∀ k, 0 ≤ k → k < n → k ≠ i → g' k = g k) : isum n g' = isum n g + (g' i - g i) := by
  have key : ∀ m : Nat, (m : Int) ≤ n → isum (m : Int) g' = isum (m : Int) g + (if i < (m : Int) then g' i - g i else 0) := by
    intro m
    induction m with
    | zero => intro _; rw [if_neg (by omega)]; rfl
    | succ m ih =>
      intro hm
      have h1 := ih (by omega)
      rw [show ((m + 1 : Nat) : Int) = (m : Int) + 1 by omega, isum_s _ (by omega), isum_s _ (by omega), h1]
      by_cases h2 : (m : Int) = i
      · rw [if_neg (by omega), if_pos (by omega), h2]; omega
      · rw [h _ (by omega) (by omega) h2]
        by_cases h3 : i < (m : Int)
        · rw [if_pos h3, if_pos (by omega)]; omega
        · rw [if_neg h3, if_neg (by omega)]; omega
  have := key n.toNat (by omega)
  rw [show ((n.toNat : Nat) : Int) = n by omega, if_pos hi.2] at this
  exact this
/-- a choice by any proposition -/
noncomputable def pif (P : Prop) (a b : Int) : Int := @ite Int P (Classical.propDecidable P) a b
theorem pif_t {P : Prop} {a b : Int} (h : P) : pif P a b = a := if_pos h
theorem pif_f {P : Prop} {a b : Int} (h : ¬ P) : pif P a b = b := if_neg h
theorem pif_c {P P' : Prop} {a b : Int} (h : P ↔ P') : pif P a b = pif P' a b := by rw [show P = P' from propext h]
theorem pif_cases (P : Prop) (a b : Int) : (P ∧ pif P a b = a) ∨ (¬ P ∧ pif P a b = b) := by
  by_cases h : P
  · exact Or.inl ⟨h, pif_t h⟩
  · exact Or.inr ⟨h, pif_f h⟩
/-- the first place below n with P; -1 without one -/
noncomputable def idxN (P : Int → Prop) : Nat → Int
  | 0 => -1
  | n + 1 => if idxN P n ≠ -1 then idxN P n else pif (P (n : Int)) (n : Int) (-1)
noncomputable def idx (P : Int → Prop) (n : Int) : Int := idxN P n.toNat
theorem idx_cases (P : Int → Prop) (n : Int) : (idx P n = -1 ∧ ∀ k, 0 ≤ k → k < n → ¬ P k) ∨ (0 ≤ idx P n ∧ idx P n < n ∧ P (idx P n) ∧ ∀ k, 0 ≤ k → k < idx P n → ¬ P k) := by
  by_cases hn : 0 ≤ n
  · have key : ∀ m : Nat, (idxN P m = -1 ∧ ∀ k, 0 ≤ k → k < (m : Int) → ¬ P k) ∨ (0 ≤ idxN P m ∧ idxN P m < (m : Int) ∧ P (idxN P m) ∧ ∀ k, 0 ≤ k → k < idxN P m → ¬ P k) := by
      intro m
      induction m with
      | zero => exact Or.inl ⟨rfl, fun k h1 h2 => by omega⟩
      | succ m ih =>
        rcases ih with ⟨h1, h2⟩ | ⟨h1, h2, h3, h4⟩
        · have e : idxN P (m + 1) = pif (P (m : Int)) (m : Int) (-1) := by
            show (if idxN P m ≠ -1 then idxN P m else _) = _
            rw [if_neg (by omega)]
          rw [e]
          rcases pif_cases (P (m : Int)) (m : Int) (-1) with ⟨q, r⟩ | ⟨q, r⟩
          · rw [r]
            exact Or.inr ⟨by omega, by omega, q, h2⟩
          · rw [r]
            refine Or.inl ⟨rfl, fun k a b => ?_⟩
            by_cases hk : k = (m : Int)
            · rw [hk]; exact q
            · exact h2 k a (by omega)
        · have e : idxN P (m + 1) = idxN P m := by
            show (if idxN P m ≠ -1 then idxN P m else _) = _
            rw [if_pos (by omega)]
          rw [e]
          exact Or.inr ⟨h1, by omega, h3, h4⟩
    have := key n.toNat
    rw [show ((n.toNat : Nat) : Int) = n by omega] at this
    exact this
  · refine Or.inl ⟨?_, fun k a b => by omega⟩
    unfold idx
    rw [show n.toNat = 0 by omega]
    rfl
theorem idx_none {P : Int → Prop} {n : Int} (h : ∀ k, 0 ≤ k → k < n → ¬ P k) : idx P n = -1 := by
  rcases idx_cases P n with ⟨h1, -⟩ | ⟨h1, h2, h3, -⟩
  · exact h1
  · exact absurd h3 (h _ h1 h2)
theorem idx_some {P : Int → Prop} {n z : Int} (h0 : 0 ≤ z ∧ z < n) (h1 : P z) (h : ∀ k, 0 ≤ k → k < z → ¬ P k) : idx P n = z := by
  rcases idx_cases P n with ⟨-, h2⟩ | ⟨h2, h3, h4, h5⟩
  · exact absurd h1 (h2 z h0.1 h0.2)
  · rcases Int.lt_trichotomy (idx P n) z with q | q | q
    · exact absurd h4 (h _ h2 q)
    · exact q
    · exact absurd h1 (h5 z h0.1 q)
theorem idx_r (P : Int → Prop) {n : Int} (h : 0 ≤ n) : -1 ≤ idx P n ∧ idx P n < n := by
  rcases idx_cases P n with ⟨h1, -⟩ | ⟨h1, h2, -, -⟩ <;> omega
theorem idx_c {P P' : Int → Prop} {n : Int} (h : ∀ k, 0 ≤ k → k < n → (P k ↔ P' k)) : idx P n = idx P' n := by
  rcases idx_cases P' n with ⟨h1, h2⟩ | ⟨h1, h2, h3, h4⟩
  · rw [h1]; exact idx_none fun k a b q => h2 k a b ((h k a b).mp q)
  · exact idx_some ⟨h1, h2⟩ ((h _ h1 h2).mpr h3) fun k a b q => h4 k a b ((h k a (by omega)).mp q)
/-! bits of numbers that aren't below 0 -/
def tb (m k : Int) : Prop := m.toNat.testBit k.toNat = true
theorem sI_nI {z : Int} (h : 0 ≤ z) : sI z = nI z.toNat := by
  show Int32.ofInt z = Int32.ofNat z.toNat
  rw [← Int32.ofInt_eq_ofNat]
  congr 1
  omega
theorem nI_bit {x y : Nat} (hx : x < 2 ^ 31) (hy : y < 2 ^ 31) : nI x &&& nI y = nI (x &&& y) ∧ nI x ||| nI y = nI (x ||| y) ∧ nI x ^^^ nI y = nI (x ^^^ y) := by
  have e1 : (nI x).toBitVec.toNat = x := pk_tn (by omega)
  have e2 : (nI y).toBitVec.toNat = y := pk_tn (by omega)
  have h1 : x &&& y < 2 ^ 31 := Nat.and_lt_two_pow _ hy
  have h2 : x ||| y < 2 ^ 31 := Nat.or_lt_two_pow hx hy
  have h3 : x ^^^ y < 2 ^ 31 := Nat.xor_lt_two_pow hx hy
  refine ⟨?_, ?_, ?_⟩
  · apply Int32.toBitVec_inj.mp
    apply BitVec.eq_of_toNat_eq
    rw [pk_tn (by omega), Int32.toBitVec_and, BitVec.toNat_and, e1, e2]
  · apply Int32.toBitVec_inj.mp
    apply BitVec.eq_of_toNat_eq
    rw [pk_tn (by omega), Int32.toBitVec_or, BitVec.toNat_or, e1, e2]
  · apply Int32.toBitVec_inj.mp
    apply BitVec.eq_of_toNat_eq
    rw [pk_tn (by omega), Int32.toBitVec_xor, BitVec.toNat_xor, e1, e2]
theorem iand_n {a b : Int} (ha : 0 ≤ a ∧ a ≤ 2147483647) (hb : 0 ≤ b ∧ b ≤ 2147483647) : iand a b = ((a.toNat &&& b.toNat : Nat) : Int) := by
  unfold iand
  rw [sI_nI ha.1, sI_nI hb.1, (nI_bit (by omega) (by omega)).1]
  exact nI_toInt (Nat.and_lt_two_pow _ (by omega))
theorem ior_n {a b : Int} (ha : 0 ≤ a ∧ a ≤ 2147483647) (hb : 0 ≤ b ∧ b ≤ 2147483647) : ior a b = ((a.toNat ||| b.toNat : Nat) : Int) := by
  unfold ior
  rw [sI_nI ha.1, sI_nI hb.1, (nI_bit (by omega) (by omega)).2.1]
  exact nI_toInt (Nat.or_lt_two_pow (by omega) (by omega))
theorem ixor_n {a b : Int} (ha : 0 ≤ a ∧ a ≤ 2147483647) (hb : 0 ≤ b ∧ b ≤ 2147483647) : ixor a b = ((a.toNat ^^^ b.toNat : Nat) : Int) := by
  unfold ixor
  rw [sI_nI ha.1, sI_nI hb.1, (nI_bit (by omega) (by omega)).2.2]
  exact nI_toInt (Nat.xor_lt_two_pow (by omega) (by omega))
theorem sI_31 {k : Int} (hk : 0 ≤ k ∧ k ≤ 31) : sI k &&& 31 = sI k := by
  rw [sI_nI hk.1, show (31 : Int32) = nI 31 from rfl, (nI_bit (by omega) (by omega)).1]
  congr 1
  have : k.toNat &&& (2 ^ 5 - 1) = k.toNat % 2 ^ 5 := Nat.and_two_pow_sub_one_eq_mod _ _
  rw [show (31 : Nat) = 2 ^ 5 - 1 from rfl, this]
  omega
theorem smod_k {k : Int} (hk : 0 ≤ k ∧ k ≤ 31) : ((sI k).toBitVec.smod 32).toNat = k.toNat := by
  have h : ∀ j : Nat, j ≤ 31 → ((nI j).toBitVec.smod 32).toNat = j := by decide
  rw [sI_nI hk.1]
  exact h _ (by omega)
theorem ishr_n {a k : Int} (ha : 0 ≤ a ∧ a ≤ 2147483647) (hk : 0 ≤ k ∧ k ≤ 31) : ishr a k = ((a.toNat >>> k.toNat : Nat) : Int) := by
  unfold ishr
  rw [sI_31 hk, pk_shr _ _ k.toNat (smod_k hk), sI_toInt (by omega)]
  have : a = ((a.toNat : Nat) : Int) := by omega
  rw [this]
  exact (Int.natCast_shiftRight _ _).symm
theorem ishl_n {a k : Int} (ha : 0 ≤ a ∧ a ≤ 2147483647) (hk : 0 ≤ k ∧ k ≤ 31) (h : a.toNat * 2 ^ k.toNat < 2 ^ 31) : ishl a k = ((a.toNat * 2 ^ k.toNat : Nat) : Int) := by
  unfold ishl
  rw [sI_31 hk, sI_nI ha.1, pk_shlN _ k.toNat (smod_k hk) (by omega)]
  exact nI_toInt h
theorem two_pow_30 {k : Nat} (h : k ≤ 30) : 2 ^ k < 2 ^ 31 := Nat.pow_lt_pow_right (by omega) (by omega)
/-- a set with one thing in it -/
theorem ishl_1 {k : Int} (hk : 0 ≤ k ∧ k ≤ 30) : ishl 1 k = ((2 ^ k.toNat : Nat) : Int) := by
  have h := two_pow_30 (k := k.toNat) (by omega)
  rw [ishl_n (by omega) (by omega) (by rw [show (1 : Int).toNat = 1 from rfl, Nat.one_mul]; exact h)]
  rw [show (1 : Int).toNat = 1 from rfl, Nat.one_mul]
/-- whether a bit is set, as it is asked -/
theorem ibit {m k : Int} (hm : 0 ≤ m ∧ m ≤ 2147483647) (hk : 0 ≤ k ∧ k ≤ 31) : iand (ishr m k) 1 = bI (tb m k) := by
  have h9 : m.toNat >>> k.toNat ≤ m.toNat := by rw [Nat.shiftRight_eq_div_pow]; exact Nat.div_le_self _ _
  rw [ishr_n hm hk]
  obtain ⟨q, hq⟩ : ∃ q, q = m.toNat >>> k.toNat := ⟨_, rfl⟩
  rw [← hq] at h9 ⊢
  rw [iand_n (by omega) (by omega), Int.toNat_natCast, show (1 : Int).toNat = 1 from rfl, Nat.and_one_is_mod, hq, Nat.shiftRight_eq_div_pow]
  have : m.toNat / 2 ^ k.toNat % 2 < 2 := Nat.mod_lt _ (by omega)
  by_cases h : tb m k
  · rw [bI_t h]
    unfold tb at h
    rw [Nat.testBit_eq_decide_div_mod_eq, decide_eq_true_eq] at h
    omega
  · rw [bI_f h]
    unfold tb at h
    rw [Nat.testBit_eq_decide_div_mod_eq, decide_eq_true_eq] at h
    omega
theorem tb_eq {m k : Int} : tb m k ↔ m.toNat / 2 ^ k.toNat % 2 = 1 := by unfold tb; rw [Nat.testBit_eq_decide_div_mod_eq, decide_eq_true_eq]
theorem tb_0 (k : Int) : ¬ tb 0 k := by unfold tb; rw [show (0 : Int).toNat = 0 from rfl, Nat.zero_testBit]; decide
/-- one more in a set -/
theorem tb_or {a b k : Int} (ha : 0 ≤ a ∧ a ≤ 2147483647) (hb : 0 ≤ b ∧ b ≤ 2147483647) : tb (ior a b) k ↔ tb a k ∨ tb b k := by
  unfold tb
  rw [ior_n ha hb, Int.toNat_natCast, Nat.testBit_or, Bool.or_eq_true]
theorem tb_and {a b k : Int} (ha : 0 ≤ a ∧ a ≤ 2147483647) (hb : 0 ≤ b ∧ b ≤ 2147483647) : tb (iand a b) k ↔ tb a k ∧ tb b k := by
  unfold tb
  rw [iand_n ha hb, Int.toNat_natCast, Nat.testBit_and, Bool.and_eq_true]
theorem tb_one {j k : Int} (hj : 0 ≤ j ∧ j ≤ 30) (hk : 0 ≤ k) : tb (ishl 1 j) k ↔ k = j := by
  unfold tb
  rw [ishl_1 hj, Int.toNat_natCast, Nat.testBit_two_pow, decide_eq_true_eq]
  omega
theorem set_eq {a b : Int} (ha : 0 ≤ a) (hb : 0 ≤ b) (h : ∀ k : Int, 0 ≤ k → (tb a k ↔ tb b k)) : a = b := by
  have : a.toNat = b.toNat := by
    apply Nat.eq_of_testBit_eq
    intro i
    have := h (i : Int) (by omega)
    unfold tb at this
    rw [Int.toNat_natCast] at this
    exact Bool.eq_iff_iff.mpr this
  omega
