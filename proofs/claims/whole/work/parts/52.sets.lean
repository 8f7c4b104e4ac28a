/-! Sets of stones as numbers, sums over them, and what flows from the empty set to the full one. -/
def p2 (s : Int) : Int := ((2 ^ s.toNat : Nat) : Int)
theorem p2_s {n : Int} (h : 0 ≤ n) : p2 (n + 1) = p2 n + p2 n := by
  unfold p2
  rw [show (n + 1).toNat = n.toNat + 1 by omega, Nat.pow_succ]
  omega
theorem p2_0 : p2 0 = 1 := rfl
theorem p2_p (n : Int) : 1 ≤ p2 n := by
  unfold p2
  have : 0 < 2 ^ n.toNat := Nat.pow_pos (by omega)
  omega
theorem p2_m {a b : Int} (h : a ≤ b) : p2 a ≤ p2 b := by
  unfold p2
  have : 2 ^ a.toNat ≤ 2 ^ b.toNat := Nat.pow_le_pow_right (by omega) (by omega)
  omega
theorem p2_10 {n : Int} (h : n ≤ 10) : p2 n ≤ 1024 := p2_m h
theorem ishl_p2 {k : Int} (hk : 0 ≤ k ∧ k ≤ 30) : ishl 1 k = p2 k := ishl_1 hk
theorem tb_lt {v s n : Int} (hv : 0 ≤ v ∧ v < p2 n) (hs : n ≤ s) : ¬ tb v s := by
  rw [tb_eq]
  have h1 : p2 n ≤ p2 s := p2_m hs
  unfold p2 at h1 hv
  rw [Nat.div_eq_of_lt (by omega)]
  omega
theorem tb_ge {v s : Int} (hv : 0 ≤ v) (h : tb v s) : p2 s ≤ v := by
  rw [tb_eq] at h
  unfold p2
  rcases Nat.lt_or_ge v.toNat (2 ^ s.toNat) with q | q
  · rw [Nat.div_eq_of_lt q] at h; omega
  · omega
theorem tbN_add (x s : Nat) : (2 ^ s + x).testBit s = !x.testBit s := Nat.testBit_two_pow_add_eq x s
/-- a stone taken out of a set, and put in -/
theorem tb_sub {v s : Int} (hv : 0 ≤ v) (h : tb v s) : 0 ≤ v - p2 s ∧ ¬ tb (v - p2 s) s := by
  have h1 := tb_ge hv h
  refine ⟨by omega, fun q => ?_⟩
  have h2 := tbN_add (v - p2 s).toNat s.toNat
  have h3 : 2 ^ s.toNat + (v - p2 s).toNat = v.toNat := by unfold p2 at h1 ⊢; omega
  rw [h3] at h2
  unfold tb at h q
  rw [h, q] at h2
  exact absurd h2 (by decide)
theorem tbN_or {x s : Nat} (hx : x < 2 ^ 31) (hs : s ≤ 30) (h : x.testBit s = false) : x + 2 ^ s = x ||| 2 ^ s := by
  have h2 : 2 ^ s < 2 ^ 31 := Nat.pow_lt_pow_right (by omega) (by omega)
  have ha : BitVec.ofNat 32 x &&& BitVec.ofNat 32 (2 ^ s) = 0#32 := by
    apply BitVec.eq_of_toNat_eq
    rw [BitVec.toNat_and, BitVec.toNat_ofNat, BitVec.toNat_ofNat, Nat.mod_eq_of_lt (by omega), Nat.mod_eq_of_lt (by omega)]
    apply Nat.eq_of_testBit_eq
    intro i
    rw [Nat.testBit_and, Nat.testBit_two_pow]
    by_cases e : s = i
    · subst e; rw [h]; simp
    · simp [e]
  have e := BitVec.add_eq_or_of_and_eq_zero _ _ ha
  have e2 := congrArg BitVec.toNat e
  rw [BitVec.toNat_add, BitVec.toNat_or, BitVec.toNat_ofNat, BitVec.toNat_ofNat, Nat.mod_eq_of_lt (show x < 2 ^ 32 by omega), Nat.mod_eq_of_lt (show 2 ^ s < 2 ^ 32 by omega), Nat.mod_eq_of_lt (by omega)] at e2
  exact e2
theorem tb_f {v s : Int} (h : ¬ tb v s) : v.toNat.testBit s.toNat = false := by
  unfold tb at h
  exact Bool.eq_false_iff.mpr h
theorem ior_p2 {v s : Int} (hv : 0 ≤ v ∧ v ≤ 1073741823) (hs : 0 ≤ s ∧ s ≤ 29) (h : ¬ tb v s) : ior v (ishl 1 s) = v + p2 s := by
  have h1 := tbN_or (x := v.toNat) (s := s.toNat) (by omega) (by omega) (tb_f h)
  have h3 := two_pow_30 (k := s.toNat) (by omega)
  rw [ishl_1 (by omega)]
  unfold p2
  generalize 2 ^ s.toNat = P at h1 h3 ⊢
  rw [ior_n (by omega) (by omega), Int.toNat_natCast, ← h1]
  omega
theorem tb_add {v s k : Int} (hv : 0 ≤ v ∧ v ≤ 1073741823) (hs : 0 ≤ s ∧ s ≤ 29) (hk : 0 ≤ k) (h : ¬ tb v s) : tb (v + p2 s) k ↔ tb v k ∨ k = s := by
  rw [← ior_p2 hv hs h, tb_or (by omega) (ishl_r31 (by omega)), tb_one (by omega) hk]
theorem tb_subk {v s k : Int} (hv : 0 ≤ v ∧ v ≤ 1073741823) (hs : 0 ≤ s ∧ s ≤ 29) (hk : 0 ≤ k) (h : tb v s) : tb (v - p2 s) k ↔ tb v k ∧ k ≠ s := by
  have h1 := tb_sub hv.1 h
  have h2 := tb_ge hv.1 h
  have h3 := p2_p s
  have h4 := tb_add (v := v - p2 s) (s := s) (k := k) (by omega) hs hk h1.2
  rw [show v - p2 s + p2 s = v by omega] at h4
  rw [h4]
  constructor
  · intro q
    exact ⟨Or.inl q, fun e => h1.2 (by have q2 := q; rw [e] at q2; exact q2)⟩
  · rintro ⟨q | q, r⟩
    · exact q
    · exact absurd q r
theorem tb_full {n s : Int} (hn : 0 ≤ n ∧ n ≤ 29) (hs : 0 ≤ s) : tb (p2 n - 1) s ↔ s < n := by
  unfold tb p2
  rw [show (((2 ^ n.toNat : Nat) : Int) - 1).toNat = 2 ^ n.toNat - 1 by omega, Nat.testBit_two_pow_sub_one, decide_eq_true_eq]
  omega
theorem isum_ap {a b : Int} (g : Int → Int) (ha : 0 ≤ a) (hb : 0 ≤ b) : isum (a + b) g = isum a g + isum b (fun k => g (a + k)) := by
  have key : ∀ m : Nat, isum (a + (m : Int)) g = isum a g + isum (m : Int) (fun k => g (a + k)) := by
    intro m
    induction m with
    | zero => rw [show a + ((0 : Nat) : Int) = a by omega, show ((0 : Nat) : Int) = 0 from rfl, isum_0]; omega
    | succ m ih =>
      rw [show a + ((m + 1 : Nat) : Int) = a + (m : Int) + 1 by omega, show ((m + 1 : Nat) : Int) = (m : Int) + 1 by omega, isum_s g (by omega), isum_s (n := (m : Int)) (fun k => g (a + k)) (by omega), ih]
      omega
  have := key b.toNat
  rw [show ((b.toNat : Nat) : Int) = b by omega] at this
  exact this
theorem isum_z {n : Int} {g : Int → Int} (h : ∀ k, 0 ≤ k → k < n → g k = 0) : isum n g = 0 := by
  rw [isum_c (g' := fun _ => 0) h]
  by_cases hn : 0 ≤ n
  · have := isum_b (n := n) (g := fun _ => 0) 0 0 hn (fun _ _ _ => ⟨Int.le_refl _, Int.le_refl _⟩)
    omega
  · exact isum_neg _ (by omega)
theorem isum_swap {n m : Int} (g : Int → Int → Int) : isum n (fun i => isum m (fun j => g i j)) = isum m (fun j => isum n (fun i => g i j)) := by
  by_cases hn : 0 ≤ n
  · have key : ∀ k : Nat, isum (k : Int) (fun i => isum m (fun j => g i j)) = isum m (fun j => isum (k : Int) (fun i => g i j)) := by
      intro k
      induction k with
      | zero => exact (isum_z (fun _ _ _ => rfl)).symm
      | succ k ih =>
        rw [show ((k + 1 : Nat) : Int) = (k : Int) + 1 by omega, isum_s _ (by omega), ih, ← isum_add]
        exact isum_c fun j _ _ => (isum_s (fun i => g i j) (by omega)).symm
    have := key n.toNat
    rw [show ((n.toNat : Nat) : Int) = n by omega] at this
    exact this
  · rw [isum_neg _ (by omega)]
    exact (isum_z (fun _ _ _ => isum_neg _ (by omega))).symm
theorem isum_pick {n a : Int} (g : Int → Int) (ha : 0 ≤ a ∧ a < n) (h : ∀ k, 0 ≤ k → k < n → k ≠ a → g k = 0) : isum n g = g a := by
  have h1 := isum_one (n := n) (g := fun _ => 0) (g' := g) a ha (fun k b c d => h k b c d)
  have h2 : isum n (fun _ => 0) = 0 := isum_z (fun _ _ _ => rfl)
  omega
theorem isum_sub {n : Int} (g g' : Int → Int) : isum n (fun k => g k - g' k) = isum n g - isum n g' := by
  have h := isum_add (n := n) (fun k => g k - g' k) g'
  have h2 : isum n (fun k => g k - g' k + g' k) = isum n g := isum_c fun k _ _ => by omega
  omega
theorem isum_mulr {n c : Int} (g : Int → Int) : isum n g * c = isum n (fun k => g k * c) := by
  by_cases hn : 0 ≤ n
  · have key : ∀ m : Nat, isum (m : Int) g * c = isum (m : Int) (fun k => g k * c) := by
      intro m
      induction m with
      | zero => show 0 * c = 0; exact Int.zero_mul c
      | succ m ih => rw [show ((m + 1 : Nat) : Int) = (m : Int) + 1 by omega, isum_s _ (by omega), isum_s _ (by omega), Int.add_mul, ih]
    have := key n.toNat
    rw [show ((n.toNat : Nat) : Int) = n by omega] at this
    exact this
  · rw [isum_neg _ (by omega), isum_neg _ (by omega), Int.zero_mul]
theorem isum_mull {n c : Int} (g : Int → Int) : c * isum n g = isum n (fun k => c * g k) := by
  rw [Int.mul_comm, isum_mulr]
  exact isum_c fun k _ _ => Int.mul_comm _ _
/-- the sets with a stone, by those without -/
theorem sw_s {n s : Int} (hn : n ≤ 29) (hs : 0 ≤ s ∧ s < n) (g : Int → Int) : isum (p2 n) (fun v => pif (tb v s) (g (v - p2 s)) 0) = isum (p2 n) (fun v => pif (tb v s) 0 (g v)) := by
  have key : ∀ m : Nat, (m : Int) ≤ 29 → ∀ g : Int → Int, s < (m : Int) → isum (p2 (m : Int)) (fun v => pif (tb v s) (g (v - p2 s)) 0) = isum (p2 (m : Int)) (fun v => pif (tb v s) 0 (g v)) := by
    intro m
    induction m with
    | zero => intro _ g h; omega
    | succ m ih =>
      intro hm g h
      have hp := p2_p (m : Int)
      have hb := p2_m (a := (m : Int)) (b := 29) (by omega)
      have hb2 : p2 29 = 536870912 := rfl
      rw [show ((m + 1 : Nat) : Int) = (m : Int) + 1 by omega, p2_s (by omega), isum_ap _ (by omega) (by omega), isum_ap _ (by omega) (by omega)]
      by_cases e : s = (m : Int)
      · have h1 : isum (p2 (m : Int)) (fun v => pif (tb v s) (g (v - p2 s)) 0) = 0 := isum_z fun v a b => pif_f (tb_lt (n := (m : Int)) ⟨a, b⟩ (by omega))
        have h2 : isum (p2 (m : Int)) (fun v => pif (tb (p2 (m : Int) + v) s) 0 (g (p2 (m : Int) + v))) = 0 := isum_z fun v a b => by
          have h4 := (tb_add (v := v) (s := s) (k := s) ⟨a, by omega⟩ (by omega) hs.1 (tb_lt (n := (m : Int)) ⟨a, b⟩ (by omega))).mpr (Or.inr rfl)
          exact pif_t (by rw [← e, Int.add_comm]; exact h4)
        have h3 : isum (p2 (m : Int)) (fun v => pif (tb (p2 (m : Int) + v) s) (g (p2 (m : Int) + v - p2 s)) 0) = isum (p2 (m : Int)) (fun v => pif (tb v s) 0 (g v)) := isum_c fun v a b => by
          have h4 := (tb_add (v := v) (s := s) (k := s) ⟨a, by omega⟩ (by omega) hs.1 (tb_lt (n := (m : Int)) ⟨a, b⟩ (by omega))).mpr (Or.inr rfl)
          rw [pif_t (by rw [← e, Int.add_comm]; exact h4), pif_f (tb_lt (n := (m : Int)) ⟨a, b⟩ (by omega)), ← e]
          congr 1
          omega
        rw [h1, h2, h3]
        omega
      · have hms : s < (m : Int) := by omega
        have h1 := ih (by omega) g hms
        have h2 := ih (by omega) (fun v => g (p2 (m : Int) + v)) hms
        have ht : ∀ v, 0 ≤ v → v < p2 (m : Int) → (tb (p2 (m : Int) + v) s ↔ tb v s) := fun v a b => by
          rw [Int.add_comm, tb_add (v := v) (s := (m : Int)) (k := s) ⟨a, by omega⟩ (by omega) hs.1 (tb_lt (n := (m : Int)) ⟨a, b⟩ (Int.le_refl _))]
          exact ⟨fun q => q.elim id (fun r => absurd r e), Or.inl⟩
        have h3 : isum (p2 (m : Int)) (fun v => pif (tb (p2 (m : Int) + v) s) (g (p2 (m : Int) + v - p2 s)) 0) = isum (p2 (m : Int)) (fun v => pif (tb v s) (g (p2 (m : Int) + (v - p2 s))) 0) := isum_c fun v a b => by
          rw [pif_c (ht v a b), show p2 (m : Int) + v - p2 s = p2 (m : Int) + (v - p2 s) by omega]
        have h4 : isum (p2 (m : Int)) (fun v => pif (tb (p2 (m : Int) + v) s) 0 (g (p2 (m : Int) + v))) = isum (p2 (m : Int)) (fun v => pif (tb v s) 0 (g (p2 (m : Int) + v))) := isum_c fun v a b => pif_c (ht v a b)
        rw [h1, h3, h4, h2]
  have := key n.toNat (by omega) g (by omega)
  rw [show ((n.toNat : Nat) : Int) = n by omega] at this
  exact this
/-! Ways through the sets: N v s says that s can come next behind v. -/
def wyR (n : Int) (N : Int → Int → Prop) (Wf : Int → Int) : Prop := Wf 0 = 1 ∧ ∀ v, 0 < v → v < p2 n → Wf v = isum n (fun s => pif (tb v s ∧ N (v - p2 s) s) (Wf (v - p2 s)) 0)
def rsR (n : Int) (N : Int → Int → Prop) (Rf : Int → Int) : Prop := Rf (p2 n - 1) = 1 ∧ ∀ v, 0 ≤ v → v < p2 n - 1 → Rf v = isum n (fun s => pif (N v s) (Rf (v + p2 s)) 0)
noncomputable def edg (N : Int → Int → Prop) (Wf Rf : Int → Int) (u s : Int) : Int := pif (N u s) (Wf u * Rf (u + p2 s)) 0
theorem pif_mulr_isum {n : Int} (P : Prop) (g : Int → Int) : isum n (fun s => pif P (g s) 0) = pif P (isum n g) 0 := by
  by_cases p : P
  · rw [pif_t p]
    exact isum_c fun s _ _ => pif_t p
  · rw [pif_f p]
    exact isum_z fun s _ _ => pif_f p
section FL
variable {n : Int} {N : Int → Int → Prop} {Wf Rf : Int → Int}
theorem pif_mul (P : Prop) (a c : Int) : pif P a 0 * c = pif P (a * c) 0 := by
  rcases pif_cases P a 0 with ⟨p, e⟩ | ⟨p, e⟩
  · rw [e, pif_t p]
  · rw [e, pif_f p, Int.zero_mul]
theorem pif_mulr (P : Prop) (a c : Int) : c * pif P a 0 = pif P (c * a) 0 := by rw [Int.mul_comm, pif_mul, Int.mul_comm]
theorem flow (hn : 0 ≤ n ∧ n ≤ 29) (hN : ∀ v s, N v s → ¬ tb v s) (hW : wyR n N Wf) (hR : rsR n N Rf) (C : Int → Prop) (h0 : ¬ C 0) :
    isum n (fun s => isum (p2 n) (fun u => pif (C (u + p2 s)) (edg N Wf Rf u s) 0)) = isum n (fun s => isum (p2 n) (fun u => pif (C u) (edg N Wf Rf u s) 0)) + pif (C (p2 n - 1)) (Wf (p2 n - 1)) 0 := by
  have hp := p2_p n
  have hb := p2_m (a := n) (b := 29) (by omega)
  have hb2 : p2 29 = 536870912 := rfl
  have hin : isum (p2 n) (fun v => pif (C v) (Wf v * Rf v) 0) = isum n (fun s => isum (p2 n) (fun u => pif (C (u + p2 s)) (edg N Wf Rf u s) 0)) := by
    have h1 : isum (p2 n) (fun v => pif (C v) (Wf v * Rf v) 0) = isum (p2 n) (fun v => isum n (fun s => pif (tb v s) (pif (C (v - p2 s + p2 s)) (edg N Wf Rf (v - p2 s) s) 0) 0)) := isum_c fun v a b => by
      by_cases e : v = 0
      · subst e
        rw [pif_f h0]
        exact (isum_z fun s _ _ => pif_f (tb_0 s)).symm
      · rw [hW.2 v (by omega) b, isum_mulr, ← pif_mulr_isum]
        exact isum_c fun s c d => by
          rw [show v - p2 s + p2 s = v by omega, pif_mul]
          unfold edg
          rw [show v - p2 s + p2 s = v by omega]
          by_cases q1 : tb v s
          · rw [pif_t q1, pif_c (show (tb v s ∧ N (v - p2 s) s) ↔ N (v - p2 s) s from ⟨fun q => q.2, fun q => ⟨q1, q⟩⟩)]
          · rw [pif_f q1, pif_f (P := tb v s ∧ N (v - p2 s) s) (fun q => q1 q.1)]
            rcases pif_cases (C v) 0 0 with ⟨-, e2⟩ | ⟨-, e2⟩ <;> exact e2
    rw [h1, isum_swap]
    exact isum_c fun s c d => by
      rw [sw_s (n := n) (s := s) (by omega) ⟨c, d⟩ (fun u => pif (C (u + p2 s)) (edg N Wf Rf u s) 0)]
      exact isum_c fun u a b => by
        by_cases q : tb u s
        · rw [pif_t q]
          unfold edg
          rw [pif_f (fun r => hN u s r q)]
          rcases pif_cases (C (u + p2 s)) 0 0 with ⟨-, e2⟩ | ⟨-, e2⟩ <;> exact e2.symm
        · rw [pif_f q]
  have hout : isum (p2 n) (fun v => pif (C v) (Wf v * Rf v) 0) = isum n (fun s => isum (p2 n) (fun u => pif (C u) (edg N Wf Rf u s) 0)) + pif (C (p2 n - 1)) (Wf (p2 n - 1)) 0 := by
    rw [← isum_swap (n := p2 n) (m := n) (fun u s => pif (C u) (edg N Wf Rf u s) 0)]
    have h2 := isum_one (n := p2 n) (g := fun u => isum n (fun s => pif (C u) (edg N Wf Rf u s) 0)) (g' := fun v => pif (C v) (Wf v * Rf v) 0) (p2 n - 1) (by omega) (fun v a b c => by
      show pif (C v) (Wf v * Rf v) 0 = isum n (fun s => pif (C v) (edg N Wf Rf v s) 0)
      rw [hR.2 v a (by omega), isum_mull, ← pif_mulr_isum]
      exact isum_c fun s _ _ => by
        unfold edg
        rw [pif_mulr])
    have h3 : isum n (fun s => pif (C (p2 n - 1)) (edg N Wf Rf (p2 n - 1) s) 0) = 0 := isum_z fun s c d => by
      unfold edg
      rw [pif_f (fun r => hN _ s r ((tb_full hn c).mpr d))]
      rcases pif_cases (C (p2 n - 1)) 0 0 with ⟨-, e2⟩ | ⟨-, e2⟩ <;> exact e2
    rw [h2]
    show _ + (pif (C (p2 n - 1)) (Wf (p2 n - 1) * Rf (p2 n - 1)) 0 - isum n (fun s => pif (C (p2 n - 1)) (edg N Wf Rf (p2 n - 1) s) 0)) = _
    rw [h3, hR.1, Int.mul_one]
    omega
  omega
end FL
