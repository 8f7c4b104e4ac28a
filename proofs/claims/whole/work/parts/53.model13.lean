theorem iand_r31 {a b : Int} (ha : 0 ≤ a ∧ a ≤ 2147483647) (hb : 0 ≤ b ∧ b ≤ 2147483647) : 0 ≤ iand a b ∧ iand a b ≤ 2147483647 := by
  have h := Nat.and_lt_two_pow (n := 31) a.toNat (show b.toNat < 2 ^ 31 by omega)
  rw [iand_n ha hb]
  omega
theorem tb_bd {a n : Int} (h0 : 0 ≤ a) (hn : 0 ≤ n) (h : ∀ x, 0 ≤ x → tb a x → x < n) : a < p2 n := by
  have h1 : a.toNat < 2 ^ n.toNat := Nat.lt_pow_two_of_testBit _ fun i hi => by
    rw [Bool.eq_false_iff]
    intro q
    have := h (i : Int) (by omega) (by unfold tb; rw [Int.toNat_natCast]; exact q)
    omega
  unfold p2
  omega
theorem p2_29 {n : Int} (hn : n ≤ 29) : p2 n ≤ 536870912 := p2_m (a := n) (b := 29) hn
theorem nx_lt {v s n : Int} (hv : 0 ≤ v ∧ v < p2 n) (hs : 0 ≤ s ∧ s < n) (hn : n ≤ 29) (h : ¬ tb v s) : v + p2 s < p2 n := by
  have hp := p2_29 hn
  have hq := p2_p s
  refine tb_bd (by omega) (by omega) fun x a q => ?_
  rcases (tb_add (by omega) (by omega) a h).mp q with r | r
  · rcases Int.lt_or_le x n with t | t
    · exact t
    · exact absurd r (tb_lt hv t)
  · omega
theorem iand_sub {a v : Int} (ha : 0 ≤ a ∧ a ≤ 2147483647) (hv : 0 ≤ v ∧ v ≤ 2147483647) : iand a v = a ↔ ∀ o, 0 ≤ o → tb a o → tb v o := by
  constructor
  · intro h o b c
    rw [← h, tb_and ha hv] at c
    exact c.2
  · intro h
    exact set_eq (iand_r31 ha hv).1 ha.1 fun k b => by
      rw [tb_and ha hv]
      exact ⟨fun q => q.1, fun q => ⟨q, h k b q⟩⟩
theorem pif_cc {P P' : Prop} {a a' b : Int} (h : P ↔ P') (h2 : P → a = a') : pif P a b = pif P' a' b := by
  by_cases p : P
  · rw [pif_t p, pif_t (h.mp p), h2 p]
  · rw [pif_f p, pif_f (fun q => p (h.mpr q))]
theorem isum_le {n : Int} {g g' : Int → Int} (h : ∀ k, 0 ≤ k → k < n → g k ≤ g' k) : isum n g ≤ isum n g' := by
  by_cases hn : 0 ≤ n
  · have key : ∀ m : Nat, (m : Int) ≤ n → isum (m : Int) g ≤ isum (m : Int) g' := by
      intro m
      induction m with
      | zero => intro _; exact Int.le_refl _
      | succ m ih =>
        intro hm
        have h1 := ih (by omega)
        have h2 := h (m : Int) (by omega) (by omega)
        rw [show ((m + 1 : Nat) : Int) = (m : Int) + 1 by omega, isum_s _ (by omega), isum_s _ (by omega)]
        omega
    have := key n.toNat (by omega)
    rw [show ((n.toNat : Nat) : Int) = n by omega] at this
    exact this
  · rw [isum_neg _ (by omega), isum_neg _ (by omega)]
    exact Int.le_refl _
theorem isum_n {n : Int} {g : Int → Int} (h : ∀ k, 0 ≤ k → k < n → 0 ≤ g k) : 0 ≤ isum n g := by
  have h1 := isum_le (n := n) (g := fun _ => 0) (g' := g) h
  have h2 : isum n (fun _ => 0) = 0 := isum_z (fun _ _ _ => rfl)
  omega
/-- one scratches another -/
def doP (f : sF) (a b : Int) : Prop := ∃ k, 0 ≤ k ∧ k < f 569 ∧ f (70 + k) = a ∧ f (110 + k) = b
/-- s can come next behind the set v -/
def nxS (f : sF) (v s : Int) : Prop := ¬ tb v s ∧ ∀ o, 0 ≤ o → o < f 568 → doP f o s → tb v o
theorem nxS_n {f : sF} : ∀ v s, nxS f v s → ¬ tb v s := fun _ _ h => h.1
def ahP (f A : sF) : Prop := ∀ s, 0 ≤ s → s < f 568 → (0 ≤ A s ∧ A s ≤ 2147483647) ∧ ∀ o, 0 ≤ o → (tb (A s) o ↔ o < f 568 ∧ doP f o s)
theorem nxS_i {f A : sF} {v s : Int} (hA : ahP f A) (hv : 0 ≤ v ∧ v ≤ 2147483647) (hs : 0 ≤ s ∧ s < f 568) : iand (A s) v = A s ↔ ∀ o, 0 ≤ o → o < f 568 → doP f o s → tb v o := by
  have h := hA s hs.1 hs.2
  rw [iand_sub (by omega) (by omega)]
  exact ⟨fun q o a b c => q o a ((h.2 o a).mpr ⟨b, c⟩), fun q o a b => q o a ((h.2 o a).mp b).1 ((h.2 o a).mp b).2⟩
/-- what is counted when the sets below v, and v with the stones below s, have gone on -/
def wyI (n : Int) (N : Int → Int → Prop) (W : Int → Int) (v s : Int) : Prop := ∀ u, 0 ≤ u → u < p2 n → W u = (if u = 0 then 1 else 0) + isum n (fun t => pif (tb u t ∧ N (u - p2 t) t ∧ (u - p2 t < v ∨ (u - p2 t = v ∧ t < s))) (W (u - p2 t)) 0)
section WY
variable {n : Int} {N : Int → Int → Prop} {W R : Int → Int}
theorem wyI_0 (h : ∀ u, 0 ≤ u → u < p2 n → W u = if u = 0 then 1 else 0) : wyI n N W 0 0 := fun u a b => by
  have e : isum n (fun t => pif (tb u t ∧ N (u - p2 t) t ∧ (u - p2 t < 0 ∨ (u - p2 t = 0 ∧ t < 0))) (W (u - p2 t)) 0) = 0 := isum_z (fun t c d => pif_f (fun q => by
    have h1 := (tb_sub a q.1).1
    have h2 := q.2.2
    omega))
  rw [e, h u a b, Int.add_zero]
theorem wyI_f {v s : Int} (h : wyI n N W v s) (hN : ¬ N v s) : wyI n N W v (s + 1) := fun u a b => by
  refine (h u a b).trans ?_
  congr 1
  refine isum_c fun t c d => pif_cc ?_ (fun _ => rfl)
  constructor
  · rintro ⟨p, q, r⟩
    exact ⟨p, q, by omega⟩
  · rintro ⟨p, q, r⟩
    refine ⟨p, q, ?_⟩
    by_cases e : t = s ∧ u - p2 t = v
    · rw [e.2, e.1] at q; exact absurd q hN
    · omega
theorem wyI_t {v s : Int} (hn : 0 ≤ n ∧ n ≤ 29) (hN : ∀ v s, N v s → ¬ tb v s) (h : wyI n N W v s) (hv : 0 ≤ v ∧ v < p2 n) (hs : 0 ≤ s ∧ s < n) (hq : N v s) : wyI n N (iup W (v + p2 s) (W (v + p2 s) + W v)) v (s + 1) := fun u a b => by
  have hp := p2_p s
  have hp9 := p2_29 hn.2
  have e1 : ∀ t, (u - p2 t < v ∨ u - p2 t = v) → iup W (v + p2 s) (W (v + p2 s) + W v) (u - p2 t) = W (u - p2 t) := fun t c => if_neg (by omega)
  by_cases e : u = v + p2 s
  · have h1 := h u a b
    have ht : tb u s := by rw [e]; exact (tb_add (by omega) (by omega) hs.1 (hN v s hq)).mpr (Or.inr rfl)
    have hv2 : u - p2 s = v := by omega
    have h2 := isum_one (n := n) (g := fun t => pif (tb u t ∧ N (u - p2 t) t ∧ (u - p2 t < v ∨ (u - p2 t = v ∧ t < s))) (W (u - p2 t)) 0) (g' := fun t => pif (tb u t ∧ N (u - p2 t) t ∧ (u - p2 t < v ∨ (u - p2 t = v ∧ t < s + 1))) (iup W (v + p2 s) (W (v + p2 s) + W v) (u - p2 t)) 0) s hs (fun t c d r => by
      refine pif_cc ?_ (fun q => e1 t (by have := q.2.2; omega))
      constructor
      · rintro ⟨p, q, w⟩
        exact ⟨p, q, by omega⟩
      · rintro ⟨p, q, w⟩
        exact ⟨p, q, by omega⟩)
    have h3 : pif (tb u s ∧ N (u - p2 s) s ∧ (u - p2 s < v ∨ (u - p2 s = v ∧ s < s))) (W (u - p2 s)) 0 = 0 := pif_f (fun q => by have := q.2.2; omega)
    have h4 : pif (tb u s ∧ N (u - p2 s) s ∧ (u - p2 s < v ∨ (u - p2 s = v ∧ s < s + 1))) (iup W (v + p2 s) (W (v + p2 s) + W v) (u - p2 s)) 0 = W v := by
      rw [pif_t ⟨ht, by rw [hv2]; exact hq, by omega⟩, e1 s (by omega), hv2]
    have h5 : iup W (v + p2 s) (W (v + p2 s) + W v) u = W u + W v := by rw [e]; exact if_pos rfl
    rw [h5, h2]
    show _ = _ + (_ + (pif (tb u s ∧ N (u - p2 s) s ∧ (u - p2 s < v ∨ (u - p2 s = v ∧ s < s + 1))) (iup W (v + p2 s) (W (v + p2 s) + W v) (u - p2 s)) 0 - pif (tb u s ∧ N (u - p2 s) s ∧ (u - p2 s < v ∨ (u - p2 s = v ∧ s < s))) (W (u - p2 s)) 0))
    rw [h3, h4]
    omega
  · have h5 : iup W (v + p2 s) (W (v + p2 s) + W v) u = W u := if_neg e
    rw [h5]
    refine (h u a b).trans ?_
    congr 1
    refine isum_c fun t c d => ?_
    refine pif_cc ?_ (fun q => (e1 t (by have := q.2.2; omega)).symm)
    constructor
    · rintro ⟨p, q, w⟩
      exact ⟨p, q, by omega⟩
    · rintro ⟨p, q, w⟩
      refine ⟨p, q, ?_⟩
      by_cases e2 : t = s
      · rw [e2] at w ⊢; omega
      · omega
theorem wyI_n {v : Int} (h : wyI n N W v n) : wyI n N W (v + 1) 0 := fun u a b => by
  refine (h u a b).trans ?_
  congr 1
  refine isum_c fun t c d => pif_cc ?_ (fun _ => rfl)
  constructor
  · rintro ⟨p, q, w⟩
    exact ⟨p, q, by omega⟩
  · rintro ⟨p, q, w⟩
    exact ⟨p, q, by omega⟩
theorem wyI_e {v : Int} (hv : p2 n ≤ v) (h : wyI n N W v 0) : wyR n N W := by
  have hp := p2_p n
  constructor
  · have h1 := h 0 (by omega) (by omega)
    have e : isum n (fun t => pif (tb 0 t ∧ N (0 - p2 t) t ∧ (0 - p2 t < v ∨ (0 - p2 t = v ∧ t < 0))) (W (0 - p2 t)) 0) = 0 := isum_z (fun t c d => pif_f (fun q => tb_0 t q.1))
    rw [e, if_pos rfl] at h1
    omega
  · intro u a b
    have h1 := h u (by omega) b
    rw [if_neg (by omega), Int.zero_add] at h1
    rw [h1]
    refine isum_c fun t c d => pif_cc ?_ (fun _ => rfl)
    have := p2_p t
    exact ⟨fun q => ⟨q.1, q.2.1⟩, fun q => ⟨q.1, q.2, by omega⟩⟩
def rsI (n : Int) (N : Int → Int → Prop) (R : Int → Int) (v : Int) : Prop := ∀ u, v < u → 0 ≤ u → u < p2 n → R u = if u = p2 n - 1 then 1 else isum n (fun s => pif (N u s) (R (u + p2 s)) 0)
theorem rsV_c {v x s : Int} : isum s (fun t => pif (N v t) (iup R v x (v + p2 t)) 0) = isum s (fun t => pif (N v t) (R (v + p2 t)) 0) := isum_c fun t _ _ => pif_cc Iff.rfl (fun _ => if_neg (by have := p2_p t; omega))
theorem rsI_up {v x : Int} (h : rsI n N R v) : rsI n N (iup R v x) v := fun u a b c => by
  have e1 : iup R v x u = R u := if_neg (by omega)
  rw [e1, h u a b c]
  have e2 : isum n (fun s => pif (N u s) (iup R v x (u + p2 s)) 0) = isum n (fun s => pif (N u s) (R (u + p2 s)) 0) := isum_c fun t _ _ => pif_cc Iff.rfl (fun _ => if_neg (by have := p2_p t; omega))
  rw [e2]
theorem rsI_n {v : Int} (hn : 0 ≤ n ∧ n ≤ 29) (hN : ∀ v s, N v s → ¬ tb v s) (h : rsI n N R v) (h2 : R v = (if v = p2 n - 1 then 1 else 0) + isum n (fun t => pif (N v t) (R (v + p2 t)) 0)) : rsI n N R (v - 1) := fun u a b c => by
  by_cases e : u = v
  · rw [e, h2]
    by_cases e2 : v = p2 n - 1
    · rw [if_pos e2, if_pos e2]
      have e3 : isum n (fun t => pif (N v t) (R (v + p2 t)) 0) = 0 := isum_z (fun t p q => pif_f (fun r => hN v t r (by rw [e2]; exact (tb_full hn p).mpr q)))
      rw [e3]
      rfl
    · rw [if_neg e2, if_neg e2, Int.zero_add]
  · exact h u (by omega) b c
theorem rsI_e (hn : 0 ≤ n ∧ n ≤ 29) {v : Int} (hv : v < 0) (h : rsI n N R v) : rsR n N R := by
  have hp := p2_p n
  exact ⟨by rw [h (p2 n - 1) (by omega) (by omega) (by omega), if_pos rfl], fun u a b => by rw [h u (by omega) a (by omega), if_neg (by omega)]⟩
theorem wy_u {W2 : Int → Int} (h : wyR n N W) (h2 : wyR n N W2) : ∀ u, 0 ≤ u → u < p2 n → W u = W2 u := by
  have key : ∀ m : Nat, ∀ u, 0 ≤ u → u < (m : Int) → u < p2 n → W u = W2 u := by
    intro m
    induction m with
    | zero => intro u a b; omega
    | succ m ih =>
      intro u a b c
      by_cases e : u = 0
      · rw [e, h.1, h2.1]
      · rw [h.2 u (by omega) c, h2.2 u (by omega) c]
        refine isum_c fun t p q => pif_cc Iff.rfl (fun r => ?_)
        have h1 := tb_sub a r.1
        have h3 := p2_p t
        exact ih _ h1.1 (by omega) (by omega)
  exact fun u a b => key (u + 1).toNat u a (by omega) b
theorem rs_u {R2 : Int → Int} (hn : 0 ≤ n ∧ n ≤ 29) (hN : ∀ v s, N v s → ¬ tb v s) (h : rsR n N R) (h2 : rsR n N R2) : ∀ u, 0 ≤ u → u < p2 n → R u = R2 u := by
  have key : ∀ m : Nat, ∀ u, 0 ≤ u → p2 n - 1 - u < (m : Int) → u < p2 n → R u = R2 u := by
    intro m
    induction m with
    | zero => intro u a b; omega
    | succ m ih =>
      intro u a b c
      by_cases e : u = p2 n - 1
      · rw [e, h.1, h2.1]
      · rw [h.2 u (by omega) (by omega), h2.2 u (by omega) (by omega)]
        refine isum_c fun t p q => pif_cc Iff.rfl (fun r => ?_)
        have h1 := nx_lt ⟨a, c⟩ ⟨p, q⟩ hn.2 (hN u t r)
        have h3 := p2_p t
        exact ih _ (by omega) (by omega) h1
  exact fun u a b => key (p2 n - u).toNat u a (by omega) b
def facI : Nat → Int
  | 0 => 1
  | k + 1 => ((k : Int) + 1) * facI k
theorem fac_10 : ∀ k : Nat, k ≤ 10 → 1 ≤ facI k ∧ facI k ≤ 3628800 := by decide
theorem pc_sub {u s : Int} (hu : 0 ≤ u ∧ u ≤ 1073741823) (hs : 0 ≤ s ∧ s ≤ 29) (h : tb u s) : pcI u = pcI (u - p2 s) + 1 := by
  have h1 := tb_sub hu.1 h
  have h2 := tb_ge hu.1 h
  have h3 := p2_p s
  rw [← pc_or (m := u - p2 s) (k := s) (by omega) (by omega) h1.2, ior_p2 (by omega) hs h1.2, show u - p2 s + p2 s = u by omega]
theorem pc_add {u s : Int} (hu : 0 ≤ u ∧ u ≤ 1073741823) (hs : 0 ≤ s ∧ s ≤ 29) (h : ¬ tb u s) : pcI (u + p2 s) = pcI u + 1 := by
  rw [← ior_p2 hu hs h, pc_or (by omega) (by omega) h]
theorem pc_le {u : Int} (hn : 0 ≤ n ∧ n ≤ 29) (hu : 0 ≤ u ∧ u < p2 n) : pcI u = isum n (fun k => bI (tb u k)) ∧ pcI u ≤ n := by
  have e : pcI u = isum n (fun k => bI (tb u k)) := by
    unfold pcI
    rw [show (31 : Int) = n + (31 - n) by omega, isum_ap _ hn.1 (by omega)]
    have e2 : isum (31 - n) (fun k => bI (tb u (n + k))) = 0 := isum_z fun k a b => bI_f (tb_lt hu (by omega))
    rw [e2, Int.add_zero]
  refine ⟨e, ?_⟩
  rw [e]
  have := isum_b (n := n) (g := fun k => bI (tb u k)) 0 1 hn.1 (fun _ _ _ => bI_r)
  omega
theorem wy_b (hn : 0 ≤ n ∧ n ≤ 10) (h : wyR n N W) : ∀ u, 0 ≤ u → u < p2 n → 0 ≤ W u ∧ W u ≤ facI (pcI u).toNat := by
  have hp9 := p2_10 hn.2
  have key : ∀ m : Nat, ∀ u, 0 ≤ u → u < (m : Int) → u < p2 n → 0 ≤ W u ∧ W u ≤ facI (pcI u).toNat := by
    intro m
    induction m with
    | zero => intro u a b; omega
    | succ m ih =>
      intro u a b c
      by_cases e : u = 0
      · rw [e, h.1, pc_0]
        exact ⟨by omega, by decide⟩
      · have hpc := pc_le (n := n) (u := u) ⟨hn.1, by omega⟩ ⟨a, c⟩
        have hpr := pc_r u
        have hf := (fac_10 (pcI u - 1).toNat (by omega)).1
        have hb : ∀ s, 0 ≤ s → s < n → 0 ≤ pif (tb u s ∧ N (u - p2 s) s) (W (u - p2 s)) 0 ∧ pif (tb u s ∧ N (u - p2 s) s) (W (u - p2 s)) 0 ≤ bI (tb u s) * facI (pcI u - 1).toNat := fun s p q => by
          by_cases r : tb u s
          · have h1 := tb_sub a r
            have h3 := p2_p s
            have h4 := ih (u - p2 s) h1.1 (by omega) (by omega)
            have h5 := pc_sub (u := u) (s := s) ⟨a, by omega⟩ (by omega) r
            rw [show pcI (u - p2 s) = pcI u - 1 by omega] at h4
            rw [bI_t r, Int.one_mul]
            rcases pif_cases (tb u s ∧ N (u - p2 s) s) (W (u - p2 s)) 0 with ⟨-, e2⟩ | ⟨-, e2⟩ <;> rw [e2] <;> omega
          · rw [pif_f (fun q => r q.1), bI_f r, Int.zero_mul]
            omega
        rw [h.2 u (by omega) c]
        refine ⟨isum_n fun s p q => (hb s p q).1, ?_⟩
        have h6 := isum_le (n := n) (fun s p q => (hb s p q).2)
        rw [← isum_mulr, ← hpc.1] at h6
        by_cases e3 : pcI u = 0
        · rw [e3, Int.zero_mul] at h6
          have := (fac_10 (pcI u).toNat (by omega)).1
          omega
        · have e4 : facI (pcI u).toNat = pcI u * facI (pcI u - 1).toNat := by
            have e5 : (pcI u).toNat = (pcI u - 1).toNat + 1 := by omega
            rw [e5]
            show (((pcI u - 1).toNat : Int) + 1) * facI (pcI u - 1).toNat = _
            rw [show ((pcI u - 1).toNat : Int) + 1 = pcI u by omega]
          omega
  exact fun u a b => key (u + 1).toNat u a (by omega) b
theorem wyW_r (hn : 0 ≤ n ∧ n ≤ 10) (h : wyR n N W) (u : Int) (a : 0 ≤ u) (b : u < p2 n) : 0 ≤ W u ∧ W u ≤ 3628800 := by
  have h1 := wy_b hn h u a b
  have h2 := (pc_le (n := n) (u := u) ⟨hn.1, by omega⟩ ⟨a, b⟩).2
  have h3 := (fac_10 (pcI u).toNat (by omega)).2
  omega
theorem rs_n (hn : 0 ≤ n ∧ n ≤ 29) (hN : ∀ v s, N v s → ¬ tb v s) (h : rsR n N R) : ∀ u, 0 ≤ u → u < p2 n → 0 ≤ R u := by
  have key : ∀ m : Nat, ∀ u, 0 ≤ u → p2 n - 1 - u < (m : Int) → u < p2 n → 0 ≤ R u := by
    intro m
    induction m with
    | zero => intro u a b; omega
    | succ m ih =>
      intro u a b c
      by_cases e : u = p2 n - 1
      · rw [e, h.1]; omega
      · rw [h.2 u (by omega) (by omega)]
        refine isum_n fun t p q => ?_
        rcases pif_cases (N u t) (R (u + p2 t)) 0 with ⟨r, e2⟩ | ⟨-, e2⟩
        · have h1 := nx_lt ⟨a, c⟩ ⟨p, q⟩ hn.2 (hN u t r)
          have h3 := p2_p t
          rw [e2]
          exact ih _ (by omega) (by omega) h1
        · rw [e2]; exact Int.le_refl _
  exact fun u a b => key (p2 n - u).toNat u a (by omega) b
theorem eg_n (hn : 0 ≤ n ∧ n ≤ 10) (hN : ∀ v s, N v s → ¬ tb v s) (hW : wyR n N W) (hR : rsR n N R) (u s : Int) (a : 0 ≤ u) (b : u < p2 n) (hs : 0 ≤ s ∧ s < n) : 0 ≤ edg N W R u s := by
  unfold edg
  rcases pif_cases (N u s) (W u * R (u + p2 s)) 0 with ⟨r, e2⟩ | ⟨-, e2⟩
  · rw [e2]
    have h1 := nx_lt ⟨a, b⟩ hs (by omega) (hN u s r)
    have h3 := p2_p s
    exact Int.mul_nonneg (wyW_r hn hW u a b).1 (rs_n ⟨hn.1, by omega⟩ hN hR _ (by omega) h1)
  · rw [e2]; exact Int.le_refl _
/-- each order has each stone once -/
theorem eg_s (hn : 0 ≤ n ∧ n ≤ 29) (hN : ∀ v s, N v s → ¬ tb v s) (hW : wyR n N W) (hR : rsR n N R) (s : Int) (hs : 0 ≤ s ∧ s < n) : isum (p2 n) (fun u => edg N W R u s) = W (p2 n - 1) := by
  have hp9 := p2_29 hn.2
  have h1 := flow hn hN hW hR (fun v => tb v s) (tb_0 s)
  have h2 := isum_one (n := n) (g := fun t => isum (p2 n) (fun u => pif (tb u s) (edg N W R u t) 0)) (g' := fun t => isum (p2 n) (fun u => pif (tb (u + p2 t) s) (edg N W R u t) 0)) s hs (fun t c d e => isum_c fun u a b => by
    unfold edg
    by_cases q : N u t
    · exact pif_c (by rw [tb_add ⟨a, by omega⟩ ⟨c, by omega⟩ hs.1 (hN u t q)]; exact ⟨fun r => r.elim id (fun w => absurd w.symm e), Or.inl⟩)
    · rw [pif_f q]
      rcases pif_cases (tb (u + p2 t) s) 0 0 with ⟨-, e1⟩ | ⟨-, e1⟩ <;> rcases pif_cases (tb u s) 0 0 with ⟨-, e2⟩ | ⟨-, e2⟩ <;> rw [e1, e2])
  have h3 : isum (p2 n) (fun u => pif (tb u s) (edg N W R u s) 0) = 0 := isum_z fun u a b => by
    by_cases q : tb u s
    · rw [pif_t q]
      exact pif_f (fun r => hN u s r q)
    · exact pif_f q
  have h4 : isum (p2 n) (fun u => pif (tb (u + p2 s) s) (edg N W R u s) 0) = isum (p2 n) (fun u => edg N W R u s) := isum_c fun u a b => by
    by_cases q : N u s
    · exact pif_t ((tb_add ⟨a, by omega⟩ ⟨hs.1, by omega⟩ hs.1 (hN u s q)).mpr (Or.inr rfl))
    · unfold edg
      rw [pif_f q]
      rcases pif_cases (tb (u + p2 s) s) 0 0 with ⟨-, e1⟩ | ⟨-, e1⟩ <;> exact e1
  rw [pif_t ((tb_full hn hs.1).mpr hs.2)] at h1
  have h5 : isum n (fun t => isum (p2 n) (fun u => pif (tb (u + p2 t) s) (edg N W R u t) 0)) = isum n (fun t => isum (p2 n) (fun u => pif (tb u s) (edg N W R u t) 0)) + (isum (p2 n) (fun u => pif (tb (u + p2 s) s) (edg N W R u s) 0) - isum (p2 n) (fun u => pif (tb u s) (edg N W R u s) 0)) := h2
  have h6 : isum n (fun t => isum (p2 n) (fun u => pif (tb (u + p2 t) s) (edg N W R u t) 0)) = isum n (fun t => isum (p2 n) (fun u => pif (tb u s) (edg N W R u t) 0)) + W (p2 n - 1) := h1
  omega
/-- a part of the orders -/
theorem eg_p (hn : 0 ≤ n ∧ n ≤ 10) (hN : ∀ v s, N v s → ¬ tb v s) (hW : wyR n N W) (hR : rsR n N R) (s : Int) (hs : 0 ≤ s ∧ s < n) (C : Int → Prop) : 0 ≤ isum (p2 n) (fun u => pif (C u) (edg N W R u s) 0) ∧ isum (p2 n) (fun u => pif (C u) (edg N W R u s) 0) ≤ W (p2 n - 1) := by
  rw [← eg_s ⟨hn.1, by omega⟩ hN hW hR s hs]
  have hb : ∀ u, 0 ≤ u → u < p2 n → 0 ≤ pif (C u) (edg N W R u s) 0 ∧ pif (C u) (edg N W R u s) 0 ≤ edg N W R u s := fun u a b => by
    have := eg_n hn hN hW hR u s a b hs
    rcases pif_cases (C u) (edg N W R u s) 0 with ⟨-, e⟩ | ⟨-, e⟩ <;> rw [e] <;> omega
  exact ⟨isum_n fun u a b => (hb u a b).1, isum_le fun u a b => (hb u a b).2⟩
end WY
noncomputable def wyC (f : sF) : Int → Int := @dite (Int → Int) (∃ W, wyR (f 568) (nxS f) W) (Classical.propDecidable _) (fun q => q.choose) (fun _ => fun _ => 0)
noncomputable def rsC (f : sF) : Int → Int := @dite (Int → Int) (∃ W, rsR (f 568) (nxS f) W) (Classical.propDecidable _) (fun q => q.choose) (fun _ => fun _ => 0)
theorem wyC_eq {f W : sF} (h : wyR (f 568) (nxS f) W) : wyR (f 568) (nxS f) (wyC f) ∧ ∀ u, 0 ≤ u → u < p2 (f 568) → W u = wyC f u := by
  have hx : ∃ W, wyR (f 568) (nxS f) W := ⟨W, h⟩
  have e : wyC f = hx.choose := dif_pos hx
  rw [e]
  exact ⟨hx.choose_spec, wy_u h hx.choose_spec⟩
theorem rsC_eq {f R : sF} (hn : 0 ≤ f 568 ∧ f 568 ≤ 29) (h : rsR (f 568) (nxS f) R) : rsR (f 568) (nxS f) (rsC f) ∧ ∀ u, 0 ≤ u → u < p2 (f 568) → R u = rsC f u := by
  have hx : ∃ W, rsR (f 568) (nxS f) W := ⟨R, h⟩
  have e : rsC f = hx.choose := dif_pos hx
  rw [e]
  exact ⟨hx.choose_spec, rs_u hn nxS_n h hx.choose_spec⟩
/-- both rows are counted -/
def ctP (f W R : sF) : Prop := wyR (f 568) (nxS f) (wyC f) ∧ rsR (f 568) (nxS f) (rsC f) ∧ (∀ u, 0 ≤ u → u < p2 (f 568) → W u = wyC f u) ∧ (∀ u, 0 ≤ u → u < p2 (f 568) → R u = rsC f u)
theorem ctP_i {f W R : sF} (hn : 0 ≤ f 568 ∧ f 568 ≤ 29) (h : wyR (f 568) (nxS f) W) (h2 : rsR (f 568) (nxS f) R) : ctP f W R := ⟨(wyC_eq h).1, (rsC_eq hn h2).1, (wyC_eq h).2, (rsC_eq hn h2).2⟩
noncomputable def totI (f : sF) : Int := wyC f (p2 (f 568) - 1)
noncomputable def edF (f : sF) (u s : Int) : Int := edg (nxS f) (wyC f) (rsC f) u s
noncomputable def rkT (f : sF) (s r u : Int) : Int := pif (pcI u = r) (edF f u s) 0
noncomputable def abT (f : sF) (a b u : Int) : Int := pif (¬ tb u b) (edF f u a) 0
noncomputable def rkI (f : sF) (s r : Int) : Int := isum (p2 (f 568)) (rkT f s r)
noncomputable def abI (f : sF) (a b : Int) : Int := isum (p2 (f 568)) (abT f a b)
theorem edF_v {f W R : sF} {u s : Int} (hc : ctP f W R) (hn : f 568 ≤ 29) (hs : 0 ≤ s ∧ s < f 568) (hu : 0 ≤ u ∧ u < p2 (f 568)) (h : nxS f u s) : edF f u s = W u * R (u + p2 s) := by
  have hp := p2_p s
  unfold edF edg
  rw [pif_t h, hc.2.2.1 u hu.1 hu.2, hc.2.2.2 (u + p2 s) (by omega) (nx_lt hu hs hn h.1)]
theorem edF_f {f : sF} {u s : Int} (h : ¬ nxS f u s) : edF f u s = 0 := pif_f h
theorem tot_r {f W R : sF} (hn : 0 ≤ f 568 ∧ f 568 ≤ 10) (hc : ctP f W R) : 0 ≤ totI f ∧ totI f ≤ 3628800 := by
  have := p2_p (f 568)
  exact wyW_r hn hc.1 _ (by omega) (by omega)
theorem rk_r {f W R : sF} (hn : 0 ≤ f 568 ∧ f 568 ≤ 10) (hc : ctP f W R) (s r : Int) (hs : 0 ≤ s ∧ s < f 568) : 0 ≤ rkI f s r ∧ rkI f s r ≤ totI f := eg_p hn nxS_n hc.1 hc.2.1 s hs (fun u => pcI u = r)
theorem ab_r {f W R : sF} (hn : 0 ≤ f 568 ∧ f 568 ≤ 10) (hc : ctP f W R) (s r : Int) (hs : 0 ≤ s ∧ s < f 568) : 0 ≤ abI f s r ∧ abI f s r ≤ totI f := eg_p hn nxS_n hc.1 hc.2.1 s hs (fun u => ¬ tb u r)

abbrev rmX11_does : Room := { frames := 1, cells := 0, slots := 0, locals := 40 }
set_option maxHeartbeats 4000000 in
set_option maxRecDepth 100000 in
theorem kX11_does (l_ : Launch) (G : sG) (b_ : Nat) (M : sM) (N : Nat) (m : Nat) (th ch tn ea sn nm wn : Int) (f : sF) (a b : Int) (hm0 : M m = some (mO m th ch tn ea sn nm wn)) (hm1 : M (m + 1) = some (sArr G 574 f)) (hok : sOk f) (hr : sR a ∧ sR b) : cP l_ yX11_does wsX11_does rmX11_does G b_ M N [.ref m, .int (sI a), .int (sI b)] (bI (doP f a b)) := by
  refine sE.ofI (cc := cX11_does) (nL := 4) (ret := (some .boolean)) (by decide) rfl (Nat.le_of_ble_eq_true rfl) ?_
  intro p_ e_ s_ m_ args_ below_ meth_ c_ ls Q hQ E hl
  have E : sE p_ l_ e_ rmX11_does s_ m_ args_ below_ meth_ c_ cX11_does 4 wsX11_does RX11 "does" (some .boolean) G b_ M N := E
  have S := E.1
  have hx_ := S.1
  have hb_ := S.2.1
  have hK := E.2.2.2.2.1
  have hV := E.2.2.2.2.2.2
  have hl : lv_has ls 4 [(0, .ref m), (1, .int (sI a)), (2, .int (sI b))] := hl
  have inX11_ : ∀ w ∈ wsX110, w ∈ wsX11_does := fun _ h => List.mem_cons_of_mem _ (List.mem_append_right _ h)
  have kn0 := sOk_N hok
  refine si_const S dX11_does_0 ?_
  refine lv_istore_n (lv' := [(3, .int (sI 0)), (0, .ref m), (1, .int (sI a)), (2, .int (sI b))]) hx_ hb_ dX11_does_1 rfl hl (by decide) rfl (fun ls hl => ?_)
  have L2 : ∀ (fuel : Nat) (i : Int)  (H : Heap) (locs : List Loc) (ls : Array Slot), ((f 569 - i).toNat) < fuel → (0 ≤ i ∧ i ≤ f 569) → (∀ k, 0 ≤ k → k < i → ¬ (f (70 + k) = a ∧ f (110 + k) = b)) → sV G b_ M N s_ H locs → lv_has ls 4 [(0, .ref m), (1, .int (sI a)), (2, .int (sI b)), (3, .int (sI i))] → W p_ l_ e_ rmX11_does s_ m_ args_ below_ meth_ c_ H locs 0 0 Q (F0 m_ 2 ls []) := by
    intro fuel
    induction fuel with
    | zero => intro i H locs ls hmu; exact absurd hmu (Nat.not_lt_zero _)
    | succ fuel ih2 =>
      intro i H locs ls hmu2 hv2_0 hn  hV hl
      refine lv_iload_n hx_ hb_ dX11_does_2 rfl (lv_at hl 3 rfl) ?_
      refine lv_aload_n hx_ hb_ dX11_does_3 rfl (lv_at hl 0 rfl) ?_
      refine sc_get (ci := 9) (C := RX11) (T := TX11) (n := 22) S hK hV inX11_ hm0 rfl 1 (by decide) (S.2.2.2.2 _ (List.mem_of_getElem? (i := 1) rfl)) rfl rfl dX11_does_4 ?_
      refine si_sipush S dX11_does_7 (by decide) ?_
      refine sc_iald S hK hV hm1 (by omega) dX11_does_10 ?_
      refine sb_ge (tgt := 48) S dX11_does_11 (by decide) (by omega) (fun c1 => ?_) (fun c1 => ?_)
      · refine si_const S dX11_does_48 ?_
        exact sr_z E hQ (Or.inl rfl) dX11_does_49 ⟨Nat.le_of_ble_eq_true rfl, Nat.le_of_ble_eq_true rfl⟩ hV (⟨(bI_f (fun h => by obtain ⟨k, h1, h2, h3⟩ := h; exact hn k h1 (by omega) h3)).symm, rfl, rfl⟩)
      · refine lv_aload_n hx_ hb_ dX11_does_14 rfl (lv_at hl 0 rfl) ?_
        refine sc_get (ci := 9) (C := RX11) (T := TX11) (n := 22) S hK hV inX11_ hm0 rfl 1 (by decide) (S.2.2.2.2 _ (List.mem_of_getElem? (i := 1) rfl)) rfl rfl dX11_does_15 ?_
        refine si_bipush S dX11_does_18 (by decide) ?_
        refine lv_iload_n hx_ hb_ dX11_does_20 rfl (lv_at hl 3 rfl) ?_
        refine si_add S dX11_does_21 ?_
        refine sc_iald S hK hV hm1 (by omega) dX11_does_22 ?_
        have kn2 : 0 ≤ f (70 + i) ∧ f (70 + i) < f 568 := (sOk_C hok i (by omega) (by omega)).1
        refine lv_iload_n hx_ hb_ dX11_does_23 rfl (lv_at hl 1 rfl) ?_
        refine sb_ne (tgt := 42) S dX11_does_24 (by decide) (by omega) (fun c3 => ?_) (fun c3 => ?_)
        · refine si_inc (lv' := [(3, .int (sI (i + 1))), (0, .ref m), (1, .int (sI a)), (2, .int (sI b))]) S dX11_does_42 hl (k := 3) rfl (by decide) rfl (fun ls hl => ?_)
          refine lv_goto (tgt := 2) hx_ hb_ dX11_does_45 (by decide) ?_
          exact ih2 (i + 1) _ _ _ (by omega) (by omega) (idx_st hn (by omega)) hV (lv_sub hl [1, 2, 3, 0] rfl)
        · refine lv_aload_n hx_ hb_ dX11_does_27 rfl (lv_at hl 0 rfl) ?_
          refine sc_get (ci := 9) (C := RX11) (T := TX11) (n := 22) S hK hV inX11_ hm0 rfl 1 (by decide) (S.2.2.2.2 _ (List.mem_of_getElem? (i := 1) rfl)) rfl rfl dX11_does_28 ?_
          refine si_bipush S dX11_does_31 (by decide) ?_
          refine lv_iload_n hx_ hb_ dX11_does_33 rfl (lv_at hl 3 rfl) ?_
          refine si_add S dX11_does_34 ?_
          refine sc_iald S hK hV hm1 (by omega) dX11_does_35 ?_
          have kn4 : 0 ≤ f (110 + i) ∧ f (110 + i) < f 568 := (sOk_C hok i (by omega) (by omega)).2.1
          refine lv_iload_n hx_ hb_ dX11_does_36 rfl (lv_at hl 2 rfl) ?_
          refine sb_ne (tgt := 42) S dX11_does_37 (by decide) (by omega) (fun c5 => ?_) (fun c5 => ?_)
          · refine si_inc (lv' := [(3, .int (sI (i + 1))), (0, .ref m), (1, .int (sI a)), (2, .int (sI b))]) S dX11_does_42 hl (k := 3) rfl (by decide) rfl (fun ls hl => ?_)
            refine lv_goto (tgt := 2) hx_ hb_ dX11_does_45 (by decide) ?_
            exact ih2 (i + 1) _ _ _ (by omega) (by omega) (idx_st hn (by omega)) hV (lv_sub hl [1, 2, 3, 0] rfl)
          · refine si_const S dX11_does_40 ?_
            exact sr_z E hQ (Or.inr rfl) dX11_does_41 ⟨Nat.le_of_ble_eq_true rfl, Nat.le_of_ble_eq_true rfl⟩ hV (⟨(bI_t ⟨i, by omega, by omega, by omega, by omega⟩).symm, rfl, rfl⟩)
  exact L2 _ 0 _ _ _ (Nat.lt_succ_self _) (by omega) (fun k a b => by omega) hV (lv_sub hl [1, 2, 3, 0] rfl)

abbrev rmX11_canBeNext : Room := { frames := 1, cells := 0, slots := 0, locals := 40 }
set_option maxHeartbeats 4000000 in
set_option maxRecDepth 100000 in
theorem kX11_canBeNext (l_ : Launch) (G : sG) (b_ : Nat) (M : sM) (N : Nat) (m : Nat) (th ch tn ea sn nm wn : Int) (f : sF) (A : sF) (v s : Int) (hm0 : M m = some (mO m th ch tn ea sn nm wn)) (hm1 : M (m + 1) = some (sArr G 574 f)) (hm7 : M (m + 7) = some (sArr G 10 A)) (hok : sOk f) (hA : ahP f A) (hv : 0 ≤ v ∧ v ≤ 1073741823) (hs : 0 ≤ s ∧ s < f 568) : cP l_ yX11_canBeNext wsX11_canBeNext rmX11_canBeNext G b_ M N [.ref m, .int (sI v), .int (sI s)] (bI (nxS f v s)) := by
  refine sE.ofI (cc := cX11_canBeNext) (nL := 3) (ret := (some .boolean)) (by decide) rfl (Nat.le_of_ble_eq_true rfl) ?_
  intro p_ e_ s_ m_ args_ below_ meth_ c_ ls Q hQ E hl
  have E : sE p_ l_ e_ rmX11_canBeNext s_ m_ args_ below_ meth_ c_ cX11_canBeNext 3 wsX11_canBeNext RX11 "canBeNext" (some .boolean) G b_ M N := E
  have S := E.1
  have hx_ := S.1
  have hb_ := S.2.1
  have hK := E.2.2.2.2.1
  have hV := E.2.2.2.2.2.2
  have hl : lv_has ls 3 [(0, .ref m), (1, .int (sI v)), (2, .int (sI s))] := hl
  have inX11_ : ∀ w ∈ wsX110, w ∈ wsX11_canBeNext := fun _ h => List.mem_cons_of_mem _ (List.mem_append_right _ h)
  have kn0 := sOk_N hok
  have hAs := (hA s hs.1 hs.2).1
  refine lv_iload_n hx_ hb_ dX11_canBeNext_0 rfl (lv_at hl 1 rfl) ?_
  refine lv_iload_n hx_ hb_ dX11_canBeNext_1 rfl (lv_at hl 2 rfl) ?_
  refine si_shr S dX11_canBeNext_2 ?_
  refine si_const S dX11_canBeNext_3 ?_
  refine si_and S dX11_canBeNext_4 ?_
  rw [ibit (m := v) (k := s) (by omega) (by omega)]
  refine sq_ne (tgt := 29) S dX11_canBeNext_5 (by decide) (fun h5 => ?_) (fun h5 => ?_)
  · refine si_const S dX11_canBeNext_29 ?_
    exact sr_z E hQ (Or.inl rfl) dX11_canBeNext_30 ⟨Nat.le_of_ble_eq_true rfl, Nat.le_of_ble_eq_true rfl⟩ hV (⟨(bI_f (fun h => h.1 h5)).symm, rfl, rfl⟩)
  · refine lv_aload_n hx_ hb_ dX11_canBeNext_8 rfl (lv_at hl 0 rfl) ?_
    refine sc_get (ci := 9) (C := RX11) (T := TX11) (n := 22) S hK hV inX11_ hm0 rfl 10 (by decide) (S.2.2.2.2 _ (List.mem_of_getElem? (i := 1) rfl)) rfl rfl dX11_canBeNext_9 ?_
    refine lv_iload_n hx_ hb_ dX11_canBeNext_12 rfl (lv_at hl 2 rfl) ?_
    refine sc_iald S hK hV hm7 (by omega) dX11_canBeNext_13 ?_
    refine lv_iload_n hx_ hb_ dX11_canBeNext_14 rfl (lv_at hl 1 rfl) ?_
    refine si_and S dX11_canBeNext_15 ?_
    refine lv_aload_n hx_ hb_ dX11_canBeNext_16 rfl (lv_at hl 0 rfl) ?_
    refine sc_get (ci := 9) (C := RX11) (T := TX11) (n := 22) S hK hV inX11_ hm0 rfl 10 (by decide) (S.2.2.2.2 _ (List.mem_of_getElem? (i := 1) rfl)) rfl rfl dX11_canBeNext_17 ?_
    refine lv_iload_n hx_ hb_ dX11_canBeNext_20 rfl (lv_at hl 2 rfl) ?_
    refine sc_iald S hK hV hm7 (by omega) dX11_canBeNext_21 ?_
    have hir := iand_r31 (a := A s) (b := v) (by omega) (by omega)
    refine sb_ne (tgt := 29) S dX11_canBeNext_22 (by decide) (by omega) (fun h22 => ?_) (fun h22 => ?_)
    · refine si_const S dX11_canBeNext_29 ?_
      exact sr_z E hQ (Or.inl rfl) dX11_canBeNext_30 ⟨Nat.le_of_ble_eq_true rfl, Nat.le_of_ble_eq_true rfl⟩ hV (⟨(bI_f (fun h => h22 ((nxS_i hA (by omega) hs).mpr h.2))).symm, rfl, rfl⟩)
    · refine si_const S dX11_canBeNext_25 ?_
      refine lv_goto (tgt := 30) hx_ hb_ dX11_canBeNext_26 (by decide) ?_
      exact sr_z E hQ (Or.inr rfl) dX11_canBeNext_30 ⟨Nat.le_of_ble_eq_true rfl, Nat.le_of_ble_eq_true rfl⟩ hV (⟨(bI_t ⟨h5, (nxS_i hA (by omega) hs).mp (by omega)⟩).symm, rfl, rfl⟩)
