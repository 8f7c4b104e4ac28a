/-! Doubles and floats that are no NaN. -/
/-- a datum of the format F, no NaN -/
def dpD : FP.Core.Datum → Prop
  | .nan => False
  | .inf _ => True
  | .fin _ c q => c < 9007199254740992 ∧ q ≤ 971
theorem dp_rr (s : Bool) (num den : Nat) (e : Int) : dpD (FP.Core.roundRatio FP.Core.b64 s num den e) := by
  have h1 : (2 : Nat) ^ (FP.Core.b64).p = 9007199254740992 := by decide +kernel
  have h2 : FP.Core.Fmt.tails FP.Core.b64 = 4503599627370496 := by decide +kernel
  have h3 : FP.Core.Fmt.qmax FP.Core.b64 = 971 := by decide +kernel
  have h4 : FP.Core.Fmt.qmin FP.Core.b64 = (-1074) := by decide +kernel
  unfold FP.Core.roundRatio
  split
  · exact ⟨by decide, by rw [h4]; decide⟩
  · unfold FP.Core.roundAt FP.Core.settle FP.Core.bound
    rw [h1, h2, h3]
    split
    · rename_i h5
      split
      · rename_i h6
        exact ⟨h5, h6⟩
      · exact True.intro
    · split
      · rename_i h6
        exact ⟨by decide, h6⟩
      · exact True.intro
theorem dp_enc {d : FP.Core.Datum} (h : dpD d) : FP.Core.encode FP.Core.b64 d % 9223372036854775808 ≤ 9218868437227405312 ∧ FP.Core.encode FP.Core.b64 d < 18446744073709551616 := by
  have h2 : FP.Core.Fmt.tails FP.Core.b64 = 4503599627370496 := by decide +kernel
  have h3 : FP.Core.Fmt.exps FP.Core.b64 = 2048 := by decide +kernel
  have h4 : FP.Core.Fmt.qmin FP.Core.b64 = (-1074) := by decide +kernel
  have ha : ∀ (s : Bool) (e t : Nat), ∃ n, n ≤ 1 ∧ FP.Core.assemble FP.Core.b64 s e t = (n * 2048 + e) * 4503599627370496 + t := by
    intro s e t
    refine ⟨s.toNat, by cases s <;> decide, ?_⟩
    unfold FP.Core.assemble
    rw [h2, h3]
  cases d with
  | nan => exact h.elim
  | inf s =>
    show FP.Core.assemble FP.Core.b64 s (FP.Core.Fmt.exps FP.Core.b64 - 1) 0 % _ ≤ _ ∧ FP.Core.assemble FP.Core.b64 s (FP.Core.Fmt.exps FP.Core.b64 - 1) 0 < _
    rw [h3]
    obtain ⟨n, hn, e⟩ := ha s (2048 - 1) 0
    rw [e]
    omega
  | fin s c q =>
    obtain ⟨hc, hq⟩ : c < 9007199254740992 ∧ q ≤ 971 := h
    show (if c < FP.Core.Fmt.tails FP.Core.b64 then FP.Core.assemble FP.Core.b64 s 0 c else FP.Core.assemble FP.Core.b64 s ((q - FP.Core.Fmt.qmin FP.Core.b64).toNat + 1) (c - FP.Core.Fmt.tails FP.Core.b64)) % _ ≤ _ ∧ (if c < FP.Core.Fmt.tails FP.Core.b64 then FP.Core.assemble FP.Core.b64 s 0 c else FP.Core.assemble FP.Core.b64 s ((q - FP.Core.Fmt.qmin FP.Core.b64).toNat + 1) (c - FP.Core.Fmt.tails FP.Core.b64)) < _
    rw [h2, h4]
    split
    · obtain ⟨n, hn, e⟩ := ha s 0 c
      rw [e]
      omega
    · obtain ⟨n, hn, e⟩ := ha s ((q - (-1074)).toNat + 1) (c - 4503599627370496)
      rw [e]
      omega
theorem dp_dec {n : Nat} (h : n % 9223372036854775808 ≤ 9218868437227405312) : FP.Core.decode FP.Core.b64 n ≠ .nan := by
  have h2 : FP.Core.Fmt.tails FP.Core.b64 = 4503599627370496 := by decide +kernel
  have h3 : FP.Core.Fmt.exps FP.Core.b64 = 2048 := by decide +kernel
  unfold FP.Core.decode FP.Core.fieldE FP.Core.fieldT
  rw [h2, h3]
  split
  · split
    · exact fun w => by cases w
    · omega
  · split
    · exact fun w => by cases w
    · exact fun w => by cases w
theorem dp_q {x y : FP.Core.Datum} (hx : x ≠ .nan) (hy : ∃ t d r, y = .fin t d r ∧ d ≠ 0) : dpD (FP.Core.quotient FP.Core.b64 x y) := by
  obtain ⟨t, d, r, rfl, hd⟩ := hy
  cases x with
  | nan => exact absurd rfl hx
  | inf s => exact True.intro
  | fin s c q =>
    show dpD (if d = 0 then (if c = 0 then .nan else .inf (s != t)) else FP.Core.roundRatio FP.Core.b64 (s != t) c d (q - r))
    rw [if_neg hd]
    exact dp_rr _ _ _ _
theorem dp_v {n : Nat} (h : n % 9223372036854775808 ≤ 9218868437227405312 ∧ n < 18446744073709551616) : vf_n64 (UInt64.ofNat n) := by
  unfold vf_n64
  rw [UInt64.le_iff_toNat_le, UInt64.toNat_and, show (UInt64.ofNat n).toNat = n from UInt64.toNat_ofNat_of_lt' h.2]
  show n &&& 9223372036854775807 ≤ 9218868437227405312
  rw [show (9223372036854775807 : Nat) = 2 ^ 63 - 1 by decide, Nat.and_two_pow_sub_one_eq_mod]
  exact h.1
theorem dp_r {d : FP.Core.Datum} (h : dpD d) : vf_n64 (UInt64.ofNat (FP.Core.encode FP.Core.b64 d)) ∧ FP.Core.decode FP.Core.b64 (UInt64.ofNat (FP.Core.encode FP.Core.b64 d)).toNat ≠ .nan := by
  have h1 := dp_enc h
  refine ⟨dp_v h1, ?_⟩
  rw [show (UInt64.ofNat (FP.Core.encode FP.Core.b64 d)).toNat = FP.Core.encode FP.Core.b64 d from UInt64.toNat_ofNat_of_lt' h1.2]
  exact dp_dec h1.1
theorem dp_i (z : Int32) : FP.Core.decode FP.Core.b64 (FP.i2d z).toNat ≠ .nan := (dp_r (dp_rr _ _ _ _)).2
def dpz : FP.Core.Datum → Bool
  | .fin _ d _ => d != 0
  | _ => false
theorem dpz_e {y : FP.Core.Datum} (h : dpz y = true) : ∃ t d r, y = .fin t d r ∧ d ≠ 0 := by
  cases y with
  | nan => cases h
  | inf s => cases h
  | fin s c q => exact ⟨s, c, q, rfl, by simpa [dpz] using h⟩
theorem dp_10 : ∀ k : Fin 10, dpz (FP.Core.decode FP.Core.b64 (FP.i2d (sI (((k : Nat) : Int) + 1))).toNat) = true := by decide +kernel
/-- a quotient of two numbers, the lower of 1 to 10 -/
theorem dp_div {a c : Int} (hc : 1 ≤ c ∧ c ≤ 10) : vf_n64 (FP.ddiv (FP.i2d (sI a)) (FP.i2d (sI c))) ∧ FP.Core.decode FP.Core.b64 (FP.ddiv (FP.i2d (sI a)) (FP.i2d (sI c))).toNat ≠ .nan := by
  have h1 := dp_10 ⟨(c - 1).toNat, by omega⟩
  rw [show (((c - 1).toNat : Nat) : Int) + 1 = c by omega] at h1
  exact dp_r (dp_q (dp_i _) (dpz_e h1))

/-- a datum of the format F, no NaN -/
def fpD : FP.Core.Datum → Prop
  | .nan => False
  | .inf _ => True
  | .fin _ c q => c < 16777216 ∧ q ≤ 104
theorem fp_rr (s : Bool) (num den : Nat) (e : Int) : fpD (FP.Core.roundRatio FP.Core.b32 s num den e) := by
  have h1 : (2 : Nat) ^ (FP.Core.b32).p = 16777216 := by decide +kernel
  have h2 : FP.Core.Fmt.tails FP.Core.b32 = 8388608 := by decide +kernel
  have h3 : FP.Core.Fmt.qmax FP.Core.b32 = 104 := by decide +kernel
  have h4 : FP.Core.Fmt.qmin FP.Core.b32 = (-149) := by decide +kernel
  unfold FP.Core.roundRatio
  split
  · exact ⟨by decide, by rw [h4]; decide⟩
  · unfold FP.Core.roundAt FP.Core.settle FP.Core.bound
    rw [h1, h2, h3]
    split
    · rename_i h5
      split
      · rename_i h6
        exact ⟨h5, h6⟩
      · exact True.intro
    · split
      · rename_i h6
        exact ⟨by decide, h6⟩
      · exact True.intro
theorem fp_enc {d : FP.Core.Datum} (h : fpD d) : FP.Core.encode FP.Core.b32 d % 2147483648 ≤ 2139095040 ∧ FP.Core.encode FP.Core.b32 d < 4294967296 := by
  have h2 : FP.Core.Fmt.tails FP.Core.b32 = 8388608 := by decide +kernel
  have h3 : FP.Core.Fmt.exps FP.Core.b32 = 256 := by decide +kernel
  have h4 : FP.Core.Fmt.qmin FP.Core.b32 = (-149) := by decide +kernel
  have ha : ∀ (s : Bool) (e t : Nat), ∃ n, n ≤ 1 ∧ FP.Core.assemble FP.Core.b32 s e t = (n * 256 + e) * 8388608 + t := by
    intro s e t
    refine ⟨s.toNat, by cases s <;> decide, ?_⟩
    unfold FP.Core.assemble
    rw [h2, h3]
  cases d with
  | nan => exact h.elim
  | inf s =>
    show FP.Core.assemble FP.Core.b32 s (FP.Core.Fmt.exps FP.Core.b32 - 1) 0 % _ ≤ _ ∧ FP.Core.assemble FP.Core.b32 s (FP.Core.Fmt.exps FP.Core.b32 - 1) 0 < _
    rw [h3]
    obtain ⟨n, hn, e⟩ := ha s (256 - 1) 0
    rw [e]
    omega
  | fin s c q =>
    obtain ⟨hc, hq⟩ : c < 16777216 ∧ q ≤ 104 := h
    show (if c < FP.Core.Fmt.tails FP.Core.b32 then FP.Core.assemble FP.Core.b32 s 0 c else FP.Core.assemble FP.Core.b32 s ((q - FP.Core.Fmt.qmin FP.Core.b32).toNat + 1) (c - FP.Core.Fmt.tails FP.Core.b32)) % _ ≤ _ ∧ (if c < FP.Core.Fmt.tails FP.Core.b32 then FP.Core.assemble FP.Core.b32 s 0 c else FP.Core.assemble FP.Core.b32 s ((q - FP.Core.Fmt.qmin FP.Core.b32).toNat + 1) (c - FP.Core.Fmt.tails FP.Core.b32)) < _
    rw [h2, h4]
    split
    · obtain ⟨n, hn, e⟩ := ha s 0 c
      rw [e]
      omega
    · obtain ⟨n, hn, e⟩ := ha s ((q - (-149)).toNat + 1) (c - 8388608)
      rw [e]
      omega
theorem fp_dec {n : Nat} (h : n % 2147483648 ≤ 2139095040) : FP.Core.decode FP.Core.b32 n ≠ .nan := by
  have h2 : FP.Core.Fmt.tails FP.Core.b32 = 8388608 := by decide +kernel
  have h3 : FP.Core.Fmt.exps FP.Core.b32 = 256 := by decide +kernel
  unfold FP.Core.decode FP.Core.fieldE FP.Core.fieldT
  rw [h2, h3]
  split
  · split
    · exact fun w => by cases w
    · omega
  · split
    · exact fun w => by cases w
    · exact fun w => by cases w
theorem fp_q {x y : FP.Core.Datum} (hx : x ≠ .nan) (hy : ∃ t d r, y = .fin t d r ∧ d ≠ 0) : fpD (FP.Core.quotient FP.Core.b32 x y) := by
  obtain ⟨t, d, r, rfl, hd⟩ := hy
  cases x with
  | nan => exact absurd rfl hx
  | inf s => exact True.intro
  | fin s c q =>
    show fpD (if d = 0 then (if c = 0 then .nan else .inf (s != t)) else FP.Core.roundRatio FP.Core.b32 (s != t) c d (q - r))
    rw [if_neg hd]
    exact fp_rr _ _ _ _
theorem fp_v {n : Nat} (h : n % 2147483648 ≤ 2139095040 ∧ n < 4294967296) : vf_n32 (UInt32.ofNat n) := by
  unfold vf_n32
  rw [UInt32.le_iff_toNat_le, UInt32.toNat_and, show (UInt32.ofNat n).toNat = n from UInt32.toNat_ofNat_of_lt' h.2]
  show n &&& 2147483647 ≤ 2139095040
  rw [show (2147483647 : Nat) = 2 ^ 31 - 1 by decide, Nat.and_two_pow_sub_one_eq_mod]
  exact h.1
theorem fp_r {d : FP.Core.Datum} (h : fpD d) : vf_n32 (UInt32.ofNat (FP.Core.encode FP.Core.b32 d)) ∧ FP.Core.decode FP.Core.b32 (UInt32.ofNat (FP.Core.encode FP.Core.b32 d)).toNat ≠ .nan := by
  have h1 := fp_enc h
  refine ⟨fp_v h1, ?_⟩
  rw [show (UInt32.ofNat (FP.Core.encode FP.Core.b32 d)).toNat = FP.Core.encode FP.Core.b32 d from UInt32.toNat_ofNat_of_lt' h1.2]
  exact fp_dec h1.1
theorem fp_i (z : Int32) : FP.Core.decode FP.Core.b32 (FP.i2f z).toNat ≠ .nan := (fp_r (fp_rr _ _ _ _)).2
def fpz : FP.Core.Datum → Bool
  | .fin _ d _ => d != 0
  | _ => false
theorem fpz_e {y : FP.Core.Datum} (h : fpz y = true) : ∃ t d r, y = .fin t d r ∧ d ≠ 0 := by
  cases y with
  | nan => cases h
  | inf s => cases h
  | fin s c q => exact ⟨s, c, q, rfl, by simpa [fpz] using h⟩
theorem fp_10 : ∀ k : Fin 10, fpz (FP.Core.decode FP.Core.b32 (FP.i2f (sI (((k : Nat) : Int) + 1))).toNat) = true := by decide +kernel
/-- a quotient of two numbers, the lower of 1 to 10 -/
theorem fp_div {a c : Int} (hc : 1 ≤ c ∧ c ≤ 10) : vf_n32 (FP.fdiv (FP.i2f (sI a)) (FP.i2f (sI c))) ∧ FP.Core.decode FP.Core.b32 (FP.fdiv (FP.i2f (sI a)) (FP.i2f (sI c))).toNat ≠ .nan := by
  have h1 := fp_10 ⟨(c - 1).toNat, by omega⟩
  rw [show (((c - 1).toNat : Nat) : Int) + 1 = c by omega] at h1
  exact fp_r (fp_q (fp_i _) (fpz_e h1))

/-- a float as a double -/
theorem dp_f2d {x : UInt32} (h : FP.Core.decode FP.Core.b32 x.toNat ≠ .nan) : vf_n64 (FP.f2d x) ∧ FP.Core.decode FP.Core.b64 (FP.f2d x).toNat ≠ .nan := by
  have h1 : FP.f2d x = FP.Core.f2d x := if_neg (by
    show ¬ (decide (FP.Core.decode FP.Core.b32 x.toNat = .nan) = true)
    rw [decide_eq_true_eq]
    exact h)
  rw [h1]
  refine dp_r (d := FP.Core.round FP.Core.b64 (FP.Core.decode FP.Core.b32 x.toNat)) ?_
  cases hd : FP.Core.decode FP.Core.b32 x.toNat with
  | nan => exact absurd hd h
  | inf s => exact True.intro
  | fin s c q => exact dp_rr _ _ _ _
theorem dp_cc (z : Int) : compare z z = Ordering.eq := by
  show compareOfLessAndEq z z = Ordering.eq
  unfold compareOfLessAndEq
  rw [if_neg (Int.lt_irrefl z), if_pos rfl]
/-- a double that is no NaN equals itself -/
theorem dp_cmp {x : UInt64} (h : FP.Core.decode FP.Core.b64 x.toNat ≠ .nan) : FP.dcmp x x = some .eq := by
  show FP.Core.order (FP.Core.decode FP.Core.b64 x.toNat) (FP.Core.decode FP.Core.b64 x.toNat) = some .eq
  cases hd : FP.Core.decode FP.Core.b64 x.toNat with
  | nan => exact absurd hd h
  | inf s => exact congrArg some (dp_cc _)
  | fin s c q => exact congrArg some (dp_cc _)
theorem dp_0 : FP.Core.decode FP.Core.b64 FP.dconst0.toNat ≠ .nan := by decide +kernel
theorem fp_0 : FP.Core.decode FP.Core.b32 FP.fconst0.toNat ≠ .nan := by decide +kernel
