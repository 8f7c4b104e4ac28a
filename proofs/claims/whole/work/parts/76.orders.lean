/-! The class's Orders: what scratches what, and the ways to each set. -/
section SV
variable {p : Program} {l : Launch} {e : Env} {R : Room} {s : State} {m : MethodId} {args : Array Value} {below : List Frame} {meth : Method} {c : Code} {H : Heap} {locs : List Loc} {cells slots : Nat} {Q : State → Prop}
variable {cc : ByteArray} {nL : Nat} {Ts : List Cond} {own nm : String} {pc : Nat} {ls : Array Slot} {rest : List Value} {ret : Option FieldType}
variable {G : sG} {b : Nat} {M M0 : sM} {N N0 : Nat}
variable {y : MethodName} {bytes : ByteArray} {maxL mc ms n index : Nat} {yret : Option FieldType} {ws : List Cond} {rm : Room} {C : String} {a : Nat} {As stk : List Value}
theorem sk_Sv (E : sE p l e R s m args below meth c cc nL Ts own nm ret G b M0 N0) (hV : sV G b M N s H locs) {post : sM → Nat → Prop} (hM : cV l y ws rm G b M N As post) (cw : CallB R s args own index y bytes maxL none ws rm rm.cells rm.slots n ∧ (Cond.static y).before args s = true) (hst : stk = As.reverse ++ rest) (hn : As.length = n) (hsz : ls.size = nL) (hroom : (rest.map fun v => v.category).sum ≤ 8) (hdg : decode cc pc = .ok (.invokestatic index, 3)) {c1 s1 : Nat} (hf : (cells + rm.cells = c1 ∧ slots + rm.slots = s1) ∧ c1 ≤ R.cells ∧ s1 ≤ R.slots)
    (kk : ∀ (M1 : sM) (N1 : Nat) (H1 : Heap) (locs1 : List Loc), post M1 N1 → sV G b M1 N1 s H1 locs1 → W p l e R s m args below meth c H1 locs1 c1 s1 Q (F0 m (pc + 3) ls rest)) : W p l e R s m args below meth c H locs cells slots Q (F0 m pc ls stk) :=
  va_callv (va_runS E.1 hM cw ⟨sU.blind, fun U hU hW => ⟨rfl, sU.of E.2.2.2.2.1 hV E.2.2.2.2.2.1 U hU hW⟩⟩ rfl hn hsz hst (lv_room hroom) hdg (by rw [hf.1.1, hf.1.2]; exact hf.2)) hV.2.1 (fun q _ h => h) (fun q h => h) (fun u t H1 locs1 ht hvm hp hB hz hk hS1 => W.cs hf.1.1 hf.1.2 (kk u.1 u.2 H1 locs1 hp ⟨ht ▸ hB, hS1, hV.2.2⟩))
end SV
theorem iand_nx (a v : Int) : iand a (ixor v (-1)) = ixor a (iand a v) := by
  have h : sI a &&& (sI v ^^^ sI (-1)) = sI a ^^^ (sI a &&& sI v) := by
    apply Int32.toBitVec_inj.mp
    rw [Int32.toBitVec_and, Int32.toBitVec_xor, Int32.toBitVec_xor, Int32.toBitVec_and, show (sI (-1)).toBitVec = BitVec.allOnes 32 from rfl]
    generalize (sI a).toBitVec = x
    generalize (sI v).toBitVec = y
    apply BitVec.eq_of_getLsbD_eq
    intro i hi
    rw [BitVec.getLsbD_and, BitVec.getLsbD_xor, BitVec.getLsbD_xor, BitVec.getLsbD_and, BitVec.getLsbD_allOnes, decide_eq_true hi]
    cases x.getLsbD i <;> cases y.getLsbD i <;> rfl
  show (sI a &&& sI (ixor v (-1))).toInt = (sI a ^^^ sI (iand a v)).toInt
  rw [← sI_xor, ← sI_and, h]
theorem ixor_0 {a b : Int} (ha : 0 ≤ a ∧ a ≤ 2147483647) (hb : 0 ≤ b ∧ b ≤ 2147483647) : ixor a b = 0 ↔ b = a := by
  rw [ixor_n ha hb]
  constructor
  · intro h
    have h2 : a.toNat ^^^ b.toNat = 0 := by omega
    have h3 : a.toNat = b.toNat := Nat.eq_of_testBit_eq fun i => by
      have h4 := Nat.testBit_xor a.toNat b.toNat i
      rw [h2, Nat.zero_testBit] at h4
      cases h5 : a.toNat.testBit i <;> cases h6 : b.toNat.testBit i <;> rw [h5, h6] at h4 <;> first | rfl | exact absurd h4 (by decide)
    omega
  · intro h
    rw [h, Nat.xor_self]
    rfl
theorem iand_nx0 {a v : Int} (ha : 0 ≤ a ∧ a ≤ 2147483647) (hv : 0 ≤ v ∧ v ≤ 2147483647) : iand a (ixor v (-1)) = 0 ↔ ∀ o, 0 ≤ o → tb a o → tb v o := by
  rw [iand_nx, ixor_0 ha (iand_r31 ha hv)]
  exact iand_sub ha hv
/-- who scratches stays among the stones -/
theorem doP_r {f : sF} (hok : sOk f) {a b : Int} (h : doP f a b) : (0 ≤ a ∧ a < f 568) ∧ (0 ≤ b ∧ b < f 568) ∧ a ≠ b := by
  obtain ⟨k, h1, h2, h3, h4⟩ := h
  have := sOk_C hok k h1 h2
  omega
def sfP (f T : sF) : Prop := ∀ s, 0 ≤ s → s < 10 → (0 ≤ T s ∧ T s ≤ 2147483647) ∧ ∀ o, 0 ≤ o → (tb (T s) o ↔ doP f s o)
def haP (f T : sF) : Prop := ∀ s, 0 ≤ s → s < 10 → (0 ≤ T s ∧ T s ≤ 2147483647) ∧ ∀ o, 0 ≤ o → (tb (T s) o ↔ doP f o s)
def sfQ (f : sF) (k : Int) (T : sF) : Prop := ∀ s, 0 ≤ s → s < 10 → (0 ≤ T s ∧ T s ≤ 2147483647) ∧ ∀ o, 0 ≤ o → (tb (T s) o ↔ ∃ j, 0 ≤ j ∧ j < k ∧ f (70 + j) = s ∧ f (110 + j) = o)
theorem sfQ_0 {f T : sF} (h : ∀ s, 0 ≤ s → s < 10 → T s = 0) : sfQ f 0 T := fun s a b => by
  rw [h s a b]
  exact ⟨by omega, fun o c => ⟨fun q => absurd q (tb_0 o), fun ⟨j, h1, h2, _⟩ => by omega⟩⟩
theorem sfQ_s {f T : sF} {k : Int} (hk : 0 ≤ k) (h0 : 0 ≤ f (110 + k) ∧ f (110 + k) ≤ 30) (h : sfQ f k T) : sfQ f (k + 1) (iup T (f (70 + k)) (ior (T (f (70 + k))) (ishl 1 (f (110 + k))))) := fun s a b => by
  have h1 := h s a b
  unfold iup
  by_cases e : s = f (70 + k)
  · rw [if_pos e, ← e]
    refine ⟨ior_r31 h1.1 (ishl_r31 h0), fun o c => ?_⟩
    rw [tb_or h1.1 (ishl_r31 h0), tb_one h0 c, h1.2 o c]
    constructor
    · rintro (⟨j, c1, c2, c3⟩ | q)
      · exact ⟨j, c1, by omega, c3⟩
      · exact ⟨k, hk, by omega, e.symm, q.symm⟩
    · rintro ⟨j, c1, c2, c3, c4⟩
      by_cases e2 : j = k
      · subst e2; exact Or.inr c4.symm
      · exact Or.inl ⟨j, c1, by omega, c3, c4⟩
  · rw [if_neg e]
    refine ⟨h1.1, fun o c => ?_⟩
    rw [h1.2 o c]
    constructor
    · rintro ⟨j, c1, c2, c3⟩
      exact ⟨j, c1, by omega, c3⟩
    · rintro ⟨j, c1, c2, c3, c4⟩
      by_cases e2 : j = k
      · subst e2; exact absurd c3.symm e
      · exact ⟨j, c1, by omega, c3, c4⟩
theorem sfQ_e {f T : sF} {k : Int} (hk : k = f 569) (h : sfQ f k T) : sfP f T := by
  rw [hk] at h
  exact h
/-- the harder ones, up to the stone a and behind it up to b -/
def haQ2 (f : sF) (a b : Int) (T : sF) : Prop := ∀ s, 0 ≤ s → s < 10 → (0 ≤ T s ∧ T s ≤ 2147483647) ∧ ∀ o, 0 ≤ o → (tb (T s) o ↔ doP f o s ∧ (o < a ∨ (o = a ∧ s < b)))
theorem haQ2_0 {f T : sF} (h : ∀ s, 0 ≤ s → s < 10 → T s = 0) : haQ2 f 0 0 T := fun s a b => by
  rw [h s a b]
  exact ⟨by omega, fun o c => ⟨fun q => absurd q (tb_0 o), fun ⟨_, q⟩ => by omega⟩⟩
theorem haQ2_n {f T : sF} {a b : Int} (hb : 10 ≤ b) (h : haQ2 f a b T) : haQ2 f (a + 1) 0 T := fun s c d => ⟨(h s c d).1, fun o e => by
  rw [(h s c d).2 o e]
  exact ⟨fun ⟨q, r⟩ => ⟨q, by omega⟩, fun ⟨q, r⟩ => ⟨q, by omega⟩⟩⟩
theorem haQ2_f {f T : sF} {a b : Int} (hn : ¬ doP f a b) (h : haQ2 f a b T) : haQ2 f a (b + 1) T := fun s c d => ⟨(h s c d).1, fun o e => by
  rw [(h s c d).2 o e]
  constructor
  · exact fun ⟨q, r⟩ => ⟨q, by omega⟩
  · rintro ⟨q, r⟩
    by_cases e2 : o = a ∧ s = b
    · rw [e2.1, e2.2] at q; exact absurd q hn
    · exact ⟨q, by omega⟩⟩
theorem haQ2_t {f T : sF} {a b : Int} (ha : 0 ≤ a ∧ a ≤ 30) (hn : doP f a b) (h : haQ2 f a b T) : haQ2 f a (b + 1) (iup T b (ior (T b) (ishl 1 a))) := fun s c d => by
  have h1 := h s c d
  unfold iup
  by_cases e : s = b
  · rw [if_pos e, ← e]
    refine ⟨ior_r31 h1.1 (ishl_r31 ha), fun o e2 => ?_⟩
    rw [tb_or h1.1 (ishl_r31 ha), tb_one ha e2, h1.2 o e2]
    constructor
    · rintro (⟨q, r⟩ | q)
      · exact ⟨q, by omega⟩
      · rw [q, e]; exact ⟨hn, by omega⟩
    · rintro ⟨q, r⟩
      by_cases e3 : o = a
      · exact Or.inr e3
      · exact Or.inl ⟨q, by omega⟩
  · rw [if_neg e]
    refine ⟨h1.1, fun o e2 => ?_⟩
    rw [h1.2 o e2]
    exact ⟨fun ⟨q, r⟩ => ⟨q, by omega⟩, fun ⟨q, r⟩ => ⟨q, by omega⟩⟩
theorem haQ2_e {f T : sF} (hok : sOk f) {a : Int} (ha : 10 ≤ a) (h : haQ2 f a 0 T) : haP f T := fun s c d => ⟨(h s c d).1, fun o e => by
  rw [(h s c d).2 o e]
  have hn := (sOk_N hok).1
  exact ⟨fun q => q.1, fun q => ⟨q, by have := doP_r hok q; omega⟩⟩⟩
theorem nx_ha {f T : sF} (hok : sOk f) (hT : haP f T) {v s : Int} (hv : 0 ≤ v ∧ v ≤ 1073741823) (hs : 0 ≤ s ∧ s < f 568) (h : ¬ tb v s) : iand (T s) (ixor v (-1)) = 0 ↔ nxS f v s := by
  have hn := (sOk_N hok).1
  have h1 := hT s hs.1 (by omega)
  rw [iand_nx0 h1.1 (by omega)]
  constructor
  · exact fun q => ⟨h, fun o a b c => q o a ((h1.2 o a).mpr c)⟩
  · exact fun q o a b => q.2 o a (doP_r hok ((h1.2 o a).mp b)).1.2 ((h1.2 o a).mp b)
section WX
variable {n : Int} {N : Int → Int → Prop} {W : Int → Int}
theorem wyI_z {v s : Int} (h0 : W v = 0) (h : wyI n N W v s) : wyI n N W (v + 1) 0 := fun u a b => by
  rw [h u a b]
  congr 1
  refine isum_c fun t c d => ?_
  show pif (tb u t ∧ N (u - p2 t) t ∧ (u - p2 t < v ∨ (u - p2 t = v ∧ t < s))) (W (u - p2 t)) 0 = pif (tb u t ∧ N (u - p2 t) t ∧ (u - p2 t < v + 1 ∨ (u - p2 t = v + 1 ∧ t < 0))) (W (u - p2 t)) 0
  by_cases e : u - p2 t = v
  · rw [e, h0]
    rcases pif_cases (tb u t ∧ N v t ∧ (v < v ∨ (v = v ∧ t < s))) 0 0 with ⟨-, e2⟩ | ⟨-, e2⟩ <;> rw [e2] <;> rcases pif_cases (tb u t ∧ N v t ∧ (v < v + 1 ∨ (v = v + 1 ∧ t < 0))) 0 0 with ⟨-, e3⟩ | ⟨-, e3⟩ <;> rw [e3]
  · exact pif_c ⟨fun q => ⟨q.1, q.2.1, by omega⟩, fun q => ⟨q.1, q.2.1, by omega⟩⟩
/-- up to v the ways are those of the whole -/
theorem wy_p {W2 : Int → Int} {v s : Int} (h : wyI n N W v s) (h2 : wyR n N W2) : ∀ u, 0 ≤ u → u ≤ v → u < p2 n → W u = W2 u := by
  have key : ∀ m : Nat, ∀ u : Int, 0 ≤ u → u ≤ v → u < p2 n → u < (m : Int) → W u = W2 u := by
    intro m
    induction m with
    | zero => intro u a _ _ c; omega
    | succ m ih =>
      intro u a b c d
      rw [h u a c]
      by_cases e : u = 0
      · subst e
        rw [h2.1, if_pos rfl, isum_z fun t _ _ => pif_f fun q => tb_0 t q.1]
        rfl
      · rw [h2.2 u (by omega) c, if_neg e, Int.zero_add]
        exact isum_c fun t c1 c2 => pif_cc ⟨fun q => ⟨q.1, q.2.1⟩, fun q => ⟨q.1, q.2, Or.inl (by have := p2_p t; omega)⟩⟩ fun q => by
          have h5 := tb_sub a q.1
          have h6 := p2_p t
          exact ih (u - p2 t) (by omega) (by omega) (by omega) (by omega)
  exact fun u a b c => key (u.toNat + 1) u a b c (by omega)
theorem wyR_ex (hn : 0 ≤ n ∧ n ≤ 29) (hN : ∀ v s, N v s → ¬ tb v s) : ∃ W, wyR n N W := by
  have key : ∀ m : Nat, (m : Int) ≤ p2 n → ∃ W, wyI n N W (m : Int) 0 := by
    intro m
    induction m with
    | zero => exact fun _ => ⟨fun u => if u = 0 then 1 else 0, wyI_0 fun _ _ _ => rfl⟩
    | succ m ih =>
      intro hm
      obtain ⟨W0, h0⟩ := ih (by omega)
      have k2 : ∀ j : Nat, (j : Int) ≤ n → ∃ W, wyI n N W (m : Int) (j : Int) := by
        intro j
        induction j with
        | zero => exact fun _ => ⟨W0, h0⟩
        | succ j jh =>
          intro hj
          obtain ⟨W1, h1⟩ := jh (by omega)
          by_cases q : N (m : Int) (j : Int)
          · exact ⟨_, wyI_t hn hN h1 (by omega) (by omega) q⟩
          · exact ⟨W1, wyI_f h1 q⟩
      obtain ⟨W2, h2⟩ := k2 n.toNat (by omega)
      rw [show ((n.toNat : Nat) : Int) = n by omega] at h2
      exact ⟨W2, wyI_n h2⟩
  have hp := p2_p n
  obtain ⟨W, h⟩ := key (p2 n).toNat (by omega)
  exact ⟨W, wyI_e (by omega) h⟩
theorem rsR_ex (hn : 0 ≤ n ∧ n ≤ 29) (hN : ∀ v s, N v s → ¬ tb v s) : ∃ R, rsR n N R := by
  have key : ∀ m : Nat, (m : Int) ≤ p2 n → ∃ R, rsI n N R (p2 n - 1 - (m : Int)) := by
    intro m
    induction m with
    | zero => exact fun _ => ⟨fun _ => 0, fun u a b c => by omega⟩
    | succ m ih =>
      intro hm
      obtain ⟨R, h⟩ := ih (by omega)
      refine ⟨iup R (p2 n - 1 - (m : Int)) ((if p2 n - 1 - (m : Int) = p2 n - 1 then 1 else 0) + isum n (fun t => pif (N (p2 n - 1 - (m : Int)) t) (R (p2 n - 1 - (m : Int) + p2 t)) 0)), ?_⟩
      rw [show p2 n - 1 - ((m + 1 : Nat) : Int) = p2 n - 1 - (m : Int) - 1 by omega]
      exact rsI_n hn hN (rsI_up h) (by rw [rsV_c]; exact if_pos rfl)
  have hp := p2_p n
  obtain ⟨R, h⟩ := key (p2 n).toNat (by omega)
  exact ⟨R, rsI_e hn (by omega) h⟩
end WX
theorem wyC_R (f : sF) (hn : 0 ≤ f 568 ∧ f 568 ≤ 10) : wyR (f 568) (nxS f) (wyC f) := by
  obtain ⟨W, h⟩ := wyR_ex (n := f 568) (by omega) (nxS_n (f := f))
  exact (wyC_eq h).1
theorem rsC_R (f : sF) (hn : 0 ≤ f 568 ∧ f 568 ≤ 10) : rsR (f 568) (nxS f) (rsC f) := by
  obtain ⟨R, h⟩ := rsR_ex (n := f 568) (by omega) (nxS_n (f := f))
  exact (rsC_eq (by omega) h).1
theorem ctC (f : sF) (hn : 0 ≤ f 568 ∧ f 568 ≤ 10) : ctP f (wyC f) (rsC f) := ⟨wyC_R f hn, rsC_R f hn, fun _ _ _ => rfl, fun _ _ _ => rfl⟩
theorem wyC_c {f f2 : sF} (h : f 568 = f2 568) (h2 : nxS f = nxS f2) : wyC f = wyC f2 := by unfold wyC; rw [h, h2]
theorem rsC_c {f f2 : sF} (h : f 568 = f2 568) (h2 : nxS f = nxS f2) : rsC f = rsC f2 := by unfold rsC; rw [h, h2]
/-- a way on from a set that has ways -/
theorem wy_go {f : sF} (hn : 0 ≤ f 568 ∧ f 568 ≤ 10) {v s : Int} (hv : 0 ≤ v ∧ v < p2 (f 568)) (hs : 0 ≤ s ∧ s < f 568) (h : nxS f v s) (h2 : 0 < wyC f v) : 0 < wyC f (v + p2 s) := by
  have hR := wyC_R f hn
  have h3 := nx_lt hv hs (by omega) h.1
  have h4 := p2_p s
  have h9 := p2_29 (n := f 568) (by omega)
  have h5 := hR.2 (v + p2 s) (by omega) h3
  have h6 := isum_le (n := f 568) (g := fun t => if t = s then wyC f v else 0) (g' := fun t => pif (tb (v + p2 s) t ∧ nxS f (v + p2 s - p2 t) t) (wyC f (v + p2 s - p2 t)) 0) (fun k a b => by
    show (if k = s then wyC f v else 0) ≤ pif (tb (v + p2 s) k ∧ nxS f (v + p2 s - p2 k) k) (wyC f (v + p2 s - p2 k)) 0
    by_cases e : k = s
    · rw [if_pos e, e, show v + p2 s - p2 s = v by omega, pif_t ⟨(tb_add (by omega) (by omega) hs.1 h.1).mpr (Or.inr rfl), h⟩]
      exact Int.le_refl _
    · rw [if_neg e]
      rcases pif_cases (tb (v + p2 s) k ∧ nxS f (v + p2 s - p2 k) k) (wyC f (v + p2 s - p2 k)) 0 with ⟨q, e2⟩ | ⟨q, e2⟩
      · rw [e2]
        have := tb_sub (by omega) q.1
        have := p2_p k
        exact (wyW_r hn hR (v + p2 s - p2 k) (by omega) (by omega)).1
      · rw [e2]; omega)
  have h7 := isum_pick (n := f 568) (fun t => if t = s then wyC f v else 0) hs (fun k a b c => if_neg c)
  rw [if_pos rfl] at h7
  omega

abbrev rmX5_init : Room := { frames := 1, cells := 9, slots := 2299, locals := 40 }
set_option maxHeartbeats 4000000 in
set_option maxRecDepth 100000 in
theorem kX5_init (l_ : Launch) (G : sG) (b_ : Nat) (M : sM) (N : Nat) (o : Nat) (ho0 : M o = some (sObj 3 [.null, .null, .null, .null, .null, .null, .null, .null, .null, .int (sI 0), .int (sI 0)])) (hN : N = o + 1) : cV l_ yX5_init wsX5_init rmX5_init G b_ M N [.ref o] (fun M1 N1 => N1 = o + 10 ∧ M1 o = some (sObj 3 [.ref (o + 1), .ref (o + 2), .ref (o + 3), .ref (o + 4), .ref (o + 5), .ref (o + 6), .ref (o + 7), .ref (o + 8), .ref (o + 9), .int (sI 0), .int (sI (-1))]) ∧ M1 (o + 1) = some (sArr G 10 (fun _ => 0)) ∧ M1 (o + 2) = some (sArr G 10 (fun _ => 0)) ∧ M1 (o + 3) = some (sArr G 10 (fun _ => 0)) ∧ M1 (o + 4) = some (sArr G 1024 (fun _ => 0)) ∧ M1 (o + 5) = some (sArr G 1024 (fun _ => 0)) ∧ M1 (o + 6) = some (sArr G 100 (fun _ => 0)) ∧ M1 (o + 7) = some (sArr G 100 (fun _ => 0)) ∧ M1 (o + 8) = some (sArr G 11 (fun _ => 0)) ∧ M1 (o + 9) = some (sArr G 10 (fun _ => 0)) ∧ (∀ x : Nat, ¬ (x = o) → ¬ (x = o + 1) → ¬ (x = o + 2) → ¬ (x = o + 3) → ¬ (x = o + 4) → ¬ (x = o + 5) → ¬ (x = o + 6) → ¬ (x = o + 7) → ¬ (x = o + 8) → ¬ (x = o + 9) → M1 x = M x)) := by
  refine sE.ofV (cc := cX5_init) (nL := 1) (ret := none) (by decide) rfl (Nat.le_of_ble_eq_true rfl) ?_
  intro p_ e_ s_ m_ args_ below_ meth_ c_ ls Q hQ E hl
  have E : sE p_ l_ e_ rmX5_init s_ m_ args_ below_ meth_ c_ cX5_init 1 wsX5_init RX5 "<init>" none G b_ M N := E
  have S := E.1
  have hx_ := S.1
  have hb_ := S.2.1
  have hK := E.2.2.2.2.1
  have hV := E.2.2.2.2.2.2
  have hnm := E.2.2.2.1
  have hl : lv_has ls 1 [(0, .ref o)] := hl
  have inX5_ : ∀ w ∈ wsX50, w ∈ wsX5_init := fun _ h => List.mem_cons_of_mem _ (List.mem_append_right _ h)
  have hbN : b_ ≤ N := by have h1 := hV.1.1; have h2 := hV.2.2; omega
  subst hN
  refine lv_aload_n hx_ hb_ dX5_init_0 rfl (lv_at hl 0 rfl) ?_
  refine W.objInit hx_ hb_ S.2.2.2.1 (S.2.2.2.2 _ (List.mem_of_getElem? (i := 1) rfl)) (S.2.2.2.2 _ (List.mem_of_getElem? (i := 2) rfl)) (S.2.2.2.2 _ (List.mem_of_getElem? (i := 3) rfl)) rfl (by rw [S.2.2.1]; exact hl.1) rfl dX5_init_1 (Nat.le_of_ble_eq_true rfl) (Nat.le_of_ble_eq_true rfl) ?_
  refine W.eq (g2 := F0 m_ 4 ls []) rfl ?_
  refine lv_aload_n hx_ hb_ dX5_init_4 rfl (lv_at hl 0 rfl) ?_
  refine si_bipush S dX5_init_5 (by decide) ?_
  refine sc_newa S hK hV (S.2.2.2.2 _ (List.mem_of_getElem? (i := 4) rfl)) (N0 := 10) ⟨rfl, Nat.le_of_ble_eq_true rfl⟩ ⟨Nat.le_of_ble_eq_true rfl, Nat.le_of_ble_eq_true rfl⟩ dX5_init_7 (fun M1 H locs hM1 hV => ?_)
  have hc2 : M1 (o + 1) = some (sArr G 10 (fun _ => 0)) := (congrFun hM1 (o + 1)).trans (va_up_self M (o + 1) _)
  have hc3 : M1 o = some (sObj 3 [.null, .null, .null, .null, .null, .null, .null, .null, .null, .int (sI 0), .int (sI 0)]) := ((congrFun hM1 o).trans (va_up_ne M _ (by omega))).trans ho0
  refine sc_putF (ci := 3) (C := RX5) (T := TX5) (n := 11) S hK hV inX5_ tyX5_ok nmX5 hc3 rfl 0 (by decide) (S.2.2.2.2 _ (List.mem_of_getElem? (i := 5) rfl)) rfl rfl hnm rfl rfl rfl (Nat.le_of_ble_eq_true rfl) dX5_init_9 (fs1 := [.ref (o + 1), .null, .null, .null, .null, .null, .null, .null, .null, .int (sI 0), .int (sI 0)]) rfl (fun M4 H locs hM4 hV => ?_)
  have hc5 : M4 o = some (sObj 3 [.ref (o + 1), .null, .null, .null, .null, .null, .null, .null, .null, .int (sI 0), .int (sI 0)]) := (congrFun hM4 o).trans (va_up_self M1 o _)
  refine lv_aload_n hx_ hb_ dX5_init_12 rfl (lv_at hl 0 rfl) ?_
  refine si_bipush S dX5_init_13 (by decide) ?_
  refine sc_newa S hK hV (S.2.2.2.2 _ (List.mem_of_getElem? (i := 4) rfl)) (N0 := 10) ⟨rfl, Nat.le_of_ble_eq_true rfl⟩ ⟨Nat.le_of_ble_eq_true rfl, Nat.le_of_ble_eq_true rfl⟩ dX5_init_15 (fun M6 H locs hM6 hV => ?_)
  have hc7 : M6 (o + 2) = some (sArr G 10 (fun _ => 0)) := (congrFun hM6 (o + 2)).trans (va_up_self M4 (o + 2) _)
  have hc8 : M6 o = some (sObj 3 [.ref (o + 1), .null, .null, .null, .null, .null, .null, .null, .null, .int (sI 0), .int (sI 0)]) := ((congrFun hM6 o).trans (va_up_ne M4 _ (by omega))).trans hc5
  refine sc_putF (ci := 3) (C := RX5) (T := TX5) (n := 11) S hK hV inX5_ tyX5_ok nmX5 hc8 rfl 1 (by decide) (S.2.2.2.2 _ (List.mem_of_getElem? (i := 6) rfl)) rfl rfl hnm rfl rfl rfl (Nat.le_of_ble_eq_true rfl) dX5_init_17 (fs1 := [.ref (o + 1), .ref (o + 2), .null, .null, .null, .null, .null, .null, .null, .int (sI 0), .int (sI 0)]) rfl (fun M9 H locs hM9 hV => ?_)
  have hc10 : M9 o = some (sObj 3 [.ref (o + 1), .ref (o + 2), .null, .null, .null, .null, .null, .null, .null, .int (sI 0), .int (sI 0)]) := (congrFun hM9 o).trans (va_up_self M6 o _)
  refine lv_aload_n hx_ hb_ dX5_init_20 rfl (lv_at hl 0 rfl) ?_
  refine si_bipush S dX5_init_21 (by decide) ?_
  refine sc_newa S hK hV (S.2.2.2.2 _ (List.mem_of_getElem? (i := 4) rfl)) (N0 := 10) ⟨rfl, Nat.le_of_ble_eq_true rfl⟩ ⟨Nat.le_of_ble_eq_true rfl, Nat.le_of_ble_eq_true rfl⟩ dX5_init_23 (fun M11 H locs hM11 hV => ?_)
  have hc12 : M11 (o + 3) = some (sArr G 10 (fun _ => 0)) := (congrFun hM11 (o + 3)).trans (va_up_self M9 (o + 3) _)
  have hc13 : M11 o = some (sObj 3 [.ref (o + 1), .ref (o + 2), .null, .null, .null, .null, .null, .null, .null, .int (sI 0), .int (sI 0)]) := ((congrFun hM11 o).trans (va_up_ne M9 _ (by omega))).trans hc10
  refine sc_putF (ci := 3) (C := RX5) (T := TX5) (n := 11) S hK hV inX5_ tyX5_ok nmX5 hc13 rfl 2 (by decide) (S.2.2.2.2 _ (List.mem_of_getElem? (i := 7) rfl)) rfl rfl hnm rfl rfl rfl (Nat.le_of_ble_eq_true rfl) dX5_init_25 (fs1 := [.ref (o + 1), .ref (o + 2), .ref (o + 3), .null, .null, .null, .null, .null, .null, .int (sI 0), .int (sI 0)]) rfl (fun M14 H locs hM14 hV => ?_)
  have hc15 : M14 o = some (sObj 3 [.ref (o + 1), .ref (o + 2), .ref (o + 3), .null, .null, .null, .null, .null, .null, .int (sI 0), .int (sI 0)]) := (congrFun hM14 o).trans (va_up_self M11 o _)
  refine lv_aload_n hx_ hb_ dX5_init_28 rfl (lv_at hl 0 rfl) ?_
  refine si_sipush S dX5_init_29 (by decide) ?_
  refine sc_newa S hK hV (S.2.2.2.2 _ (List.mem_of_getElem? (i := 4) rfl)) (N0 := 1024) ⟨rfl, Nat.le_of_ble_eq_true rfl⟩ ⟨Nat.le_of_ble_eq_true rfl, Nat.le_of_ble_eq_true rfl⟩ dX5_init_32 (fun M16 H locs hM16 hV => ?_)
  have hc17 : M16 (o + 4) = some (sArr G 1024 (fun _ => 0)) := (congrFun hM16 (o + 4)).trans (va_up_self M14 (o + 4) _)
  have hc18 : M16 o = some (sObj 3 [.ref (o + 1), .ref (o + 2), .ref (o + 3), .null, .null, .null, .null, .null, .null, .int (sI 0), .int (sI 0)]) := ((congrFun hM16 o).trans (va_up_ne M14 _ (by omega))).trans hc15
  refine sc_putF (ci := 3) (C := RX5) (T := TX5) (n := 11) S hK hV inX5_ tyX5_ok nmX5 hc18 rfl 3 (by decide) (S.2.2.2.2 _ (List.mem_of_getElem? (i := 8) rfl)) rfl rfl hnm rfl rfl rfl (Nat.le_of_ble_eq_true rfl) dX5_init_34 (fs1 := [.ref (o + 1), .ref (o + 2), .ref (o + 3), .ref (o + 4), .null, .null, .null, .null, .null, .int (sI 0), .int (sI 0)]) rfl (fun M19 H locs hM19 hV => ?_)
  have hc20 : M19 o = some (sObj 3 [.ref (o + 1), .ref (o + 2), .ref (o + 3), .ref (o + 4), .null, .null, .null, .null, .null, .int (sI 0), .int (sI 0)]) := (congrFun hM19 o).trans (va_up_self M16 o _)
  refine lv_aload_n hx_ hb_ dX5_init_37 rfl (lv_at hl 0 rfl) ?_
  refine si_sipush S dX5_init_38 (by decide) ?_
  refine sc_newa S hK hV (S.2.2.2.2 _ (List.mem_of_getElem? (i := 4) rfl)) (N0 := 1024) ⟨rfl, Nat.le_of_ble_eq_true rfl⟩ ⟨Nat.le_of_ble_eq_true rfl, Nat.le_of_ble_eq_true rfl⟩ dX5_init_41 (fun M21 H locs hM21 hV => ?_)
  have hc22 : M21 (o + 5) = some (sArr G 1024 (fun _ => 0)) := (congrFun hM21 (o + 5)).trans (va_up_self M19 (o + 5) _)
  have hc23 : M21 o = some (sObj 3 [.ref (o + 1), .ref (o + 2), .ref (o + 3), .ref (o + 4), .null, .null, .null, .null, .null, .int (sI 0), .int (sI 0)]) := ((congrFun hM21 o).trans (va_up_ne M19 _ (by omega))).trans hc20
  refine sc_putF (ci := 3) (C := RX5) (T := TX5) (n := 11) S hK hV inX5_ tyX5_ok nmX5 hc23 rfl 4 (by decide) (S.2.2.2.2 _ (List.mem_of_getElem? (i := 9) rfl)) rfl rfl hnm rfl rfl rfl (Nat.le_of_ble_eq_true rfl) dX5_init_43 (fs1 := [.ref (o + 1), .ref (o + 2), .ref (o + 3), .ref (o + 4), .ref (o + 5), .null, .null, .null, .null, .int (sI 0), .int (sI 0)]) rfl (fun M24 H locs hM24 hV => ?_)
  have hc25 : M24 o = some (sObj 3 [.ref (o + 1), .ref (o + 2), .ref (o + 3), .ref (o + 4), .ref (o + 5), .null, .null, .null, .null, .int (sI 0), .int (sI 0)]) := (congrFun hM24 o).trans (va_up_self M21 o _)
  refine lv_aload_n hx_ hb_ dX5_init_46 rfl (lv_at hl 0 rfl) ?_
  refine si_bipush S dX5_init_47 (by decide) ?_
  refine sc_newa S hK hV (S.2.2.2.2 _ (List.mem_of_getElem? (i := 4) rfl)) (N0 := 100) ⟨rfl, Nat.le_of_ble_eq_true rfl⟩ ⟨Nat.le_of_ble_eq_true rfl, Nat.le_of_ble_eq_true rfl⟩ dX5_init_49 (fun M26 H locs hM26 hV => ?_)
  have hc27 : M26 (o + 6) = some (sArr G 100 (fun _ => 0)) := (congrFun hM26 (o + 6)).trans (va_up_self M24 (o + 6) _)
  have hc28 : M26 o = some (sObj 3 [.ref (o + 1), .ref (o + 2), .ref (o + 3), .ref (o + 4), .ref (o + 5), .null, .null, .null, .null, .int (sI 0), .int (sI 0)]) := ((congrFun hM26 o).trans (va_up_ne M24 _ (by omega))).trans hc25
  refine sc_putF (ci := 3) (C := RX5) (T := TX5) (n := 11) S hK hV inX5_ tyX5_ok nmX5 hc28 rfl 5 (by decide) (S.2.2.2.2 _ (List.mem_of_getElem? (i := 10) rfl)) rfl rfl hnm rfl rfl rfl (Nat.le_of_ble_eq_true rfl) dX5_init_51 (fs1 := [.ref (o + 1), .ref (o + 2), .ref (o + 3), .ref (o + 4), .ref (o + 5), .ref (o + 6), .null, .null, .null, .int (sI 0), .int (sI 0)]) rfl (fun M29 H locs hM29 hV => ?_)
  have hc30 : M29 o = some (sObj 3 [.ref (o + 1), .ref (o + 2), .ref (o + 3), .ref (o + 4), .ref (o + 5), .ref (o + 6), .null, .null, .null, .int (sI 0), .int (sI 0)]) := (congrFun hM29 o).trans (va_up_self M26 o _)
  refine lv_aload_n hx_ hb_ dX5_init_54 rfl (lv_at hl 0 rfl) ?_
  refine si_bipush S dX5_init_55 (by decide) ?_
  refine sc_newa S hK hV (S.2.2.2.2 _ (List.mem_of_getElem? (i := 4) rfl)) (N0 := 100) ⟨rfl, Nat.le_of_ble_eq_true rfl⟩ ⟨Nat.le_of_ble_eq_true rfl, Nat.le_of_ble_eq_true rfl⟩ dX5_init_57 (fun M31 H locs hM31 hV => ?_)
  have hc32 : M31 (o + 7) = some (sArr G 100 (fun _ => 0)) := (congrFun hM31 (o + 7)).trans (va_up_self M29 (o + 7) _)
  have hc33 : M31 o = some (sObj 3 [.ref (o + 1), .ref (o + 2), .ref (o + 3), .ref (o + 4), .ref (o + 5), .ref (o + 6), .null, .null, .null, .int (sI 0), .int (sI 0)]) := ((congrFun hM31 o).trans (va_up_ne M29 _ (by omega))).trans hc30
  refine sc_putF (ci := 3) (C := RX5) (T := TX5) (n := 11) S hK hV inX5_ tyX5_ok nmX5 hc33 rfl 6 (by decide) (S.2.2.2.2 _ (List.mem_of_getElem? (i := 11) rfl)) rfl rfl hnm rfl rfl rfl (Nat.le_of_ble_eq_true rfl) dX5_init_59 (fs1 := [.ref (o + 1), .ref (o + 2), .ref (o + 3), .ref (o + 4), .ref (o + 5), .ref (o + 6), .ref (o + 7), .null, .null, .int (sI 0), .int (sI 0)]) rfl (fun M34 H locs hM34 hV => ?_)
  have hc35 : M34 o = some (sObj 3 [.ref (o + 1), .ref (o + 2), .ref (o + 3), .ref (o + 4), .ref (o + 5), .ref (o + 6), .ref (o + 7), .null, .null, .int (sI 0), .int (sI 0)]) := (congrFun hM34 o).trans (va_up_self M31 o _)
  refine lv_aload_n hx_ hb_ dX5_init_62 rfl (lv_at hl 0 rfl) ?_
  refine si_bipush S dX5_init_63 (by decide) ?_
  refine sc_newa S hK hV (S.2.2.2.2 _ (List.mem_of_getElem? (i := 4) rfl)) (N0 := 11) ⟨rfl, Nat.le_of_ble_eq_true rfl⟩ ⟨Nat.le_of_ble_eq_true rfl, Nat.le_of_ble_eq_true rfl⟩ dX5_init_65 (fun M36 H locs hM36 hV => ?_)
  have hc37 : M36 (o + 8) = some (sArr G 11 (fun _ => 0)) := (congrFun hM36 (o + 8)).trans (va_up_self M34 (o + 8) _)
  have hc38 : M36 o = some (sObj 3 [.ref (o + 1), .ref (o + 2), .ref (o + 3), .ref (o + 4), .ref (o + 5), .ref (o + 6), .ref (o + 7), .null, .null, .int (sI 0), .int (sI 0)]) := ((congrFun hM36 o).trans (va_up_ne M34 _ (by omega))).trans hc35
  refine sc_putF (ci := 3) (C := RX5) (T := TX5) (n := 11) S hK hV inX5_ tyX5_ok nmX5 hc38 rfl 7 (by decide) (S.2.2.2.2 _ (List.mem_of_getElem? (i := 12) rfl)) rfl rfl hnm rfl rfl rfl (Nat.le_of_ble_eq_true rfl) dX5_init_67 (fs1 := [.ref (o + 1), .ref (o + 2), .ref (o + 3), .ref (o + 4), .ref (o + 5), .ref (o + 6), .ref (o + 7), .ref (o + 8), .null, .int (sI 0), .int (sI 0)]) rfl (fun M39 H locs hM39 hV => ?_)
  have hc40 : M39 o = some (sObj 3 [.ref (o + 1), .ref (o + 2), .ref (o + 3), .ref (o + 4), .ref (o + 5), .ref (o + 6), .ref (o + 7), .ref (o + 8), .null, .int (sI 0), .int (sI 0)]) := (congrFun hM39 o).trans (va_up_self M36 o _)
  refine lv_aload_n hx_ hb_ dX5_init_70 rfl (lv_at hl 0 rfl) ?_
  refine si_bipush S dX5_init_71 (by decide) ?_
  refine sc_newa S hK hV (S.2.2.2.2 _ (List.mem_of_getElem? (i := 4) rfl)) (N0 := 10) ⟨rfl, Nat.le_of_ble_eq_true rfl⟩ ⟨Nat.le_of_ble_eq_true rfl, Nat.le_of_ble_eq_true rfl⟩ dX5_init_73 (fun M41 H locs hM41 hV => ?_)
  have hc42 : M41 (o + 9) = some (sArr G 10 (fun _ => 0)) := (congrFun hM41 (o + 9)).trans (va_up_self M39 (o + 9) _)
  have hc43 : M41 o = some (sObj 3 [.ref (o + 1), .ref (o + 2), .ref (o + 3), .ref (o + 4), .ref (o + 5), .ref (o + 6), .ref (o + 7), .ref (o + 8), .null, .int (sI 0), .int (sI 0)]) := ((congrFun hM41 o).trans (va_up_ne M39 _ (by omega))).trans hc40
  refine sc_putF (ci := 3) (C := RX5) (T := TX5) (n := 11) S hK hV inX5_ tyX5_ok nmX5 hc43 rfl 8 (by decide) (S.2.2.2.2 _ (List.mem_of_getElem? (i := 13) rfl)) rfl rfl hnm rfl rfl rfl (Nat.le_of_ble_eq_true rfl) dX5_init_75 (fs1 := [.ref (o + 1), .ref (o + 2), .ref (o + 3), .ref (o + 4), .ref (o + 5), .ref (o + 6), .ref (o + 7), .ref (o + 8), .ref (o + 9), .int (sI 0), .int (sI 0)]) rfl (fun M44 H locs hM44 hV => ?_)
  have hc45 : M44 o = some (sObj 3 [.ref (o + 1), .ref (o + 2), .ref (o + 3), .ref (o + 4), .ref (o + 5), .ref (o + 6), .ref (o + 7), .ref (o + 8), .ref (o + 9), .int (sI 0), .int (sI 0)]) := (congrFun hM44 o).trans (va_up_self M41 o _)
  refine lv_aload_n hx_ hb_ dX5_init_78 rfl (lv_at hl 0 rfl) ?_
  refine si_const S dX5_init_79 ?_
  refine sc_put (ci := 3) (C := RX5) (T := TX5) (n := 11) S hK hV inX5_ tyX5_ok nmX5 hc45 rfl 9 (by decide) (S.2.2.2.2 _ (List.mem_of_getElem? (i := 14) rfl)) rfl rfl rfl rfl (Nat.le_of_ble_eq_true rfl) dX5_init_80 (fs1 := [.ref (o + 1), .ref (o + 2), .ref (o + 3), .ref (o + 4), .ref (o + 5), .ref (o + 6), .ref (o + 7), .ref (o + 8), .ref (o + 9), .int (sI 0), .int (sI 0)]) rfl (fun M46 H locs hM46 hV => ?_)
  have hc47 : M46 o = some (sObj 3 [.ref (o + 1), .ref (o + 2), .ref (o + 3), .ref (o + 4), .ref (o + 5), .ref (o + 6), .ref (o + 7), .ref (o + 8), .ref (o + 9), .int (sI 0), .int (sI 0)]) := (congrFun hM46 o).trans (va_up_self M44 o _)
  refine lv_aload_n hx_ hb_ dX5_init_83 rfl (lv_at hl 0 rfl) ?_
  refine si_const S dX5_init_84 ?_
  refine sc_put (ci := 3) (C := RX5) (T := TX5) (n := 11) S hK hV inX5_ tyX5_ok nmX5 hc47 rfl 10 (by decide) (S.2.2.2.2 _ (List.mem_of_getElem? (i := 15) rfl)) rfl rfl rfl rfl (Nat.le_of_ble_eq_true rfl) dX5_init_85 (fs1 := [.ref (o + 1), .ref (o + 2), .ref (o + 3), .ref (o + 4), .ref (o + 5), .ref (o + 6), .ref (o + 7), .ref (o + 8), .ref (o + 9), .int (sI 0), .int (sI (-1))]) rfl (fun M48 H locs hM48 hV => ?_)
  have hc49 : M48 o = some (sObj 3 [.ref (o + 1), .ref (o + 2), .ref (o + 3), .ref (o + 4), .ref (o + 5), .ref (o + 6), .ref (o + 7), .ref (o + 8), .ref (o + 9), .int (sI 0), .int (sI (-1))]) := (congrFun hM48 o).trans (va_up_self M46 o _)
  have hc50 : M48 (o + 1) = some (sArr G 10 (fun _ => 0)) := ((((((((((((((((((((congrFun hM48 (o + 1)).trans (va_up_ne M46 _ (by omega))).trans ((congrFun hM46 (o + 1)).trans (va_up_ne M44 _ (by omega)))).trans ((congrFun hM44 (o + 1)).trans (va_up_ne M41 _ (by omega)))).trans ((congrFun hM41 (o + 1)).trans (va_up_ne M39 _ (by omega)))).trans ((congrFun hM39 (o + 1)).trans (va_up_ne M36 _ (by omega)))).trans ((congrFun hM36 (o + 1)).trans (va_up_ne M34 _ (by omega)))).trans ((congrFun hM34 (o + 1)).trans (va_up_ne M31 _ (by omega)))).trans ((congrFun hM31 (o + 1)).trans (va_up_ne M29 _ (by omega)))).trans ((congrFun hM29 (o + 1)).trans (va_up_ne M26 _ (by omega)))).trans ((congrFun hM26 (o + 1)).trans (va_up_ne M24 _ (by omega)))).trans ((congrFun hM24 (o + 1)).trans (va_up_ne M21 _ (by omega)))).trans ((congrFun hM21 (o + 1)).trans (va_up_ne M19 _ (by omega)))).trans ((congrFun hM19 (o + 1)).trans (va_up_ne M16 _ (by omega)))).trans ((congrFun hM16 (o + 1)).trans (va_up_ne M14 _ (by omega)))).trans ((congrFun hM14 (o + 1)).trans (va_up_ne M11 _ (by omega)))).trans ((congrFun hM11 (o + 1)).trans (va_up_ne M9 _ (by omega)))).trans ((congrFun hM9 (o + 1)).trans (va_up_ne M6 _ (by omega)))).trans ((congrFun hM6 (o + 1)).trans (va_up_ne M4 _ (by omega)))).trans ((congrFun hM4 (o + 1)).trans (va_up_ne M1 _ (by omega)))).trans hc2
  have hc51 : M48 (o + 2) = some (sArr G 10 (fun _ => 0)) := ((((((((((((((((((congrFun hM48 (o + 2)).trans (va_up_ne M46 _ (by omega))).trans ((congrFun hM46 (o + 2)).trans (va_up_ne M44 _ (by omega)))).trans ((congrFun hM44 (o + 2)).trans (va_up_ne M41 _ (by omega)))).trans ((congrFun hM41 (o + 2)).trans (va_up_ne M39 _ (by omega)))).trans ((congrFun hM39 (o + 2)).trans (va_up_ne M36 _ (by omega)))).trans ((congrFun hM36 (o + 2)).trans (va_up_ne M34 _ (by omega)))).trans ((congrFun hM34 (o + 2)).trans (va_up_ne M31 _ (by omega)))).trans ((congrFun hM31 (o + 2)).trans (va_up_ne M29 _ (by omega)))).trans ((congrFun hM29 (o + 2)).trans (va_up_ne M26 _ (by omega)))).trans ((congrFun hM26 (o + 2)).trans (va_up_ne M24 _ (by omega)))).trans ((congrFun hM24 (o + 2)).trans (va_up_ne M21 _ (by omega)))).trans ((congrFun hM21 (o + 2)).trans (va_up_ne M19 _ (by omega)))).trans ((congrFun hM19 (o + 2)).trans (va_up_ne M16 _ (by omega)))).trans ((congrFun hM16 (o + 2)).trans (va_up_ne M14 _ (by omega)))).trans ((congrFun hM14 (o + 2)).trans (va_up_ne M11 _ (by omega)))).trans ((congrFun hM11 (o + 2)).trans (va_up_ne M9 _ (by omega)))).trans ((congrFun hM9 (o + 2)).trans (va_up_ne M6 _ (by omega)))).trans hc7
  have hc52 : M48 (o + 3) = some (sArr G 10 (fun _ => 0)) := ((((((((((((((((congrFun hM48 (o + 3)).trans (va_up_ne M46 _ (by omega))).trans ((congrFun hM46 (o + 3)).trans (va_up_ne M44 _ (by omega)))).trans ((congrFun hM44 (o + 3)).trans (va_up_ne M41 _ (by omega)))).trans ((congrFun hM41 (o + 3)).trans (va_up_ne M39 _ (by omega)))).trans ((congrFun hM39 (o + 3)).trans (va_up_ne M36 _ (by omega)))).trans ((congrFun hM36 (o + 3)).trans (va_up_ne M34 _ (by omega)))).trans ((congrFun hM34 (o + 3)).trans (va_up_ne M31 _ (by omega)))).trans ((congrFun hM31 (o + 3)).trans (va_up_ne M29 _ (by omega)))).trans ((congrFun hM29 (o + 3)).trans (va_up_ne M26 _ (by omega)))).trans ((congrFun hM26 (o + 3)).trans (va_up_ne M24 _ (by omega)))).trans ((congrFun hM24 (o + 3)).trans (va_up_ne M21 _ (by omega)))).trans ((congrFun hM21 (o + 3)).trans (va_up_ne M19 _ (by omega)))).trans ((congrFun hM19 (o + 3)).trans (va_up_ne M16 _ (by omega)))).trans ((congrFun hM16 (o + 3)).trans (va_up_ne M14 _ (by omega)))).trans ((congrFun hM14 (o + 3)).trans (va_up_ne M11 _ (by omega)))).trans hc12
  have hc53 : M48 (o + 4) = some (sArr G 1024 (fun _ => 0)) := ((((((((((((((congrFun hM48 (o + 4)).trans (va_up_ne M46 _ (by omega))).trans ((congrFun hM46 (o + 4)).trans (va_up_ne M44 _ (by omega)))).trans ((congrFun hM44 (o + 4)).trans (va_up_ne M41 _ (by omega)))).trans ((congrFun hM41 (o + 4)).trans (va_up_ne M39 _ (by omega)))).trans ((congrFun hM39 (o + 4)).trans (va_up_ne M36 _ (by omega)))).trans ((congrFun hM36 (o + 4)).trans (va_up_ne M34 _ (by omega)))).trans ((congrFun hM34 (o + 4)).trans (va_up_ne M31 _ (by omega)))).trans ((congrFun hM31 (o + 4)).trans (va_up_ne M29 _ (by omega)))).trans ((congrFun hM29 (o + 4)).trans (va_up_ne M26 _ (by omega)))).trans ((congrFun hM26 (o + 4)).trans (va_up_ne M24 _ (by omega)))).trans ((congrFun hM24 (o + 4)).trans (va_up_ne M21 _ (by omega)))).trans ((congrFun hM21 (o + 4)).trans (va_up_ne M19 _ (by omega)))).trans ((congrFun hM19 (o + 4)).trans (va_up_ne M16 _ (by omega)))).trans hc17
  have hc54 : M48 (o + 5) = some (sArr G 1024 (fun _ => 0)) := ((((((((((((congrFun hM48 (o + 5)).trans (va_up_ne M46 _ (by omega))).trans ((congrFun hM46 (o + 5)).trans (va_up_ne M44 _ (by omega)))).trans ((congrFun hM44 (o + 5)).trans (va_up_ne M41 _ (by omega)))).trans ((congrFun hM41 (o + 5)).trans (va_up_ne M39 _ (by omega)))).trans ((congrFun hM39 (o + 5)).trans (va_up_ne M36 _ (by omega)))).trans ((congrFun hM36 (o + 5)).trans (va_up_ne M34 _ (by omega)))).trans ((congrFun hM34 (o + 5)).trans (va_up_ne M31 _ (by omega)))).trans ((congrFun hM31 (o + 5)).trans (va_up_ne M29 _ (by omega)))).trans ((congrFun hM29 (o + 5)).trans (va_up_ne M26 _ (by omega)))).trans ((congrFun hM26 (o + 5)).trans (va_up_ne M24 _ (by omega)))).trans ((congrFun hM24 (o + 5)).trans (va_up_ne M21 _ (by omega)))).trans hc22
  have hc55 : M48 (o + 6) = some (sArr G 100 (fun _ => 0)) := ((((((((((congrFun hM48 (o + 6)).trans (va_up_ne M46 _ (by omega))).trans ((congrFun hM46 (o + 6)).trans (va_up_ne M44 _ (by omega)))).trans ((congrFun hM44 (o + 6)).trans (va_up_ne M41 _ (by omega)))).trans ((congrFun hM41 (o + 6)).trans (va_up_ne M39 _ (by omega)))).trans ((congrFun hM39 (o + 6)).trans (va_up_ne M36 _ (by omega)))).trans ((congrFun hM36 (o + 6)).trans (va_up_ne M34 _ (by omega)))).trans ((congrFun hM34 (o + 6)).trans (va_up_ne M31 _ (by omega)))).trans ((congrFun hM31 (o + 6)).trans (va_up_ne M29 _ (by omega)))).trans ((congrFun hM29 (o + 6)).trans (va_up_ne M26 _ (by omega)))).trans hc27
  have hc56 : M48 (o + 7) = some (sArr G 100 (fun _ => 0)) := ((((((((congrFun hM48 (o + 7)).trans (va_up_ne M46 _ (by omega))).trans ((congrFun hM46 (o + 7)).trans (va_up_ne M44 _ (by omega)))).trans ((congrFun hM44 (o + 7)).trans (va_up_ne M41 _ (by omega)))).trans ((congrFun hM41 (o + 7)).trans (va_up_ne M39 _ (by omega)))).trans ((congrFun hM39 (o + 7)).trans (va_up_ne M36 _ (by omega)))).trans ((congrFun hM36 (o + 7)).trans (va_up_ne M34 _ (by omega)))).trans ((congrFun hM34 (o + 7)).trans (va_up_ne M31 _ (by omega)))).trans hc32
  have hc57 : M48 (o + 8) = some (sArr G 11 (fun _ => 0)) := ((((((congrFun hM48 (o + 8)).trans (va_up_ne M46 _ (by omega))).trans ((congrFun hM46 (o + 8)).trans (va_up_ne M44 _ (by omega)))).trans ((congrFun hM44 (o + 8)).trans (va_up_ne M41 _ (by omega)))).trans ((congrFun hM41 (o + 8)).trans (va_up_ne M39 _ (by omega)))).trans ((congrFun hM39 (o + 8)).trans (va_up_ne M36 _ (by omega)))).trans hc37
  have hc58 : M48 (o + 9) = some (sArr G 10 (fun _ => 0)) := ((((congrFun hM48 (o + 9)).trans (va_up_ne M46 _ (by omega))).trans ((congrFun hM46 (o + 9)).trans (va_up_ne M44 _ (by omega)))).trans ((congrFun hM44 (o + 9)).trans (va_up_ne M41 _ (by omega)))).trans hc42
  exact sr_v E hQ dX5_init_88 ⟨Nat.le_of_ble_eq_true rfl, Nat.le_of_ble_eq_true rfl⟩ hV (⟨by omega, hc49, hc50, hc51, hc52, hc53, hc54, hc55, hc56, hc57, hc58, fun x q0 q1 q2 q3 q4 q5 q6 q7 q8 q9 => ((((((((((((((((((((congrFun hM48 x).trans (va_up_ne M46 _ (by omega))).trans ((congrFun hM46 x).trans (va_up_ne M44 _ (by omega)))).trans ((congrFun hM44 x).trans (va_up_ne M41 _ (by omega)))).trans ((congrFun hM41 x).trans (va_up_ne M39 _ (by omega)))).trans ((congrFun hM39 x).trans (va_up_ne M36 _ (by omega)))).trans ((congrFun hM36 x).trans (va_up_ne M34 _ (by omega)))).trans ((congrFun hM34 x).trans (va_up_ne M31 _ (by omega)))).trans ((congrFun hM31 x).trans (va_up_ne M29 _ (by omega)))).trans ((congrFun hM29 x).trans (va_up_ne M26 _ (by omega)))).trans ((congrFun hM26 x).trans (va_up_ne M24 _ (by omega)))).trans ((congrFun hM24 x).trans (va_up_ne M21 _ (by omega)))).trans ((congrFun hM21 x).trans (va_up_ne M19 _ (by omega)))).trans ((congrFun hM19 x).trans (va_up_ne M16 _ (by omega)))).trans ((congrFun hM16 x).trans (va_up_ne M14 _ (by omega)))).trans ((congrFun hM14 x).trans (va_up_ne M11 _ (by omega)))).trans ((congrFun hM11 x).trans (va_up_ne M9 _ (by omega)))).trans ((congrFun hM9 x).trans (va_up_ne M6 _ (by omega)))).trans ((congrFun hM6 x).trans (va_up_ne M4 _ (by omega)))).trans ((congrFun hM4 x).trans (va_up_ne M1 _ (by omega)))).trans ((congrFun hM1 x).trans (va_up_ne M _ (by omega)))⟩)

abbrev rmX5_isStone : Room := { frames := 1, cells := 0, slots := 0, locals := 40 }
set_option maxHeartbeats 4000000 in
set_option maxRecDepth 100000 in
theorem kX5_isStone (l_ : Launch) (G : sG) (b_ : Nat) (M : sM) (N : Nat) (x : Int) (hr : sR x) : cP l_ yX5_isStone wsX5_isStone rmX5_isStone G b_ M N [.int (sI x)] (bI (0 ≤ x ∧ x < 10)) := by
  refine sE.ofI (cc := cX5_isStone) (nL := 1) (ret := (some .boolean)) (by decide) rfl (Nat.le_of_ble_eq_true rfl) ?_
  intro p_ e_ s_ m_ args_ below_ meth_ c_ ls Q hQ E hl
  have E : sE p_ l_ e_ rmX5_isStone s_ m_ args_ below_ meth_ c_ cX5_isStone 1 wsX5_isStone RX5 "isStone" (some .boolean) G b_ M N := E
  have S := E.1
  have hx_ := S.1
  have hb_ := S.2.1
  have hK := E.2.2.2.2.1
  have hV := E.2.2.2.2.2.2
  have hl : lv_has ls 1 [(0, .int (sI x))] := hl
  refine lv_iload_n hx_ hb_ dX5_isStone_0 rfl (lv_at hl 0 rfl) ?_
  refine sz_lt (tgt := 14) S dX5_isStone_1 (by decide) (by omega) (fun c1 => ?_) (fun c1 => ?_)
  · refine si_const S dX5_isStone_14 ?_
    exact sr_z E hQ (Or.inl rfl) dX5_isStone_15 ⟨Nat.le_of_ble_eq_true rfl, Nat.le_of_ble_eq_true rfl⟩ hV (⟨(bI_f (by omega)).symm, rfl, rfl⟩)
  · refine lv_iload_n hx_ hb_ dX5_isStone_4 rfl (lv_at hl 0 rfl) ?_
    refine si_bipush S dX5_isStone_5 (by decide) ?_
    refine sb_ge (tgt := 14) S dX5_isStone_7 (by decide) (by omega) (fun c2 => ?_) (fun c2 => ?_)
    · refine si_const S dX5_isStone_14 ?_
      exact sr_z E hQ (Or.inl rfl) dX5_isStone_15 ⟨Nat.le_of_ble_eq_true rfl, Nat.le_of_ble_eq_true rfl⟩ hV (⟨(bI_f (by omega)).symm, rfl, rfl⟩)
    · refine si_const S dX5_isStone_10 ?_
      refine lv_goto (tgt := 15) hx_ hb_ dX5_isStone_11 (by decide) ?_
      exact sr_z E hQ (Or.inr rfl) dX5_isStone_15 ⟨Nat.le_of_ble_eq_true rfl, Nat.le_of_ble_eq_true rfl⟩ hV (⟨(bI_t (by omega)).symm, rfl, rfl⟩)

abbrev rmX5_readScratches : Room := { frames := 2, cells := 0, slots := 0, locals := 63 }
set_option maxHeartbeats 4000000 in
set_option maxRecDepth 100000 in
theorem kX5_readScratches (l_ : Launch) (G : sG) (b_ : Nat) (M : sM) (N : Nat) (o t : Nat) (L c : Int) (Fr f : sF) (ho0 : M o = some (sObj 3 [.ref (o + 1), .ref (o + 2), .ref (o + 3), .ref (o + 4), .ref (o + 5), .ref (o + 6), .ref (o + 7), .ref (o + 8), .ref (o + 9), .int (sI L), .int (sI c)])) (ho1 : M (o + 1) = some (sArr G 10 Fr)) (ht : stK G M t 2 (f 569) 80 (tvC f)) (hok : sOk f) (hne : t + 2 ≤ o ∨ o + 10 ≤ t) : cV l_ yX5_readScratches wsX5_readScratches rmX5_readScratches G b_ M N [.ref o, .ref t] (fun M1 N1 => ∃ F9 : Int → Int, N1 = N ∧ M1 (o + 1) = some (sArr G 10 F9) ∧ (∀ x : Nat, ¬ (x = o + 1) → M1 x = M x) ∧ (sfP f F9)) := by
  refine sE.ofV (cc := cX5_readScratches) (nL := 5) (ret := none) (by decide) rfl (Nat.le_of_ble_eq_true rfl) ?_
  intro p_ e_ s_ m_ args_ below_ meth_ c_ ls Q hQ E hl
  have E : sE p_ l_ e_ rmX5_readScratches s_ m_ args_ below_ meth_ c_ cX5_readScratches 5 wsX5_readScratches RX5 "readScratches" none G b_ M N := E
  have S := E.1
  have hx_ := S.1
  have hb_ := S.2.1
  have hK := E.2.2.2.2.1
  have hV := E.2.2.2.2.2.2
  have hl : lv_has ls 5 [(0, .ref o), (1, .ref t)] := hl
  have inX5_ : ∀ w ∈ wsX50, w ∈ wsX5_readScratches := fun _ h => List.mem_cons_of_mem _ (List.mem_append_left _ (List.mem_append_right _ h))
  have inX8_ : ∀ w ∈ wsX80, w ∈ wsX5_readScratches := fun _ h => List.mem_cons_of_mem _ (List.mem_append_right _ h)
  have kn0 := sOk_N hok
  refine lv_aload_n hx_ hb_ dX5_readScratches_0 rfl (lv_at hl 0 rfl) ?_
  refine sc_get (ci := 3) (C := RX5) (T := TX5) (n := 11) S hK hV inX5_ ho0 rfl 0 (by decide) (S.2.2.2.2 _ (List.mem_of_getElem? (i := 1) rfl)) rfl rfl dX5_readScratches_1 ?_
  refine si_const S dX5_readScratches_4 ?_
  refine sk_Sv E hV (As := [.ref (o + 1), .int (sI 0)]) (rest := []) (kJ7_fill_53178 l_ G b_ M N (o + 1) 10 Fr 0 ho1 (by omega)) (va_cwS 2 S.2.2.2.2 gX5_readScratches_J7_fill_53178 rfl rfl rfl (by decide +kernel) ⟨Nat.le_of_ble_eq_true rfl, Nat.le_of_ble_eq_true rfl⟩) rfl rfl hl.1 (Nat.le_of_ble_eq_true rfl) dX5_readScratches_5 (c1 := 0) (s1 := 0) ⟨⟨rfl, rfl⟩, by decide, by decide⟩ (fun M1 N2 H locs hp3 hV => ?_)
  obtain ⟨hN5, hc6, hf7⟩ := hp3
  rw [hN5] at hV
  refine si_const S dX5_readScratches_8 ?_
  refine lv_istore_n (lv' := [(2, .int (sI 0)), (0, .ref o), (1, .ref t)]) hx_ hb_ dX5_readScratches_9 rfl hl (by decide) rfl (fun ls hl => ?_)
  have L10 : ∀ (fuel : Nat) (k : Int) (F2 : Int → Int) (Ml10 : sM) (H : Heap) (locs : List Loc) (ls : Array Slot), ((f 569 - k).toNat) < fuel → (0 ≤ k ∧ k ≤ f 569) → (sfQ f k F2) → (Ml10 (o + 1) = some (sArr G 10 F2)) → (∀ x : Nat, ¬ (x = o + 1) → Ml10 x = M1 x) → sV G b_ Ml10 N s_ H locs → lv_has ls 5 [(0, .ref o), (1, .ref t), (2, .int (sI k))] → W p_ l_ e_ rmX5_readScratches s_ m_ args_ below_ meth_ c_ H locs 0 0 Q (F0 m_ 10 ls []) := by
    intro fuel
    induction fuel with
    | zero => intro k F2 Ml10 H locs ls hmu; exact absurd hmu (Nat.not_lt_zero _)
    | succ fuel ih10 =>
      intro k F2 Ml10 H locs ls hmu10 hv10_0 hF hm10_0 hfr10 hV hl
      refine lv_iload_n hx_ hb_ dX5_readScratches_10 rfl (lv_at hl 2 rfl) ?_
      refine lv_aload_n hx_ hb_ dX5_readScratches_11 rfl (lv_at hl 1 rfl) ?_
      have hc8 : stK G Ml10 t 2 (f 569) 80 (tvC f) := ht.fr (fun x q8 q9 => (hfr10 x (by omega)).trans (hf7 x (by omega)))
      refine sk_VP E hV (As := []) (rest := [.int (sI k)]) (kTs l_ G b_ Ml10 N t 2 (f 569) 80 (tvC f) hc8) (cwV 0 S.2.2.2.2 gX5_readScratches_X8_size rfl rfl rfl (by decide +kernel) ⟨Nat.le_of_ble_eq_true rfl, Nat.le_of_ble_eq_true rfl⟩) (ci := 6) (hc8).1 rfl rfl rfl hl.1 (Nat.le_of_ble_eq_true rfl) dX5_readScratches_12 (c1 := 0) (s1 := 0) ⟨⟨rfl, rfl⟩, by decide, by decide⟩ (fun H locs hV => ?_)
      refine sb_ge (tgt := 67) S dX5_readScratches_15 (by decide) (by omega) (fun c9 => ?_) (fun c9 => ?_)
      · exact sr_v E hQ dX5_readScratches_67 ⟨Nat.le_of_ble_eq_true rfl, Nat.le_of_ble_eq_true rfl⟩ hV (⟨F2, rfl, hm10_0, fun x q0 => (hfr10 x (by omega)).trans (hf7 x (by omega)), sfQ_e (by omega) hF⟩)
      · refine lv_aload_n hx_ hb_ dX5_readScratches_18 rfl (lv_at hl 1 rfl) ?_
        refine lv_iload_n hx_ hb_ dX5_readScratches_19 rfl (lv_at hl 2 rfl) ?_
        refine si_const S dX5_readScratches_20 ?_
        refine sk_VP E hV (As := [.int (sI k), .int (sI 0)]) (rest := []) (kTg l_ G b_ Ml10 N t 2 (f 569) 80 (tvC f) k 0 (f (70 + k)) hc8 (by omega) (by omega) (tvC_0 f k)) (cwV 2 S.2.2.2.2 gX5_readScratches_X8_get rfl rfl rfl (by decide +kernel) ⟨Nat.le_of_ble_eq_true rfl, Nat.le_of_ble_eq_true rfl⟩) (ci := 6) (hc8).1 rfl rfl rfl hl.1 (Nat.le_of_ble_eq_true rfl) dX5_readScratches_21 (c1 := 0) (s1 := 0) ⟨⟨rfl, rfl⟩, by decide, by decide⟩ (fun H locs hV => ?_)
        have kn10 : 0 ≤ f (70 + k) ∧ f (70 + k) < f 568 := (sOk_C hok k (by omega) (by omega)).1
        refine lv_istore_n (lv' := [(3, .int (sI (f (70 + k)))), (0, .ref o), (1, .ref t), (2, .int (sI k))]) hx_ hb_ dX5_readScratches_24 rfl hl (by decide) rfl (fun ls hl => ?_)
        refine lv_aload_n hx_ hb_ dX5_readScratches_25 rfl (lv_at hl 2 rfl) ?_
        refine lv_iload_n hx_ hb_ dX5_readScratches_26 rfl (lv_at hl 3 rfl) ?_
        refine si_const S dX5_readScratches_27 ?_
        refine sk_VP E hV (As := [.int (sI k), .int (sI 1)]) (rest := []) (kTg l_ G b_ Ml10 N t 2 (f 569) 80 (tvC f) k 1 (f (110 + k)) hc8 (by omega) (by omega) (tvC_1 f k)) (cwV 2 S.2.2.2.2 gX5_readScratches_X8_get rfl rfl rfl (by decide +kernel) ⟨Nat.le_of_ble_eq_true rfl, Nat.le_of_ble_eq_true rfl⟩) (ci := 6) (hc8).1 rfl rfl rfl hl.1 (Nat.le_of_ble_eq_true rfl) dX5_readScratches_28 (c1 := 0) (s1 := 0) ⟨⟨rfl, rfl⟩, by decide, by decide⟩ (fun H locs hV => ?_)
        have kn11 : 0 ≤ f (110 + k) ∧ f (110 + k) < f 568 := (sOk_C hok k (by omega) (by omega)).2.1
        refine lv_istore (lv' := [(4, .int (sI (f (110 + k)))), (3, .int (sI (f (70 + k)))), (0, .ref o), (1, .ref t), (2, .int (sI k))]) hx_ hb_ dX5_readScratches_31 hl (by decide) rfl (fun ls hl => ?_)
        have hC := sOk_C hok k (by omega) (by omega)
        refine lv_iload_n hx_ hb_ dX5_readScratches_33 rfl (lv_at hl 1 rfl) ?_
        refine sk_SP E hV (As := [.int (sI (f (70 + k)))]) (rest := []) (kX5_isStone l_ G b_ Ml10 N (f (70 + k)) (by omega)) (va_cwS 1 S.2.2.2.2 gX5_readScratches_X5_isStone rfl rfl rfl (by decide +kernel) ⟨Nat.le_of_ble_eq_true rfl, Nat.le_of_ble_eq_true rfl⟩) rfl rfl hl.1 (Nat.le_of_ble_eq_true rfl) dX5_readScratches_34 (c1 := 0) (s1 := 0) ⟨⟨rfl, rfl⟩, by decide, by decide⟩ (fun H locs hV => ?_)
        refine sq_eq (tgt := 61) S dX5_readScratches_37 (by decide) (fun c12 => absurd c12 (by omega)) (fun _ => ?_)
        refine lv_iload hx_ hb_ dX5_readScratches_40 (lv_at hl 0 rfl) ?_
        refine sk_SP E hV (As := [.int (sI (f (110 + k)))]) (rest := []) (kX5_isStone l_ G b_ Ml10 N (f (110 + k)) (by omega)) (va_cwS 1 S.2.2.2.2 gX5_readScratches_X5_isStone rfl rfl rfl (by decide +kernel) ⟨Nat.le_of_ble_eq_true rfl, Nat.le_of_ble_eq_true rfl⟩) rfl rfl hl.1 (Nat.le_of_ble_eq_true rfl) dX5_readScratches_42 (c1 := 0) (s1 := 0) ⟨⟨rfl, rfl⟩, by decide, by decide⟩ (fun H locs hV => ?_)
        refine sq_eq (tgt := 61) S dX5_readScratches_45 (by decide) (fun c13 => absurd c13 (by omega)) (fun _ => ?_)
        refine lv_aload_n hx_ hb_ dX5_readScratches_48 rfl (lv_at hl 2 rfl) ?_
        have hc14 : Ml10 o = some (sObj 3 [.ref (o + 1), .ref (o + 2), .ref (o + 3), .ref (o + 4), .ref (o + 5), .ref (o + 6), .ref (o + 7), .ref (o + 8), .ref (o + 9), .int (sI L), .int (sI c)]) := ((hfr10 o (by omega)).trans (hf7 o (by omega))).trans ho0
        refine sc_get (ci := 3) (C := RX5) (T := TX5) (n := 11) S hK hV inX5_ hc14 rfl 0 (by decide) (S.2.2.2.2 _ (List.mem_of_getElem? (i := 1) rfl)) rfl rfl dX5_readScratches_49 ?_
        refine lv_iload_n hx_ hb_ dX5_readScratches_52 rfl (lv_at hl 1 rfl) ?_
        refine lv_dup2_11 hx_ hb_ dX5_readScratches_53 rfl rfl ?_
        refine sc_iald S hK hV hm10_0 (by omega) dX5_readScratches_54 ?_
        refine si_const S dX5_readScratches_55 ?_
        refine lv_iload hx_ hb_ dX5_readScratches_56 (lv_at hl 0 rfl) ?_
        refine si_shl S dX5_readScratches_58 ?_
        refine si_or S dX5_readScratches_59 ?_
        refine sc_iast S hK hV hm10_0 (by omega) dX5_readScratches_60 (fun M15 H locs hM15 hV => ?_)
        have hc16 : M15 (o + 1) = some (sArr G 10 (iup F2 (f (70 + k)) (ior (F2 (f (70 + k))) (ishl 1 (f (110 + k)))))) := (congrFun hM15 (o + 1)).trans (va_up_self Ml10 (o + 1) _)
        refine si_inc (lv' := [(2, .int (sI (k + 1))), (4, .int (sI (f (110 + k)))), (3, .int (sI (f (70 + k)))), (0, .ref o), (1, .ref t)]) S dX5_readScratches_61 hl (k := 4) rfl (by decide) rfl (fun ls hl => ?_)
        refine lv_goto (tgt := 10) hx_ hb_ dX5_readScratches_64 (by decide) ?_
        exact ih10 (k + 1) (iup F2 (f (70 + k)) (ior (F2 (f (70 + k))) (ishl 1 (f (110 + k))))) M15 _ _ _ (by omega) (by omega) (sfQ_s (by omega) (by omega) hF) hc16 (fun x q0 => ((congrFun hM15 x).trans (va_up_ne Ml10 _ (by omega))).trans (hfr10 x (by omega))) hV (lv_sub hl [3, 4, 0] rfl)
  exact L10 _ 0 (cpK Fr (fun _ => 0) 10) M1 _ _ _ (Nat.lt_succ_self _) (by omega) (sfQ_0 (fun q a b => by show cpK Fr (fun _ => 0) (10 : Nat) q = 0; unfold cpK; rw [if_pos (by omega)])) hc6 (fun x q0 => rfl) hV (lv_sub hl [1, 2, 0] rfl)

abbrev rmX5_takeScratches : Room := { frames := 2, cells := 0, slots := 0, locals := 63 }
set_option maxHeartbeats 4000000 in
set_option maxRecDepth 100000 in
theorem kX5_takeScratches (l_ : Launch) (G : sG) (b_ : Nat) (M : sM) (N : Nat) (o : Nat) (L c : Int) (Fr So Ha f : sF) (ho0 : M o = some (sObj 3 [.ref (o + 1), .ref (o + 2), .ref (o + 3), .ref (o + 4), .ref (o + 5), .ref (o + 6), .ref (o + 7), .ref (o + 8), .ref (o + 9), .int (sI L), .int (sI c)])) (ho1 : M (o + 1) = some (sArr G 10 Fr)) (ho2 : M (o + 2) = some (sArr G 10 So)) (ho3 : M (o + 3) = some (sArr G 10 Ha)) (hok : sOk f) (hF : sfP f Fr) : cV l_ yX5_takeScratches wsX5_takeScratches rmX5_takeScratches G b_ M N [.ref o] (fun M1 N1 => ∃ S9 : Int → Int, ∃ H9 : Int → Int, N1 = N ∧ M1 (o + 2) = some (sArr G 10 S9) ∧ M1 (o + 3) = some (sArr G 10 H9) ∧ (∀ x : Nat, ¬ (x = o + 2) → ¬ (x = o + 3) → M1 x = M x) ∧ (sfP f S9) ∧ (haP f H9)) := by
  refine sE.ofV (cc := cX5_takeScratches) (nL := 3) (ret := none) (by decide) rfl (Nat.le_of_ble_eq_true rfl) ?_
  intro p_ e_ s_ m_ args_ below_ meth_ c_ ls Q hQ E hl
  have E : sE p_ l_ e_ rmX5_takeScratches s_ m_ args_ below_ meth_ c_ cX5_takeScratches 3 wsX5_takeScratches RX5 "takeScratches" none G b_ M N := E
  have S := E.1
  have hx_ := S.1
  have hb_ := S.2.1
  have hK := E.2.2.2.2.1
  have hV := E.2.2.2.2.2.2
  have hl : lv_has ls 3 [(0, .ref o)] := hl
  have inX5_ : ∀ w ∈ wsX50, w ∈ wsX5_takeScratches := fun _ h => List.mem_cons_of_mem _ (List.mem_append_right _ h)
  have kn0 := sOk_N hok
  refine lv_aload_n hx_ hb_ dX5_takeScratches_0 rfl (lv_at hl 0 rfl) ?_
  refine sc_get (ci := 3) (C := RX5) (T := TX5) (n := 11) S hK hV inX5_ ho0 rfl 2 (by decide) (S.2.2.2.2 _ (List.mem_of_getElem? (i := 1) rfl)) rfl rfl dX5_takeScratches_1 ?_
  refine si_const S dX5_takeScratches_4 ?_
  refine sk_Sv E hV (As := [.ref (o + 3), .int (sI 0)]) (rest := []) (kJ7_fill_53178 l_ G b_ M N (o + 3) 10 Ha 0 ho3 (by omega)) (va_cwS 2 S.2.2.2.2 gX5_takeScratches_J7_fill_53178 rfl rfl rfl (by decide +kernel) ⟨Nat.le_of_ble_eq_true rfl, Nat.le_of_ble_eq_true rfl⟩) rfl rfl hl.1 (Nat.le_of_ble_eq_true rfl) dX5_takeScratches_5 (c1 := 0) (s1 := 0) ⟨⟨rfl, rfl⟩, by decide, by decide⟩ (fun M1 N2 H locs hp3 hV => ?_)
  obtain ⟨hN5, hc6, hf7⟩ := hp3
  rw [hN5] at hV
  refine si_const S dX5_takeScratches_8 ?_
  refine lv_istore_n (lv' := [(1, .int (sI 0)), (0, .ref o)]) hx_ hb_ dX5_takeScratches_9 rfl hl (by decide) rfl (fun ls hl => ?_)
  have L10 : ∀ (fuel : Nat) (s : Int) (S2 : Int → Int) (H2 : Int → Int) (Ml10 : sM) (H : Heap) (locs : List Loc) (ls : Array Slot), ((10 - s).toNat) < fuel → (0 ≤ s ∧ s ≤ 10) → (∀ q, 0 ≤ q → q < s → S2 q = Fr q) → (haQ2 f s 0 H2) → (Ml10 (o + 2) = some (sArr G 10 S2)) → (Ml10 (o + 3) = some (sArr G 10 H2)) → (∀ x : Nat, ¬ (x = o + 2) → ¬ (x = o + 3) → Ml10 x = M1 x) → sV G b_ Ml10 N s_ H locs → lv_has ls 3 [(0, .ref o), (1, .int (sI s))] → W p_ l_ e_ rmX5_takeScratches s_ m_ args_ below_ meth_ c_ H locs 0 0 Q (F0 m_ 10 ls []) := by
    intro fuel
    induction fuel with
    | zero => intro s S2 H2 Ml10 H locs ls hmu; exact absurd hmu (Nat.not_lt_zero _)
    | succ fuel ih10 =>
      intro s S2 H2 Ml10 H locs ls hmu10 hv10_0 hS2 hH2 hm10_0 hm10_1 hfr10 hV hl
      refine lv_iload_n hx_ hb_ dX5_takeScratches_10 rfl (lv_at hl 1 rfl) ?_
      refine si_bipush S dX5_takeScratches_11 (by decide) ?_
      refine sb_ge (tgt := 73) S dX5_takeScratches_13 (by decide) (by omega) (fun c8 => ?_) (fun c8 => ?_)
      · exact sr_v E hQ dX5_takeScratches_73 ⟨Nat.le_of_ble_eq_true rfl, Nat.le_of_ble_eq_true rfl⟩ hV (⟨S2, H2, rfl, hm10_0, hm10_1, fun x q0 q1 => (hfr10 x (by omega) (by omega)).trans (hf7 x (by omega)), fun q a b => by rw [hS2 q a (by omega)]; exact hF q a b, haQ2_e hok (by omega) hH2⟩)
      · refine lv_aload_n hx_ hb_ dX5_takeScratches_16 rfl (lv_at hl 0 rfl) ?_
        have hc9 : Ml10 o = some (sObj 3 [.ref (o + 1), .ref (o + 2), .ref (o + 3), .ref (o + 4), .ref (o + 5), .ref (o + 6), .ref (o + 7), .ref (o + 8), .ref (o + 9), .int (sI L), .int (sI c)]) := ((hfr10 o (by omega) (by omega)).trans (hf7 o (by omega))).trans ho0
        refine sc_get (ci := 3) (C := RX5) (T := TX5) (n := 11) S hK hV inX5_ hc9 rfl 1 (by decide) (S.2.2.2.2 _ (List.mem_of_getElem? (i := 2) rfl)) rfl rfl dX5_takeScratches_17 ?_
        refine lv_iload_n hx_ hb_ dX5_takeScratches_20 rfl (lv_at hl 1 rfl) ?_
        refine lv_aload_n hx_ hb_ dX5_takeScratches_21 rfl (lv_at hl 0 rfl) ?_
        refine sc_get (ci := 3) (C := RX5) (T := TX5) (n := 11) S hK hV inX5_ hc9 rfl 0 (by decide) (S.2.2.2.2 _ (List.mem_of_getElem? (i := 3) rfl)) rfl rfl dX5_takeScratches_22 ?_
        refine lv_iload_n hx_ hb_ dX5_takeScratches_25 rfl (lv_at hl 1 rfl) ?_
        have hc10 : Ml10 (o + 1) = some (sArr G 10 Fr) := ((hfr10 (o + 1) (by omega) (by omega)).trans (hf7 (o + 1) (by omega))).trans ho1
        refine sc_iald S hK hV hc10 (by omega) dX5_takeScratches_26 ?_
        refine sc_iast S hK hV hm10_0 (by omega) dX5_takeScratches_27 (fun M11 H locs hM11 hV => ?_)
        have hc12 : M11 (o + 2) = some (sArr G 10 (iup S2 s (Fr s))) := (congrFun hM11 (o + 2)).trans (va_up_self Ml10 (o + 2) _)
        refine si_const S dX5_takeScratches_28 ?_
        refine lv_istore_n (lv' := [(2, .int (sI 0)), (0, .ref o), (1, .int (sI s))]) hx_ hb_ dX5_takeScratches_29 rfl hl (by decide) rfl (fun ls hl => ?_)
        have L30 : ∀ (fuel : Nat) (z : Int) (H3 : Int → Int) (Ml30 : sM) (H : Heap) (locs : List Loc) (ls : Array Slot), ((10 - z).toNat) < fuel → (0 ≤ z ∧ z ≤ 10) → (haQ2 f s z H3) → (Ml30 (o + 3) = some (sArr G 10 H3)) → (∀ x : Nat, ¬ (x = o + 3) → Ml30 x = M11 x) → sV G b_ Ml30 N s_ H locs → lv_has ls 3 [(0, .ref o), (1, .int (sI s)), (2, .int (sI z))] → W p_ l_ e_ rmX5_takeScratches s_ m_ args_ below_ meth_ c_ H locs 0 0 Q (F0 m_ 30 ls []) := by
          intro fuel
          induction fuel with
          | zero => intro z H3 Ml30 H locs ls hmu; exact absurd hmu (Nat.not_lt_zero _)
          | succ fuel ih30 =>
            intro z H3 Ml30 H locs ls hmu30 hv30_0 hH3 hm30_0 hfr30 hV hl
            refine lv_iload_n hx_ hb_ dX5_takeScratches_30 rfl (lv_at hl 2 rfl) ?_
            refine si_bipush S dX5_takeScratches_31 (by decide) ?_
            refine sb_ge (tgt := 67) S dX5_takeScratches_33 (by decide) (by omega) (fun c13 => ?_) (fun c13 => ?_)
            · refine si_inc (lv' := [(1, .int (sI (s + 1))), (0, .ref o), (2, .int (sI z))]) S dX5_takeScratches_67 hl (k := 1) rfl (by decide) rfl (fun ls hl => ?_)
              refine lv_goto (tgt := 10) hx_ hb_ dX5_takeScratches_70 (by decide) ?_
              have hc14 : Ml30 (o + 2) = some (sArr G 10 (iup S2 s (Fr s))) := (hfr30 (o + 2) (by omega)).trans hc12
              exact ih10 (s + 1) (iup S2 s (Fr s)) H3 Ml30 _ _ _ (by omega) (by omega) (fun q a b => by unfold iup; by_cases e : q = s; exact (by rw [if_pos e, e]); exact (by rw [if_neg e]; exact hS2 q a (by omega))) (haQ2_n (by omega) hH3) hc14 hm30_0 (fun x q0 q1 => ((hfr30 x (by omega)).trans ((congrFun hM11 x).trans (va_up_ne Ml10 _ (by omega)))).trans (hfr10 x (by omega) (by omega))) hV (lv_sub hl [1, 0] rfl)
            · refine lv_aload_n hx_ hb_ dX5_takeScratches_36 rfl (lv_at hl 0 rfl) ?_
              have hc15 : Ml30 o = some (sObj 3 [.ref (o + 1), .ref (o + 2), .ref (o + 3), .ref (o + 4), .ref (o + 5), .ref (o + 6), .ref (o + 7), .ref (o + 8), .ref (o + 9), .int (sI L), .int (sI c)]) := ((hfr30 o (by omega)).trans ((congrFun hM11 o).trans (va_up_ne Ml10 _ (by omega)))).trans hc9
              refine sc_get (ci := 3) (C := RX5) (T := TX5) (n := 11) S hK hV inX5_ hc15 rfl 0 (by decide) (S.2.2.2.2 _ (List.mem_of_getElem? (i := 3) rfl)) rfl rfl dX5_takeScratches_37 ?_
              refine lv_iload_n hx_ hb_ dX5_takeScratches_40 rfl (lv_at hl 1 rfl) ?_
              have hc16 : Ml30 (o + 1) = some (sArr G 10 Fr) := ((hfr30 (o + 1) (by omega)).trans ((congrFun hM11 (o + 1)).trans (va_up_ne Ml10 _ (by omega)))).trans hc10
              refine sc_iald S hK hV hc16 (by omega) dX5_takeScratches_41 ?_
              refine lv_iload_n hx_ hb_ dX5_takeScratches_42 rfl (lv_at hl 2 rfl) ?_
              have hFs := (hF s (by omega) (by omega)).1
              refine si_shr S dX5_takeScratches_43 ?_
              refine si_const S dX5_takeScratches_44 ?_
              refine si_and S dX5_takeScratches_45 ?_
              rw [ibit (m := (Fr s)) (k := z) (by omega) (by omega)]
              refine sq_eq (tgt := 61) S dX5_takeScratches_46 (by decide) (fun h46 => ?_) (fun h46 => ?_)
              · refine si_inc (lv' := [(2, .int (sI (z + 1))), (0, .ref o), (1, .int (sI s))]) S dX5_takeScratches_61 hl (k := 2) rfl (by decide) rfl (fun ls hl => ?_)
                refine lv_goto (tgt := 30) hx_ hb_ dX5_takeScratches_64 (by decide) ?_
                exact ih30 (z + 1) H3 Ml30 _ _ _ (by omega) (by omega) (haQ2_f (fun q => h46 (((hF s (by omega) (by omega)).2 z (by omega)).mpr q)) hH3) hm30_0 (fun x q0 => hfr30 x (by omega)) hV (lv_sub hl [1, 2, 0] rfl)
              · refine lv_aload_n hx_ hb_ dX5_takeScratches_49 rfl (lv_at hl 0 rfl) ?_
                refine sc_get (ci := 3) (C := RX5) (T := TX5) (n := 11) S hK hV inX5_ hc15 rfl 2 (by decide) (S.2.2.2.2 _ (List.mem_of_getElem? (i := 1) rfl)) rfl rfl dX5_takeScratches_50 ?_
                refine lv_iload_n hx_ hb_ dX5_takeScratches_53 rfl (lv_at hl 2 rfl) ?_
                refine lv_dup2_11 hx_ hb_ dX5_takeScratches_54 rfl rfl ?_
                refine sc_iald S hK hV hm30_0 (by omega) dX5_takeScratches_55 ?_
                refine si_const S dX5_takeScratches_56 ?_
                refine lv_iload_n hx_ hb_ dX5_takeScratches_57 rfl (lv_at hl 1 rfl) ?_
                refine si_shl S dX5_takeScratches_58 ?_
                refine si_or S dX5_takeScratches_59 ?_
                refine sc_iast S hK hV hm30_0 (by omega) dX5_takeScratches_60 (fun M17 H locs hM17 hV => ?_)
                have hc18 : M17 (o + 3) = some (sArr G 10 (iup H3 z (ior (H3 z) (ishl 1 s)))) := (congrFun hM17 (o + 3)).trans (va_up_self Ml30 (o + 3) _)
                refine si_inc (lv' := [(2, .int (sI (z + 1))), (0, .ref o), (1, .int (sI s))]) S dX5_takeScratches_61 hl (k := 2) rfl (by decide) rfl (fun ls hl => ?_)
                refine lv_goto (tgt := 30) hx_ hb_ dX5_takeScratches_64 (by decide) ?_
                exact ih30 (z + 1) (iup H3 z (ior (H3 z) (ishl 1 s))) M17 _ _ _ (by omega) (by omega) (haQ2_t (by omega) (((hF s (by omega) (by omega)).2 z (by omega)).mp h46) hH3) hc18 (fun x q0 => ((congrFun hM17 x).trans (va_up_ne Ml30 _ (by omega))).trans (hfr30 x (by omega))) hV (lv_sub hl [1, 2, 0] rfl)
        have hc19 : M11 (o + 3) = some (sArr G 10 H2) := ((congrFun hM11 (o + 3)).trans (va_up_ne Ml10 _ (by omega))).trans hm10_1
        exact L30 _ 0 H2 M11 _ _ _ (Nat.lt_succ_self _) (by omega) (hH2) hc19 (fun x q0 => rfl) hV (lv_sub hl [1, 2, 0] rfl)
  have hc20 : M1 (o + 2) = some (sArr G 10 So) := (hf7 (o + 2) (by omega)).trans ho2
  exact L10 _ 0 So (cpK Ha (fun _ => 0) 10) M1 _ _ _ (Nat.lt_succ_self _) (by omega) (fun q a b => by omega) (haQ2_0 (fun q a b => by show cpK Ha (fun _ => 0) (10 : Nat) q = 0; unfold cpK; rw [if_pos (by omega)])) hc20 hc6 (fun x q0 q1 => rfl) hV (lv_sub hl [1, 0] rfl)

abbrev rmX5_fullSet : Room := { frames := 1, cells := 0, slots := 0, locals := 40 }
set_option maxHeartbeats 4000000 in
set_option maxRecDepth 100000 in
theorem kX5_fullSet (l_ : Launch) (G : sG) (b_ : Nat) (M : sM) (N : Nat) (o : Nat) (L c : Int) (ho0 : M o = some (sObj 3 [.ref (o + 1), .ref (o + 2), .ref (o + 3), .ref (o + 4), .ref (o + 5), .ref (o + 6), .ref (o + 7), .ref (o + 8), .ref (o + 9), .int (sI L), .int (sI c)])) (hc : 0 ≤ c ∧ c ≤ 10) : cP l_ yX5_fullSet wsX5_fullSet rmX5_fullSet G b_ M N [.ref o] (p2 c - 1) := by
  refine sE.ofI (cc := cX5_fullSet) (nL := 1) (ret := (some .int)) (by decide) rfl (Nat.le_of_ble_eq_true rfl) ?_
  intro p_ e_ s_ m_ args_ below_ meth_ c_ ls Q hQ E hl
  have E : sE p_ l_ e_ rmX5_fullSet s_ m_ args_ below_ meth_ c_ cX5_fullSet 1 wsX5_fullSet RX5 "fullSet" (some .int) G b_ M N := E
  have S := E.1
  have hx_ := S.1
  have hb_ := S.2.1
  have hK := E.2.2.2.2.1
  have hV := E.2.2.2.2.2.2
  have hl : lv_has ls 1 [(0, .ref o)] := hl
  have inX5_ : ∀ w ∈ wsX50, w ∈ wsX5_fullSet := fun _ h => List.mem_cons_of_mem _ (List.mem_append_right _ h)
  have hp1 := p2_p c
  have hp2 := p2_10 (n := c) (by omega)
  refine lv_aload_n hx_ hb_ dX5_fullSet_0 rfl (lv_at hl 0 rfl) ?_
  refine sc_get (ci := 3) (C := RX5) (T := TX5) (n := 11) S hK hV inX5_ ho0 rfl 10 (by decide) (S.2.2.2.2 _ (List.mem_of_getElem? (i := 1) rfl)) rfl rfl dX5_fullSet_1 ?_
  refine sz_gt (tgt := 11) S dX5_fullSet_4 (by decide) (by omega) (fun c1 => ?_) (fun c1 => ?_)
  · refine si_const S dX5_fullSet_11 ?_
    refine lv_aload_n hx_ hb_ dX5_fullSet_12 rfl (lv_at hl 0 rfl) ?_
    refine sc_get (ci := 3) (C := RX5) (T := TX5) (n := 11) S hK hV inX5_ ho0 rfl 10 (by decide) (S.2.2.2.2 _ (List.mem_of_getElem? (i := 1) rfl)) rfl rfl dX5_fullSet_13 ?_
    refine si_shl S dX5_fullSet_16 ?_
    rw [ishl_p2 (k := c) (by omega)]
    refine si_const S dX5_fullSet_17 ?_
    refine si_sub S dX5_fullSet_18 ?_
    exact sr_i E hQ dX5_fullSet_19 ⟨Nat.le_of_ble_eq_true rfl, Nat.le_of_ble_eq_true rfl⟩ hV (⟨rfl, rfl, rfl⟩)
  · refine si_const S dX5_fullSet_7 ?_
    refine lv_goto (tgt := 19) hx_ hb_ dX5_fullSet_8 (by decide) ?_
    exact sr_i E hQ dX5_fullSet_19 ⟨Nat.le_of_ble_eq_true rfl, Nat.le_of_ble_eq_true rfl⟩ hV (⟨by rw [show c = 0 by omega]; rfl, rfl, rfl⟩)

abbrev rmX5_canBeNext : Room := { frames := 1, cells := 0, slots := 0, locals := 40 }
set_option maxHeartbeats 4000000 in
set_option maxRecDepth 100000 in
theorem kX5_canBeNext (l_ : Launch) (G : sG) (b_ : Nat) (M : sM) (N : Nat) (o : Nat) (L : Int) (Ha f : sF) (s v : Int) (ho0 : M o = some (sObj 3 [.ref (o + 1), .ref (o + 2), .ref (o + 3), .ref (o + 4), .ref (o + 5), .ref (o + 6), .ref (o + 7), .ref (o + 8), .ref (o + 9), .int (sI L), .int (sI (f 568))])) (ho3 : M (o + 3) = some (sArr G 10 Ha)) (hok : sOk f) (hH : haP f Ha) (hv : 0 ≤ v ∧ v ≤ 1073741823) (hs : 0 ≤ s ∧ s < f 568) : cP l_ yX5_canBeNext wsX5_canBeNext rmX5_canBeNext G b_ M N [.ref o, .int (sI s), .int (sI v)] (bI (nxS f v s)) := by
  refine sE.ofI (cc := cX5_canBeNext) (nL := 3) (ret := (some .boolean)) (by decide) rfl (Nat.le_of_ble_eq_true rfl) ?_
  intro p_ e_ s_ m_ args_ below_ meth_ c_ ls Q hQ E hl
  have E : sE p_ l_ e_ rmX5_canBeNext s_ m_ args_ below_ meth_ c_ cX5_canBeNext 3 wsX5_canBeNext RX5 "canBeNext" (some .boolean) G b_ M N := E
  have S := E.1
  have hx_ := S.1
  have hb_ := S.2.1
  have hK := E.2.2.2.2.1
  have hV := E.2.2.2.2.2.2
  have hl : lv_has ls 3 [(0, .ref o), (1, .int (sI s)), (2, .int (sI v))] := hl
  have inX5_ : ∀ w ∈ wsX50, w ∈ wsX5_canBeNext := fun _ h => List.mem_cons_of_mem _ (List.mem_append_right _ h)
  have kn0 := sOk_N hok
  have hHs := (hH s hs.1 (by omega)).1
  refine lv_iload_n hx_ hb_ dX5_canBeNext_0 rfl (lv_at hl 2 rfl) ?_
  refine lv_iload_n hx_ hb_ dX5_canBeNext_1 rfl (lv_at hl 1 rfl) ?_
  refine si_shr S dX5_canBeNext_2 ?_
  refine si_const S dX5_canBeNext_3 ?_
  refine si_and S dX5_canBeNext_4 ?_
  rw [ibit (m := v) (k := s) (by omega) (by omega)]
  refine sq_ne (tgt := 25) S dX5_canBeNext_5 (by decide) (fun h5 => ?_) (fun h5 => ?_)
  · refine si_const S dX5_canBeNext_25 ?_
    exact sr_z E hQ (Or.inl rfl) dX5_canBeNext_26 ⟨Nat.le_of_ble_eq_true rfl, Nat.le_of_ble_eq_true rfl⟩ hV (⟨(bI_f (fun h => h.1 h5)).symm, rfl, rfl⟩)
  · refine lv_aload_n hx_ hb_ dX5_canBeNext_8 rfl (lv_at hl 0 rfl) ?_
    refine sc_get (ci := 3) (C := RX5) (T := TX5) (n := 11) S hK hV inX5_ ho0 rfl 2 (by decide) (S.2.2.2.2 _ (List.mem_of_getElem? (i := 1) rfl)) rfl rfl dX5_canBeNext_9 ?_
    refine lv_iload_n hx_ hb_ dX5_canBeNext_12 rfl (lv_at hl 1 rfl) ?_
    refine sc_iald S hK hV ho3 (by omega) dX5_canBeNext_13 ?_
    refine lv_iload_n hx_ hb_ dX5_canBeNext_14 rfl (lv_at hl 2 rfl) ?_
    refine si_const S dX5_canBeNext_15 ?_
    refine si_xor S dX5_canBeNext_16 ?_
    refine si_and S dX5_canBeNext_17 ?_
    have hir := iand_r (Ha s) (ixor v (-1))
    refine sz_ne (tgt := 25) S dX5_canBeNext_18 (by decide) (by omega) (fun h18 => ?_) (fun h18 => ?_)
    · refine si_const S dX5_canBeNext_25 ?_
      exact sr_z E hQ (Or.inl rfl) dX5_canBeNext_26 ⟨Nat.le_of_ble_eq_true rfl, Nat.le_of_ble_eq_true rfl⟩ hV (⟨(bI_f (fun h => h18 ((nx_ha hok hH (by omega) hs h5).mpr h))).symm, rfl, rfl⟩)
    · refine si_const S dX5_canBeNext_21 ?_
      refine lv_goto (tgt := 26) hx_ hb_ dX5_canBeNext_22 (by decide) ?_
      exact sr_z E hQ (Or.inr rfl) dX5_canBeNext_26 ⟨Nat.le_of_ble_eq_true rfl, Nat.le_of_ble_eq_true rfl⟩ hV (⟨(bI_t ((nx_ha hok hH (by omega) hs h5).mp (by omega))).symm, rfl, rfl⟩)

abbrev rmX5_countWaysAhead : Room := { frames := 2, cells := 0, slots := 0, locals := 63 }
set_option maxHeartbeats 4000000 in
set_option maxRecDepth 100000 in
theorem kX5_countWaysAhead (l_ : Launch) (G : sG) (b_ : Nat) (M : sM) (N : Nat) (o : Nat) (L : Int) (Ha Ah f : sF) (ho0 : M o = some (sObj 3 [.ref (o + 1), .ref (o + 2), .ref (o + 3), .ref (o + 4), .ref (o + 5), .ref (o + 6), .ref (o + 7), .ref (o + 8), .ref (o + 9), .int (sI L), .int (sI (f 568))])) (ho3 : M (o + 3) = some (sArr G 10 Ha)) (ho4 : M (o + 4) = some (sArr G 1024 Ah)) (hok : sOk f) (hH : haP f Ha) : cV l_ yX5_countWaysAhead wsX5_countWaysAhead rmX5_countWaysAhead G b_ M N [.ref o] (fun M1 N1 => ∃ W9 : Int → Int, N1 = N ∧ M1 (o + 4) = some (sArr G 1024 W9) ∧ (∀ x : Nat, ¬ (x = o + 4) → M1 x = M x) ∧ (∀ u, 0 ≤ u → u < p2 (f 568) → W9 u = wyC f u)) := by
  refine sE.ofV (cc := cX5_countWaysAhead) (nL := 4) (ret := none) (by decide) rfl (Nat.le_of_ble_eq_true rfl) ?_
  intro p_ e_ s_ m_ args_ below_ meth_ c_ ls Q hQ E hl
  have E : sE p_ l_ e_ rmX5_countWaysAhead s_ m_ args_ below_ meth_ c_ cX5_countWaysAhead 4 wsX5_countWaysAhead RX5 "countWaysAhead" none G b_ M N := E
  have S := E.1
  have hx_ := S.1
  have hb_ := S.2.1
  have hK := E.2.2.2.2.1
  have hV := E.2.2.2.2.2.2
  have hl : lv_has ls 4 [(0, .ref o)] := hl
  have inX5_ : ∀ w ∈ wsX50, w ∈ wsX5_countWaysAhead := fun _ h => List.mem_cons_of_mem _ (List.mem_append_right _ h)
  have kn0 := sOk_N hok
  have hp1 := p2_p (f 568)
  have hp2 := p2_10 (n := f 568) (by omega)
  refine lv_aload_n hx_ hb_ dX5_countWaysAhead_0 rfl (lv_at hl 0 rfl) ?_
  refine sc_get (ci := 3) (C := RX5) (T := TX5) (n := 11) S hK hV inX5_ ho0 rfl 3 (by decide) (S.2.2.2.2 _ (List.mem_of_getElem? (i := 1) rfl)) rfl rfl dX5_countWaysAhead_1 ?_
  refine si_const S dX5_countWaysAhead_4 ?_
  refine sk_Sv E hV (As := [.ref (o + 4), .int (sI 0)]) (rest := []) (kJ7_fill_53178 l_ G b_ M N (o + 4) 1024 Ah 0 ho4 (by omega)) (va_cwS 2 S.2.2.2.2 gX5_countWaysAhead_J7_fill_53178 rfl rfl rfl (by decide +kernel) ⟨Nat.le_of_ble_eq_true rfl, Nat.le_of_ble_eq_true rfl⟩) rfl rfl hl.1 (Nat.le_of_ble_eq_true rfl) dX5_countWaysAhead_5 (c1 := 0) (s1 := 0) ⟨⟨rfl, rfl⟩, by decide, by decide⟩ (fun M1 N2 H locs hp3 hV => ?_)
  obtain ⟨hN5, hc6, hf7⟩ := hp3
  rw [hN5] at hV
  refine lv_aload_n hx_ hb_ dX5_countWaysAhead_8 rfl (lv_at hl 0 rfl) ?_
  have hc8 : M1 o = some (sObj 3 [.ref (o + 1), .ref (o + 2), .ref (o + 3), .ref (o + 4), .ref (o + 5), .ref (o + 6), .ref (o + 7), .ref (o + 8), .ref (o + 9), .int (sI L), .int (sI (f 568))]) := (hf7 o (by omega)).trans ho0
  refine sk_VP E hV (As := []) (rest := []) (kX5_fullSet l_ G b_ M1 N o L (f 568) hc8 (by omega)) (cwV 0 S.2.2.2.2 gX5_countWaysAhead_X5_fullSet rfl rfl rfl (by decide +kernel) ⟨Nat.le_of_ble_eq_true rfl, Nat.le_of_ble_eq_true rfl⟩) (ci := 3) hc8 rfl rfl rfl hl.1 (Nat.le_of_ble_eq_true rfl) dX5_countWaysAhead_9 (c1 := 0) (s1 := 0) ⟨⟨rfl, rfl⟩, by decide, by decide⟩ (fun H locs hV => ?_)
  refine lv_istore_n (lv' := [(1, .int (sI (p2 (f 568) - 1))), (0, .ref o)]) hx_ hb_ dX5_countWaysAhead_12 rfl hl (by decide) rfl (fun ls hl => ?_)
  refine lv_aload_n hx_ hb_ dX5_countWaysAhead_13 rfl (lv_at hl 1 rfl) ?_
  refine sc_get (ci := 3) (C := RX5) (T := TX5) (n := 11) S hK hV inX5_ hc8 rfl 3 (by decide) (S.2.2.2.2 _ (List.mem_of_getElem? (i := 1) rfl)) rfl rfl dX5_countWaysAhead_14 ?_
  refine si_const S dX5_countWaysAhead_17 ?_
  refine si_const S dX5_countWaysAhead_18 ?_
  refine sc_iast S hK hV hc6 (by omega) dX5_countWaysAhead_19 (fun M9 H locs hM9 hV => ?_)
  have hc10 : M9 (o + 4) = some (sArr G 1024 (iup (cpK Ah (fun _ => 0) 1024) 0 1)) := (congrFun hM9 (o + 4)).trans (va_up_self M1 (o + 4) _)
  refine si_const S dX5_countWaysAhead_20 ?_
  refine lv_istore_n (lv' := [(2, .int (sI 0)), (1, .int (sI (p2 (f 568) - 1))), (0, .ref o)]) hx_ hb_ dX5_countWaysAhead_21 rfl hl (by decide) rfl (fun ls hl => ?_)
  have L22 : ∀ (fuel : Nat) (v : Int) (W3 : Int → Int) (Ml22 : sM) (H : Heap) (locs : List Loc) (ls : Array Slot), ((p2 (f 568) - v).toNat) < fuel → (0 ≤ v ∧ v ≤ p2 (f 568)) → (wyI (f 568) (nxS f) W3 v 0) → (Ml22 (o + 4) = some (sArr G 1024 W3)) → (∀ x : Nat, ¬ (x = o + 4) → Ml22 x = M9 x) → sV G b_ Ml22 N s_ H locs → lv_has ls 4 [(0, .ref o), (1, .int (sI (p2 (f 568) - 1))), (2, .int (sI v))] → W p_ l_ e_ rmX5_countWaysAhead s_ m_ args_ below_ meth_ c_ H locs 0 0 Q (F0 m_ 22 ls []) := by
    intro fuel
    induction fuel with
    | zero => intro v W3 Ml22 H locs ls hmu; exact absurd hmu (Nat.not_lt_zero _)
    | succ fuel ih22 =>
      intro v W3 Ml22 H locs ls hmu22 hv22_0 hW3 hm22_0 hfr22 hV hl
      refine lv_iload_n hx_ hb_ dX5_countWaysAhead_22 rfl (lv_at hl 2 rfl) ?_
      refine lv_iload_n hx_ hb_ dX5_countWaysAhead_23 rfl (lv_at hl 1 rfl) ?_
      refine sb_gt (tgt := 86) S dX5_countWaysAhead_24 (by decide) (by omega) (fun c11 => ?_) (fun c11 => ?_)
      · exact sr_v E hQ dX5_countWaysAhead_86 ⟨Nat.le_of_ble_eq_true rfl, Nat.le_of_ble_eq_true rfl⟩ hV (⟨W3, rfl, hm22_0, fun x q0 => ((hfr22 x (by omega)).trans ((congrFun hM9 x).trans (va_up_ne M1 _ (by omega)))).trans (hf7 x (by omega)), fun u a b => wy_p hW3 (wyC_R f (by omega)) u a (by omega) b⟩)
      · refine si_const S dX5_countWaysAhead_27 ?_
        refine lv_istore_n (lv' := [(3, .int (sI 0)), (0, .ref o), (1, .int (sI (p2 (f 568) - 1))), (2, .int (sI v))]) hx_ hb_ dX5_countWaysAhead_28 rfl hl (by decide) rfl (fun ls hl => ?_)
        have L29 : ∀ (fuel : Nat) (s : Int) (W4 : Int → Int) (Ml29 : sM) (H : Heap) (locs : List Loc) (ls : Array Slot), ((f 568 - s).toNat) < fuel → (0 ≤ s ∧ s ≤ f 568) → (wyI (f 568) (nxS f) W4 v s) → (Ml29 (o + 4) = some (sArr G 1024 W4)) → (∀ x : Nat, ¬ (x = o + 4) → Ml29 x = Ml22 x) → sV G b_ Ml29 N s_ H locs → lv_has ls 4 [(0, .ref o), (1, .int (sI (p2 (f 568) - 1))), (2, .int (sI v)), (3, .int (sI s))] → W p_ l_ e_ rmX5_countWaysAhead s_ m_ args_ below_ meth_ c_ H locs 0 0 Q (F0 m_ 29 ls []) := by
          intro fuel
          induction fuel with
          | zero => intro s W4 Ml29 H locs ls hmu; exact absurd hmu (Nat.not_lt_zero _)
          | succ fuel ih29 =>
            intro s W4 Ml29 H locs ls hmu29 hv29_0 hW4 hm29_0 hfr29 hV hl
            have hwp := wy_p hW4 (wyC_R f (by omega)) v (by omega) (by omega) (by omega)
            have hwr := wyW_r (by omega) (wyC_R f (by omega)) v (by omega) (by omega)
            refine lv_aload_n hx_ hb_ dX5_countWaysAhead_29 rfl (lv_at hl 0 rfl) ?_
            have hc12 : Ml29 o = some (sObj 3 [.ref (o + 1), .ref (o + 2), .ref (o + 3), .ref (o + 4), .ref (o + 5), .ref (o + 6), .ref (o + 7), .ref (o + 8), .ref (o + 9), .int (sI L), .int (sI (f 568))]) := (((hfr29 o (by omega)).trans (hfr22 o (by omega))).trans ((congrFun hM9 o).trans (va_up_ne M1 _ (by omega)))).trans hc8
            refine sc_get (ci := 3) (C := RX5) (T := TX5) (n := 11) S hK hV inX5_ hc12 rfl 3 (by decide) (S.2.2.2.2 _ (List.mem_of_getElem? (i := 1) rfl)) rfl rfl dX5_countWaysAhead_30 ?_
            refine lv_iload_n hx_ hb_ dX5_countWaysAhead_33 rfl (lv_at hl 2 rfl) ?_
            refine sc_iald S hK hV hm29_0 (by omega) dX5_countWaysAhead_34 ?_
            refine sz_le (tgt := 80) S dX5_countWaysAhead_35 (by decide) (by omega) (fun c13 => ?_) (fun c13 => ?_)
            · refine si_inc (lv' := [(2, .int (sI (v + 1))), (0, .ref o), (1, .int (sI (p2 (f 568) - 1))), (3, .int (sI s))]) S dX5_countWaysAhead_80 hl (k := 2) rfl (by decide) rfl (fun ls hl => ?_)
              refine lv_goto (tgt := 22) hx_ hb_ dX5_countWaysAhead_83 (by decide) ?_
              exact ih22 (v + 1) W4 Ml29 _ _ _ (by omega) (by omega) (wyI_z (by have := (wyW_r (by omega) (wyC_R f (by omega)) v (by omega) (by omega)).1; have := wy_p hW4 (wyC_R f (by omega)) v (by omega) (by omega) (by omega); omega) hW4) hm29_0 (fun x q0 => (hfr29 x (by omega)).trans (hfr22 x (by omega))) hV (lv_sub hl [1, 2, 0] rfl)
            · refine lv_iload_n hx_ hb_ dX5_countWaysAhead_38 rfl (lv_at hl 3 rfl) ?_
              refine lv_aload_n hx_ hb_ dX5_countWaysAhead_39 rfl (lv_at hl 0 rfl) ?_
              refine sc_get (ci := 3) (C := RX5) (T := TX5) (n := 11) S hK hV inX5_ hc12 rfl 10 (by decide) (S.2.2.2.2 _ (List.mem_of_getElem? (i := 2) rfl)) rfl rfl dX5_countWaysAhead_40 ?_
              refine sb_ge (tgt := 80) S dX5_countWaysAhead_43 (by decide) (by omega) (fun c14 => ?_) (fun c14 => ?_)
              · refine si_inc (lv' := [(2, .int (sI (v + 1))), (0, .ref o), (1, .int (sI (p2 (f 568) - 1))), (3, .int (sI s))]) S dX5_countWaysAhead_80 hl (k := 2) rfl (by decide) rfl (fun ls hl => ?_)
                refine lv_goto (tgt := 22) hx_ hb_ dX5_countWaysAhead_83 (by decide) ?_
                exact ih22 (v + 1) W4 Ml29 _ _ _ (by omega) (by omega) (wyI_n (by rw [show f 568 = s by omega]; rw [show f 568 = s by omega] at hW4; exact hW4)) hm29_0 (fun x q0 => (hfr29 x (by omega)).trans (hfr22 x (by omega))) hV (lv_sub hl [1, 2, 0] rfl)
              · refine lv_aload_n hx_ hb_ dX5_countWaysAhead_46 rfl (lv_at hl 0 rfl) ?_
                refine lv_iload_n hx_ hb_ dX5_countWaysAhead_47 rfl (lv_at hl 3 rfl) ?_
                refine lv_iload_n hx_ hb_ dX5_countWaysAhead_48 rfl (lv_at hl 2 rfl) ?_
                have hc15 : Ml29 (o + 3) = some (sArr G 10 Ha) := ((((hfr29 (o + 3) (by omega)).trans (hfr22 (o + 3) (by omega))).trans ((congrFun hM9 (o + 3)).trans (va_up_ne M1 _ (by omega)))).trans (hf7 (o + 3) (by omega))).trans ho3
                refine sk_VP E hV (As := [.int (sI s), .int (sI v)]) (rest := []) (kX5_canBeNext l_ G b_ Ml29 N o L Ha f s v hc12 hc15 (by omega) (hH) (by omega) (by omega)) (cwV 2 S.2.2.2.2 gX5_countWaysAhead_X5_canBeNext rfl rfl rfl (by decide +kernel) ⟨Nat.le_of_ble_eq_true rfl, Nat.le_of_ble_eq_true rfl⟩) (ci := 3) hc12 rfl rfl rfl hl.1 (Nat.le_of_ble_eq_true rfl) dX5_countWaysAhead_49 (c1 := 0) (s1 := 0) ⟨⟨rfl, rfl⟩, by decide, by decide⟩ (fun H locs hV => ?_)
                refine sq_eq (tgt := 74) S dX5_countWaysAhead_52 (by decide) (fun h52 => ?_) (fun h52 => ?_)
                · refine si_inc (lv' := [(3, .int (sI (s + 1))), (0, .ref o), (1, .int (sI (p2 (f 568) - 1))), (2, .int (sI v))]) S dX5_countWaysAhead_74 hl (k := 3) rfl (by decide) rfl (fun ls hl => ?_)
                  refine lv_goto (tgt := 29) hx_ hb_ dX5_countWaysAhead_77 (by decide) ?_
                  exact ih29 (s + 1) W4 Ml29 _ _ _ (by omega) (by omega) (wyI_f hW4 h52) hm29_0 (fun x q0 => hfr29 x (by omega)) hV (lv_sub hl [1, 2, 3, 0] rfl)
                · have hnx := nx_lt (n := f 568) (v := v) (s := s) (by omega) (by omega) (by omega) h52.1
                  have hps := p2_p s
                  refine lv_aload_n hx_ hb_ dX5_countWaysAhead_55 rfl (lv_at hl 0 rfl) ?_
                  refine sc_get (ci := 3) (C := RX5) (T := TX5) (n := 11) S hK hV inX5_ hc12 rfl 3 (by decide) (S.2.2.2.2 _ (List.mem_of_getElem? (i := 1) rfl)) rfl rfl dX5_countWaysAhead_56 ?_
                  refine lv_iload_n hx_ hb_ dX5_countWaysAhead_59 rfl (lv_at hl 2 rfl) ?_
                  refine si_const S dX5_countWaysAhead_60 ?_
                  refine lv_iload_n hx_ hb_ dX5_countWaysAhead_61 rfl (lv_at hl 3 rfl) ?_
                  refine si_shl S dX5_countWaysAhead_62 ?_
                  refine si_or S dX5_countWaysAhead_63 ?_
                  rw [ior_p2 (by omega) (by omega) h52.1]
                  refine lv_dup2_11 hx_ hb_ dX5_countWaysAhead_64 rfl rfl ?_
                  refine sc_iald S hK hV hm29_0 (by omega) dX5_countWaysAhead_65 ?_
                  refine lv_aload_n hx_ hb_ dX5_countWaysAhead_66 rfl (lv_at hl 0 rfl) ?_
                  refine sc_get (ci := 3) (C := RX5) (T := TX5) (n := 11) S hK hV inX5_ hc12 rfl 3 (by decide) (S.2.2.2.2 _ (List.mem_of_getElem? (i := 1) rfl)) rfl rfl dX5_countWaysAhead_67 ?_
                  refine lv_iload_n hx_ hb_ dX5_countWaysAhead_70 rfl (lv_at hl 2 rfl) ?_
                  refine sc_iald S hK hV hm29_0 (by omega) dX5_countWaysAhead_71 ?_
                  refine si_add S dX5_countWaysAhead_72 ?_
                  refine sc_iast S hK hV hm29_0 (by omega) dX5_countWaysAhead_73 (fun M16 H locs hM16 hV => ?_)
                  have hc17 : M16 (o + 4) = some (sArr G 1024 (iup W4 (v + p2 s) ((W4 (v + p2 s)) + (W4 v)))) := (congrFun hM16 (o + 4)).trans (va_up_self Ml29 (o + 4) _)
                  refine si_inc (lv' := [(3, .int (sI (s + 1))), (0, .ref o), (1, .int (sI (p2 (f 568) - 1))), (2, .int (sI v))]) S dX5_countWaysAhead_74 hl (k := 3) rfl (by decide) rfl (fun ls hl => ?_)
                  refine lv_goto (tgt := 29) hx_ hb_ dX5_countWaysAhead_77 (by decide) ?_
                  exact ih29 (s + 1) (iup W4 (v + p2 s) ((W4 (v + p2 s)) + (W4 v))) M16 _ _ _ (by omega) (by omega) (wyI_t (by omega) nxS_n hW4 (by omega) (by omega) h52) hc17 (fun x q0 => ((congrFun hM16 x).trans (va_up_ne Ml29 _ (by omega))).trans (hfr29 x (by omega))) hV (lv_sub hl [1, 2, 3, 0] rfl)
        exact L29 _ 0 W3 Ml22 _ _ _ (Nat.lt_succ_self _) (by omega) (hW3) hm22_0 (fun x q0 => rfl) hV (lv_sub hl [1, 2, 3, 0] rfl)
  exact L22 _ 0 (iup (cpK Ah (fun _ => 0) 1024) 0 1) M9 _ _ _ (Nat.lt_succ_self _) (by omega) (wyI_0 (fun u a b => by unfold iup cpK; by_cases e : u = 0; exact (by rw [if_pos e, if_pos e]); exact (by rw [if_neg e, if_pos (by omega), if_neg e]))) hc10 (fun x q0 => rfl) hV (lv_sub hl [2, 1, 0] rfl)

abbrev rmX5_total : Room := { frames := 2, cells := 0, slots := 0, locals := 60 }
set_option maxHeartbeats 4000000 in
set_option maxRecDepth 100000 in
theorem kX5_total (l_ : Launch) (G : sG) (b_ : Nat) (M : sM) (N : Nat) (o : Nat) (L : Int) (Ah f : sF) (ho0 : M o = some (sObj 3 [.ref (o + 1), .ref (o + 2), .ref (o + 3), .ref (o + 4), .ref (o + 5), .ref (o + 6), .ref (o + 7), .ref (o + 8), .ref (o + 9), .int (sI L), .int (sI (f 568))])) (ho4 : M (o + 4) = some (sArr G 1024 Ah)) (hok : sOk f) (hA : ∀ u, 0 ≤ u → u < p2 (f 568) → Ah u = wyC f u) : cP l_ yX5_total wsX5_total rmX5_total G b_ M N [.ref o] (totI f) := by
  refine sE.ofI (cc := cX5_total) (nL := 1) (ret := (some .int)) (by decide) rfl (Nat.le_of_ble_eq_true rfl) ?_
  intro p_ e_ s_ m_ args_ below_ meth_ c_ ls Q hQ E hl
  have E : sE p_ l_ e_ rmX5_total s_ m_ args_ below_ meth_ c_ cX5_total 1 wsX5_total RX5 "total" (some .int) G b_ M N := E
  have S := E.1
  have hx_ := S.1
  have hb_ := S.2.1
  have hK := E.2.2.2.2.1
  have hV := E.2.2.2.2.2.2
  have hl : lv_has ls 1 [(0, .ref o)] := hl
  have inX5_ : ∀ w ∈ wsX50, w ∈ wsX5_total := fun _ h => List.mem_cons_of_mem _ (List.mem_append_right _ h)
  have kn0 := sOk_N hok
  have hp1 := p2_p (f 568)
  have hp2 := p2_10 (n := f 568) (by omega)
  refine lv_aload_n hx_ hb_ dX5_total_0 rfl (lv_at hl 0 rfl) ?_
  refine sc_get (ci := 3) (C := RX5) (T := TX5) (n := 11) S hK hV inX5_ ho0 rfl 3 (by decide) (S.2.2.2.2 _ (List.mem_of_getElem? (i := 1) rfl)) rfl rfl dX5_total_1 ?_
  refine lv_aload_n hx_ hb_ dX5_total_4 rfl (lv_at hl 0 rfl) ?_
  refine sk_VP E hV (As := []) (rest := [.ref (o + 4)]) (kX5_fullSet l_ G b_ M N o L (f 568) ho0 (by omega)) (cwV 0 S.2.2.2.2 gX5_total_X5_fullSet rfl rfl rfl (by decide +kernel) ⟨Nat.le_of_ble_eq_true rfl, Nat.le_of_ble_eq_true rfl⟩) (ci := 3) ho0 rfl rfl rfl hl.1 (Nat.le_of_ble_eq_true rfl) dX5_total_5 (c1 := 0) (s1 := 0) ⟨⟨rfl, rfl⟩, by decide, by decide⟩ (fun H locs hV => ?_)
  refine sc_iald S hK hV ho4 (by omega) dX5_total_8 ?_
  exact sr_i E hQ dX5_total_9 ⟨Nat.le_of_ble_eq_true rfl, Nat.le_of_ble_eq_true rfl⟩ hV (⟨hA _ (by omega) (by omega), rfl, rfl⟩)
