/-! Numbers of 32 bits as whole numbers: sI z is the int of z; arithmetic without any bound, comparisons inside it. -/
abbrev sR (z : Int) : Prop := -2147483648 ≤ z ∧ z ≤ 2147483647
def sI (z : Int) : Int32 := Int32.ofInt z
def sL (z : Int) : Int64 := Int64.ofInt z
theorem sI_add (a b : Int) : sI a + sI b = sI (a + b) := (Int32.ofInt_add a b).symm
theorem sI_sub (a b : Int) : sI a - sI b = sI (a - b) := (Int32.ofInt_sub a b).symm
theorem sI_mul (a b : Int) : sI a * sI b = sI (a * b) := (Int32.ofInt_mul a b).symm
theorem sI_neg (a : Int) : - sI a = sI (-a) := (Int32.ofInt_neg a).symm
theorem sI_self (x : Int32) : sI x.toInt = x := Int32.ofInt_toInt x
theorem sI_toInt {z : Int} (h : sR z) : (sI z).toInt = z := Int32.toInt_ofInt_of_le (by omega) (by omega)
theorem sI_r (x : Int32) : sR x.toInt := by
  have h1 := Int32.le_toInt x
  have h2 := Int32.toInt_lt x
  omega
theorem sI_eq {a b : Int} (ha : sR a) (hb : sR b) : sI a = sI b ↔ a = b := by rw [← Int32.toInt_inj, sI_toInt ha, sI_toInt hb]
theorem sI_lt {a b : Int} (ha : sR a) (hb : sR b) : sI a < sI b ↔ a < b := by rw [Int32.lt_iff_toInt_lt, sI_toInt ha, sI_toInt hb]
theorem sI_le {a b : Int} (ha : sR a) (hb : sR b) : sI a ≤ sI b ↔ a ≤ b := by rw [Int32.le_iff_toInt_le, sI_toInt ha, sI_toInt hb]
theorem sI_zero : (0 : Int32) = sI 0 := by decide
theorem sI_div {a b : Int} (ha : sR a) (hb : sR b) : sI a / sI b = sI (a.tdiv b) := by
  rw [← Int32.toInt_inj, Int32.toInt_div, sI_toInt ha, sI_toInt hb]
  exact Int32.toInt_ofInt.symm
theorem sI_rem {a b : Int} (ha : sR a) (hb : sR b) : sI a - sI a / sI b * sI b = sI (a.tmod b) := by
  rw [sI_div ha hb, sI_mul, sI_sub, Int.tmod_def, Int.mul_comm (a.tdiv b) b]
theorem sI_ne0 {a : Int} (ha : sR a) (h : a ≠ 0) : ¬ sI a = 0 := by rw [sI_zero, sI_eq ha (by omega)]; exact h
theorem sI_clamp {z : Int} (h : sR z) : (sI z).toNatClampNeg = z.toNat := by
  show (sI z).toInt.toNat = z.toNat
  rw [sI_toInt h]
theorem sI_in {z : Int} {n : Nat} (h : 0 ≤ z ∧ z < n ∧ (n : Int) ≤ 2147483647) : ¬ (sI z < 0 ∨ n ≤ (sI z).toNatClampNeg) := by
  have hz : sR z := by omega
  rw [sI_zero, sI_lt hz (by omega), sI_clamp hz]
  omega
/-- bits, by way of the machine's own numbers -/
def iand (a b : Int) : Int := (sI a &&& sI b).toInt
def ior (a b : Int) : Int := (sI a ||| sI b).toInt
def ixor (a b : Int) : Int := (sI a ^^^ sI b).toInt
def ishl (a b : Int) : Int := (sI a <<< (sI b &&& 31)).toInt
def ishr (a b : Int) : Int := (sI a >>> (sI b &&& 31)).toInt
def iushr (a b : Int) : Int := (((sI a).toUInt32 >>> ((sI b).toUInt32 &&& Int32.toUInt32 31)).toInt32).toInt
theorem sI_and (a b : Int) : sI a &&& sI b = sI (iand a b) := (sI_self _).symm
theorem sI_or (a b : Int) : sI a ||| sI b = sI (ior a b) := (sI_self _).symm
theorem sI_xor (a b : Int) : sI a ^^^ sI b = sI (ixor a b) := (sI_self _).symm
theorem sI_shl (a b : Int) : sI a <<< (sI b &&& 31) = sI (ishl a b) := (sI_self _).symm
theorem sI_shr (a b : Int) : sI a >>> (sI b &&& 31) = sI (ishr a b) := (sI_self _).symm
theorem sI_ushr (a b : Int) : ((sI a).toUInt32 >>> ((sI b).toUInt32 &&& Int32.toUInt32 31)).toInt32 = sI (iushr a b) := (sI_self _).symm
theorem iand_r (a b : Int) : sR (iand a b) := sI_r _
theorem ior_r (a b : Int) : sR (ior a b) := sI_r _
theorem ixor_r (a b : Int) : sR (ixor a b) := sI_r _
theorem ishl_r (a b : Int) : sR (ishl a b) := sI_r _
theorem ishr_r (a b : Int) : sR (ishr a b) := sI_r _
theorem iushr_r (a b : Int) : sR (iushr a b) := sI_r _
/-- a truth as a number -/
noncomputable def bI (c : Prop) : Int := @ite Int c (Classical.propDecidable c) 1 0
theorem bI_t {c : Prop} (h : c) : bI c = 1 := if_pos h
theorem bI_f {c : Prop} (h : ¬ c) : bI c = 0 := if_neg h
theorem bI_r {c : Prop} : 0 ≤ bI c ∧ bI c ≤ 1 := by unfold bI; split <;> omega
theorem bI_or {c : Prop} : bI c = 0 ∨ bI c = 1 := by unfold bI; split <;> simp
theorem bI_0 {c : Prop} : bI c = 0 ↔ ¬ c := by unfold bI; split <;> simp_all
theorem bI_1 {c : Prop} : bI c = 1 ↔ c := by unfold bI; split <;> simp_all
theorem bI_c {c d : Prop} (h : c ↔ d) : bI c = bI d := by rw [show c = d from propext h]
theorem bI_ii {c d : Prop} : bI c = bI d ↔ (c ↔ d) := by unfold bI; split <;> split <;> simp_all
/-- a number put into a row of numbers -/
def iup (g : Int → Int) (i x : Int) : Int → Int := fun k => if k = i then x else g k
theorem iup_s (g : Int → Int) (i x : Int) : iup g i x i = x := if_pos rfl
theorem iup_n {g : Int → Int} {i x j : Int} (h : j ≠ i) : iup g i x j = g j := if_neg h
/-! The world: every cell that the system has, by its address. -/
abbrev sM : Type := Nat → Option va_E
/-- the classes of the objects: their numbers and slots; the classes of the rows of ints, chars, States, longs -/
abbrev sG : Type := va_G × ClassId × ClassId × ClassId × ClassId
abbrev sTy (G : sG) : List (ClassId × FieldType) := [(G.2.1, .int), (G.2.2.1, .char), (G.2.2.2.1, .object "Stonecabinet$State"), (G.2.2.2.2, .long)]
def sA (b : Nat) : Nat → Prop := fun q => b ≤ q
abbrev sArr (G : sG) (n : Nat) (g : Int → Int) : va_E := .inl (G.2.1, n, .inl (fun k : Nat => sI (g (k : Int))))
abbrev sArC (G : sG) (n : Nat) (g : Int → Int) : va_E := .inl (G.2.2.1, n, .inl (fun k : Nat => sI (g (k : Int))))
abbrev sArS (G : sG) (n : Nat) (f : Nat → Option Nat) : va_E := .inl (G.2.2.2.1, n, .inr (.inr (.inr (.inr f))))
abbrev sArL (G : sG) (n : Nat) (g : Int → Int) : va_E := .inl (G.2.2.2.2, n, .inr (.inl (fun k : Nat => sL (g (k : Int)))))
abbrev sObj (ci : Nat) (fs : List Value) : va_E := .inr (ci, fs)
def sH (G : sG) (b : Nat) (M : sM) (N : Nat) (H : Heap) : Prop := H.size = N ∧ ∀ (a : Nat) (e : va_E), M a = some e → b ≤ a ∧ va_at G.1 vwCl (a, e) H
def sV (G : sG) (b : Nat) (M : sM) (N : Nat) (s : State) (H : Heap) (locs : List Loc) : Prop := sH G b M N H ∧ va_S (sA b) s.heap H locs ∧ b ≤ s.heap.size
theorem sH.lt {G : sG} {b : Nat} {M : sM} {N : Nat} {H : Heap} (h : sH G b M N H) {a : Nat} {e : va_E} (he : M a = some e) : b ≤ a ∧ a < N := by
  obtain ⟨h1, h2⟩ := h.2 a e he
  exact ⟨h1, h.1 ▸ h2.lt⟩
theorem sH.put {G : sG} {b : Nat} {M : sM} {N : Nat} {H H1 : Heap} (h : sH G b M N H) {a : Nat} {e e1 : va_E} (he : M a = some e) (hat : va_at G.1 vwCl (a, e1) H1) (hz : H1.size = H.size) (oq : ∀ q : Nat, q ≠ a → H1[q]? = H[q]?) : sH G b (va_up M a (some e1)) N H1 := by
  refine ⟨hz.trans h.1, fun x ex hx => ?_⟩
  by_cases hxa : x = a
  · subst hxa
    rw [va_up_self] at hx
    cases hx
    exact ⟨(h.2 x e he).1, hat⟩
  · rw [va_up_ne M _ hxa] at hx
    exact ⟨(h.2 x ex hx).1, (h.2 x ex hx).2.kept (oq x hxa)⟩
theorem sH.push {G : sG} {b : Nat} {M : sM} {N : Nat} {H H1 : Heap} (h : sH G b M N H) (hb : b ≤ N) {e1 : va_E} (hat : va_at G.1 vwCl (N, e1) H1) (hz : H1.size = N + 1) (oq : ∀ q : Nat, q < N → H1[q]? = H[q]?) : sH G b (va_up M N (some e1)) (N + 1) H1 := by
  refine ⟨hz, fun x ex hx => ?_⟩
  by_cases hxa : x = N
  · subst hxa
    rw [va_up_self] at hx
    cases hx
    exact ⟨hb, hat⟩
  · rw [va_up_ne M _ hxa] at hx
    exact ⟨(h.2 x ex hx).1, (h.2 x ex hx).2.kept (oq x (h.lt hx).2)⟩
section SC
variable {p : Program} {l : Launch} {e : Env} {R : Room} {s : State} {m : MethodId} {args : Array Value} {below : List Frame} {meth : Method} {c : Code} {H : Heap} {locs : List Loc} {cells slots : Nat} {Q : State → Prop}
variable {cc : ByteArray} {nL : Nat} {Ts : List Cond} {own : String} {pc : Nat} {ls : Array Slot} {rest : List Value}
variable {G : sG} {b : Nat} {M : sM} {N : Nat}
theorem si_const (S : CallFix p m c cc nL s args Ts own) {z : Int} (hdg : decode cc pc = .ok (.iconst z, 1)) (k : W p l e R s m args below meth c H locs cells slots Q (F0 m (pc + 1) ls (.int (sI z) :: rest))) : W p l e R s m args below meth c H locs cells slots Q (F0 m pc ls rest) := lv_iconst S.1 S.2.1 hdg rfl k
theorem si_bipush (S : CallFix p m c cc nL s args Ts own) {z : Int} (hdg : decode cc pc = .ok (.bipush z, 2)) (hv : (Int8.ofInt z).toInt32 = sI z) (k : W p l e R s m args below meth c H locs cells slots Q (F0 m (pc + 2) ls (.int (sI z) :: rest))) : W p l e R s m args below meth c H locs cells slots Q (F0 m pc ls rest) := lv_bipush S.1 S.2.1 hdg hv k
theorem si_sipush (S : CallFix p m c cc nL s args Ts own) {z : Int} (hdg : decode cc pc = .ok (.sipush z, 3)) (hv : (Int16.ofInt z).toInt32 = sI z) (k : W p l e R s m args below meth c H locs cells slots Q (F0 m (pc + 3) ls (.int (sI z) :: rest))) : W p l e R s m args below meth c H locs cells slots Q (F0 m pc ls rest) := lv_sipush S.1 S.2.1 hdg hv k
theorem si_ldc (S : CallFix p m c cc nL s args Ts own) {index : Nat} {v : Int32} (z : Int) (hconst : (Jvm.Cond.constant own index v).before args s = true) (hv : v = sI z) (hdg : decode cc pc = .ok (.ldc index, 2)) (k : W p l e R s m args below meth c H locs cells slots Q (F0 m (pc + 2) ls (.int (sI z) :: rest))) : W p l e R s m args below meth c H locs cells slots Q (F0 m pc ls rest) := lv_ldc S.1 S.2.1 S.2.2.2.1 hconst hdg (hv ▸ k)
theorem si_add (S : CallFix p m c cc nL s args Ts own) {x y : Int} (hdg : decode cc pc = .ok (.iadd, 1)) (k : W p l e R s m args below meth c H locs cells slots Q (F0 m (pc + 1) ls (.int (sI (x + y)) :: rest))) : W p l e R s m args below meth c H locs cells slots Q (F0 m pc ls (.int (sI y) :: .int (sI x) :: rest)) := lv_iadd S.1 S.2.1 hdg (by rw [sI_add]; exact k)
theorem si_sub (S : CallFix p m c cc nL s args Ts own) {x y : Int} (hdg : decode cc pc = .ok (.isub, 1)) (k : W p l e R s m args below meth c H locs cells slots Q (F0 m (pc + 1) ls (.int (sI (x - y)) :: rest))) : W p l e R s m args below meth c H locs cells slots Q (F0 m pc ls (.int (sI y) :: .int (sI x) :: rest)) := lv_isub S.1 S.2.1 hdg (by rw [sI_sub]; exact k)
theorem si_mul (S : CallFix p m c cc nL s args Ts own) {x y : Int} (hdg : decode cc pc = .ok (.imul, 1)) (k : W p l e R s m args below meth c H locs cells slots Q (F0 m (pc + 1) ls (.int (sI (x * y)) :: rest))) : W p l e R s m args below meth c H locs cells slots Q (F0 m pc ls (.int (sI y) :: .int (sI x) :: rest)) := lv_imul S.1 S.2.1 hdg (by rw [sI_mul]; exact k)
theorem si_neg (S : CallFix p m c cc nL s args Ts own) {x : Int} (hdg : decode cc pc = .ok (.ineg, 1)) (k : W p l e R s m args below meth c H locs cells slots Q (F0 m (pc + 1) ls (.int (sI (-x)) :: rest))) : W p l e R s m args below meth c H locs cells slots Q (F0 m pc ls (.int (sI x) :: rest)) := lv_ineg S.1 S.2.1 hdg (by rw [sI_neg]; exact k)
theorem si_and (S : CallFix p m c cc nL s args Ts own) {x y : Int} (hdg : decode cc pc = .ok (.iand, 1)) (k : W p l e R s m args below meth c H locs cells slots Q (F0 m (pc + 1) ls (.int (sI (iand x y)) :: rest))) : W p l e R s m args below meth c H locs cells slots Q (F0 m pc ls (.int (sI y) :: .int (sI x) :: rest)) := lv_iand S.1 S.2.1 hdg (by rw [sI_and]; exact k)
theorem si_or (S : CallFix p m c cc nL s args Ts own) {x y : Int} (hdg : decode cc pc = .ok (.ior, 1)) (k : W p l e R s m args below meth c H locs cells slots Q (F0 m (pc + 1) ls (.int (sI (ior x y)) :: rest))) : W p l e R s m args below meth c H locs cells slots Q (F0 m pc ls (.int (sI y) :: .int (sI x) :: rest)) := lv_ior S.1 S.2.1 hdg (by rw [sI_or]; exact k)
theorem si_xor (S : CallFix p m c cc nL s args Ts own) {x y : Int} (hdg : decode cc pc = .ok (.ixor, 1)) (k : W p l e R s m args below meth c H locs cells slots Q (F0 m (pc + 1) ls (.int (sI (ixor x y)) :: rest))) : W p l e R s m args below meth c H locs cells slots Q (F0 m pc ls (.int (sI y) :: .int (sI x) :: rest)) := lv_ixor S.1 S.2.1 hdg (by rw [sI_xor]; exact k)
theorem si_shl (S : CallFix p m c cc nL s args Ts own) {x y : Int} (hdg : decode cc pc = .ok (.ishl, 1)) (k : W p l e R s m args below meth c H locs cells slots Q (F0 m (pc + 1) ls (.int (sI (ishl x y)) :: rest))) : W p l e R s m args below meth c H locs cells slots Q (F0 m pc ls (.int (sI y) :: .int (sI x) :: rest)) := lv_ishl S.1 S.2.1 hdg (by rw [sI_shl]; exact k)
theorem si_shr (S : CallFix p m c cc nL s args Ts own) {x y : Int} (hdg : decode cc pc = .ok (.ishr, 1)) (k : W p l e R s m args below meth c H locs cells slots Q (F0 m (pc + 1) ls (.int (sI (ishr x y)) :: rest))) : W p l e R s m args below meth c H locs cells slots Q (F0 m pc ls (.int (sI y) :: .int (sI x) :: rest)) := lv_ishr S.1 S.2.1 hdg (by rw [sI_shr]; exact k)
theorem si_ushr (S : CallFix p m c cc nL s args Ts own) {x y : Int} (hdg : decode cc pc = .ok (.iushr, 1)) (k : W p l e R s m args below meth c H locs cells slots Q (F0 m (pc + 1) ls (.int (sI (iushr x y)) :: rest))) : W p l e R s m args below meth c H locs cells slots Q (F0 m pc ls (.int (sI y) :: .int (sI x) :: rest)) := lv_iushr S.1 S.2.1 hdg (sI_ushr x y) k
theorem si_div (S : CallFix p m c cc nL s args Ts own) {x y : Int} (hdg : decode cc pc = .ok (.idiv, 1)) (h : sR x ∧ sR y ∧ y ≠ 0) (k : W p l e R s m args below meth c H locs cells slots Q (F0 m (pc + 1) ls (.int (sI (x.tdiv y)) :: rest))) : W p l e R s m args below meth c H locs cells slots Q (F0 m pc ls (.int (sI y) :: .int (sI x) :: rest)) := lv_idiv S.1 S.2.1 hdg (sI_ne0 h.2.1 h.2.2) (by rw [sI_div h.1 h.2.1]; exact k)
theorem si_rem (S : CallFix p m c cc nL s args Ts own) {x y : Int} (hdg : decode cc pc = .ok (.irem, 1)) (h : sR x ∧ sR y ∧ y ≠ 0) (k : W p l e R s m args below meth c H locs cells slots Q (F0 m (pc + 1) ls (.int (sI (x.tmod y)) :: rest))) : W p l e R s m args below meth c H locs cells slots Q (F0 m pc ls (.int (sI y) :: .int (sI x) :: rest)) := lv_irem S.1 S.2.1 hdg (sI_ne0 h.2.1 h.2.2) (by rw [sI_rem h.1 h.2.1]; exact k)
/-- quotient and rest of a number that isn't below 0 -/
theorem si_divN (S : CallFix p m c cc nL s args Ts own) {x y : Int} (hdg : decode cc pc = .ok (.idiv, 1)) (h : 0 ≤ x ∧ sR x ∧ sR y ∧ y ≠ 0) (k : W p l e R s m args below meth c H locs cells slots Q (F0 m (pc + 1) ls (.int (sI (x / y)) :: rest))) : W p l e R s m args below meth c H locs cells slots Q (F0 m pc ls (.int (sI y) :: .int (sI x) :: rest)) := si_div S hdg h.2 (by rw [Int.tdiv_eq_ediv_of_nonneg h.1]; exact k)
theorem si_remN (S : CallFix p m c cc nL s args Ts own) {x y : Int} (hdg : decode cc pc = .ok (.irem, 1)) (h : 0 ≤ x ∧ sR x ∧ sR y ∧ y ≠ 0) (k : W p l e R s m args below meth c H locs cells slots Q (F0 m (pc + 1) ls (.int (sI (x % y)) :: rest))) : W p l e R s m args below meth c H locs cells slots Q (F0 m pc ls (.int (sI y) :: .int (sI x) :: rest)) := si_rem S hdg h.2 (by rw [Int.tmod_eq_emod_of_nonneg h.1]; exact k)
theorem si_inc (S : CallFix p m c cc nL s args Ts own) {i k : Nat} {n x : Int} {lv lv' : List (Nat × Value)} (hdg : decode cc pc = .ok (.iinc i n, 3)) (h : lv_has ls nL lv) (hk : lv[k]? = some (i, .int (sI x))) (hn : i < nL) (hl : (i, Value.int (sI (x + n))) :: lv.filter (fun q => !(q.1 == i) && !(q.1 + 1 == i && q.2.category == 2)) = lv')
    (kk : ∀ ls' : Array Slot, lv_has ls' nL lv' → W p l e R s m args below meth c H locs cells slots Q (F0 m (pc + 3) ls' rest)) : W p l e R s m args below meth c H locs cells slots Q (F0 m pc ls rest) := lv_iinc (v := sI (x + n)) S.1 S.2.1 hdg h hk (sI_add x n) hn hl kk
/-- two ways: by a comparison of two numbers; by one of a number with 0 -/
theorem sb_lt (S : CallFix p m c cc nL s args Ts own) {x y off : Int} {tgt : Nat} (hdg : decode cc pc = .ok (.if_icmp .lt off, 3)) (ht : (pc : Int) + off = (tgt : Int)) (hr : sR x ∧ sR y) (kt : x < y → W p l e R s m args below meth c H locs cells slots Q (F0 m tgt ls rest)) (kf : y ≤ x → W p l e R s m args below meth c H locs cells slots Q (F0 m (pc + 3) ls rest)) : W p l e R s m args below meth c H locs cells slots Q (F0 m pc ls (.int (sI y) :: .int (sI x) :: rest)) := lv_icmp_lt S.1 S.2.1 hdg ht (fun h => kt ((sI_lt hr.1 hr.2).mp h)) (fun h => kf (Int.not_lt.mp fun q => h ((sI_lt hr.1 hr.2).mpr q)))
theorem sb_ge (S : CallFix p m c cc nL s args Ts own) {x y off : Int} {tgt : Nat} (hdg : decode cc pc = .ok (.if_icmp .ge off, 3)) (ht : (pc : Int) + off = (tgt : Int)) (hr : sR x ∧ sR y) (kt : y ≤ x → W p l e R s m args below meth c H locs cells slots Q (F0 m tgt ls rest)) (kf : x < y → W p l e R s m args below meth c H locs cells slots Q (F0 m (pc + 3) ls rest)) : W p l e R s m args below meth c H locs cells slots Q (F0 m pc ls (.int (sI y) :: .int (sI x) :: rest)) := lv_icmp_ge S.1 S.2.1 hdg ht (fun h => kt ((sI_le hr.2 hr.1).mp h)) (fun h => kf (Int.not_le.mp fun q => h ((sI_le hr.2 hr.1).mpr q)))
theorem sb_gt (S : CallFix p m c cc nL s args Ts own) {x y off : Int} {tgt : Nat} (hdg : decode cc pc = .ok (.if_icmp .gt off, 3)) (ht : (pc : Int) + off = (tgt : Int)) (hr : sR x ∧ sR y) (kt : y < x → W p l e R s m args below meth c H locs cells slots Q (F0 m tgt ls rest)) (kf : x ≤ y → W p l e R s m args below meth c H locs cells slots Q (F0 m (pc + 3) ls rest)) : W p l e R s m args below meth c H locs cells slots Q (F0 m pc ls (.int (sI y) :: .int (sI x) :: rest)) := lv_icmp_gt S.1 S.2.1 hdg ht (fun h => kt ((sI_lt hr.2 hr.1).mp h)) (fun h => kf (Int.not_lt.mp fun q => h ((sI_lt hr.2 hr.1).mpr q)))
theorem sb_le (S : CallFix p m c cc nL s args Ts own) {x y off : Int} {tgt : Nat} (hdg : decode cc pc = .ok (.if_icmp .le off, 3)) (ht : (pc : Int) + off = (tgt : Int)) (hr : sR x ∧ sR y) (kt : x ≤ y → W p l e R s m args below meth c H locs cells slots Q (F0 m tgt ls rest)) (kf : y < x → W p l e R s m args below meth c H locs cells slots Q (F0 m (pc + 3) ls rest)) : W p l e R s m args below meth c H locs cells slots Q (F0 m pc ls (.int (sI y) :: .int (sI x) :: rest)) := lv_icmp_le S.1 S.2.1 hdg ht (fun h => kt ((sI_le hr.1 hr.2).mp h)) (fun h => kf (Int.not_le.mp fun q => h ((sI_le hr.1 hr.2).mpr q)))
theorem sb_eq (S : CallFix p m c cc nL s args Ts own) {x y off : Int} {tgt : Nat} (hdg : decode cc pc = .ok (.if_icmp .eq off, 3)) (ht : (pc : Int) + off = (tgt : Int)) (hr : sR x ∧ sR y) (kt : x = y → W p l e R s m args below meth c H locs cells slots Q (F0 m tgt ls rest)) (kf : ¬ x = y → W p l e R s m args below meth c H locs cells slots Q (F0 m (pc + 3) ls rest)) : W p l e R s m args below meth c H locs cells slots Q (F0 m pc ls (.int (sI y) :: .int (sI x) :: rest)) := lv_icmp_eq S.1 S.2.1 hdg ht (fun h => kt ((sI_eq hr.1 hr.2).mp h)) (fun h => kf (fun q => h ((sI_eq hr.1 hr.2).mpr q)))
theorem sb_ne (S : CallFix p m c cc nL s args Ts own) {x y off : Int} {tgt : Nat} (hdg : decode cc pc = .ok (.if_icmp .ne off, 3)) (ht : (pc : Int) + off = (tgt : Int)) (hr : sR x ∧ sR y) (kt : ¬ x = y → W p l e R s m args below meth c H locs cells slots Q (F0 m tgt ls rest)) (kf : x = y → W p l e R s m args below meth c H locs cells slots Q (F0 m (pc + 3) ls rest)) : W p l e R s m args below meth c H locs cells slots Q (F0 m pc ls (.int (sI y) :: .int (sI x) :: rest)) := lv_icmp_ne S.1 S.2.1 hdg ht (fun h => kt (fun q => h ((sI_eq hr.1 hr.2).mpr q))) (fun h => kf ((sI_eq hr.1 hr.2).mp h))
theorem sz_lt (S : CallFix p m c cc nL s args Ts own) {x off : Int} {tgt : Nat} (hdg : decode cc pc = .ok (.ifCond .lt off, 3)) (ht : (pc : Int) + off = (tgt : Int)) (hr : sR x) (kt : x < 0 → W p l e R s m args below meth c H locs cells slots Q (F0 m tgt ls rest)) (kf : 0 ≤ x → W p l e R s m args below meth c H locs cells slots Q (F0 m (pc + 3) ls rest)) : W p l e R s m args below meth c H locs cells slots Q (F0 m pc ls (.int (sI x) :: rest)) := lv_if_lt S.1 S.2.1 hdg ht (fun h => kt ((sI_lt hr (by omega)).mp h)) (fun h => kf (Int.not_lt.mp fun q => h ((sI_lt hr (by omega)).mpr q)))
theorem sz_ge (S : CallFix p m c cc nL s args Ts own) {x off : Int} {tgt : Nat} (hdg : decode cc pc = .ok (.ifCond .ge off, 3)) (ht : (pc : Int) + off = (tgt : Int)) (hr : sR x) (kt : 0 ≤ x → W p l e R s m args below meth c H locs cells slots Q (F0 m tgt ls rest)) (kf : x < 0 → W p l e R s m args below meth c H locs cells slots Q (F0 m (pc + 3) ls rest)) : W p l e R s m args below meth c H locs cells slots Q (F0 m pc ls (.int (sI x) :: rest)) := lv_if_ge S.1 S.2.1 hdg ht (fun h => kt ((sI_le (by omega) hr).mp h)) (fun h => kf (Int.not_le.mp fun q => h ((sI_le (by omega) hr).mpr q)))
theorem sz_gt (S : CallFix p m c cc nL s args Ts own) {x off : Int} {tgt : Nat} (hdg : decode cc pc = .ok (.ifCond .gt off, 3)) (ht : (pc : Int) + off = (tgt : Int)) (hr : sR x) (kt : 0 < x → W p l e R s m args below meth c H locs cells slots Q (F0 m tgt ls rest)) (kf : x ≤ 0 → W p l e R s m args below meth c H locs cells slots Q (F0 m (pc + 3) ls rest)) : W p l e R s m args below meth c H locs cells slots Q (F0 m pc ls (.int (sI x) :: rest)) := lv_if_gt S.1 S.2.1 hdg ht (fun h => kt ((sI_lt (by omega) hr).mp h)) (fun h => kf (Int.not_lt.mp fun q => h ((sI_lt (by omega) hr).mpr q)))
theorem sz_le (S : CallFix p m c cc nL s args Ts own) {x off : Int} {tgt : Nat} (hdg : decode cc pc = .ok (.ifCond .le off, 3)) (ht : (pc : Int) + off = (tgt : Int)) (hr : sR x) (kt : x ≤ 0 → W p l e R s m args below meth c H locs cells slots Q (F0 m tgt ls rest)) (kf : 0 < x → W p l e R s m args below meth c H locs cells slots Q (F0 m (pc + 3) ls rest)) : W p l e R s m args below meth c H locs cells slots Q (F0 m pc ls (.int (sI x) :: rest)) := lv_if_le S.1 S.2.1 hdg ht (fun h => kt ((sI_le hr (by omega)).mp h)) (fun h => kf (Int.not_le.mp fun q => h ((sI_le hr (by omega)).mpr q)))
theorem sz_eq (S : CallFix p m c cc nL s args Ts own) {x off : Int} {tgt : Nat} (hdg : decode cc pc = .ok (.ifCond .eq off, 3)) (ht : (pc : Int) + off = (tgt : Int)) (hr : sR x) (kt : x = 0 → W p l e R s m args below meth c H locs cells slots Q (F0 m tgt ls rest)) (kf : ¬ x = 0 → W p l e R s m args below meth c H locs cells slots Q (F0 m (pc + 3) ls rest)) : W p l e R s m args below meth c H locs cells slots Q (F0 m pc ls (.int (sI x) :: rest)) := lv_if_eq S.1 S.2.1 hdg ht (fun h => kt ((sI_eq hr (by omega)).mp h)) (fun h => kf (fun q => h ((sI_eq hr (by omega)).mpr q)))
theorem sz_ne (S : CallFix p m c cc nL s args Ts own) {x off : Int} {tgt : Nat} (hdg : decode cc pc = .ok (.ifCond .ne off, 3)) (ht : (pc : Int) + off = (tgt : Int)) (hr : sR x) (kt : ¬ x = 0 → W p l e R s m args below meth c H locs cells slots Q (F0 m tgt ls rest)) (kf : x = 0 → W p l e R s m args below meth c H locs cells slots Q (F0 m (pc + 3) ls rest)) : W p l e R s m args below meth c H locs cells slots Q (F0 m pc ls (.int (sI x) :: rest)) := lv_if_ne S.1 S.2.1 hdg ht (fun h => kt (fun q => h ((sI_eq hr (by omega)).mpr q))) (fun h => kf ((sI_eq hr (by omega)).mp h))
/-- two ways: by a truth -/
theorem sq_eq (S : CallFix p m c cc nL s args Ts own) {P : Prop} {off : Int} {tgt : Nat} (hdg : decode cc pc = .ok (.ifCond .eq off, 3)) (ht : (pc : Int) + off = (tgt : Int)) (kt : ¬ P → W p l e R s m args below meth c H locs cells slots Q (F0 m tgt ls rest)) (kf : P → W p l e R s m args below meth c H locs cells slots Q (F0 m (pc + 3) ls rest)) : W p l e R s m args below meth c H locs cells slots Q (F0 m pc ls (.int (sI (bI P)) :: rest)) := sz_eq S hdg ht (by have := bI_r (c := P); omega) (fun h => kt (bI_0.mp h)) (fun h => kf (Classical.not_not.mp fun q => h (bI_0.mpr q)))
theorem sq_ne (S : CallFix p m c cc nL s args Ts own) {P : Prop} {off : Int} {tgt : Nat} (hdg : decode cc pc = .ok (.ifCond .ne off, 3)) (ht : (pc : Int) + off = (tgt : Int)) (kt : P → W p l e R s m args below meth c H locs cells slots Q (F0 m tgt ls rest)) (kf : ¬ P → W p l e R s m args below meth c H locs cells slots Q (F0 m (pc + 3) ls rest)) : W p l e R s m args below meth c H locs cells slots Q (F0 m pc ls (.int (sI (bI P)) :: rest)) := sz_ne S hdg ht (by have := bI_r (c := P); omega) (fun h => kt (Classical.not_not.mp fun q => h (bI_0.mpr q))) (fun h => kf (bI_0.mp h))
theorem sbb_eq (S : CallFix p m c cc nL s args Ts own) {P P2 : Prop} {off : Int} {tgt : Nat} (hdg : decode cc pc = .ok (.if_icmp .eq off, 3)) (ht : (pc : Int) + off = (tgt : Int)) (kt : (P ↔ P2) → W p l e R s m args below meth c H locs cells slots Q (F0 m tgt ls rest)) (kf : ¬ (P ↔ P2) → W p l e R s m args below meth c H locs cells slots Q (F0 m (pc + 3) ls rest)) : W p l e R s m args below meth c H locs cells slots Q (F0 m pc ls (.int (sI (bI P2)) :: .int (sI (bI P)) :: rest)) := sb_eq S hdg ht (by have := bI_r (c := P); have := bI_r (c := P2); omega) (fun h => kt (bI_ii.mp h)) (fun h => kf (fun q => h (bI_ii.mpr q)))
theorem sbb_ne (S : CallFix p m c cc nL s args Ts own) {P P2 : Prop} {off : Int} {tgt : Nat} (hdg : decode cc pc = .ok (.if_icmp .ne off, 3)) (ht : (pc : Int) + off = (tgt : Int)) (kt : ¬ (P ↔ P2) → W p l e R s m args below meth c H locs cells slots Q (F0 m tgt ls rest)) (kf : (P ↔ P2) → W p l e R s m args below meth c H locs cells slots Q (F0 m (pc + 3) ls rest)) : W p l e R s m args below meth c H locs cells slots Q (F0 m pc ls (.int (sI (bI P2)) :: .int (sI (bI P)) :: rest)) := sb_ne S hdg ht (by have := bI_r (c := P); have := bI_r (c := P2); omega) (fun h => kt (fun q => h (bI_ii.mpr q))) (fun h => kf (bI_ii.mp h))
/-! fields -/
theorem sc_get (S : CallFix p m c cc nL s args Ts own) (hK : va_K G.1 vwCl (sTy G) s) (hV : sV G b M N s H locs) {a : Nat} {ref C : String} {T : u_T} {n ci index : Nat} (hin : ∀ w ∈ u_ws C T n, w ∈ Ts) {fs : List Value} (he : M a = some (sObj ci fs)) (hc : vwCl[ci]? = some (C, T, n)) (k : Nat) (hk : k < n) (hlink : (Cond.fieldLink own index ref (T k).2.1 (T k).2.2.1).before args s = true) (hsame : ref = (T k).1) {v : Value} (hv : fs[k]? = some v) (hdg : decode cc pc = .ok (.getfield index, 3))
    (kk : W p l e R s m args below meth c H locs cells slots Q (F0 m (pc + 3) ls (v :: rest))) : W p l e R s m args below meth c H locs cells slots Q (F0 m pc ls (.ref a :: rest)) :=
  va_get (D := G.1) (cl := vwCl) (ws := [(a, sObj ci fs)]) S.1 S.2.1 S.2.2.2.2 hin S.2.2.2.1 hK (fun i q hq => by
    have hz : i < 1 := (List.getElem?_eq_some_iff.mp hq).1
    rw [show i = 0 by omega] at hq
    cases hq
    exact (hV.1.2 a _ he).2) 0 rfl hc k hk hlink (fun x hx => by rw [hsame]; exact hx) hv hdg kk
theorem sc_put (S : CallFix p m c cc nL s args Ts own) (hK : va_K G.1 vwCl (sTy G) s) (hV : sV G b M N s H locs) {a : Nat} {ref C : String} {T : u_T} {n ci index : Nat} (hin : ∀ w ∈ u_ws C T n, w ∈ Ts) {ty0 : Nat → FieldType} (hty : ∀ k, k < n → parseFieldDescriptor (T k).2.2.1 = some (ty0 k)) (hnm : ∀ a, a < n → ∀ b, b < n → a ≠ b → (T a).2.1 ≠ (T b).2.1) {fs : List Value} (he : M a = some (sObj ci fs)) (hc : vwCl[ci]? = some (C, T, n)) (k : Nat) (hk : k < n) (hlink : (Cond.fieldLink own index ref (T k).2.1 (T k).2.2.1).before args s = true) (hsame : ref = (T k).1) (hfin : (T k).2.2.2 = false) {v : Value} (hn : narrow (ty0 k) v = v) (hfit : fits (ty0 k) v = true) (hl : k < fs.length) (hdg : decode cc pc = .ok (.putfield index, 3))
    {fs1 : List Value} (hfs : fs.set k v = fs1) (kk : ∀ (M1 : sM) (H1 : Heap) (locs1 : List Loc), M1 = va_up M a (some (sObj ci fs1)) → sV G b M1 N s H1 locs1 → W p l e R s m args below meth c H1 locs1 cells slots Q (F0 m (pc + 3) ls rest)) : W p l e R s m args below meth c H locs cells slots Q (F0 m pc ls (v :: .ref a :: rest)) := by
  obtain ⟨hx, hb, -, hown, hts⟩ := S
  have hap := va_apart (own := own) hts hin ty0 hty hnm hK hc
  obtain ⟨hba, r, h1, cell, q1, q2, q3, q4⟩ := hV.1.2 a _ he
  have hr : r = (C, T, n) := Option.some.inj (h1.symm.trans hc)
  subst hr
  obtain ⟨hS, hfc, kC, hkC, hkind⟩ := hK.1 ci _ hc
  obtain ⟨cf, kf, fi, f, hi, hsl⟩ := hS k hk
  have hlay := hts _ (hin _ (u_in_lay hk))
  unfold u_lay at hlay
  rw [if_neg (by rw [hfin]; decide)] at hlay
  have hst := (u_facts hfc hkC (u_lays hts hin hk) hi).1
  have h6 := u_store hfc hkC hkind hlay hi (hty k hk) hn hfit
  subst hsame
  refine W.putK hx hb (f := f) ⟨hown, hlink, ⟨_, _, _, hi⟩, hst⟩ (by rw [q2]; exact h6) q1 q3 (by rw [hsl]; exact k2_hasslot (q4 k hk)) rfl rfl hdg fun H' e1 e2 e3 => ?_
  rw [hsl] at e1 ⊢
  subst hfs
  exact kk _ H' _ rfl ⟨hV.1.put he ⟨_, hc, t_OB.to (V := updV (vp_V fs) k v) ⟨_, e1, q2, q3, t_set q4 hap hk v⟩ (fun j _ => vp_updV_set hl v j)⟩ e2 e3, hV.2.1.put e2 e3 hba, hV.2.2⟩
theorem sc_putF (S : CallFix p m c cc nL s args Ts own) (hK : va_K G.1 vwCl (sTy G) s) (hV : sV G b M N s H locs) {a : Nat} {ref C : String} {T : u_T} {n ci index : Nat} (hin : ∀ w ∈ u_ws C T n, w ∈ Ts) {ty0 : Nat → FieldType} (hty : ∀ k, k < n → parseFieldDescriptor (T k).2.2.1 = some (ty0 k)) (hnm : ∀ a, a < n → ∀ b, b < n → a ≠ b → (T a).2.1 ≠ (T b).2.1) {fs : List Value} (he : M a = some (sObj ci fs)) (hc : vwCl[ci]? = some (C, T, n)) (k : Nat) (hk : k < n) (hlink : (Cond.fieldLink own index ref (T k).2.1 (T k).2.2.1).before args s = true) (hsame : ref = (T k).1) (hfin : (T k).2.2.2 = true) (hin2 : meth.name = "<init>") (hdecl : (T k).1 = own) {v : Value} (hn : narrow (ty0 k) v = v) (hfit : fits (ty0 k) v = true) (hl : k < fs.length) (hdg : decode cc pc = .ok (.putfield index, 3))
    {fs1 : List Value} (hfs : fs.set k v = fs1) (kk : ∀ (M1 : sM) (H1 : Heap) (locs1 : List Loc), M1 = va_up M a (some (sObj ci fs1)) → sV G b M1 N s H1 locs1 → W p l e R s m args below meth c H1 locs1 cells slots Q (F0 m (pc + 3) ls rest)) : W p l e R s m args below meth c H locs cells slots Q (F0 m pc ls (v :: .ref a :: rest)) := by
  obtain ⟨hx, hb, -, hown, hts⟩ := S
  have hap := va_apart (own := own) hts hin ty0 hty hnm hK hc
  obtain ⟨hba, r, h1, cell, q1, q2, q3, q4⟩ := hV.1.2 a _ he
  have hr : r = (C, T, n) := Option.some.inj (h1.symm.trans hc)
  subst hr
  obtain ⟨hS, hfc, kC, hkC, hkind⟩ := hK.1 ci _ hc
  obtain ⟨cf, kf, fi, f, hi, hsl⟩ := hS k hk
  have hlay := hts _ (hin _ (u_in_lay hk))
  unfold u_lay at hlay
  rw [if_pos hfin] at hlay
  have hst := (u_facts hfc hkC (u_lays hts hin hk) hi).1
  have hcf : m.cls = cf := by
    obtain ⟨_, _, c', _, _, _, -, -, hf', -, -, -, hown2, -⟩ := Cond.laysFinal_spec hlay
    have e1 : c' = cf := by have := hi.symm.trans hf'; simp at this; exact this.1.symm
    rw [hdecl] at hown2
    rw [← e1]; exact Option.some.inj (hown.symm.trans hown2)
  have h6 := u_fits hfc hkC hkind (Or.inr hlay) hi (hty k hk) hn hfit
  subst hsame
  refine W.putFinK hx hb hown hlink hi hst hcf hin2 (by rw [q2]; exact h6) q1 q3 (by rw [hsl]; exact k2_hasslot (q4 k hk)) rfl rfl hdg fun H' e1 e2 e3 => ?_
  rw [hsl] at e1 ⊢
  subst hfs
  exact kk _ H' _ rfl ⟨hV.1.put he ⟨_, hc, t_OB.to (V := updV (vp_V fs) k v) ⟨_, e1, q2, q3, t_set q4 hap hk v⟩ (fun j _ => vp_updV_set hl v j)⟩ e2 e3, hV.2.1.put e2 e3 hba, hV.2.2⟩
/-! rows of numbers -/
theorem sc_iald (S : CallFix p m c cc nL s args Ts own) (hK : va_K G.1 vwCl (sTy G) s) (hV : sV G b M N s H locs) {a : Nat} {n : Nat} {g : Int → Int} (he : M a = some (sArr G n g)) {i : Int} (hi : 0 ≤ i ∧ i < n ∧ (n : Int) ≤ 2147483647) (hdg : decode cc pc = .ok (.iaload, 1))
    (kk : W p l e R s m args below meth c H locs cells slots Q (F0 m (pc + 1) ls (.int (sI (g i)) :: rest))) : W p l e R s m args below meth c H locs cells slots Q (F0 m pc ls (.int (sI i) :: .ref a :: rest)) := by
  have hc : (sI i).toNatClampNeg = i.toNat := sI_clamp (by omega)
  have hlt : i.toNat < n := by omega
  have hg : (((i.toNat : Nat) : Int)) = i := by omega
  refine W.iald (v := .int (sI (g i))) S.1 S.2.1 (hV.1.2 a _ he).2 ((hK.2 0 _ rfl).1 n (fun j => .int (sI (g (j : Int))))) (fun q => by cases q) (by show ¬ (sI i < 0 ∨ (arrV _ _ _).slots.size ≤ _); rw [arrV_size]; exact sI_in hi) ?_ rfl rfl hdg kk
  show (arrV G.2.1 n (fun j => .int (sI (g (j : Int))))).slots[_]? = _
  rw [hc, arrV_read _ _ hlt, hg]
theorem sc_iast (S : CallFix p m c cc nL s args Ts own) (hK : va_K G.1 vwCl (sTy G) s) (hV : sV G b M N s H locs) {a : Nat} {n : Nat} {g : Int → Int} (he : M a = some (sArr G n g)) {i x : Int} (hi : 0 ≤ i ∧ i < n ∧ (n : Int) ≤ 2147483647) (hdg : decode cc pc = .ok (.iastore, 1))
    (kk : ∀ (M1 : sM) (H1 : Heap) (locs1 : List Loc), M1 = va_up M a (some (sArr G n (iup g i x))) → sV G b M1 N s H1 locs1 → W p l e R s m args below meth c H1 locs1 cells slots Q (F0 m (pc + 1) ls rest)) : W p l e R s m args below meth c H locs cells slots Q (F0 m pc ls (.int (sI x) :: .int (sI i) :: .ref a :: rest)) := by
  have hc : (sI i).toNatClampNeg = i.toNat := sI_clamp (by omega)
  have hba := (hV.1.2 a _ he).1
  refine W.iast S.1 S.2.1 (hV.1.2 a _ he).2 ((hK.2 0 _ rfl).1 n (fun j => .int (sI (g (j : Int))))) (fun q => by cases q) (by show ¬ (sI i < 0 ∨ (arrV _ _ _).slots.size ≤ _); rw [arrV_size]; exact sI_in hi) rfl rfl hdg fun H1 e z oq => ?_
  refine kk _ H1 _ rfl ⟨hV.1.put he ?_ z oq, hV.2.1.put z oq hba, hV.2.2⟩
  show H1[a]? = some (vp_cell _ _)
  rw [e]
  rw [vp_cell_i, vp_cell_i, arrV_store, hc]
  congr 2
  funext q
  by_cases hq : q = i.toNat
  · have hg : ((q : Nat) : Int) = i := by omega
    show (if q = i.toNat then _ else _) = _
    rw [if_pos hq]
    unfold iup
    rw [if_pos hg]
  · have hg : ¬ ((q : Nat) : Int) = i := by omega
    show (if q = i.toNat then _ else _) = _
    rw [if_neg hq]
    unfold iup
    rw [if_neg hg]
theorem sc_alen (S : CallFix p m c cc nL s args Ts own) (hK : va_K G.1 vwCl (sTy G) s) (hV : sV G b M N s H locs) {a : Nat} (t0 : Nat) {cA : ClassId} {x : vp_A} (he : M a = some (.inl (cA, x))) {ty : FieldType} (ht : (sTy G)[t0]? = some (cA, ty)) (hdg : decode cc pc = .ok (.arraylength, 1))
    (kk : W p l e R s m args below meth c H locs cells slots Q (F0 m (pc + 1) ls (.int (sI (x.1 : Int)) :: rest))) : W p l e R s m args below meth c H locs cells slots Q (F0 m pc ls (.ref a :: rest)) :=
  va_alen (D := G.1) (cl := vwCl) (ws := [(a, .inl (cA, x))]) S.1 S.2.1 hK (fun i q hq => by
    have hz : i < 1 := (List.getElem?_eq_some_iff.mp hq).1
    rw [show i = 0 by omega] at hq
    cases hq
    exact (hV.1.2 a _ he).2) 0 t0 rfl ht (Int32.ofInt_eq_ofNat (n := x.1)).symm hdg kk
theorem si_max (S : CallFix p m c cc nL s args Ts own) (hsz : ls.size = nL) {index : Nat} (hlink : (Cond.methodLink own index Lib.Math.max.name).before args s = true) (hstat : (Cond.static Lib.Math.max.name).before args s = true) (hini : (Cond.initialized "java/lang/Math").before args s = true) (hcode : (Cond.code Lib.Math.max.name Lib.Math.max.code 2 (some .int)).before args s = true)
    (hr : 1 ≤ R.frames ∧ (rest.map fun v => v.category).sum + 13 ≤ R.locals ∧ cells ≤ R.cells ∧ slots ≤ R.slots) {x y : Int} (h : sR x ∧ sR y) (hdg : decode cc pc = .ok (.invokestatic index, 3))
    (kk : W p l e R s m args below meth c H locs cells slots Q (F0 m (pc + 3) ls (.int (sI (max x y)) :: rest))) : W p l e R s m args below meth c H locs cells slots Q (F0 m pc ls (.int (sI y) :: .int (sI x) :: rest)) := by
  refine va_mmax S.1 S.2.1 (S.2.2.1.trans hsz.symm) S.2.2.2.1 hlink hstat hini hcode hr.1 hr.2.1 hr.2.2.1 hr.2.2.2 hdg ?_
  rw [show (if sI x < sI y then sI y else sI x) = sI (max x y) by
    by_cases q : x < y
    · rw [if_pos ((sI_lt h.1 h.2).mpr q), Int.max_eq_right (by omega)]
    · rw [if_neg (fun z => q ((sI_lt h.1 h.2).mp z)), Int.max_eq_left (by omega)]]
  exact kk
theorem si_min (S : CallFix p m c cc nL s args Ts own) (hsz : ls.size = nL) {index : Nat} (hlink : (Cond.methodLink own index Lib.Math.min.name).before args s = true) (hstat : (Cond.static Lib.Math.min.name).before args s = true) (hini : (Cond.initialized "java/lang/Math").before args s = true) (hcode : (Cond.code Lib.Math.min.name Lib.Math.min.code 2 (some .int)).before args s = true)
    (hr : 1 ≤ R.frames ∧ (rest.map fun v => v.category).sum + 13 ≤ R.locals ∧ cells ≤ R.cells ∧ slots ≤ R.slots) {x y : Int} (h : sR x ∧ sR y) (hdg : decode cc pc = .ok (.invokestatic index, 3))
    (kk : W p l e R s m args below meth c H locs cells slots Q (F0 m (pc + 3) ls (.int (sI (min x y)) :: rest))) : W p l e R s m args below meth c H locs cells slots Q (F0 m pc ls (.int (sI y) :: .int (sI x) :: rest)) := by
  refine va_mmin S.1 S.2.1 (S.2.2.1.trans hsz.symm) S.2.2.2.1 hlink hstat hini hcode hr.1 hr.2.1 hr.2.2.1 hr.2.2.2 hdg ?_
  rw [show (if sI y < sI x then sI y else sI x) = sI (min x y) by
    by_cases q : y < x
    · rw [if_pos ((sI_lt h.2 h.1).mpr q), Int.min_eq_right (by omega)]
    · rw [if_neg (fun z => q ((sI_lt h.2 h.1).mp z)), Int.min_eq_left (by omega)]]
  exact kk
/-! new cells: they come at the heap's end -/
theorem sc_newa (S : CallFix p m c cc nL s args Ts own) (hK : va_K G.1 vwCl (sTy G) s) (hV : sV G b M N s H locs) (harr : (Cond.arrayClass .int).before args s = true) {z : Int} {N0 : Nat} (hz : z = (N0 : Int) ∧ N0 ≤ 100000) (hR : cells + 1 ≤ R.cells ∧ slots + N0 ≤ R.slots) (hdg : decode cc pc = .ok (.newarray .int, 2))
    (kk : ∀ (M1 : sM) (H1 : Heap) (locs1 : List Loc), M1 = va_up M N (some (sArr G N0 (fun _ => 0))) → sV G b M1 (N + 1) s H1 locs1 → W p l e R s m args below meth c H1 locs1 (cells + 1) (slots + N0) Q (F0 m (pc + 2) ls (.ref N :: rest))) : W p l e R s m args below meth c H locs cells slots Q (F0 m pc ls (.int (sI z) :: rest)) := by
  obtain ⟨rfl, hz2⟩ := hz
  have hr : sR ((N0 : Nat) : Int) := by omega
  have hneg : ¬ sI (N0 : Int) < 0 := by rw [sI_zero, sI_lt hr (by omega)]; omega
  have hcl : (sI (N0 : Int)).toNatClampNeg = N0 := by rw [sI_clamp hr]; omega
  refine va_newaK (atype := .int) S.1 S.2.1 harr rfl hdg rfl hneg hcl (by show N0 * 4 ≤ 536870912; omega) hR.1 hR.2 hV.1.1 fun H1 cA e1 z1 o1 hAr hNm => ?_
  have hcA : cA = G.2.1 := Option.some.inj (hNm.symm.trans (hK.2 0 (G.2.1, .int) rfl).2)
  subst hcA
  have hbN : b ≤ N := by rw [← hV.1.1]; exact Nat.le_trans hV.2.2 hV.2.1.1
  refine kk _ H1 locs rfl ⟨hV.1.push hbN ?_ z1 o1, ⟨Nat.le_trans hV.2.1.1 (by rw [z1, hV.1.1]; omega), fun q h1 h2 => (o1 q (by rw [← hV.1.1]; exact Nat.lt_of_lt_of_le h1 hV.2.1.1)).trans (hV.2.1.2.1 q h1 h2), hV.2.1.2.2⟩, hV.2.2⟩
  show H1[N]? = some (vp_cell _ _)
  rw [e1, vp_cell_i]
  rfl
theorem sc_newc (S : CallFix p m c cc nL s args Ts own) (hK : va_K G.1 vwCl (sTy G) s) (hV : sV G b M N s H locs) (harr : (Cond.arrayClass .char).before args s = true) {z : Int} {N0 : Nat} (hz : z = (N0 : Int) ∧ N0 ≤ 100000) (hR : cells + 1 ≤ R.cells ∧ slots + N0 ≤ R.slots) (hdg : decode cc pc = .ok (.newarray .char, 2))
    (kk : ∀ (M1 : sM) (H1 : Heap) (locs1 : List Loc), M1 = va_up M N (some (sArC G N0 (fun _ => 0))) → sV G b M1 (N + 1) s H1 locs1 → W p l e R s m args below meth c H1 locs1 (cells + 1) (slots + N0) Q (F0 m (pc + 2) ls (.ref N :: rest))) : W p l e R s m args below meth c H locs cells slots Q (F0 m pc ls (.int (sI z) :: rest)) := by
  obtain ⟨rfl, hz2⟩ := hz
  have hr : sR ((N0 : Nat) : Int) := by omega
  have hneg : ¬ sI (N0 : Int) < 0 := by rw [sI_zero, sI_lt hr (by omega)]; omega
  have hcl : (sI (N0 : Int)).toNatClampNeg = N0 := by rw [sI_clamp hr]; omega
  refine va_newaK (atype := .char) S.1 S.2.1 harr rfl hdg rfl hneg hcl (by show N0 * 2 ≤ 536870912; omega) hR.1 hR.2 hV.1.1 fun H1 cA e1 z1 o1 hAr hNm => ?_
  have hcA : cA = G.2.2.1 := Option.some.inj (hNm.symm.trans (hK.2 1 (G.2.2.1, .char) rfl).2)
  subst hcA
  have hbN : b ≤ N := by rw [← hV.1.1]; exact Nat.le_trans hV.2.2 hV.2.1.1
  refine kk _ H1 locs rfl ⟨hV.1.push hbN ?_ z1 o1, ⟨Nat.le_trans hV.2.1.1 (by rw [z1, hV.1.1]; omega), fun q h1 h2 => (o1 q (by rw [← hV.1.1]; exact Nat.lt_of_lt_of_le h1 hV.2.1.1)).trans (hV.2.1.2.1 q h1 h2), hV.2.1.2.2⟩, hV.2.2⟩
  show H1[N]? = some (vp_cell _ _)
  rw [e1, vp_cell_i]
  rfl
theorem sc_newo (S : CallFix p m c cc nL s args Ts own) (hK : va_K G.1 vwCl (sTy G) s) (hV : sV G b M N s H locs) {C : String} {T : u_T} {n ci index : Nat} (hin : ∀ w ∈ u_ws C T n, w ∈ Ts) {ty : Nat → FieldType} (hty : ∀ k, k < n → parseFieldDescriptor (T k).2.2.1 = some (ty k)) (hcl : (Cond.classLink own index C).before args s = true) (hinst : (Cond.instantiable C n).before args s = true) (hini : (Cond.initialized C).before args s = true) (hc : vwCl[ci]? = some (C, T, n)) {fs : List Value} (hfs : ∀ j, j < n → defaultValue (ty j) = vp_V fs j) (hR : cells + 1 ≤ R.cells ∧ slots + n ≤ R.slots) (hdg : decode cc pc = .ok (.new index, 3))
    (kk : ∀ (M1 : sM) (H1 : Heap) (locs1 : List Loc), M1 = va_up M N (some (sObj ci fs)) → sV G b M1 (N + 1) s H1 locs1 → W p l e R s m args below meth c H1 locs1 (cells + 1) (slots + n) Q (F0 m (pc + 3) ls (.ref N :: rest))) : W p l e R s m args below meth c H locs cells slots Q (F0 m pc ls rest) := by
  obtain ⟨hx, hb, -, hown, hts⟩ := S
  have hKn := hK.1 ci _ hc
  refine W.newcK hx hb hown hcl hinst hini rfl hdg hR.1 hR.2 hKn.2.1 hV.1.1 fun H1 kC hkC e1 z1 o1 => ?_
  have hbN : b ≤ N := by rw [← hV.1.1]; exact Nat.le_trans hV.2.2 hV.2.1.1
  exact kk _ H1 locs rfl ⟨hV.1.push hbN ⟨_, hc, (u_born ty hts hin hKn hkC e1 hty).to hfs⟩ z1 o1, ⟨Nat.le_trans hV.2.1.1 (by rw [z1, hV.1.1]; omega), fun q h1 h2 => (o1 q (by rw [← hV.1.1]; exact Nat.lt_of_lt_of_le h1 hV.2.1.1)).trans (hV.2.1.2.1 q h1 h2), hV.2.1.2.2⟩, hV.2.2⟩
/-- a row copied, from a row or from itself -/
def icpy (f g : Int → Int) (sp dp n : Int) : Int → Int := fun k => if dp ≤ k ∧ k < dp + n then f (sp + (k - dp)) else g k
theorem sc_copy (S : CallFix p m c cc nL s args Ts own) (hK : va_K G.1 vwCl (sTy G) s) (hV : sV G b M N s H locs) (hsz : ls.size = nL) {index : Nat} (hlink : (Cond.methodLink own index arraycopyName).before args s = true) (hnat : (Cond.native arraycopyName).before args s = true) (hstat : (Cond.static arraycopyName).before args s = true) (hini : (Cond.initialized "java/lang/System").before args s = true)
    {a0 a : Nat} {n0 n1 : Nat} {f g : Int → Int} (ha0 : M a0 = some (sArr G n0 f)) (ha1 : M a = some (sArr G n1 g)) {sp dp n : Int} (h : 0 ≤ sp ∧ 0 ≤ dp ∧ 0 ≤ n ∧ sp + n ≤ n0 ∧ dp + n ≤ n1 ∧ (n0 : Int) ≤ 2147483647 ∧ (n1 : Int) ≤ 2147483647)
    (hR : 1 ≤ R.frames ∧ (rest.map fun v => v.category).sum + (nativeFrameWords "java/lang/System" "arraycopy" 5 + 11) ≤ R.locals) (hdg : decode cc pc = .ok (.invokestatic index, 3))
    (kk : ∀ (M1 : sM) (H1 : Heap) (locs1 : List Loc), M1 = va_up M a (some (sArr G n1 (icpy f g sp dp n))) → sV G b M1 N s H1 locs1 → W p l e R s m args below meth c H1 locs1 cells slots Q (F0 m (pc + 3) ls rest)) : W p l e R s m args below meth c H locs cells slots Q (F0 m pc ls (.int (sI n) :: .int (sI dp) :: .ref a :: .int (sI sp) :: .ref a0 :: rest)) := by
  have hml : c.maxLocals = ls.size := S.2.2.1.trans hsz.symm
  have hlocals := hR.2
  obtain ⟨hexec, hb, -, hown, -⟩ := S
  have cs : (sI sp).toNatClampNeg = sp.toNat := sI_clamp (by omega)
  have cd : (sI dp).toNatClampNeg = dp.toNat := sI_clamp (by omega)
  have cn : (sI n).toNatClampNeg = n.toNat := sI_clamp (by omega)
  have ts : (sI sp).toInt = sp := sI_toInt (by omega)
  have td : (sI dp).toInt = dp := sI_toInt (by omega)
  have tn : (sI n).toInt = n := sI_toInt (by omega)
  have neg : ∀ z : Int, 0 ≤ z → z ≤ 2147483647 → ¬ sI z < 0 := fun z h1 h2 => by rw [sI_zero, sI_lt (by omega) (by omega)]; omega
  have hba := (hV.1.2 a _ ha1).1
  intro T hT X
  have hc0 : H[a0]? = some (vp_cell G.2.1 (n0, .inl (fun k : Nat => sI (f (k : Int))))) := (hV.1.2 a0 _ ha0).2
  have hc1 : H[a]? = some (vp_cell G.2.1 (n1, .inl (fun k : Nat => sI (g (k : Int))))) := (hV.1.2 a _ ha1).2
  obtain ⟨-, k0, hk0, cm0, hkk0⟩ := (hK.2 0 _ rfl).1 n0 (fun j => .int (sI (f (j : Int))))
  obtain ⟨-, k1, hk1, cm1, hkk1⟩ := (hK.2 0 _ rfl).1 n1 (fun j => .int (sI (g (j : Int))))
  obtain ⟨vm', X', step⟩ := X.arraycopy hexec hown hlink hnat hstat hini (src := a0) (dst := a) (cs := vp_cell G.2.1 (n0, .inl (fun k : Nat => sI (f (k : Int))))) (cd := vp_cell G.2.1 (n1, .inl (fun k : Nat => sI (g (k : Int))))) (srcPos := sI sp) (destPos := sI dp) (n := sI n) (by rw [hT]; exact hc0) (by rw [hT]; exact hc1)
    (fun _ h => by cases h) (fun _ h => by cases h) (fun h => by cases h) (fun h => by cases h) hk0 hk1 hkk0 hkk1 rfl (neg _ h.1 (by omega)) (neg _ h.2.1 (by omega)) (neg _ h.2.2.1 (by omega))
    (by rw [ts, tn]; show ¬ _ > ((arrV G.2.1 n0 (fun j => .int (sI (f (j : Int))))).slots.size : Int); rw [arrV_size]; omega)
    (by rw [td, tn]; show ¬ _ > ((arrV G.2.1 n1 (fun j => .int (sI (g (j : Int))))).slots.size : Int); rw [arrV_size]; omega)
    (fun vm₁ _ i hi => by
      have e : (vp_cell G.2.1 (n0, .inl (fun k : Nat => sI (f (k : Int))))).slots.getD ((sI sp).toNatClampNeg + i) .null = .int (sI (f (((sI sp).toNatClampNeg + i : Nat) : Int))) := by
        show (arrV G.2.1 n0 (fun j => .int (sI (f (j : Int))))).slots.getD _ _ = _
        rw [Array.getD_eq_getD_getElem?, arrV_read _ _ (by rw [cs]; rw [cn] at hi; omega)]
        rfl
      refine ⟨?_, ?_⟩
      · rw [e]
        rfl
      · rw [e]
        exact trivial)
    (g := F0 m pc ls (.int (sI n) :: .int (sI dp) :: .ref a :: .int (sI sp) :: .ref a0 :: rest)) rfl (by rw [hml]) (rest := rest) rfl (by rw [hb]; exact hdg) hR.1 (by show 2 * 0 + _ + _ ≤ _; omega)
  have e1 : copied (vp_cell G.2.1 (n0, .inl (fun k : Nat => sI (f (k : Int))))) (vp_cell G.2.1 (n1, .inl (fun k : Nat => sI (g (k : Int))))) (sI sp) (sI dp) (sI n) = vp_cell G.2.1 (n1, .inl (va_cpy (fun k : Nat => sI (f (k : Int))) (fun k : Nat => sI (g (k : Int))) (sI sp).toNatClampNeg (sI dp).toNatClampNeg (sI n).toNatClampNeg)) := va_copied (fun z => .int z) G.2.1 G.2.1 (fun k : Nat => sI (f (k : Int))) (fun k : Nat => sI (g (k : Int))) (by rw [cs, cn]; omega)
  have e2 : va_cpy (fun k : Nat => sI (f (k : Int))) (fun k : Nat => sI (g (k : Int))) (sI sp).toNatClampNeg (sI dp).toNatClampNeg (sI n).toNatClampNeg = (fun k : Nat => sI (icpy f g sp dp n (k : Int))) := by
    funext k
    rw [cs, cd, cn]
    unfold va_cpy icpy
    by_cases hk : dp.toNat ≤ k ∧ k < dp.toNat + n.toNat
    · have hk2 : dp ≤ (k : Int) ∧ (k : Int) < dp + n := by omega
      have e9 : ((sp.toNat + (k - dp.toNat) : Nat) : Int) = sp + ((k : Int) - dp) := by omega
      rw [if_pos hk, if_pos hk2]
      show sI (f ((sp.toNat + (k - dp.toNat) : Nat) : Int)) = _
      rw [e9]
    · have hk2 : ¬ (dp ≤ (k : Int) ∧ (k : Int) < dp + n) := by omega
      rw [if_neg hk, if_neg hk2]
  rw [e1, e2] at X' step
  have hl : a < H.size := (Array.getElem?_eq_some_iff.mp hc1).1
  have hheap : ((T.setVm vm').setCell a (vp_cell G.2.1 (n1, .inl (fun k : Nat => sI (icpy f g sp dp n (k : Int)))))).heap = H.setIfInBounds a (vp_cell G.2.1 (n1, .inl (fun k : Nat => sI (icpy f g sp dp n (k : Int))))) := by rw [← hT]; rfl
  have oq : ∀ q : Nat, q ≠ a → (H.setIfInBounds a (vp_cell G.2.1 (n1, .inl (fun k : Nat => sI (icpy f g sp dp n (k : Int))))))[q]? = H[q]? := fun q hq => by simp [Array.getElem?_setIfInBounds, Ne.symm hq]
  obtain ⟨t, a1, b1⟩ := kk _ _ _ rfl ⟨hV.1.put ha1 (show (H.setIfInBounds a _)[a]? = some _ by simp [Array.getElem?_setIfInBounds, hl]) (by simp) oq, ⟨by simp; exact hV.2.1.1, fun q g1 g2 => by
      rw [oq q (fun e => g2 (by rw [e]; exact hba))]
      exact hV.2.1.2.1 q g1 g2, fun q hq => by
      rcases List.mem_append.mp hq with h | h
      · exact hV.2.1.2.2 q h
      · obtain ⟨z, -, hz⟩ := List.mem_map.mp h
        rw [← hz]
        exact hba⟩, hV.2.2⟩ _ hheap X'
  exact ⟨t, step t a1, b1⟩
/-- a static row that nobody writes -/
theorem sc_tld (S : CallFix p m c cc nL s args Ts own) (hV : sV G b M N s H locs) {t n : Nat} {f : Nat → Int} (hT : va_T .int t n (fun j => .int (sI (f j))) (sA b) s s.heap) {i : Int} (hi : 0 ≤ i ∧ i < n ∧ (n : Int) ≤ 2147483647) (hdg : decode cc pc = .ok (.iaload, 1))
    (kk : W p l e R s m args below meth c H locs cells slots Q (F0 m (pc + 1) ls (.int (sI (f i.toNat)) :: rest))) : W p l e R s m args below meth c H locs cells slots Q (F0 m pc ls (.int (sI i) :: .ref t :: rest)) := by
  obtain ⟨cell, h1, h2, h3, h4, h5, h6, h7⟩ := hT
  have hc : (sI i).toNatClampNeg = i.toNat := sI_clamp (by omega)
  have hin := sI_in (z := i) (n := n) hi
  refine W.iald (v := .int (sI (f i.toNat))) S.1 S.2.1 (by rw [hV.2.1.2.1 t (Array.getElem?_eq_some_iff.mp h1).1 h7]; exact h1) h2 h3 (fun q => hin (q.elim Or.inl fun z => Or.inr (by omega))) (by rw [hc]; exact h6 _ (by omega)) rfl rfl hdg kk
theorem sc_tlen (S : CallFix p m c cc nL s args Ts own) (hV : sV G b M N s H locs) {t n : Nat} {f : Nat → Int} (hT : va_T .int t n (fun j => .int (sI (f j))) (sA b) s s.heap) (hdg : decode cc pc = .ok (.arraylength, 1))
    (kk : W p l e R s m args below meth c H locs cells slots Q (F0 m (pc + 1) ls (.int (sI (n : Int)) :: rest))) : W p l e R s m args below meth c H locs cells slots Q (F0 m pc ls (.ref t :: rest)) := by
  obtain ⟨cell, h1, h2, h3, h4, h5, h6, h7⟩ := hT
  exact W.alen (n := sI (n : Int)) S.1 S.2.1 (by rw [hV.2.1.2.1 t (Array.getElem?_eq_some_iff.mp h1).1 h7]; exact h1) h2 (by rw [h5]; exact (Int32.ofInt_eq_ofNat (n := n)).symm) rfl rfl hdg kk
end SC
