/-! Numbers of 64 bits as whole numbers. -/
abbrev sRL (z : Int) : Prop := -9223372036854775808 ≤ z ∧ z ≤ 9223372036854775807
theorem sL_toInt {z : Int} (h : sRL z) : (sL z).toInt = z := Int64.toInt_ofInt_of_le (by omega) (by omega)
theorem sL_add (a b : Int) : sL a + sL b = sL (a + b) := (Int64.ofInt_add a b).symm
theorem sL_mul (a b : Int) : sL a * sL b = sL (a * b) := (Int64.ofInt_mul a b).symm
theorem sL_eq {a b : Int} (ha : sRL a) (hb : sRL b) : sL a = sL b ↔ a = b := by rw [← Int64.toInt_inj, sL_toInt ha, sL_toInt hb]
theorem sL_i {z : Int} (h : sR z) : (sI z).toInt64 = sL z := by
  rw [← Int64.toInt_inj, Int32.toInt_toInt64, sI_toInt h, sL_toInt (by omega)]
theorem sL_div {a b : Int} (ha : 0 ≤ a ∧ sRL a) (hb : 0 < b ∧ sRL b) : sL a / sL b = sL (a / b) := by
  rw [← Int64.toInt_inj, Int64.toInt_div, sL_toInt ha.2, sL_toInt hb.2, Int.tdiv_eq_ediv_of_nonneg ha.1]
  exact Int64.toInt_ofInt.symm
theorem sL_ne0 {b : Int} (hb : 0 < b ∧ sRL b) : ¬ sL b = 0 := by
  rw [show (0 : Int64) = sL 0 from by decide, sL_eq hb.2 (by omega)]
  omega
section SCL
variable {p : Program} {l : Launch} {e : Env} {R : Room} {s : State} {m : MethodId} {args : Array Value} {below : List Frame} {meth : Method} {c : Code} {H : Heap} {locs : List Loc} {cells slots : Nat} {Q : State → Prop}
variable {cc : ByteArray} {nL : Nat} {Ts : List Cond} {own : String} {pc : Nat} {ls : Array Slot} {rest : List Value}
theorem sl_const (S : CallFix p m c cc nL s args Ts own) {n : Fin 2} {z : Int} (hdg : decode cc pc = .ok (.lconst n, 1)) (hz : Int64.ofNat (n : Nat) = sL z) (k : W p l e R s m args below meth c H locs cells slots Q (F0 m (pc + 1) ls (.long (sL z) :: rest))) : W p l e R s m args below meth c H locs cells slots Q (F0 m pc ls rest) := lv_lconst S.1 S.2.1 hdg hz k
theorem sl_i2l (S : CallFix p m c cc nL s args Ts own) {x : Int} (hdg : decode cc pc = .ok (.i2l, 1)) (h : sR x) (k : W p l e R s m args below meth c H locs cells slots Q (F0 m (pc + 1) ls (.long (sL x) :: rest))) : W p l e R s m args below meth c H locs cells slots Q (F0 m pc ls (.int (sI x) :: rest)) := lv_i2l S.1 S.2.1 hdg (sL_i h) k
theorem sl_add (S : CallFix p m c cc nL s args Ts own) {x y : Int} (hdg : decode cc pc = .ok (.ladd, 1)) (k : W p l e R s m args below meth c H locs cells slots Q (F0 m (pc + 1) ls (.long (sL (x + y)) :: rest))) : W p l e R s m args below meth c H locs cells slots Q (F0 m pc ls (.long (sL y) :: .long (sL x) :: rest)) := lv_ladd S.1 S.2.1 hdg (by rw [sL_add]; exact k)
theorem sl_mul (S : CallFix p m c cc nL s args Ts own) {x y : Int} (hdg : decode cc pc = .ok (.lmul, 1)) (k : W p l e R s m args below meth c H locs cells slots Q (F0 m (pc + 1) ls (.long (sL (x * y)) :: rest))) : W p l e R s m args below meth c H locs cells slots Q (F0 m pc ls (.long (sL y) :: .long (sL x) :: rest)) := lv_lmul S.1 S.2.1 hdg (by rw [sL_mul]; exact k)
theorem sl_div (S : CallFix p m c cc nL s args Ts own) {x y : Int} (hdg : decode cc pc = .ok (.ldiv, 1)) (h : (0 ≤ x ∧ sRL x) ∧ 0 < y ∧ sRL y) (k : W p l e R s m args below meth c H locs cells slots Q (F0 m (pc + 1) ls (.long (sL (x / y)) :: rest))) : W p l e R s m args below meth c H locs cells slots Q (F0 m pc ls (.long (sL y) :: .long (sL x) :: rest)) := lv_ldiv S.1 S.2.1 hdg (sL_ne0 h.2) (by rw [sL_div h.1 h.2]; exact k)
theorem sl_ldc2 (S : CallFix p m c cc nL s args Ts own) {index : Nat} {v : Int64} (z : Int) (hconst : (Jvm.Cond.constantLong own index v).before args s = true) (hv : v = sL z) (hdg : decode cc pc = .ok (.ldc2_w index, 3)) (k : W p l e R s m args below meth c H locs cells slots Q (F0 m (pc + 3) ls (.long (sL z) :: rest))) : W p l e R s m args below meth c H locs cells slots Q (F0 m pc ls rest) := lv_ldc2 S.1 S.2.1 S.2.2.2.1 hconst hdg (by rw [hv]; exact k)
end SCL
