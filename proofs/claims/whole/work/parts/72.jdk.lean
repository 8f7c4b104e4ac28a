/-! Bits counted as the JDK counts them; rows filled; places and numbers. -/
def bc1 (x : Int) : Int := x - iand (iushr x 1) 1431655765
def bc2 (x : Int) : Int := iand x 858993459 + iand (iushr x 2) 858993459
def bc3 (x : Int) : Int := iand (x + iushr x 4) 252645135
def bc4 (x : Int) : Int := x + iushr x 8
def bc5 (x : Int) : Int := x + iushr x 16
def bcI (x : Int) : Int := iand (bc5 (bc4 (bc3 (bc2 (bc1 x))))) 63
def popN : Nat → Nat → Nat
  | 0, _ => 0
  | k + 1, n => n % 2 + popN k (n / 2)
theorem pc_pop : ∀ k : Nat, k ≤ 31 → ∀ m : Nat, m < 2 ^ k → pcI (m : Int) = ((popN k m : Nat) : Int) := by
  intro k
  induction k with
  | zero =>
    intro _ m h
    rw [show m = 0 by omega]
    exact pc_0
  | succ k ih =>
    intro hk m h
    have h2 : (2 : Nat) ^ (k + 1) ≤ 2 ^ 31 := Nat.pow_le_pow_right (by omega) hk
    rw [pc_half (by omega), show ((m : Int) / 2) = ((m / 2 : Nat) : Int) by omega, ih (by omega) (m / 2) (by rw [Nat.pow_succ] at h; omega)]
    show _ = ((m % 2 + popN k (m / 2) : Nat) : Int)
    omega
theorem bc_pop : ∀ n : Nat, n < 1024 → bcI (n : Int) = ((popN 10 n : Nat) : Int) := by decide +kernel
theorem bc_pc {x : Int} (h : 0 ≤ x ∧ x < 1024) : bcI x = pcI x := by
  have h1 := bc_pop x.toNat (by omega)
  have h2 := pc_pop 10 (by omega) x.toNat (by show x.toNat < 1024; omega)
  rw [show ((x.toNat : Nat) : Int) = x by omega] at h1 h2
  rw [h1, h2]
/-- no more things than places -/
theorem inj_le {m n : Int} {h : Int → Int} (hm : 0 ≤ m) (hn : 0 ≤ n) (h1 : ∀ i, 0 ≤ i → i < m → 0 ≤ h i ∧ h i < n) (h2 : ∀ i j, 0 ≤ i → i < j → j < m → h i ≠ h j) : m ≤ n := by
  have a1 : isum m (fun i => isum n (fun s => if h i = s then 1 else 0)) = isum m (fun _ => 1) := isum_c fun i a b => by
    have q := h1 i a b
    rw [isum_pick (fun s => if h i = s then 1 else 0) q (fun k _ _ e => if_neg (fun r => e r.symm))]
    exact if_pos rfl
  have a2 := isum_b (n := m) (g := fun _ => 1) 1 1 hm (fun _ _ _ => ⟨Int.le_refl _, Int.le_refl _⟩)
  rw [isum_swap (fun i s => if h i = s then 1 else 0)] at a1
  have a3 : isum n (fun s => isum m (fun i => if h i = s then 1 else 0)) ≤ isum n (fun _ => 1) := isum_le fun s a b => by
    show isum m (fun i => if h i = s then 1 else 0) ≤ 1
    by_cases e : ∃ i, 0 ≤ i ∧ i < m ∧ h i = s
    · obtain ⟨i, u, v, w⟩ := e
      rw [isum_pick (fun i => if h i = s then 1 else 0) ⟨u, v⟩ (fun k c d r => if_neg (fun t => by
        rcases Int.lt_trichotomy k i with x | x | x
        · exact h2 k i c x v (by rw [t, w])
        · exact r x
        · exact h2 i k u x d (by rw [t, w])))]
      show (if h i = s then (1 : Int) else 0) ≤ 1
      split <;> omega
    · rw [isum_z fun k c d => if_neg (fun t => e ⟨k, c, d, t⟩)]
      omega
  have a4 := isum_b (n := n) (g := fun _ => 1) 1 1 hn (fun _ _ _ => ⟨Int.le_refl _, Int.le_refl _⟩)
  omega
theorem inj_sur {n : Int} {h : Int → Int} (hn : 0 ≤ n) (h1 : ∀ i, 0 ≤ i → i < n → 0 ≤ h i ∧ h i < n) (h2 : ∀ i j, 0 ≤ i → i < j → j < n → h i ≠ h j) (x : Int) (hx : 0 ≤ x ∧ x < n) : ∃ i, 0 ≤ i ∧ i < n ∧ h i = x := by
  refine Classical.not_not.mp fun q => ?_
  have q2 : ∀ i, 0 ≤ i → i < n → h i ≠ x := fun i a b c => q ⟨i, a, b, c⟩
  have := inj_le (m := n + 1) (n := n) (h := iup h n x) (by omega) hn (fun i a b => by
    unfold iup
    by_cases e : i = n
    · rw [if_pos e]; exact hx
    · rw [if_neg e]; exact h1 i a (by omega)) (fun i j a b c => by
    unfold iup
    rw [if_neg (show ¬ i = n by omega)]
    by_cases e : j = n
    · rw [if_pos e]; exact q2 i a (by omega)
    · rw [if_neg e]; exact h2 i j a b (by omega))
  omega
/-- two that are one, among too many -/
theorem pig {m n : Int} {h : Int → Int} (hn : 0 ≤ n) (hm : n < m) (h1 : ∀ i, 0 ≤ i → i < m → 0 ≤ h i ∧ h i < n) : ∃ i j, 0 ≤ i ∧ i < j ∧ j < m ∧ h i = h j := by
  refine Classical.not_not.mp fun q => ?_
  have := inj_le (by omega) hn h1 (fun i j a b c d => q ⟨i, j, a, b, c, d⟩)
  omega
section SI
variable {p : Program} {l : Launch} {e : Env} {R : Room} {s : State} {m : MethodId} {args : Array Value} {below : List Frame} {meth : Method} {c : Code} {H : Heap} {locs : List Loc} {cells slots : Nat} {Q : State → Prop}
variable {cc : ByteArray} {nL : Nat} {Ts : List Cond} {own : String} {pc : Nat} {ls : Array Slot} {rest : List Value}
theorem si_ldc_w (S : CallFix p m c cc nL s args Ts own) {index : Nat} {v : Int32} (z : Int) (hconst : (Jvm.Cond.constant own index v).before args s = true) (hv : v = sI z) (hdg : decode cc pc = .ok (.ldc_w index, 3)) (k : W p l e R s m args below meth c H locs cells slots Q (F0 m (pc + 3) ls (.int (sI z) :: rest))) : W p l e R s m args below meth c H locs cells slots Q (F0 m pc ls rest) := lv_ldcw S.1 S.2.1 S.2.2.2.1 hconst hdg (hv ▸ k)
end SI

abbrev rmJ6_bitCount_0f7a4 : Room := { frames := 1, cells := 0, slots := 0, locals := 40 }
set_option maxHeartbeats 4000000 in
set_option maxRecDepth 100000 in
theorem kJ6_bitCount_0f7a4 (l_ : Launch) (G : sG) (b_ : Nat) (M : sM) (N : Nat) (x : Int) (hx : 0 ≤ x ∧ x < 1024) : cP l_ yJ6_bitCount_0f7a4 wsJ6_bitCount_0f7a4 rmJ6_bitCount_0f7a4 G b_ M N [.int (sI x)] (pcI x) := by
  refine sE.ofI (cc := cJ6_bitCount_0f7a4) (nL := 1) (ret := (some .int)) (by decide) rfl (Nat.le_of_ble_eq_true rfl) ?_
  intro p_ e_ s_ m_ args_ below_ meth_ c_ ls Q hQ E hl
  have E : sE p_ l_ e_ rmJ6_bitCount_0f7a4 s_ m_ args_ below_ meth_ c_ cJ6_bitCount_0f7a4 1 wsJ6_bitCount_0f7a4 RJ6 "bitCount" (some .int) G b_ M N := E
  have S := E.1
  have hx_ := S.1
  have hb_ := S.2.1
  have hK := E.2.2.2.2.1
  have hV := E.2.2.2.2.2.2
  have hl : lv_has ls 1 [(0, .int (sI x))] := hl
  refine lv_iload_n hx_ hb_ dJ6_bitCount_0f7a4_0 rfl (lv_at hl 0 rfl) ?_
  refine lv_iload_n hx_ hb_ dJ6_bitCount_0f7a4_1 rfl (lv_at hl 0 rfl) ?_
  refine si_const S dJ6_bitCount_0f7a4_2 ?_
  refine si_ushr S dJ6_bitCount_0f7a4_3 ?_
  refine si_ldc_w S (1431655765) (S.2.2.2.2 _ (List.mem_of_getElem? (i := 1) rfl)) (by decide) dJ6_bitCount_0f7a4_4 ?_
  refine si_and S dJ6_bitCount_0f7a4_7 ?_
  refine si_sub S dJ6_bitCount_0f7a4_8 ?_
  refine lv_istore_n (lv' := [(0, .int (sI (x - (iand (iushr x 1) 1431655765))))]) hx_ hb_ dJ6_bitCount_0f7a4_9 rfl hl (by decide) rfl (fun ls hl => ?_)
  have hl : lv_has ls 1 [(0, .int (sI (bc1 x)))] := hl
  refine lv_iload_n hx_ hb_ dJ6_bitCount_0f7a4_10 rfl (lv_at hl 0 rfl) ?_
  refine si_ldc_w S (858993459) (S.2.2.2.2 _ (List.mem_of_getElem? (i := 2) rfl)) (by decide) dJ6_bitCount_0f7a4_11 ?_
  refine si_and S dJ6_bitCount_0f7a4_14 ?_
  refine lv_iload_n hx_ hb_ dJ6_bitCount_0f7a4_15 rfl (lv_at hl 0 rfl) ?_
  refine si_const S dJ6_bitCount_0f7a4_16 ?_
  refine si_ushr S dJ6_bitCount_0f7a4_17 ?_
  refine si_ldc_w S (858993459) (S.2.2.2.2 _ (List.mem_of_getElem? (i := 2) rfl)) (by decide) dJ6_bitCount_0f7a4_18 ?_
  refine si_and S dJ6_bitCount_0f7a4_21 ?_
  refine si_add S dJ6_bitCount_0f7a4_22 ?_
  refine lv_istore_n (lv' := [(0, .int (sI ((iand (bc1 x) 858993459) + (iand (iushr (bc1 x) 2) 858993459))))]) hx_ hb_ dJ6_bitCount_0f7a4_23 rfl hl (by decide) rfl (fun ls hl => ?_)
  have hl : lv_has ls 1 [(0, .int (sI (bc2 (bc1 x))))] := hl
  refine lv_iload_n hx_ hb_ dJ6_bitCount_0f7a4_24 rfl (lv_at hl 0 rfl) ?_
  refine lv_iload_n hx_ hb_ dJ6_bitCount_0f7a4_25 rfl (lv_at hl 0 rfl) ?_
  refine si_const S dJ6_bitCount_0f7a4_26 ?_
  refine si_ushr S dJ6_bitCount_0f7a4_27 ?_
  refine si_add S dJ6_bitCount_0f7a4_28 ?_
  refine si_ldc_w S (252645135) (S.2.2.2.2 _ (List.mem_of_getElem? (i := 3) rfl)) (by decide) dJ6_bitCount_0f7a4_29 ?_
  refine si_and S dJ6_bitCount_0f7a4_32 ?_
  refine lv_istore_n (lv' := [(0, .int (sI (iand ((bc2 (bc1 x)) + (iushr (bc2 (bc1 x)) 4)) 252645135)))]) hx_ hb_ dJ6_bitCount_0f7a4_33 rfl hl (by decide) rfl (fun ls hl => ?_)
  have hl : lv_has ls 1 [(0, .int (sI (bc3 (bc2 (bc1 x)))))] := hl
  refine lv_iload_n hx_ hb_ dJ6_bitCount_0f7a4_34 rfl (lv_at hl 0 rfl) ?_
  refine lv_iload_n hx_ hb_ dJ6_bitCount_0f7a4_35 rfl (lv_at hl 0 rfl) ?_
  refine si_bipush S dJ6_bitCount_0f7a4_36 (by decide) ?_
  refine si_ushr S dJ6_bitCount_0f7a4_38 ?_
  refine si_add S dJ6_bitCount_0f7a4_39 ?_
  refine lv_istore_n (lv' := [(0, .int (sI ((bc3 (bc2 (bc1 x))) + (iushr (bc3 (bc2 (bc1 x))) 8))))]) hx_ hb_ dJ6_bitCount_0f7a4_40 rfl hl (by decide) rfl (fun ls hl => ?_)
  have hl : lv_has ls 1 [(0, .int (sI (bc4 (bc3 (bc2 (bc1 x))))))] := hl
  refine lv_iload_n hx_ hb_ dJ6_bitCount_0f7a4_41 rfl (lv_at hl 0 rfl) ?_
  refine lv_iload_n hx_ hb_ dJ6_bitCount_0f7a4_42 rfl (lv_at hl 0 rfl) ?_
  refine si_bipush S dJ6_bitCount_0f7a4_43 (by decide) ?_
  refine si_ushr S dJ6_bitCount_0f7a4_45 ?_
  refine si_add S dJ6_bitCount_0f7a4_46 ?_
  refine lv_istore_n (lv' := [(0, .int (sI ((bc4 (bc3 (bc2 (bc1 x)))) + (iushr (bc4 (bc3 (bc2 (bc1 x)))) 16))))]) hx_ hb_ dJ6_bitCount_0f7a4_47 rfl hl (by decide) rfl (fun ls hl => ?_)
  have hl : lv_has ls 1 [(0, .int (sI (bc5 (bc4 (bc3 (bc2 (bc1 x)))))))] := hl
  refine lv_iload_n hx_ hb_ dJ6_bitCount_0f7a4_48 rfl (lv_at hl 0 rfl) ?_
  refine si_bipush S dJ6_bitCount_0f7a4_49 (by decide) ?_
  refine si_and S dJ6_bitCount_0f7a4_51 ?_
  exact sr_i E hQ dJ6_bitCount_0f7a4_52 ⟨Nat.le_of_ble_eq_true rfl, Nat.le_of_ble_eq_true rfl⟩ hV (⟨bc_pc hx, rfl, rfl⟩)

abbrev rmJ7_fill_53178 : Room := { frames := 1, cells := 0, slots := 0, locals := 40 }
set_option maxHeartbeats 4000000 in
set_option maxRecDepth 100000 in
theorem kJ7_fill_53178 (l_ : Launch) (G : sG) (b_ : Nat) (M : sM) (N : Nat) (a n : Nat) (g : sF) (v : Int) (ha : M a = some (sArr G n g)) (hn : n ≤ 100000) : cV l_ yJ7_fill_53178 wsJ7_fill_53178 rmJ7_fill_53178 G b_ M N [.ref a, .int (sI v)] (fun M1 N1 => N1 = N ∧ M1 a = some (sArr G n (cpK g (fun _ => v) n)) ∧ (∀ x : Nat, ¬ (x = a) → M1 x = M x)) := by
  refine sE.ofV (cc := cJ7_fill_53178) (nL := 4) (ret := none) (by decide) rfl (Nat.le_of_ble_eq_true rfl) ?_
  intro p_ e_ s_ m_ args_ below_ meth_ c_ ls Q hQ E hl
  have E : sE p_ l_ e_ rmJ7_fill_53178 s_ m_ args_ below_ meth_ c_ cJ7_fill_53178 4 wsJ7_fill_53178 RJ7 "fill" none G b_ M N := E
  have S := E.1
  have hx_ := S.1
  have hb_ := S.2.1
  have hK := E.2.2.2.2.1
  have hV := E.2.2.2.2.2.2
  have hl : lv_has ls 4 [(0, .ref a), (1, .int (sI v))] := hl
  refine si_const S dJ7_fill_53178_0 ?_
  refine lv_istore_n (lv' := [(2, .int (sI 0)), (0, .ref a), (1, .int (sI v))]) hx_ hb_ dJ7_fill_53178_1 rfl hl (by decide) rfl (fun ls hl => ?_)
  refine lv_aload_n hx_ hb_ dJ7_fill_53178_2 rfl (lv_at hl 1 rfl) ?_
  refine sc_alen S hK hV 0 ha rfl dJ7_fill_53178_3 ?_
  refine lv_istore_n (lv' := [(3, .int (sI ((n : Int)))), (2, .int (sI 0)), (0, .ref a), (1, .int (sI v))]) hx_ hb_ dJ7_fill_53178_4 rfl hl (by decide) rfl (fun ls hl => ?_)
  have L5 : ∀ (fuel : Nat) (k : Int) (g2 : Int → Int) (Ml5 : sM) (H : Heap) (locs : List Loc) (ls : Array Slot), (((n : Int) - k).toNat) < fuel → (0 ≤ k ∧ k ≤ n) → (g2 = cpK g (fun _ => v) k) → (Ml5 a = some (sArr G n g2)) → (∀ x : Nat, ¬ (x = a) → Ml5 x = M x) → sV G b_ Ml5 N s_ H locs → lv_has ls 4 [(0, .ref a), (1, .int (sI v)), (2, .int (sI k)), (3, .int (sI ((n : Int))))] → W p_ l_ e_ rmJ7_fill_53178 s_ m_ args_ below_ meth_ c_ H locs 0 0 Q (F0 m_ 5 ls []) := by
    intro fuel
    induction fuel with
    | zero => intro k g2 Ml5 H locs ls hmu; exact absurd hmu (Nat.not_lt_zero _)
    | succ fuel ih5 =>
      intro k g2 Ml5 H locs ls hmu5 hv5_0 hg hm5_0 hfr5 hV hl
      refine lv_iload_n hx_ hb_ dJ7_fill_53178_5 rfl (lv_at hl 2 rfl) ?_
      refine lv_iload_n hx_ hb_ dJ7_fill_53178_6 rfl (lv_at hl 3 rfl) ?_
      refine sb_ge (tgt := 20) S dJ7_fill_53178_7 (by decide) (by omega) (fun c1 => ?_) (fun c1 => ?_)
      · exact sr_v E hQ dJ7_fill_53178_20 ⟨Nat.le_of_ble_eq_true rfl, Nat.le_of_ble_eq_true rfl⟩ hV (⟨rfl, by rw [hg, show k = (n : Int) by omega] at hm5_0; exact hm5_0, fun x q0 => hfr5 x (by omega)⟩)
      · refine lv_aload_n hx_ hb_ dJ7_fill_53178_10 rfl (lv_at hl 0 rfl) ?_
        refine lv_iload_n hx_ hb_ dJ7_fill_53178_11 rfl (lv_at hl 2 rfl) ?_
        refine lv_iload_n hx_ hb_ dJ7_fill_53178_12 rfl (lv_at hl 1 rfl) ?_
        refine sc_iast S hK hV hm5_0 (by omega) dJ7_fill_53178_13 (fun M2 H locs hM2 hV => ?_)
        have hc3 : M2 a = some (sArr G n (iup g2 k v)) := (congrFun hM2 a).trans (va_up_self Ml5 a _)
        refine si_inc (lv' := [(2, .int (sI (k + 1))), (0, .ref a), (1, .int (sI v)), (3, .int (sI ((n : Int))))]) S dJ7_fill_53178_14 hl (k := 2) rfl (by decide) rfl (fun ls hl => ?_)
        refine lv_goto (tgt := 5) hx_ hb_ dJ7_fill_53178_17 (by decide) ?_
        exact ih5 (k + 1) (iup g2 k v) M2 _ _ _ (by omega) (by omega) (by rw [hg]; exact cpK_s g (fun _ => v) k (by omega)) hc3 (fun x q0 => ((congrFun hM2 x).trans (va_up_ne Ml5 _ (by omega))).trans (hfr5 x (by omega))) hV (lv_sub hl [1, 2, 0, 3] rfl)
  exact L5 _ 0 g M _ _ _ (Nat.lt_succ_self _) (by omega) ((cpK_0 _ _).symm) ha (fun x q0 => rfl) hV (lv_sub hl [2, 3, 1, 0] rfl)
