/-! The class's Laying: its rows. -/
theorem p2_w4 {s : Int} (h : 0 ≤ s ∧ s ≤ 9) : p2 (2 * (9 - s)) = w4 s := by
  unfold p2 w4
  rw [show (2 * (9 - s)).toNat = 2 * (9 - s).toNat by omega, Nat.pow_mul]
theorem ishl_w4 {d s : Int} (hd : 0 ≤ d ∧ d ≤ 3) (h : 0 ≤ s ∧ s ≤ 9) : ishl d (2 * (9 - s)) = d * w4 s := by
  have h1 := w4_b (s := s) h.1
  have h0 := w4_p s
  rw [← p2_w4 h] at h1 h0 ⊢
  have h2 : (d.toNat * 2 ^ (2 * (9 - s)).toNat : Nat) ≤ 3 * 2 ^ (2 * (9 - s)).toNat := Nat.mul_le_mul_right _ (by omega)
  unfold p2 at h1 h0 ⊢
  have h3 : ((2 ^ (2 * (9 - s)).toNat : Nat) : Int) = (2 : Int) ^ (2 * (9 - s)).toNat ∨ True := Or.inr trivial
  rw [ishl_n (by omega) (by omega) (by
    show d.toNat * 2 ^ (2 * (9 - s)).toNat < 2147483648
    omega)]
  rw [Int.natCast_mul, Int.toNat_of_nonneg hd.1]
theorem ishr_w4 {v s : Int} (hv : 0 ≤ v ∧ v ≤ 2147483647) (h : 0 ≤ s ∧ s ≤ 9) : ishr v (2 * (9 - s)) = v / w4 s := by
  rw [← p2_w4 h, ishr_n hv (by omega), Nat.shiftRight_eq_div_pow]
  unfold p2
  rw [Int.natCast_ediv, Int.toNat_of_nonneg hv.1]
theorem iand_3 {v : Int} (hv : 0 ≤ v ∧ v ≤ 2147483647) : iand v 3 = v % 4 := by
  rw [iand_n hv (by omega), show (3 : Int).toNat = 2 ^ 2 - 1 from rfl, Nat.and_two_pow_sub_one_eq_mod]
  omega
theorem tb_xor {a b k : Int} (ha : 0 ≤ a ∧ a ≤ 2147483647) (hb : 0 ≤ b ∧ b ≤ 2147483647) (h : tb b k → tb a k) : tb (ixor a b) k ↔ tb a k ∧ ¬ tb b k := by
  rw [ixor_n ha hb]
  unfold tb at h ⊢
  rw [Int.toNat_natCast, Nat.testBit_xor]
  cases h1 : a.toNat.testBit k.toNat <;> cases h2 : b.toNat.testBit k.toNat <;> rw [h1, h2] at h <;> simp at h ⊢
theorem ixor_r31 {a b : Int} (ha : 0 ≤ a ∧ a ≤ 2147483647) (hb : 0 ≤ b ∧ b ≤ 2147483647) : 0 ≤ ixor a b := by
  rw [ixor_n ha hb]
  omega
theorem or_top {u s : Int} (hs : 0 ≤ s ∧ s ≤ 29) (hu : 0 ≤ u ∧ u < p2 s) : ior u (p2 s) = u + p2 s := by
  have h9 := p2_29 (n := s) (by omega)
  have := ior_p2 (v := u) (s := s) (by omega) hs (tb_lt hu (Int.le_refl _))
  rw [ishl_p2 (by omega)] at this
  exact this
def paQ (f : sF) (s o v : Int) : Prop := (0 ≤ v ∧ v ≤ 2147483647) ∧ ∀ x, 0 ≤ x → (tb v x ↔ x < o ∧ dpK f x s)
theorem paQ_0 (f : sF) (s : Int) : paQ f s 0 0 := ⟨by omega, fun x _ => ⟨fun q => absurd q (tb_0 x), fun q => by omega⟩⟩
theorem paQ_f {f : sF} {s o v : Int} (hq : ¬ dpK f o s) (h : paQ f s o v) : paQ f s (o + 1) v := ⟨h.1, fun x a => by
  rw [h.2 x a]
  constructor
  · exact fun q => ⟨by omega, q.2⟩
  · rintro ⟨q1, q2⟩
    by_cases e : x = o
    · rw [e] at q2; exact absurd q2 hq
    · exact ⟨by omega, q2⟩⟩
theorem paQ_t {f : sF} {s o v : Int} (ho : 0 ≤ o ∧ o ≤ 30) (hq : dpK f o s) (h : paQ f s o v) : paQ f s (o + 1) (ior v (ishl 1 o)) := ⟨ior_r31 h.1 (ishl_r31 ho), fun x a => by
  rw [tb_or h.1 (ishl_r31 ho), tb_one ho a, h.2 x a]
  constructor
  · rintro (q | q)
    · exact ⟨by omega, q.2⟩
    · rw [q]; exact ⟨by omega, hq⟩
  · rintro ⟨q1, q2⟩
    by_cases e : x = o
    · exact Or.inr e
    · exact Or.inl ⟨by omega, q2⟩⟩
def szA (f : sF) (n : Int) (Z : sF) : Prop := ∀ u, 0 ≤ u → u < n → szP f u (Z u)
def wtA (f : sF) (n : Int) (Z : sF) : Prop := ∀ u, 0 ≤ u → u < n → Z u = suI f 30 u
theorem szA_s {f Z : sF} {n v : Int} (h : szA f n Z) (hv : szP f n v) : szA f (n + 1) (iup Z n v) := fun u a b => by
  unfold iup
  by_cases e : u = n
  · rw [if_pos e, e]; exact hv
  · rw [if_neg e]; exact h u a (by omega)
theorem wtA_s {f Z : sF} {n v : Int} (h : wtA f n Z) (hv : v = suI f 30 n) : wtA f (n + 1) (iup Z n v) := fun u a b => by
  unfold iup
  by_cases e : u = n
  · rw [if_pos e, e]; exact hv
  · rw [if_neg e]; exact h u a (by omega)
theorem sz_r {f : sF} {u v : Int} (hok : sOk f) (h : szP f u v) : (0 ≤ v ∧ v ≤ 268435456) ∧ (noP f u → v ≤ 1000) := by
  have hn := (sOk_N hok).1
  have h1 := su_r (f := f) (b := 20) (u := u) (c := 9) hn (by omega) (fun s a b => by have := (sOk_S hok s a b).2.2.1; omega)
  by_cases q : noP f u
  · have := h.1 q; exact ⟨by omega, fun _ => by omega⟩
  · have := h.2 q; exact ⟨by omega, fun w => absurd w q⟩
theorem wt_r {f : sF} {u : Int} (hok : sOk f) : 0 ≤ suI f 30 u ∧ suI f 30 u ≤ 1000 := by
  have hn := (sOk_N hok).1
  have h1 := su_r (f := f) (b := 30) (u := u) (c := 99) hn (by omega) (fun s a b => by have := (sOk_S hok s a b).2.2.2.1; omega)
  omega
def hlB (f : sF) (B : Prop) (d n : Int) (H : sF) : Prop := ∀ u, 0 ≤ u → u < n → hlP f B d u (H u)
theorem hlB_s {f H : sF} {B : Prop} {d n v : Int} (h : hlB f B d n H) (hv : hlP f B d n v) : hlB f B d (n + 1) (iup H n v) := fun u a b => by
  unfold iup
  by_cases e : u = n
  · rw [if_pos e, e]; exact hv
  · rw [if_neg e]; exact h u a (by omega)
def beA (f : sF) (B : Prop) (d : Int) (H : sF) : Prop := ∀ u, 0 ≤ u → u < p2 (f 568) → beP f B d u (H u)

abbrev rmX3_init : Room := { frames := 1, cells := 5, slots := 4106, locals := 40 }
set_option maxHeartbeats 4000000 in
set_option maxRecDepth 100000 in
theorem kX3_init (l_ : Launch) (G : sG) (b_ : Nat) (M : sM) (N : Nat) (y : Nat) (hy0 : M y = some (sObj 2 [.null, .null, .null, .null, .null, .int (sI 0), .int (sI 0)])) (hN : N = y + 1) : cV l_ yX3_init wsX3_init rmX3_init G b_ M N [.ref y] (fun M1 N1 => N1 = y + 6 ∧ M1 y = some (sObj 2 [.ref (y + 1), .ref (y + 2), .ref (y + 3), .ref (y + 4), .ref (y + 5), .int (sI 0), .int (sI 268435456)]) ∧ M1 (y + 1) = some (sArr G 1024 (fun _ => 0)) ∧ M1 (y + 2) = some (sArr G 1024 (fun _ => 0)) ∧ M1 (y + 3) = some (sArr G 1024 (fun _ => 0)) ∧ M1 (y + 4) = some (sArr G 1024 (fun _ => 0)) ∧ M1 (y + 5) = some (sArr G 10 (fun _ => 0)) ∧ (∀ x : Nat, ¬ (x = y) → ¬ (x = y + 1) → ¬ (x = y + 2) → ¬ (x = y + 3) → ¬ (x = y + 4) → ¬ (x = y + 5) → M1 x = M x)) := by
  refine sE.ofV (cc := cX3_init) (nL := 1) (ret := none) (by decide) rfl (Nat.le_of_ble_eq_true rfl) ?_
  intro p_ e_ s_ m_ args_ below_ meth_ c_ ls Q hQ E hl
  have E : sE p_ l_ e_ rmX3_init s_ m_ args_ below_ meth_ c_ cX3_init 1 wsX3_init RX3 "<init>" none G b_ M N := E
  have S := E.1
  have hx_ := S.1
  have hb_ := S.2.1
  have hK := E.2.2.2.2.1
  have hV := E.2.2.2.2.2.2
  have hnm := E.2.2.2.1
  have hl : lv_has ls 1 [(0, .ref y)] := hl
  have inX3_ : ∀ w ∈ wsX30, w ∈ wsX3_init := fun _ h => List.mem_cons_of_mem _ (List.mem_append_right _ h)
  have hbN : b_ ≤ N := by have h1 := hV.1.1; have h2 := hV.2.2; omega
  subst hN
  refine lv_aload_n hx_ hb_ dX3_init_0 rfl (lv_at hl 0 rfl) ?_
  refine W.objInit hx_ hb_ S.2.2.2.1 (S.2.2.2.2 _ (List.mem_of_getElem? (i := 1) rfl)) (S.2.2.2.2 _ (List.mem_of_getElem? (i := 2) rfl)) (S.2.2.2.2 _ (List.mem_of_getElem? (i := 3) rfl)) rfl (by rw [S.2.2.1]; exact hl.1) rfl dX3_init_1 (Nat.le_of_ble_eq_true rfl) (Nat.le_of_ble_eq_true rfl) ?_
  refine W.eq (g2 := F0 m_ 4 ls []) rfl ?_
  refine lv_aload_n hx_ hb_ dX3_init_4 rfl (lv_at hl 0 rfl) ?_
  refine si_sipush S dX3_init_5 (by decide) ?_
  refine sc_newa S hK hV (S.2.2.2.2 _ (List.mem_of_getElem? (i := 4) rfl)) (N0 := 1024) ⟨rfl, Nat.le_of_ble_eq_true rfl⟩ ⟨Nat.le_of_ble_eq_true rfl, Nat.le_of_ble_eq_true rfl⟩ dX3_init_8 (fun M1 H locs hM1 hV => ?_)
  have hc2 : M1 (y + 1) = some (sArr G 1024 (fun _ => 0)) := (congrFun hM1 (y + 1)).trans (va_up_self M (y + 1) _)
  have hc3 : M1 y = some (sObj 2 [.null, .null, .null, .null, .null, .int (sI 0), .int (sI 0)]) := ((congrFun hM1 y).trans (va_up_ne M _ (by omega))).trans hy0
  refine sc_putF (ci := 2) (C := RX3) (T := TX3) (n := 7) S hK hV inX3_ tyX3_ok nmX3 hc3 rfl 0 (by decide) (S.2.2.2.2 _ (List.mem_of_getElem? (i := 5) rfl)) rfl rfl hnm rfl rfl rfl (Nat.le_of_ble_eq_true rfl) dX3_init_10 (fs1 := [.ref (y + 1), .null, .null, .null, .null, .int (sI 0), .int (sI 0)]) rfl (fun M4 H locs hM4 hV => ?_)
  have hc5 : M4 y = some (sObj 2 [.ref (y + 1), .null, .null, .null, .null, .int (sI 0), .int (sI 0)]) := (congrFun hM4 y).trans (va_up_self M1 y _)
  refine lv_aload_n hx_ hb_ dX3_init_13 rfl (lv_at hl 0 rfl) ?_
  refine si_sipush S dX3_init_14 (by decide) ?_
  refine sc_newa S hK hV (S.2.2.2.2 _ (List.mem_of_getElem? (i := 4) rfl)) (N0 := 1024) ⟨rfl, Nat.le_of_ble_eq_true rfl⟩ ⟨Nat.le_of_ble_eq_true rfl, Nat.le_of_ble_eq_true rfl⟩ dX3_init_17 (fun M6 H locs hM6 hV => ?_)
  have hc7 : M6 (y + 2) = some (sArr G 1024 (fun _ => 0)) := (congrFun hM6 (y + 2)).trans (va_up_self M4 (y + 2) _)
  have hc8 : M6 y = some (sObj 2 [.ref (y + 1), .null, .null, .null, .null, .int (sI 0), .int (sI 0)]) := ((congrFun hM6 y).trans (va_up_ne M4 _ (by omega))).trans hc5
  refine sc_putF (ci := 2) (C := RX3) (T := TX3) (n := 7) S hK hV inX3_ tyX3_ok nmX3 hc8 rfl 1 (by decide) (S.2.2.2.2 _ (List.mem_of_getElem? (i := 6) rfl)) rfl rfl hnm rfl rfl rfl (Nat.le_of_ble_eq_true rfl) dX3_init_19 (fs1 := [.ref (y + 1), .ref (y + 2), .null, .null, .null, .int (sI 0), .int (sI 0)]) rfl (fun M9 H locs hM9 hV => ?_)
  have hc10 : M9 y = some (sObj 2 [.ref (y + 1), .ref (y + 2), .null, .null, .null, .int (sI 0), .int (sI 0)]) := (congrFun hM9 y).trans (va_up_self M6 y _)
  refine lv_aload_n hx_ hb_ dX3_init_22 rfl (lv_at hl 0 rfl) ?_
  refine si_sipush S dX3_init_23 (by decide) ?_
  refine sc_newa S hK hV (S.2.2.2.2 _ (List.mem_of_getElem? (i := 4) rfl)) (N0 := 1024) ⟨rfl, Nat.le_of_ble_eq_true rfl⟩ ⟨Nat.le_of_ble_eq_true rfl, Nat.le_of_ble_eq_true rfl⟩ dX3_init_26 (fun M11 H locs hM11 hV => ?_)
  have hc12 : M11 (y + 3) = some (sArr G 1024 (fun _ => 0)) := (congrFun hM11 (y + 3)).trans (va_up_self M9 (y + 3) _)
  have hc13 : M11 y = some (sObj 2 [.ref (y + 1), .ref (y + 2), .null, .null, .null, .int (sI 0), .int (sI 0)]) := ((congrFun hM11 y).trans (va_up_ne M9 _ (by omega))).trans hc10
  refine sc_putF (ci := 2) (C := RX3) (T := TX3) (n := 7) S hK hV inX3_ tyX3_ok nmX3 hc13 rfl 2 (by decide) (S.2.2.2.2 _ (List.mem_of_getElem? (i := 7) rfl)) rfl rfl hnm rfl rfl rfl (Nat.le_of_ble_eq_true rfl) dX3_init_28 (fs1 := [.ref (y + 1), .ref (y + 2), .ref (y + 3), .null, .null, .int (sI 0), .int (sI 0)]) rfl (fun M14 H locs hM14 hV => ?_)
  have hc15 : M14 y = some (sObj 2 [.ref (y + 1), .ref (y + 2), .ref (y + 3), .null, .null, .int (sI 0), .int (sI 0)]) := (congrFun hM14 y).trans (va_up_self M11 y _)
  refine lv_aload_n hx_ hb_ dX3_init_31 rfl (lv_at hl 0 rfl) ?_
  refine si_sipush S dX3_init_32 (by decide) ?_
  refine sc_newa S hK hV (S.2.2.2.2 _ (List.mem_of_getElem? (i := 4) rfl)) (N0 := 1024) ⟨rfl, Nat.le_of_ble_eq_true rfl⟩ ⟨Nat.le_of_ble_eq_true rfl, Nat.le_of_ble_eq_true rfl⟩ dX3_init_35 (fun M16 H locs hM16 hV => ?_)
  have hc17 : M16 (y + 4) = some (sArr G 1024 (fun _ => 0)) := (congrFun hM16 (y + 4)).trans (va_up_self M14 (y + 4) _)
  have hc18 : M16 y = some (sObj 2 [.ref (y + 1), .ref (y + 2), .ref (y + 3), .null, .null, .int (sI 0), .int (sI 0)]) := ((congrFun hM16 y).trans (va_up_ne M14 _ (by omega))).trans hc15
  refine sc_putF (ci := 2) (C := RX3) (T := TX3) (n := 7) S hK hV inX3_ tyX3_ok nmX3 hc18 rfl 3 (by decide) (S.2.2.2.2 _ (List.mem_of_getElem? (i := 8) rfl)) rfl rfl hnm rfl rfl rfl (Nat.le_of_ble_eq_true rfl) dX3_init_37 (fs1 := [.ref (y + 1), .ref (y + 2), .ref (y + 3), .ref (y + 4), .null, .int (sI 0), .int (sI 0)]) rfl (fun M19 H locs hM19 hV => ?_)
  have hc20 : M19 y = some (sObj 2 [.ref (y + 1), .ref (y + 2), .ref (y + 3), .ref (y + 4), .null, .int (sI 0), .int (sI 0)]) := (congrFun hM19 y).trans (va_up_self M16 y _)
  refine lv_aload_n hx_ hb_ dX3_init_40 rfl (lv_at hl 0 rfl) ?_
  refine si_bipush S dX3_init_41 (by decide) ?_
  refine sc_newa S hK hV (S.2.2.2.2 _ (List.mem_of_getElem? (i := 4) rfl)) (N0 := 10) ⟨rfl, Nat.le_of_ble_eq_true rfl⟩ ⟨Nat.le_of_ble_eq_true rfl, Nat.le_of_ble_eq_true rfl⟩ dX3_init_43 (fun M21 H locs hM21 hV => ?_)
  have hc22 : M21 (y + 5) = some (sArr G 10 (fun _ => 0)) := (congrFun hM21 (y + 5)).trans (va_up_self M19 (y + 5) _)
  have hc23 : M21 y = some (sObj 2 [.ref (y + 1), .ref (y + 2), .ref (y + 3), .ref (y + 4), .null, .int (sI 0), .int (sI 0)]) := ((congrFun hM21 y).trans (va_up_ne M19 _ (by omega))).trans hc20
  refine sc_putF (ci := 2) (C := RX3) (T := TX3) (n := 7) S hK hV inX3_ tyX3_ok nmX3 hc23 rfl 4 (by decide) (S.2.2.2.2 _ (List.mem_of_getElem? (i := 9) rfl)) rfl rfl hnm rfl rfl rfl (Nat.le_of_ble_eq_true rfl) dX3_init_45 (fs1 := [.ref (y + 1), .ref (y + 2), .ref (y + 3), .ref (y + 4), .ref (y + 5), .int (sI 0), .int (sI 0)]) rfl (fun M24 H locs hM24 hV => ?_)
  have hc25 : M24 y = some (sObj 2 [.ref (y + 1), .ref (y + 2), .ref (y + 3), .ref (y + 4), .ref (y + 5), .int (sI 0), .int (sI 0)]) := (congrFun hM24 y).trans (va_up_self M21 y _)
  refine lv_aload_n hx_ hb_ dX3_init_48 rfl (lv_at hl 0 rfl) ?_
  refine si_const S dX3_init_49 ?_
  refine sc_put (ci := 2) (C := RX3) (T := TX3) (n := 7) S hK hV inX3_ tyX3_ok nmX3 hc25 rfl 5 (by decide) (S.2.2.2.2 _ (List.mem_of_getElem? (i := 10) rfl)) rfl rfl rfl rfl (Nat.le_of_ble_eq_true rfl) dX3_init_50 (fs1 := [.ref (y + 1), .ref (y + 2), .ref (y + 3), .ref (y + 4), .ref (y + 5), .int (sI 0), .int (sI 0)]) rfl (fun M26 H locs hM26 hV => ?_)
  have hc27 : M26 y = some (sObj 2 [.ref (y + 1), .ref (y + 2), .ref (y + 3), .ref (y + 4), .ref (y + 5), .int (sI 0), .int (sI 0)]) := (congrFun hM26 y).trans (va_up_self M24 y _)
  refine lv_aload_n hx_ hb_ dX3_init_53 rfl (lv_at hl 0 rfl) ?_
  refine si_ldc S (268435456) (S.2.2.2.2 _ (List.mem_of_getElem? (i := 11) rfl)) (by decide) dX3_init_54 ?_
  refine sc_put (ci := 2) (C := RX3) (T := TX3) (n := 7) S hK hV inX3_ tyX3_ok nmX3 hc27 rfl 6 (by decide) (S.2.2.2.2 _ (List.mem_of_getElem? (i := 12) rfl)) rfl rfl rfl rfl (Nat.le_of_ble_eq_true rfl) dX3_init_56 (fs1 := [.ref (y + 1), .ref (y + 2), .ref (y + 3), .ref (y + 4), .ref (y + 5), .int (sI 0), .int (sI 268435456)]) rfl (fun M28 H locs hM28 hV => ?_)
  have hc29 : M28 y = some (sObj 2 [.ref (y + 1), .ref (y + 2), .ref (y + 3), .ref (y + 4), .ref (y + 5), .int (sI 0), .int (sI 268435456)]) := (congrFun hM28 y).trans (va_up_self M26 y _)
  have hc30 : M28 (y + 1) = some (sArr G 1024 (fun _ => 0)) := ((((((((((((congrFun hM28 (y + 1)).trans (va_up_ne M26 _ (by omega))).trans ((congrFun hM26 (y + 1)).trans (va_up_ne M24 _ (by omega)))).trans ((congrFun hM24 (y + 1)).trans (va_up_ne M21 _ (by omega)))).trans ((congrFun hM21 (y + 1)).trans (va_up_ne M19 _ (by omega)))).trans ((congrFun hM19 (y + 1)).trans (va_up_ne M16 _ (by omega)))).trans ((congrFun hM16 (y + 1)).trans (va_up_ne M14 _ (by omega)))).trans ((congrFun hM14 (y + 1)).trans (va_up_ne M11 _ (by omega)))).trans ((congrFun hM11 (y + 1)).trans (va_up_ne M9 _ (by omega)))).trans ((congrFun hM9 (y + 1)).trans (va_up_ne M6 _ (by omega)))).trans ((congrFun hM6 (y + 1)).trans (va_up_ne M4 _ (by omega)))).trans ((congrFun hM4 (y + 1)).trans (va_up_ne M1 _ (by omega)))).trans hc2
  have hc31 : M28 (y + 2) = some (sArr G 1024 (fun _ => 0)) := ((((((((((congrFun hM28 (y + 2)).trans (va_up_ne M26 _ (by omega))).trans ((congrFun hM26 (y + 2)).trans (va_up_ne M24 _ (by omega)))).trans ((congrFun hM24 (y + 2)).trans (va_up_ne M21 _ (by omega)))).trans ((congrFun hM21 (y + 2)).trans (va_up_ne M19 _ (by omega)))).trans ((congrFun hM19 (y + 2)).trans (va_up_ne M16 _ (by omega)))).trans ((congrFun hM16 (y + 2)).trans (va_up_ne M14 _ (by omega)))).trans ((congrFun hM14 (y + 2)).trans (va_up_ne M11 _ (by omega)))).trans ((congrFun hM11 (y + 2)).trans (va_up_ne M9 _ (by omega)))).trans ((congrFun hM9 (y + 2)).trans (va_up_ne M6 _ (by omega)))).trans hc7
  have hc32 : M28 (y + 3) = some (sArr G 1024 (fun _ => 0)) := ((((((((congrFun hM28 (y + 3)).trans (va_up_ne M26 _ (by omega))).trans ((congrFun hM26 (y + 3)).trans (va_up_ne M24 _ (by omega)))).trans ((congrFun hM24 (y + 3)).trans (va_up_ne M21 _ (by omega)))).trans ((congrFun hM21 (y + 3)).trans (va_up_ne M19 _ (by omega)))).trans ((congrFun hM19 (y + 3)).trans (va_up_ne M16 _ (by omega)))).trans ((congrFun hM16 (y + 3)).trans (va_up_ne M14 _ (by omega)))).trans ((congrFun hM14 (y + 3)).trans (va_up_ne M11 _ (by omega)))).trans hc12
  have hc33 : M28 (y + 4) = some (sArr G 1024 (fun _ => 0)) := ((((((congrFun hM28 (y + 4)).trans (va_up_ne M26 _ (by omega))).trans ((congrFun hM26 (y + 4)).trans (va_up_ne M24 _ (by omega)))).trans ((congrFun hM24 (y + 4)).trans (va_up_ne M21 _ (by omega)))).trans ((congrFun hM21 (y + 4)).trans (va_up_ne M19 _ (by omega)))).trans ((congrFun hM19 (y + 4)).trans (va_up_ne M16 _ (by omega)))).trans hc17
  have hc34 : M28 (y + 5) = some (sArr G 10 (fun _ => 0)) := ((((congrFun hM28 (y + 5)).trans (va_up_ne M26 _ (by omega))).trans ((congrFun hM26 (y + 5)).trans (va_up_ne M24 _ (by omega)))).trans ((congrFun hM24 (y + 5)).trans (va_up_ne M21 _ (by omega)))).trans hc22
  exact sr_v E hQ dX3_init_59 ⟨Nat.le_of_ble_eq_true rfl, Nat.le_of_ble_eq_true rfl⟩ hV (⟨by omega, hc29, hc30, hc31, hc32, hc33, hc34, fun x q0 q1 q2 q3 q4 q5 => ((((((((((((congrFun hM28 x).trans (va_up_ne M26 _ (by omega))).trans ((congrFun hM26 x).trans (va_up_ne M24 _ (by omega)))).trans ((congrFun hM24 x).trans (va_up_ne M21 _ (by omega)))).trans ((congrFun hM21 x).trans (va_up_ne M19 _ (by omega)))).trans ((congrFun hM19 x).trans (va_up_ne M16 _ (by omega)))).trans ((congrFun hM16 x).trans (va_up_ne M14 _ (by omega)))).trans ((congrFun hM14 x).trans (va_up_ne M11 _ (by omega)))).trans ((congrFun hM11 x).trans (va_up_ne M9 _ (by omega)))).trans ((congrFun hM9 x).trans (va_up_ne M6 _ (by omega)))).trans ((congrFun hM6 x).trans (va_up_ne M4 _ (by omega)))).trans ((congrFun hM4 x).trans (va_up_ne M1 _ (by omega)))).trans ((congrFun hM1 x).trans (va_up_ne M _ (by omega)))⟩)

abbrev rmX3_digitOf : Room := { frames := 1, cells := 0, slots := 0, locals := 40 }
set_option maxHeartbeats 4000000 in
set_option maxRecDepth 100000 in
theorem kX3_digitOf (l_ : Launch) (G : sG) (b_ : Nat) (M : sM) (N : Nat) (s : Int) (hs : 0 ≤ s ∧ s ≤ 9) : cP l_ yX3_digitOf wsX3_digitOf rmX3_digitOf G b_ M N [.int (sI s)] (2 * (9 - s)) := by
  refine sE.ofI (cc := cX3_digitOf) (nL := 1) (ret := (some .int)) (by decide) rfl (Nat.le_of_ble_eq_true rfl) ?_
  intro p_ e_ s_ m_ args_ below_ meth_ c_ ls Q hQ E hl
  have E : sE p_ l_ e_ rmX3_digitOf s_ m_ args_ below_ meth_ c_ cX3_digitOf 1 wsX3_digitOf RX3 "digitOf" (some .int) G b_ M N := E
  have S := E.1
  have hx_ := S.1
  have hb_ := S.2.1
  have hK := E.2.2.2.2.1
  have hV := E.2.2.2.2.2.2
  have hl : lv_has ls 1 [(0, .int (sI s))] := hl
  refine si_const S dX3_digitOf_0 ?_
  refine si_bipush S dX3_digitOf_1 (by decide) ?_
  refine lv_iload_n hx_ hb_ dX3_digitOf_3 rfl (lv_at hl 0 rfl) ?_
  refine si_sub S dX3_digitOf_4 ?_
  refine si_mul S dX3_digitOf_5 ?_
  exact sr_i E hQ dX3_digitOf_6 ⟨Nat.le_of_ble_eq_true rfl, Nat.le_of_ble_eq_true rfl⟩ hV (⟨by first | rfl | omega, rfl, rfl⟩)

abbrev rmX3_drawerFor : Room := { frames := 2, cells := 0, slots := 0, locals := 60 }
set_option maxHeartbeats 4000000 in
set_option maxRecDepth 100000 in
theorem kX3_drawerFor (l_ : Launch) (G : sG) (b_ : Nat) (M : sM) (N : Nat) (y : Nat) (c co s : Int) (hy0 : M y = some (sObj 2 [.ref (y + 1), .ref (y + 2), .ref (y + 3), .ref (y + 4), .ref (y + 5), .int (sI c), .int (sI co)])) (hs : 0 ≤ s ∧ s ≤ 9) (hco : 0 ≤ co ∧ co ≤ 268435456) : cP l_ yX3_drawerFor wsX3_drawerFor rmX3_drawerFor G b_ M N [.ref y, .int (sI s)] (co / w4 s % 4) := by
  refine sE.ofI (cc := cX3_drawerFor) (nL := 2) (ret := (some .int)) (by decide) rfl (Nat.le_of_ble_eq_true rfl) ?_
  intro p_ e_ s_ m_ args_ below_ meth_ c_ ls Q hQ E hl
  have E : sE p_ l_ e_ rmX3_drawerFor s_ m_ args_ below_ meth_ c_ cX3_drawerFor 2 wsX3_drawerFor RX3 "drawerFor" (some .int) G b_ M N := E
  have S := E.1
  have hx_ := S.1
  have hb_ := S.2.1
  have hK := E.2.2.2.2.1
  have hV := E.2.2.2.2.2.2
  have hl : lv_has ls 2 [(0, .ref y), (1, .int (sI s))] := hl
  have inX3_ : ∀ w ∈ wsX30, w ∈ wsX3_drawerFor := fun _ h => List.mem_cons_of_mem _ (List.mem_append_right _ h)
  refine lv_iload_n hx_ hb_ dX3_drawerFor_0 rfl (lv_at hl 1 rfl) ?_
  refine sz_lt (tgt := 10) S dX3_drawerFor_1 (by decide) (by omega) (fun c1 => absurd c1 (by omega)) (fun _ => ?_)
  refine lv_iload_n hx_ hb_ dX3_drawerFor_4 rfl (lv_at hl 1 rfl) ?_
  refine si_bipush S dX3_drawerFor_5 (by decide) ?_
  refine sb_lt (tgt := 14) S dX3_drawerFor_7 (by decide) (by omega) (fun _ => ?_) (fun c2 => absurd c2 (by omega))
  refine lv_aload_n hx_ hb_ dX3_drawerFor_14 rfl (lv_at hl 0 rfl) ?_
  refine sc_get (ci := 2) (C := RX3) (T := TX3) (n := 7) S hK hV inX3_ hy0 rfl 6 (by decide) (S.2.2.2.2 _ (List.mem_of_getElem? (i := 1) rfl)) rfl rfl dX3_drawerFor_15 ?_
  refine lv_iload_n hx_ hb_ dX3_drawerFor_18 rfl (lv_at hl 1 rfl) ?_
  refine sk_SP E hV (As := [.int (sI s)]) (rest := [.int (sI co)]) (kX3_digitOf l_ G b_ M N s (by omega)) (va_cwS 1 S.2.2.2.2 gX3_drawerFor_X3_digitOf rfl rfl rfl (by decide +kernel) ⟨Nat.le_of_ble_eq_true rfl, Nat.le_of_ble_eq_true rfl⟩) rfl rfl hl.1 (Nat.le_of_ble_eq_true rfl) dX3_drawerFor_19 (c1 := 0) (s1 := 0) ⟨⟨rfl, rfl⟩, by decide, by decide⟩ (fun H locs hV => ?_)
  refine si_shr S dX3_drawerFor_22 ?_
  rw [ishr_w4 (by omega) hs]
  refine si_const S dX3_drawerFor_23 ?_
  refine si_and S dX3_drawerFor_24 ?_
  have hw4 := w4_p s
  have hdv : 0 ≤ co / w4 s ∧ co / w4 s ≤ co := ⟨Int.ediv_nonneg (by omega) (by omega), Int.ediv_le_self _ (by omega)⟩
  rw [iand_3 (by omega)]
  exact sr_i E hQ dX3_drawerFor_25 ⟨Nat.le_of_ble_eq_true rfl, Nat.le_of_ble_eq_true rfl⟩ hV (⟨rfl, rfl, rfl⟩)

abbrev rmX3_partedFrom : Room := { frames := 3, cells := 0, slots := 0, locals := 85 }
set_option maxHeartbeats 4000000 in
set_option maxRecDepth 100000 in
theorem kX3_partedFrom (l_ : Launch) (G : sG) (b_ : Nat) (M : sM) (N : Nat) (a : Nat) (f : sF) (s : Int) (hst : stC G M a f) (hok : sOk f) (hs : 0 ≤ s ∧ s < f 568) : cI l_ yX3_partedFrom wsX3_partedFrom rmX3_partedFrom G b_ M N [.ref a, .int (sI s)] (fun z_ M1 N1 => N1 = N ∧ (∀ x : Nat, M1 x = M x) ∧ (paP f s z_)) := by
  refine sE.ofI (cc := cX3_partedFrom) (nL := 4) (ret := (some .int)) (by decide) rfl (Nat.le_of_ble_eq_true rfl) ?_
  intro p_ e_ s_ m_ args_ below_ meth_ c_ ls Q hQ E hl
  have E : sE p_ l_ e_ rmX3_partedFrom s_ m_ args_ below_ meth_ c_ cX3_partedFrom 4 wsX3_partedFrom RX3 "partedFrom" (some .int) G b_ M N := E
  have S := E.1
  have hx_ := S.1
  have hb_ := S.2.1
  have hK := E.2.2.2.2.1
  have hV := E.2.2.2.2.2.2
  have hl : lv_has ls 4 [(0, .ref a), (1, .int (sI s))] := hl
  have inX6_ : ∀ w ∈ wsX60, w ∈ wsX3_partedFrom := fun _ h => List.mem_cons_of_mem _ (List.mem_append_left _ (List.mem_append_right _ h))
  have inX8_ : ∀ w ∈ wsX80, w ∈ wsX3_partedFrom := fun _ h => List.mem_cons_of_mem _ (List.mem_append_right _ h)
  have kn0 := sOk_N hok
  have hSs := sOk_S hok s hs.1 hs.2
  refine si_const S dX3_partedFrom_0 ?_
  refine lv_istore_n (lv' := [(2, .int (sI 0)), (0, .ref a), (1, .int (sI s))]) hx_ hb_ dX3_partedFrom_1 rfl hl (by decide) rfl (fun ls hl => ?_)
  refine si_const S dX3_partedFrom_2 ?_
  refine lv_istore_n (lv' := [(3, .int (sI 0)), (2, .int (sI 0)), (0, .ref a), (1, .int (sI s))]) hx_ hb_ dX3_partedFrom_3 rfl hl (by decide) rfl (fun ls hl => ?_)
  have L4 : ∀ (fuel : Nat) (v : Int) (o : Int)  (H : Heap) (locs : List Loc) (ls : Array Slot), ((s - o).toNat) < fuel → (0 ≤ o ∧ o ≤ s) → (paQ f s o v) → sV G b_ M N s_ H locs → lv_has ls 4 [(0, .ref a), (1, .int (sI s)), (2, .int (sI v)), (3, .int (sI o))] → W p_ l_ e_ rmX3_partedFrom s_ m_ args_ below_ meth_ c_ H locs 0 0 Q (F0 m_ 4 ls []) := by
    intro fuel
    induction fuel with
    | zero => intro v o H locs ls hmu; exact absurd hmu (Nat.not_lt_zero _)
    | succ fuel ih4 =>
      intro v o H locs ls hmu4 hv4_0 hv  hV hl
      have hvr := hv.1
      refine lv_iload_n hx_ hb_ dX3_partedFrom_4 rfl (lv_at hl 3 rfl) ?_
      refine lv_iload_n hx_ hb_ dX3_partedFrom_5 rfl (lv_at hl 1 rfl) ?_
      refine sb_ge (tgt := 46) S dX3_partedFrom_6 (by decide) (by omega) (fun c1 => ?_) (fun c1 => ?_)
      · refine lv_iload_n hx_ hb_ dX3_partedFrom_46 rfl (lv_at hl 2 rfl) ?_
        exact sr_i E hQ dX3_partedFrom_47 ⟨Nat.le_of_ble_eq_true rfl, Nat.le_of_ble_eq_true rfl⟩ hV (⟨rfl, fun x  => rfl, by rw [show o = s by omega] at hv; exact hv⟩)
      · refine lv_aload_n hx_ hb_ dX3_partedFrom_9 rfl (lv_at hl 0 rfl) ?_
        refine lv_aload_n hx_ hb_ dX3_partedFrom_10 rfl (lv_at hl 0 rfl) ?_
        refine sc_getN (ci := 4) (C := RX6) (T := TX6) (n := 8) S hK hV inX6_ (hst).1 rfl 0 (by decide) (E.2.2.2.2.2.1.1.2.1 _ (List.mem_of_getElem? (i := 1) rfl)) rfl rfl dX3_partedFrom_11 ?_
        refine lv_iload_n hx_ hb_ dX3_partedFrom_14 rfl (lv_at hl 1 rfl) ?_
        refine si_const S dX3_partedFrom_15 ?_
        refine sk_VP E hV (As := [.int (sI s), .int (sI 0)]) (rest := [.ref a]) (kTg l_ G b_ M N (a + 1) 7 (f 568) 70 (tvS f) s 0 (f (10 + s)) ((hst).2.1) (by omega) (by omega) (tvS_0 f s)) (cwV 2 S.2.2.2.2 gX3_partedFrom_X8_get rfl rfl rfl (by decide +kernel) ⟨Nat.le_of_ble_eq_true rfl, Nat.le_of_ble_eq_true rfl⟩) (ci := 6) ((hst).2.1).1 rfl rfl rfl hl.1 (Nat.le_of_ble_eq_true rfl) dX3_partedFrom_16 (c1 := 0) (s1 := 0) ⟨⟨rfl, rfl⟩, by decide, by decide⟩ (fun H locs hV => ?_)
        have kn2 : 0 ≤ f (10 + s) ∧ f (10 + s) ≤ 5 := (sOk_S hok s (by omega) (by omega)).2.1
        refine lv_aload_n hx_ hb_ dX3_partedFrom_19 rfl (lv_at hl 0 rfl) ?_
        refine sc_getN (ci := 4) (C := RX6) (T := TX6) (n := 8) S hK hV inX6_ (hst).1 rfl 0 (by decide) (E.2.2.2.2.2.1.1.2.1 _ (List.mem_of_getElem? (i := 1) rfl)) rfl rfl dX3_partedFrom_20 ?_
        refine lv_iload_n hx_ hb_ dX3_partedFrom_23 rfl (lv_at hl 3 rfl) ?_
        refine si_const S dX3_partedFrom_24 ?_
        refine sk_VP E hV (As := [.int (sI o), .int (sI 0)]) (rest := [.int (sI (f (10 + s))), .ref a]) (kTg l_ G b_ M N (a + 1) 7 (f 568) 70 (tvS f) o 0 (f (10 + o)) ((hst).2.1) (by omega) (by omega) (tvS_0 f o)) (cwV 2 S.2.2.2.2 gX3_partedFrom_X8_get rfl rfl rfl (by decide +kernel) ⟨Nat.le_of_ble_eq_true rfl, Nat.le_of_ble_eq_true rfl⟩) (ci := 6) ((hst).2.1).1 rfl rfl rfl hl.1 (Nat.le_of_ble_eq_true rfl) dX3_partedFrom_25 (c1 := 0) (s1 := 0) ⟨⟨rfl, rfl⟩, by decide, by decide⟩ (fun H locs hV => ?_)
        have kn3 : 0 ≤ f (10 + o) ∧ f (10 + o) ≤ 5 := (sOk_S hok o (by omega) (by omega)).2.1
        have hSo := sOk_S hok o (by omega) (by omega)
        refine sk_VP E hV (As := [.int (sI (f (10 + s))), .int (sI (f (10 + o)))]) (rest := []) (kX6_areParted l_ G b_ M N a f (f (10 + s)) (f (10 + o)) hst (by omega) (by omega)) (cwV 2 S.2.2.2.2 gX3_partedFrom_X6_areParted rfl rfl rfl (by decide +kernel) ⟨Nat.le_of_ble_eq_true rfl, Nat.le_of_ble_eq_true rfl⟩) (ci := 4) (hst).1 rfl rfl rfl hl.1 (Nat.le_of_ble_eq_true rfl) dX3_partedFrom_28 (c1 := 0) (s1 := 0) ⟨⟨rfl, rfl⟩, by decide, by decide⟩ (fun H locs hV => ?_)
        refine sq_eq (tgt := 40) S dX3_partedFrom_31 (by decide) (fun h31 => ?_) (fun h31 => ?_)
        · refine si_inc (lv' := [(3, .int (sI (o + 1))), (0, .ref a), (1, .int (sI s)), (2, .int (sI v))]) S dX3_partedFrom_40 hl (k := 3) rfl (by decide) rfl (fun ls hl => ?_)
          refine lv_goto (tgt := 4) hx_ hb_ dX3_partedFrom_43 (by decide) ?_
          exact ih4 v (o + 1) _ _ _ (by omega) (by omega) (paQ_f h31 hv) hV (lv_sub hl [1, 2, 3, 0] rfl)
        · refine lv_iload_n hx_ hb_ dX3_partedFrom_34 rfl (lv_at hl 2 rfl) ?_
          refine si_const S dX3_partedFrom_35 ?_
          refine lv_iload_n hx_ hb_ dX3_partedFrom_36 rfl (lv_at hl 3 rfl) ?_
          refine si_shl S dX3_partedFrom_37 ?_
          refine si_or S dX3_partedFrom_38 ?_
          refine lv_istore_n (lv' := [(2, .int (sI (ior v (ishl 1 o)))), (0, .ref a), (1, .int (sI s)), (3, .int (sI o))]) hx_ hb_ dX3_partedFrom_39 rfl hl (by decide) rfl (fun ls hl => ?_)
          refine si_inc (lv' := [(3, .int (sI (o + 1))), (2, .int (sI (ior v (ishl 1 o)))), (0, .ref a), (1, .int (sI s))]) S dX3_partedFrom_40 hl (k := 3) rfl (by decide) rfl (fun ls hl => ?_)
          refine lv_goto (tgt := 4) hx_ hb_ dX3_partedFrom_43 (by decide) ?_
          exact ih4 (ior v (ishl 1 o)) (o + 1) _ _ _ (by omega) (by omega) (paQ_t (by omega) h31 hv) hV (lv_sub hl [2, 3, 1, 0] rfl)
  exact L4 _ 0 0 _ _ _ (Nat.lt_succ_self _) (by omega) (paQ_0 f s) hV (lv_sub hl [2, 3, 1, 0] rfl)

abbrev rmX3_sumSets : Room := { frames := 4, cells := 0, slots := 0, locals := 108 }
set_option maxHeartbeats 4000000 in
set_option maxRecDepth 100000 in
theorem kX3_sumSets (l_ : Launch) (G : sG) (b_ : Nat) (M : sM) (N : Nat) (y a : Nat) (co : Int) (Sz Wt f : sF) (hy0 : M y = some (sObj 2 [.ref (y + 1), .ref (y + 2), .ref (y + 3), .ref (y + 4), .ref (y + 5), .int (sI (f 568)), .int (sI co)])) (hy1 : M (y + 1) = some (sArr G 1024 Sz)) (hy2 : M (y + 2) = some (sArr G 1024 Wt)) (hst : stC G M a f) (hok : sOk f) (hne : y + 6 ≤ a ∨ a + 15 ≤ y) : cV l_ yX3_sumSets wsX3_sumSets rmX3_sumSets G b_ M N [.ref y, .ref a] (fun M1 N1 => ∃ Z9 : Int → Int, ∃ W9 : Int → Int, N1 = N ∧ M1 (y + 1) = some (sArr G 1024 Z9) ∧ M1 (y + 2) = some (sArr G 1024 W9) ∧ (∀ x : Nat, ¬ (x = y + 1) → ¬ (x = y + 2) → M1 x = M x) ∧ (szA f (p2 (f 568)) Z9) ∧ (wtA f (p2 (f 568)) W9)) := by
  refine sE.ofV (cc := cX3_sumSets) (nL := 9) (ret := none) (by decide) rfl (Nat.le_of_ble_eq_true rfl) ?_
  intro p_ e_ s_ m_ args_ below_ meth_ c_ ls Q hQ E hl
  have E : sE p_ l_ e_ rmX3_sumSets s_ m_ args_ below_ meth_ c_ cX3_sumSets 9 wsX3_sumSets RX3 "sumSets" none G b_ M N := E
  have S := E.1
  have hx_ := S.1
  have hb_ := S.2.1
  have hK := E.2.2.2.2.1
  have hV := E.2.2.2.2.2.2
  have hl : lv_has ls 9 [(0, .ref y), (1, .ref a)] := hl
  have inX3_ : ∀ w ∈ wsX30, w ∈ wsX3_sumSets := fun _ h => List.mem_cons_of_mem _ (List.mem_append_left _ (List.mem_append_left _ (List.mem_append_right _ h)))
  have inX6_ : ∀ w ∈ wsX60, w ∈ wsX3_sumSets := fun _ h => List.mem_cons_of_mem _ (List.mem_append_left _ (List.mem_append_right _ h))
  have inX8_ : ∀ w ∈ wsX80, w ∈ wsX3_sumSets := fun _ h => List.mem_cons_of_mem _ (List.mem_append_right _ h)
  have kn0 := sOk_N hok
  have hp1 := p2_p (f 568)
  have hp2 := p2_10 (n := f 568) (by omega)
  refine lv_aload_n hx_ hb_ dX3_sumSets_0 rfl (lv_at hl 0 rfl) ?_
  refine sc_get (ci := 2) (C := RX3) (T := TX3) (n := 7) S hK hV inX3_ hy0 rfl 0 (by decide) (S.2.2.2.2 _ (List.mem_of_getElem? (i := 1) rfl)) rfl rfl dX3_sumSets_1 ?_
  refine si_const S dX3_sumSets_4 ?_
  refine si_const S dX3_sumSets_5 ?_
  refine sc_iast S hK hV hy1 (by omega) dX3_sumSets_6 (fun M1 H locs hM1 hV => ?_)
  have hc2 : M1 (y + 1) = some (sArr G 1024 (iup Sz 0 0)) := (congrFun hM1 (y + 1)).trans (va_up_self M (y + 1) _)
  refine lv_aload_n hx_ hb_ dX3_sumSets_7 rfl (lv_at hl 0 rfl) ?_
  have hc3 : M1 y = some (sObj 2 [.ref (y + 1), .ref (y + 2), .ref (y + 3), .ref (y + 4), .ref (y + 5), .int (sI (f 568)), .int (sI co)]) := ((congrFun hM1 y).trans (va_up_ne M _ (by omega))).trans hy0
  refine sc_get (ci := 2) (C := RX3) (T := TX3) (n := 7) S hK hV inX3_ hc3 rfl 1 (by decide) (S.2.2.2.2 _ (List.mem_of_getElem? (i := 2) rfl)) rfl rfl dX3_sumSets_8 ?_
  refine si_const S dX3_sumSets_11 ?_
  refine si_const S dX3_sumSets_12 ?_
  have hc4 : M1 (y + 2) = some (sArr G 1024 Wt) := ((congrFun hM1 (y + 2)).trans (va_up_ne M _ (by omega))).trans hy2
  refine sc_iast S hK hV hc4 (by omega) dX3_sumSets_13 (fun M5 H locs hM5 hV => ?_)
  have hc6 : M5 (y + 2) = some (sArr G 1024 (iup Wt 0 0)) := (congrFun hM5 (y + 2)).trans (va_up_self M1 (y + 2) _)
  refine si_const S dX3_sumSets_14 ?_
  refine lv_istore_n (lv' := [(2, .int (sI 0)), (0, .ref y), (1, .ref a)]) hx_ hb_ dX3_sumSets_15 rfl hl (by decide) rfl (fun ls hl => ?_)
  have L16 : ∀ (fuel : Nat) (s : Int) (Z2 : Int → Int) (W2 : Int → Int) (Ml16 : sM) (H : Heap) (locs : List Loc) (ls : Array Slot), ((f 568 - s).toNat) < fuel → (0 ≤ s ∧ s ≤ f 568) → (szA f (p2 s) Z2) → (wtA f (p2 s) W2) → (Ml16 (y + 1) = some (sArr G 1024 Z2)) → (Ml16 (y + 2) = some (sArr G 1024 W2)) → (∀ x : Nat, ¬ (x = y + 1) → ¬ (x = y + 2) → Ml16 x = M5 x) → sV G b_ Ml16 N s_ H locs → lv_has ls 9 [(0, .ref y), (1, .ref a), (2, .int (sI s))] → W p_ l_ e_ rmX3_sumSets s_ m_ args_ below_ meth_ c_ H locs 0 0 Q (F0 m_ 16 ls []) := by
    intro fuel
    induction fuel with
    | zero => intro s Z2 W2 Ml16 H locs ls hmu; exact absurd hmu (Nat.not_lt_zero _)
    | succ fuel ih16 =>
      intro s Z2 W2 Ml16 H locs ls hmu16 hv16_0 hZ2 hW2 hm16_0 hm16_1 hfr16 hV hl
      refine lv_iload_n hx_ hb_ dX3_sumSets_16 rfl (lv_at hl 2 rfl) ?_
      refine lv_aload_n hx_ hb_ dX3_sumSets_17 rfl (lv_at hl 0 rfl) ?_
      have hc7 : Ml16 y = some (sObj 2 [.ref (y + 1), .ref (y + 2), .ref (y + 3), .ref (y + 4), .ref (y + 5), .int (sI (f 568)), .int (sI co)]) := ((hfr16 y (by omega) (by omega)).trans ((congrFun hM5 y).trans (va_up_ne M1 _ (by omega)))).trans hc3
      refine sc_get (ci := 2) (C := RX3) (T := TX3) (n := 7) S hK hV inX3_ hc7 rfl 5 (by decide) (S.2.2.2.2 _ (List.mem_of_getElem? (i := 3) rfl)) rfl rfl dX3_sumSets_18 ?_
      refine sb_ge (tgt := 146) S dX3_sumSets_21 (by decide) (by omega) (fun c8 => ?_) (fun c8 => ?_)
      · exact sr_v E hQ dX3_sumSets_146 ⟨Nat.le_of_ble_eq_true rfl, Nat.le_of_ble_eq_true rfl⟩ hV (⟨Z2, W2, rfl, hm16_0, hm16_1, fun x q0 q1 => ((hfr16 x (by omega) (by omega)).trans ((congrFun hM5 x).trans (va_up_ne M1 _ (by omega)))).trans ((congrFun hM1 x).trans (va_up_ne M _ (by omega))), by rw [show f 568 = s by omega]; exact hZ2, by rw [show f 568 = s by omega]; exact hW2⟩)
      · refine si_const S dX3_sumSets_24 ?_
        refine lv_iload_n hx_ hb_ dX3_sumSets_25 rfl (lv_at hl 2 rfl) ?_
        refine si_shl S dX3_sumSets_26 ?_
        have hps := p2_p s
        have hpm := p2_m (a := s + 1) (b := f 568) (by omega)
        have hps1 := p2_s (n := s) (by omega)
        have hSs := sOk_S hok s (by omega) (by omega)
        rw [ishl_p2 (k := s) (by omega)]
        refine lv_istore_n (lv' := [(3, .int (sI (p2 s))), (0, .ref y), (1, .ref a), (2, .int (sI s))]) hx_ hb_ dX3_sumSets_27 rfl hl (by decide) rfl (fun ls hl => ?_)
        refine lv_aload_n hx_ hb_ dX3_sumSets_28 rfl (lv_at hl 2 rfl) ?_
        refine lv_iload_n hx_ hb_ dX3_sumSets_29 rfl (lv_at hl 3 rfl) ?_
        have hc9 : stC G Ml16 a f := hst.fr (fun x q8 q9 => ((hfr16 x (by omega) (by omega)).trans ((congrFun hM5 x).trans (va_up_ne M1 _ (by omega)))).trans ((congrFun hM1 x).trans (va_up_ne M _ (by omega))))
        refine sk_Si E hV (As := [.ref a, .int (sI s)]) (rest := []) (kX3_partedFrom l_ G b_ Ml16 N a f s hc9 (by omega) (by omega)) (va_cwS 2 S.2.2.2.2 gX3_sumSets_X3_partedFrom rfl rfl rfl (by decide +kernel) ⟨Nat.le_of_ble_eq_true rfl, Nat.le_of_ble_eq_true rfl⟩) rfl rfl hl.1 (Nat.le_of_ble_eq_true rfl) dX3_sumSets_30 (c1 := 0) (s1 := 0) ⟨⟨rfl, rfl⟩, by decide, by decide⟩ (fun z13 M10 N11 H locs hp12 hV => ?_)
        obtain ⟨hN14, hf15, hz16⟩ := hp12
        rw [hN14] at hV
        have hpr := hz16.1
        refine lv_istore (lv' := [(4, .int (sI z13)), (3, .int (sI (p2 s))), (0, .ref y), (1, .ref a), (2, .int (sI s))]) hx_ hb_ dX3_sumSets_33 hl (by decide) rfl (fun ls hl => ?_)
        refine lv_aload_n hx_ hb_ dX3_sumSets_35 rfl (lv_at hl 3 rfl) ?_
        have hc17 : stC G M10 a f := hc9.fr (fun x q8 q9 => hf15 x )
        refine sc_getN (ci := 4) (C := RX6) (T := TX6) (n := 8) S hK hV inX6_ (hc17).1 rfl 0 (by decide) (E.2.2.2.2.2.1.1.2.1 _ (List.mem_of_getElem? (i := 1) rfl)) rfl rfl dX3_sumSets_36 ?_
        refine lv_iload_n hx_ hb_ dX3_sumSets_39 rfl (lv_at hl 4 rfl) ?_
        refine si_const S dX3_sumSets_40 ?_
        refine sk_VP E hV (As := [.int (sI s), .int (sI 1)]) (rest := []) (kTg l_ G b_ M10 N (a + 1) 7 (f 568) 70 (tvS f) s 1 (f (20 + s)) ((hc17).2.1) (by omega) (by omega) (tvS_1 f s)) (cwV 2 S.2.2.2.2 gX3_sumSets_X8_get rfl rfl rfl (by decide +kernel) ⟨Nat.le_of_ble_eq_true rfl, Nat.le_of_ble_eq_true rfl⟩) (ci := 6) ((hc17).2.1).1 rfl rfl rfl hl.1 (Nat.le_of_ble_eq_true rfl) dX3_sumSets_41 (c1 := 0) (s1 := 0) ⟨⟨rfl, rfl⟩, by decide, by decide⟩ (fun H locs hV => ?_)
        have kn18 : 1 ≤ f (20 + s) ∧ f (20 + s) ≤ 9 := (sOk_S hok s (by omega) (by omega)).2.2.1
        refine lv_istore (lv' := [(5, .int (sI (f (20 + s)))), (4, .int (sI z13)), (3, .int (sI (p2 s))), (0, .ref y), (1, .ref a), (2, .int (sI s))]) hx_ hb_ dX3_sumSets_44 hl (by decide) rfl (fun ls hl => ?_)
        refine lv_aload_n hx_ hb_ dX3_sumSets_46 rfl (lv_at hl 4 rfl) ?_
        refine sc_getN (ci := 4) (C := RX6) (T := TX6) (n := 8) S hK hV inX6_ (hc17).1 rfl 0 (by decide) (E.2.2.2.2.2.1.1.2.1 _ (List.mem_of_getElem? (i := 1) rfl)) rfl rfl dX3_sumSets_47 ?_
        refine lv_iload_n hx_ hb_ dX3_sumSets_50 rfl (lv_at hl 5 rfl) ?_
        refine si_const S dX3_sumSets_51 ?_
        refine sk_VP E hV (As := [.int (sI s), .int (sI 2)]) (rest := []) (kTg l_ G b_ M10 N (a + 1) 7 (f 568) 70 (tvS f) s 2 (f (30 + s)) ((hc17).2.1) (by omega) (by omega) (tvS_2 f s)) (cwV 2 S.2.2.2.2 gX3_sumSets_X8_get rfl rfl rfl (by decide +kernel) ⟨Nat.le_of_ble_eq_true rfl, Nat.le_of_ble_eq_true rfl⟩) (ci := 6) ((hc17).2.1).1 rfl rfl rfl hl.1 (Nat.le_of_ble_eq_true rfl) dX3_sumSets_52 (c1 := 0) (s1 := 0) ⟨⟨rfl, rfl⟩, by decide, by decide⟩ (fun H locs hV => ?_)
        have kn19 : 1 ≤ f (30 + s) ∧ f (30 + s) ≤ 99 := (sOk_S hok s (by omega) (by omega)).2.2.2.1
        refine lv_istore (lv' := [(6, .int (sI (f (30 + s)))), (5, .int (sI (f (20 + s)))), (4, .int (sI z13)), (3, .int (sI (p2 s))), (0, .ref y), (1, .ref a), (2, .int (sI s))]) hx_ hb_ dX3_sumSets_55 hl (by decide) rfl (fun ls hl => ?_)
        refine si_const S dX3_sumSets_57 ?_
        refine lv_istore (lv' := [(7, .int (sI 0)), (6, .int (sI (f (30 + s)))), (5, .int (sI (f (20 + s)))), (4, .int (sI z13)), (3, .int (sI (p2 s))), (0, .ref y), (1, .ref a), (2, .int (sI s))]) hx_ hb_ dX3_sumSets_58 hl (by decide) rfl (fun ls hl => ?_)
        have L60 : ∀ (fuel : Nat) (u : Int) (Z3 : Int → Int) (W3 : Int → Int) (Ml60 : sM) (H : Heap) (locs : List Loc) (ls : Array Slot), ((p2 s - u).toNat) < fuel → (0 ≤ u ∧ u ≤ p2 s) → (szA f (p2 s + u) Z3) → (wtA f (p2 s + u) W3) → (Ml60 (y + 1) = some (sArr G 1024 Z3)) → (Ml60 (y + 2) = some (sArr G 1024 W3)) → (∀ x : Nat, ¬ (x = y + 1) → ¬ (x = y + 2) → Ml60 x = M10 x) → sV G b_ Ml60 N s_ H locs → lv_has ls 9 [(0, .ref y), (1, .ref a), (2, .int (sI s)), (3, .int (sI (p2 s))), (4, .int (sI z13)), (5, .int (sI (f (20 + s)))), (6, .int (sI (f (30 + s)))), (7, .int (sI u))] → W p_ l_ e_ rmX3_sumSets s_ m_ args_ below_ meth_ c_ H locs 0 0 Q (F0 m_ 60 ls []) := by
          intro fuel
          induction fuel with
          | zero => intro u Z3 W3 Ml60 H locs ls hmu; exact absurd hmu (Nat.not_lt_zero _)
          | succ fuel ih60 =>
            intro u Z3 W3 Ml60 H locs ls hmu60 hv60_0 hZ3 hW3 hm60_0 hm60_1 hfr60 hV hl
            refine lv_iload hx_ hb_ dX3_sumSets_60 (lv_at hl 7 rfl) ?_
            refine lv_iload_n hx_ hb_ dX3_sumSets_62 rfl (lv_at hl 3 rfl) ?_
            refine sb_ge (tgt := 140) S dX3_sumSets_63 (by decide) (by omega) (fun c20 => ?_) (fun c20 => ?_)
            · refine si_inc (lv' := [(2, .int (sI (s + 1))), (0, .ref y), (1, .ref a), (3, .int (sI (p2 s))), (4, .int (sI z13)), (5, .int (sI (f (20 + s)))), (6, .int (sI (f (30 + s)))), (7, .int (sI u))]) S dX3_sumSets_140 hl (k := 2) rfl (by decide) rfl (fun ls hl => ?_)
              refine lv_goto (tgt := 16) hx_ hb_ dX3_sumSets_143 (by decide) ?_
              exact ih16 (s + 1) Z3 W3 Ml60 _ _ _ (by omega) (by omega) (by rw [p2_s (by omega), show p2 s + p2 s = p2 s + u by omega]; exact hZ3) (by rw [p2_s (by omega), show p2 s + p2 s = p2 s + u by omega]; exact hW3) hm60_0 hm60_1 (fun x q0 q1 => ((hfr60 x (by omega) (by omega)).trans (hf15 x )).trans (hfr16 x (by omega) (by omega))) hV (lv_sub hl [1, 2, 0] rfl)
            · refine lv_iload hx_ hb_ dX3_sumSets_66 (lv_at hl 7 rfl) ?_
              refine lv_iload hx_ hb_ dX3_sumSets_68 (lv_at hl 4 rfl) ?_
              refine si_and S dX3_sumSets_70 ?_
              have hir := iand_r31 (a := u) (b := z13) (by omega) (by omega)
              have hzr := sz_r hok (hZ3 u (by omega) (by omega))
              refine sz_eq (tgt := 78) S dX3_sumSets_71 (by decide) (by omega) (fun h71 => ?_) (fun h71 => ?_)
              · refine si_const S dX3_sumSets_78 ?_
                refine lv_istore (lv' := [(8, .int (sI 0)), (0, .ref y), (1, .ref a), (2, .int (sI s)), (3, .int (sI (p2 s))), (4, .int (sI z13)), (5, .int (sI (f (20 + s)))), (6, .int (sI (f (30 + s)))), (7, .int (sI u))]) hx_ hb_ dX3_sumSets_79 hl (by decide) rfl (fun ls hl => ?_)
                refine lv_aload_n hx_ hb_ dX3_sumSets_81 rfl (lv_at hl 1 rfl) ?_
                have hc21 : Ml60 y = some (sObj 2 [.ref (y + 1), .ref (y + 2), .ref (y + 3), .ref (y + 4), .ref (y + 5), .int (sI (f 568)), .int (sI co)]) := ((hfr60 y (by omega) (by omega)).trans (hf15 y )).trans hc7
                refine sc_get (ci := 2) (C := RX3) (T := TX3) (n := 7) S hK hV inX3_ hc21 rfl 0 (by decide) (S.2.2.2.2 _ (List.mem_of_getElem? (i := 1) rfl)) rfl rfl dX3_sumSets_82 ?_
                refine lv_iload hx_ hb_ dX3_sumSets_85 (lv_at hl 8 rfl) ?_
                refine lv_iload_n hx_ hb_ dX3_sumSets_87 rfl (lv_at hl 4 rfl) ?_
                refine si_or S dX3_sumSets_88 ?_
                rw [or_top (by omega) (by omega)]
                refine lv_iload hx_ hb_ dX3_sumSets_89 (lv_at hl 0 rfl) ?_
                refine sz_eq (tgt := 99) S dX3_sumSets_91 (by decide) (by omega) (fun _ => ?_) (fun c22 => absurd c22 (by omega))
                refine si_ldc S (268435456) (S.2.2.2.2 _ (List.mem_of_getElem? (i := 4) rfl)) (by decide) dX3_sumSets_99 ?_
                refine lv_aload_n hx_ hb_ dX3_sumSets_101 rfl (lv_at hl 1 rfl) ?_
                refine sc_get (ci := 2) (C := RX3) (T := TX3) (n := 7) S hK hV inX3_ hc21 rfl 0 (by decide) (S.2.2.2.2 _ (List.mem_of_getElem? (i := 1) rfl)) rfl rfl dX3_sumSets_102 ?_
                refine lv_iload hx_ hb_ dX3_sumSets_105 (lv_at hl 8 rfl) ?_
                refine sc_iald S hK hV hm60_0 (by omega) dX3_sumSets_107 ?_
                refine lv_iload hx_ hb_ dX3_sumSets_108 (lv_at hl 6 rfl) ?_
                refine si_add S dX3_sumSets_110 ?_
                refine si_min S hl.1 (S.2.2.2.2 _ (List.mem_of_getElem? (i := 5) rfl)) (S.2.2.2.2 _ (List.mem_of_getElem? (i := 6) rfl)) (S.2.2.2.2 _ (List.mem_of_getElem? (i := 7) rfl)) (S.2.2.2.2 _ (List.mem_of_getElem? (i := 8) rfl)) ⟨by decide, Nat.le_of_ble_eq_true rfl, by decide, by decide⟩ (by omega) dX3_sumSets_111 ?_
                refine sc_iast S hK hV hm60_0 (by omega) dX3_sumSets_114 (fun M23 H locs hM23 hV => ?_)
                have hc24 : M23 (y + 1) = some (sArr G 1024 (iup Z3 (u + p2 s) (min 268435456 ((Z3 u) + (f (20 + s)))))) := (congrFun hM23 (y + 1)).trans (va_up_self Ml60 (y + 1) _)
                refine lv_aload_n hx_ hb_ dX3_sumSets_115 rfl (lv_at hl 1 rfl) ?_
                have hc25 : M23 y = some (sObj 2 [.ref (y + 1), .ref (y + 2), .ref (y + 3), .ref (y + 4), .ref (y + 5), .int (sI (f 568)), .int (sI co)]) := ((congrFun hM23 y).trans (va_up_ne Ml60 _ (by omega))).trans hc21
                refine sc_get (ci := 2) (C := RX3) (T := TX3) (n := 7) S hK hV inX3_ hc25 rfl 1 (by decide) (S.2.2.2.2 _ (List.mem_of_getElem? (i := 2) rfl)) rfl rfl dX3_sumSets_116 ?_
                refine lv_iload hx_ hb_ dX3_sumSets_119 (lv_at hl 8 rfl) ?_
                refine lv_iload_n hx_ hb_ dX3_sumSets_121 rfl (lv_at hl 4 rfl) ?_
                refine si_or S dX3_sumSets_122 ?_
                rw [or_top (by omega) (by omega)]
                refine lv_aload_n hx_ hb_ dX3_sumSets_123 rfl (lv_at hl 1 rfl) ?_
                refine sc_get (ci := 2) (C := RX3) (T := TX3) (n := 7) S hK hV inX3_ hc25 rfl 1 (by decide) (S.2.2.2.2 _ (List.mem_of_getElem? (i := 2) rfl)) rfl rfl dX3_sumSets_124 ?_
                refine lv_iload hx_ hb_ dX3_sumSets_127 (lv_at hl 8 rfl) ?_
                have hc26 : M23 (y + 2) = some (sArr G 1024 W3) := ((congrFun hM23 (y + 2)).trans (va_up_ne Ml60 _ (by omega))).trans hm60_1
                refine sc_iald S hK hV hc26 (by omega) dX3_sumSets_129 ?_
                refine lv_iload hx_ hb_ dX3_sumSets_130 (lv_at hl 7 rfl) ?_
                refine si_add S dX3_sumSets_132 ?_
                refine sc_iast S hK hV hc26 (by omega) dX3_sumSets_133 (fun M27 H locs hM27 hV => ?_)
                have hc28 : M27 (y + 2) = some (sArr G 1024 (iup W3 (u + p2 s) ((W3 u) + (f (30 + s))))) := (congrFun hM27 (y + 2)).trans (va_up_self M23 (y + 2) _)
                refine si_inc (lv' := [(7, .int (sI (u + 1))), (8, .int (sI 0)), (0, .ref y), (1, .ref a), (2, .int (sI s)), (3, .int (sI (p2 s))), (4, .int (sI z13)), (5, .int (sI (f (20 + s)))), (6, .int (sI (f (30 + s))))]) S dX3_sumSets_134 hl (k := 8) rfl (by decide) rfl (fun ls hl => ?_)
                refine lv_goto (tgt := 60) hx_ hb_ dX3_sumSets_137 (by decide) ?_
                have hc29 : M27 (y + 1) = some (sArr G 1024 (iup Z3 (u + p2 s) (min 268435456 ((Z3 u) + (f (20 + s)))))) := ((congrFun hM27 (y + 1)).trans (va_up_ne M23 _ (by omega))).trans hc24
                exact ih60 (u + 1) (iup Z3 (u + p2 s) (min 268435456 ((Z3 u) + (f (20 + s))))) (iup W3 (u + p2 s) ((W3 u) + (f (30 + s)))) M27 _ _ _ (by omega) (by omega) (by rw [show p2 s + (u + 1) = u + p2 s + 1 by omega]; exact szA_s (by rw [show u + p2 s = p2 s + u by omega]; exact hZ3) (sz_s (by omega) (by omega) ⟨by omega, by omega⟩ hz16 (hZ3 u (by omega) (by omega)) hzr.1 (by omega) hzr.2 (Or.inr ⟨h71, rfl⟩))) (by rw [show p2 s + (u + 1) = u + p2 s + 1 by omega]; exact wtA_s (by rw [show u + p2 s = p2 s + u by omega]; exact hW3) (by rw [su_a (by omega) (by omega) ⟨by omega, by omega⟩, hW3 u (by omega) (by omega)])) hc29 hc28 (fun x q0 q1 => (((congrFun hM27 x).trans (va_up_ne M23 _ (by omega))).trans ((congrFun hM23 x).trans (va_up_ne Ml60 _ (by omega)))).trans (hfr60 x (by omega) (by omega))) hV (lv_sub hl [2, 3, 4, 5, 6, 7, 8, 0] rfl)
              · refine si_const S dX3_sumSets_74 ?_
                refine lv_goto (tgt := 79) hx_ hb_ dX3_sumSets_75 (by decide) ?_
                refine lv_istore (lv' := [(8, .int (sI 1)), (0, .ref y), (1, .ref a), (2, .int (sI s)), (3, .int (sI (p2 s))), (4, .int (sI z13)), (5, .int (sI (f (20 + s)))), (6, .int (sI (f (30 + s)))), (7, .int (sI u))]) hx_ hb_ dX3_sumSets_79 hl (by decide) rfl (fun ls hl => ?_)
                refine lv_aload_n hx_ hb_ dX3_sumSets_81 rfl (lv_at hl 1 rfl) ?_
                have hc30 : Ml60 y = some (sObj 2 [.ref (y + 1), .ref (y + 2), .ref (y + 3), .ref (y + 4), .ref (y + 5), .int (sI (f 568)), .int (sI co)]) := ((hfr60 y (by omega) (by omega)).trans (hf15 y )).trans hc7
                refine sc_get (ci := 2) (C := RX3) (T := TX3) (n := 7) S hK hV inX3_ hc30 rfl 0 (by decide) (S.2.2.2.2 _ (List.mem_of_getElem? (i := 1) rfl)) rfl rfl dX3_sumSets_82 ?_
                refine lv_iload hx_ hb_ dX3_sumSets_85 (lv_at hl 8 rfl) ?_
                refine lv_iload_n hx_ hb_ dX3_sumSets_87 rfl (lv_at hl 4 rfl) ?_
                refine si_or S dX3_sumSets_88 ?_
                rw [or_top (by omega) (by omega)]
                refine lv_iload hx_ hb_ dX3_sumSets_89 (lv_at hl 0 rfl) ?_
                refine sz_eq (tgt := 99) S dX3_sumSets_91 (by decide) (by omega) (fun c31 => absurd c31 (by omega)) (fun _ => ?_)
                refine si_ldc S (268435456) (S.2.2.2.2 _ (List.mem_of_getElem? (i := 4) rfl)) (by decide) dX3_sumSets_94 ?_
                refine lv_goto (tgt := 114) hx_ hb_ dX3_sumSets_96 (by decide) ?_
                refine sc_iast S hK hV hm60_0 (by omega) dX3_sumSets_114 (fun M32 H locs hM32 hV => ?_)
                have hc33 : M32 (y + 1) = some (sArr G 1024 (iup Z3 (u + p2 s) 268435456)) := (congrFun hM32 (y + 1)).trans (va_up_self Ml60 (y + 1) _)
                refine lv_aload_n hx_ hb_ dX3_sumSets_115 rfl (lv_at hl 1 rfl) ?_
                have hc34 : M32 y = some (sObj 2 [.ref (y + 1), .ref (y + 2), .ref (y + 3), .ref (y + 4), .ref (y + 5), .int (sI (f 568)), .int (sI co)]) := ((congrFun hM32 y).trans (va_up_ne Ml60 _ (by omega))).trans hc30
                refine sc_get (ci := 2) (C := RX3) (T := TX3) (n := 7) S hK hV inX3_ hc34 rfl 1 (by decide) (S.2.2.2.2 _ (List.mem_of_getElem? (i := 2) rfl)) rfl rfl dX3_sumSets_116 ?_
                refine lv_iload hx_ hb_ dX3_sumSets_119 (lv_at hl 8 rfl) ?_
                refine lv_iload_n hx_ hb_ dX3_sumSets_121 rfl (lv_at hl 4 rfl) ?_
                refine si_or S dX3_sumSets_122 ?_
                rw [or_top (by omega) (by omega)]
                refine lv_aload_n hx_ hb_ dX3_sumSets_123 rfl (lv_at hl 1 rfl) ?_
                refine sc_get (ci := 2) (C := RX3) (T := TX3) (n := 7) S hK hV inX3_ hc34 rfl 1 (by decide) (S.2.2.2.2 _ (List.mem_of_getElem? (i := 2) rfl)) rfl rfl dX3_sumSets_124 ?_
                refine lv_iload hx_ hb_ dX3_sumSets_127 (lv_at hl 8 rfl) ?_
                have hc35 : M32 (y + 2) = some (sArr G 1024 W3) := ((congrFun hM32 (y + 2)).trans (va_up_ne Ml60 _ (by omega))).trans hm60_1
                refine sc_iald S hK hV hc35 (by omega) dX3_sumSets_129 ?_
                refine lv_iload hx_ hb_ dX3_sumSets_130 (lv_at hl 7 rfl) ?_
                refine si_add S dX3_sumSets_132 ?_
                refine sc_iast S hK hV hc35 (by omega) dX3_sumSets_133 (fun M36 H locs hM36 hV => ?_)
                have hc37 : M36 (y + 2) = some (sArr G 1024 (iup W3 (u + p2 s) ((W3 u) + (f (30 + s))))) := (congrFun hM36 (y + 2)).trans (va_up_self M32 (y + 2) _)
                refine si_inc (lv' := [(7, .int (sI (u + 1))), (8, .int (sI 1)), (0, .ref y), (1, .ref a), (2, .int (sI s)), (3, .int (sI (p2 s))), (4, .int (sI z13)), (5, .int (sI (f (20 + s)))), (6, .int (sI (f (30 + s))))]) S dX3_sumSets_134 hl (k := 8) rfl (by decide) rfl (fun ls hl => ?_)
                refine lv_goto (tgt := 60) hx_ hb_ dX3_sumSets_137 (by decide) ?_
                have hc38 : M36 (y + 1) = some (sArr G 1024 (iup Z3 (u + p2 s) 268435456)) := ((congrFun hM36 (y + 1)).trans (va_up_ne M32 _ (by omega))).trans hc33
                exact ih60 (u + 1) (iup Z3 (u + p2 s) 268435456) (iup W3 (u + p2 s) ((W3 u) + (f (30 + s)))) M36 _ _ _ (by omega) (by omega) (by rw [show p2 s + (u + 1) = u + p2 s + 1 by omega]; exact szA_s (by rw [show u + p2 s = p2 s + u by omega]; exact hZ3) (sz_s (by omega) (by omega) ⟨by omega, by omega⟩ hz16 (hZ3 u (by omega) (by omega)) hzr.1 (by omega) hzr.2 (Or.inl ⟨h71, rfl⟩))) (by rw [show p2 s + (u + 1) = u + p2 s + 1 by omega]; exact wtA_s (by rw [show u + p2 s = p2 s + u by omega]; exact hW3) (by rw [su_a (by omega) (by omega) ⟨by omega, by omega⟩, hW3 u (by omega) (by omega)])) hc38 hc37 (fun x q0 q1 => (((congrFun hM36 x).trans (va_up_ne M32 _ (by omega))).trans ((congrFun hM32 x).trans (va_up_ne Ml60 _ (by omega)))).trans (hfr60 x (by omega) (by omega))) hV (lv_sub hl [2, 3, 4, 5, 6, 7, 8, 0] rfl)
        have hc39 : M10 (y + 1) = some (sArr G 1024 Z2) := (hf15 (y + 1) ).trans hm16_0
        have hc40 : M10 (y + 2) = some (sArr G 1024 W2) := (hf15 (y + 2) ).trans hm16_1
        exact L60 _ 0 Z2 W2 M10 _ _ _ (Nat.lt_succ_self _) (by omega) (by rw [Int.add_zero]; exact hZ2) (by rw [Int.add_zero]; exact hW2) hc39 hc40 (fun x q0 q1 => rfl) hV (lv_sub hl [5, 6, 7, 4, 3, 2, 1, 0] rfl)
  have hc41 : M5 (y + 1) = some (sArr G 1024 (iup Sz 0 0)) := ((congrFun hM5 (y + 1)).trans (va_up_ne M1 _ (by omega))).trans hc2
  exact L16 _ 0 (iup Sz 0 0) (iup Wt 0 0) M5 _ _ _ (Nat.lt_succ_self _) (by omega) (fun u a b => by rw [p2_0] at b; rw [show u = 0 by omega, show iup Sz 0 0 0 = 0 from if_pos rfl]; exact sz_0) (fun u a b => by rw [p2_0] at b; rw [show u = 0 by omega, show iup Wt 0 0 0 = 0 from if_pos rfl]; exact su_0.symm) hc41 hc6 (fun x q0 q1 => rfl) hV (lv_sub hl [1, 2, 0] rfl)

abbrev rmX3_setPrices : Room := { frames := 2, cells := 0, slots := 0, locals := 63 }
set_option maxHeartbeats 4000000 in
set_option maxRecDepth 100000 in
theorem kX3_setPrices (l_ : Launch) (G : sG) (b_ : Nat) (M : sM) (N : Nat) (y t : Nat) (co : Int) (Pr f : sF) (d : Int) (B : Prop) (hy0 : M y = some (sObj 2 [.ref (y + 1), .ref (y + 2), .ref (y + 3), .ref (y + 4), .ref (y + 5), .int (sI (f 568)), .int (sI co)])) (hy5 : M (y + 5) = some (sArr G 10 Pr)) (ht : stK G M t 7 (f 568) 70 (tvS f)) (hok : sOk f) (hne : t + 2 ≤ y ∨ y + 6 ≤ t) (hd : 0 ≤ d ∧ d ≤ 3) : cV l_ yX3_setPrices wsX3_setPrices rmX3_setPrices G b_ M N [.ref y, .ref t, .int (sI d), .int (sI (bI B))] (fun M1 N1 => ∃ P9 : Int → Int, N1 = N ∧ M1 (y + 5) = some (sArr G 10 P9) ∧ (∀ x : Nat, ¬ (x = y + 5) → M1 x = M x) ∧ (∀ x, 0 ≤ x → x < f 568 → P9 x = pcD f B x d)) := by
  refine sE.ofV (cc := cX3_setPrices) (nL := 7) (ret := none) (by decide) rfl (Nat.le_of_ble_eq_true rfl) ?_
  intro p_ e_ s_ m_ args_ below_ meth_ c_ ls Q hQ E hl
  have E : sE p_ l_ e_ rmX3_setPrices s_ m_ args_ below_ meth_ c_ cX3_setPrices 7 wsX3_setPrices RX3 "setPrices" none G b_ M N := E
  have S := E.1
  have hx_ := S.1
  have hb_ := S.2.1
  have hK := E.2.2.2.2.1
  have hV := E.2.2.2.2.2.2
  have hl : lv_has ls 7 [(0, .ref y), (1, .ref t), (2, .int (sI d)), (3, .int (sI (bI B)))] := hl
  have inX3_ : ∀ w ∈ wsX30, w ∈ wsX3_setPrices := fun _ h => List.mem_cons_of_mem _ (List.mem_append_left _ (List.mem_append_right _ h))
  have inX8_ : ∀ w ∈ wsX80, w ∈ wsX3_setPrices := fun _ h => List.mem_cons_of_mem _ (List.mem_append_right _ h)
  have kn0 := sOk_N hok
  refine si_const S dX3_setPrices_0 ?_
  refine lv_istore (lv' := [(4, .int (sI 0)), (0, .ref y), (1, .ref t), (2, .int (sI d)), (3, .int (sI (bI B)))]) hx_ hb_ dX3_setPrices_1 hl (by decide) rfl (fun ls hl => ?_)
  have L3 : ∀ (fuel : Nat) (s : Int) (P2 : Int → Int) (Ml3 : sM) (H : Heap) (locs : List Loc) (ls : Array Slot), ((f 568 - s).toNat) < fuel → (0 ≤ s ∧ s ≤ f 568) → (∀ x, 0 ≤ x → x < s → P2 x = pcD f B x d) → (Ml3 (y + 5) = some (sArr G 10 P2)) → (∀ x : Nat, ¬ (x = y + 5) → Ml3 x = M x) → sV G b_ Ml3 N s_ H locs → lv_has ls 7 [(0, .ref y), (1, .ref t), (2, .int (sI d)), (3, .int (sI (bI B))), (4, .int (sI s))] → W p_ l_ e_ rmX3_setPrices s_ m_ args_ below_ meth_ c_ H locs 0 0 Q (F0 m_ 3 ls []) := by
    intro fuel
    induction fuel with
    | zero => intro s P2 Ml3 H locs ls hmu; exact absurd hmu (Nat.not_lt_zero _)
    | succ fuel ih3 =>
      intro s P2 Ml3 H locs ls hmu3 hv3_0 hP2 hm3_0 hfr3 hV hl
      refine lv_iload hx_ hb_ dX3_setPrices_3 (lv_at hl 4 rfl) ?_
      refine lv_aload_n hx_ hb_ dX3_setPrices_5 rfl (lv_at hl 0 rfl) ?_
      have hc1 : Ml3 y = some (sObj 2 [.ref (y + 1), .ref (y + 2), .ref (y + 3), .ref (y + 4), .ref (y + 5), .int (sI (f 568)), .int (sI co)]) := (hfr3 y (by omega)).trans hy0
      refine sc_get (ci := 2) (C := RX3) (T := TX3) (n := 7) S hK hV inX3_ hc1 rfl 5 (by decide) (S.2.2.2.2 _ (List.mem_of_getElem? (i := 1) rfl)) rfl rfl dX3_setPrices_6 ?_
      refine sb_ge (tgt := 76) S dX3_setPrices_9 (by decide) (by omega) (fun c2 => ?_) (fun c2 => ?_)
      · exact sr_v E hQ dX3_setPrices_76 ⟨Nat.le_of_ble_eq_true rfl, Nat.le_of_ble_eq_true rfl⟩ hV (⟨P2, rfl, hm3_0, fun x q0 => hfr3 x (by omega), fun x a b => hP2 x a (by omega)⟩)
      · refine lv_aload_n hx_ hb_ dX3_setPrices_12 rfl (lv_at hl 1 rfl) ?_
        refine lv_iload hx_ hb_ dX3_setPrices_13 (lv_at hl 4 rfl) ?_
        refine si_const S dX3_setPrices_15 ?_
        have hc3 : stK G Ml3 t 7 (f 568) 70 (tvS f) := ht.fr (fun x q8 q9 => hfr3 x (by omega))
        refine sk_VP E hV (As := [.int (sI s), .int (sI 5)]) (rest := []) (kTg l_ G b_ Ml3 N t 7 (f 568) 70 (tvS f) s 5 (f (50 + s)) hc3 (by omega) (by omega) (tvS_5 f s)) (cwV 2 S.2.2.2.2 gX3_setPrices_X8_get rfl rfl rfl (by decide +kernel) ⟨Nat.le_of_ble_eq_true rfl, Nat.le_of_ble_eq_true rfl⟩) (ci := 6) (hc3).1 rfl rfl rfl hl.1 (Nat.le_of_ble_eq_true rfl) dX3_setPrices_16 (c1 := 0) (s1 := 0) ⟨⟨rfl, rfl⟩, by decide, by decide⟩ (fun H locs hV => ?_)
        have kn4 : -1 ≤ f (50 + s) ∧ f (50 + s) ≤ 3 := (sOk_S hok s (by omega) (by omega)).2.2.2.2.2.1
        have hSs := sOk_S hok s (by omega) (by omega)
        refine lv_istore (lv' := [(5, .int (sI (f (50 + s)))), (0, .ref y), (1, .ref t), (2, .int (sI d)), (3, .int (sI (bI B))), (4, .int (sI s))]) hx_ hb_ dX3_setPrices_19 hl (by decide) rfl (fun ls hl => ?_)
        refine lv_iload_n hx_ hb_ dX3_setPrices_21 rfl (lv_at hl 4 rfl) ?_
        refine sq_eq (tgt := 41) S dX3_setPrices_22 (by decide) (fun h22 => ?_) (fun h22 => ?_)
        · refine si_const S dX3_setPrices_41 ?_
          refine lv_istore (lv' := [(6, .int (sI 0)), (5, .int (sI (f (50 + s)))), (0, .ref y), (1, .ref t), (2, .int (sI d)), (3, .int (sI (bI B))), (4, .int (sI s))]) hx_ hb_ dX3_setPrices_42 hl (by decide) rfl (fun ls hl => ?_)
          refine lv_aload_n hx_ hb_ dX3_setPrices_44 rfl (lv_at hl 2 rfl) ?_
          refine sc_get (ci := 2) (C := RX3) (T := TX3) (n := 7) S hK hV inX3_ hc1 rfl 4 (by decide) (S.2.2.2.2 _ (List.mem_of_getElem? (i := 2) rfl)) rfl rfl dX3_setPrices_45 ?_
          refine lv_iload hx_ hb_ dX3_setPrices_48 (lv_at hl 6 rfl) ?_
          refine lv_iload_n hx_ hb_ dX3_setPrices_50 rfl (lv_at hl 4 rfl) ?_
          refine lv_iload hx_ hb_ dX3_setPrices_51 (lv_at hl 6 rfl) ?_
          refine sk_SP E hV (As := [.int (sI s)]) (rest := [.int (sI d), .int (sI s), .ref (y + 5)]) (kX3_digitOf l_ G b_ Ml3 N s (by omega)) (va_cwS 1 S.2.2.2.2 gX3_setPrices_X3_digitOf rfl rfl rfl (by decide +kernel) ⟨Nat.le_of_ble_eq_true rfl, Nat.le_of_ble_eq_true rfl⟩) rfl rfl hl.1 (Nat.le_of_ble_eq_true rfl) dX3_setPrices_53 (c1 := 0) (s1 := 0) ⟨⟨rfl, rfl⟩, by decide, by decide⟩ (fun H locs hV => ?_)
          refine si_shl S dX3_setPrices_56 ?_
          rw [ishl_w4 hd (by omega)]
          refine lv_iload hx_ hb_ dX3_setPrices_57 (lv_at hl 0 rfl) ?_
          refine sz_eq (tgt := 67) S dX3_setPrices_59 (by decide) (by omega) (fun _ => ?_) (fun c5 => absurd c5 (by omega))
          refine si_const S dX3_setPrices_67 ?_
          refine si_add S dX3_setPrices_68 ?_
          refine sc_iast S hK hV hm3_0 (by omega) dX3_setPrices_69 (fun M6 H locs hM6 hV => ?_)
          have hc7 : M6 (y + 5) = some (sArr G 10 (iup P2 s ((d * w4 s) + 0))) := (congrFun hM6 (y + 5)).trans (va_up_self Ml3 (y + 5) _)
          refine si_inc (lv' := [(4, .int (sI (s + 1))), (6, .int (sI 0)), (5, .int (sI (f (50 + s)))), (0, .ref y), (1, .ref t), (2, .int (sI d)), (3, .int (sI (bI B)))]) S dX3_setPrices_70 hl (k := 6) rfl (by decide) rfl (fun ls hl => ?_)
          refine lv_goto (tgt := 3) hx_ hb_ dX3_setPrices_73 (by decide) ?_
          exact ih3 (s + 1) (iup P2 s ((d * w4 s) + 0)) M6 _ _ _ (by omega) (by omega) (fun x a b => by unfold iup; by_cases e : x = s; (rw [if_pos e, e]; unfold pcD; rw [(show mvI f B s d = 0 from pif_f (fun q => h22 q.1))]); (rw [if_neg e]; exact hP2 x a (by omega))) hc7 (fun x q0 => ((congrFun hM6 x).trans (va_up_ne Ml3 _ (by omega))).trans (hfr3 x (by omega))) hV (lv_sub hl [3, 4, 5, 6, 0] rfl)
        · refine lv_iload hx_ hb_ dX3_setPrices_25 (lv_at hl 0 rfl) ?_
          refine si_const S dX3_setPrices_27 ?_
          refine sb_eq (tgt := 41) S dX3_setPrices_28 (by decide) (by omega) (fun c8 => ?_) (fun c8 => ?_)
          · refine si_const S dX3_setPrices_41 ?_
            refine lv_istore (lv' := [(6, .int (sI 0)), (5, .int (sI (f (50 + s)))), (0, .ref y), (1, .ref t), (2, .int (sI d)), (3, .int (sI (bI B))), (4, .int (sI s))]) hx_ hb_ dX3_setPrices_42 hl (by decide) rfl (fun ls hl => ?_)
            refine lv_aload_n hx_ hb_ dX3_setPrices_44 rfl (lv_at hl 2 rfl) ?_
            refine sc_get (ci := 2) (C := RX3) (T := TX3) (n := 7) S hK hV inX3_ hc1 rfl 4 (by decide) (S.2.2.2.2 _ (List.mem_of_getElem? (i := 2) rfl)) rfl rfl dX3_setPrices_45 ?_
            refine lv_iload hx_ hb_ dX3_setPrices_48 (lv_at hl 6 rfl) ?_
            refine lv_iload_n hx_ hb_ dX3_setPrices_50 rfl (lv_at hl 4 rfl) ?_
            refine lv_iload hx_ hb_ dX3_setPrices_51 (lv_at hl 6 rfl) ?_
            refine sk_SP E hV (As := [.int (sI s)]) (rest := [.int (sI d), .int (sI s), .ref (y + 5)]) (kX3_digitOf l_ G b_ Ml3 N s (by omega)) (va_cwS 1 S.2.2.2.2 gX3_setPrices_X3_digitOf rfl rfl rfl (by decide +kernel) ⟨Nat.le_of_ble_eq_true rfl, Nat.le_of_ble_eq_true rfl⟩) rfl rfl hl.1 (Nat.le_of_ble_eq_true rfl) dX3_setPrices_53 (c1 := 0) (s1 := 0) ⟨⟨rfl, rfl⟩, by decide, by decide⟩ (fun H locs hV => ?_)
            refine si_shl S dX3_setPrices_56 ?_
            rw [ishl_w4 hd (by omega)]
            refine lv_iload hx_ hb_ dX3_setPrices_57 (lv_at hl 0 rfl) ?_
            refine sz_eq (tgt := 67) S dX3_setPrices_59 (by decide) (by omega) (fun _ => ?_) (fun c9 => absurd c9 (by omega))
            refine si_const S dX3_setPrices_67 ?_
            refine si_add S dX3_setPrices_68 ?_
            refine sc_iast S hK hV hm3_0 (by omega) dX3_setPrices_69 (fun M10 H locs hM10 hV => ?_)
            have hc11 : M10 (y + 5) = some (sArr G 10 (iup P2 s ((d * w4 s) + 0))) := (congrFun hM10 (y + 5)).trans (va_up_self Ml3 (y + 5) _)
            refine si_inc (lv' := [(4, .int (sI (s + 1))), (6, .int (sI 0)), (5, .int (sI (f (50 + s)))), (0, .ref y), (1, .ref t), (2, .int (sI d)), (3, .int (sI (bI B)))]) S dX3_setPrices_70 hl (k := 6) rfl (by decide) rfl (fun ls hl => ?_)
            refine lv_goto (tgt := 3) hx_ hb_ dX3_setPrices_73 (by decide) ?_
            exact ih3 (s + 1) (iup P2 s ((d * w4 s) + 0)) M10 _ _ _ (by omega) (by omega) (fun x a b => by unfold iup; by_cases e : x = s; (rw [if_pos e, e]; unfold pcD; rw [(show mvI f B s d = 0 from pif_f (fun q => q.2.1 (by omega)))]); (rw [if_neg e]; exact hP2 x a (by omega))) hc11 (fun x q0 => ((congrFun hM10 x).trans (va_up_ne Ml3 _ (by omega))).trans (hfr3 x (by omega))) hV (lv_sub hl [3, 4, 5, 6, 0] rfl)
          · refine lv_iload hx_ hb_ dX3_setPrices_31 (lv_at hl 0 rfl) ?_
            refine lv_iload_n hx_ hb_ dX3_setPrices_33 rfl (lv_at hl 3 rfl) ?_
            refine sb_eq (tgt := 41) S dX3_setPrices_34 (by decide) (by omega) (fun c12 => ?_) (fun c12 => ?_)
            · refine si_const S dX3_setPrices_41 ?_
              refine lv_istore (lv' := [(6, .int (sI 0)), (5, .int (sI (f (50 + s)))), (0, .ref y), (1, .ref t), (2, .int (sI d)), (3, .int (sI (bI B))), (4, .int (sI s))]) hx_ hb_ dX3_setPrices_42 hl (by decide) rfl (fun ls hl => ?_)
              refine lv_aload_n hx_ hb_ dX3_setPrices_44 rfl (lv_at hl 2 rfl) ?_
              refine sc_get (ci := 2) (C := RX3) (T := TX3) (n := 7) S hK hV inX3_ hc1 rfl 4 (by decide) (S.2.2.2.2 _ (List.mem_of_getElem? (i := 2) rfl)) rfl rfl dX3_setPrices_45 ?_
              refine lv_iload hx_ hb_ dX3_setPrices_48 (lv_at hl 6 rfl) ?_
              refine lv_iload_n hx_ hb_ dX3_setPrices_50 rfl (lv_at hl 4 rfl) ?_
              refine lv_iload hx_ hb_ dX3_setPrices_51 (lv_at hl 6 rfl) ?_
              refine sk_SP E hV (As := [.int (sI s)]) (rest := [.int (sI d), .int (sI s), .ref (y + 5)]) (kX3_digitOf l_ G b_ Ml3 N s (by omega)) (va_cwS 1 S.2.2.2.2 gX3_setPrices_X3_digitOf rfl rfl rfl (by decide +kernel) ⟨Nat.le_of_ble_eq_true rfl, Nat.le_of_ble_eq_true rfl⟩) rfl rfl hl.1 (Nat.le_of_ble_eq_true rfl) dX3_setPrices_53 (c1 := 0) (s1 := 0) ⟨⟨rfl, rfl⟩, by decide, by decide⟩ (fun H locs hV => ?_)
              refine si_shl S dX3_setPrices_56 ?_
              rw [ishl_w4 hd (by omega)]
              refine lv_iload hx_ hb_ dX3_setPrices_57 (lv_at hl 0 rfl) ?_
              refine sz_eq (tgt := 67) S dX3_setPrices_59 (by decide) (by omega) (fun _ => ?_) (fun c13 => absurd c13 (by omega))
              refine si_const S dX3_setPrices_67 ?_
              refine si_add S dX3_setPrices_68 ?_
              refine sc_iast S hK hV hm3_0 (by omega) dX3_setPrices_69 (fun M14 H locs hM14 hV => ?_)
              have hc15 : M14 (y + 5) = some (sArr G 10 (iup P2 s ((d * w4 s) + 0))) := (congrFun hM14 (y + 5)).trans (va_up_self Ml3 (y + 5) _)
              refine si_inc (lv' := [(4, .int (sI (s + 1))), (6, .int (sI 0)), (5, .int (sI (f (50 + s)))), (0, .ref y), (1, .ref t), (2, .int (sI d)), (3, .int (sI (bI B)))]) S dX3_setPrices_70 hl (k := 6) rfl (by decide) rfl (fun ls hl => ?_)
              refine lv_goto (tgt := 3) hx_ hb_ dX3_setPrices_73 (by decide) ?_
              exact ih3 (s + 1) (iup P2 s ((d * w4 s) + 0)) M14 _ _ _ (by omega) (by omega) (fun x a b => by unfold iup; by_cases e : x = s; (rw [if_pos e, e]; unfold pcD; rw [(show mvI f B s d = 0 from pif_f (fun q => q.2.2 (by omega)))]); (rw [if_neg e]; exact hP2 x a (by omega))) hc15 (fun x q0 => ((congrFun hM14 x).trans (va_up_ne Ml3 _ (by omega))).trans (hfr3 x (by omega))) hV (lv_sub hl [3, 4, 5, 6, 0] rfl)
            · refine si_const S dX3_setPrices_37 ?_
              refine lv_goto (tgt := 42) hx_ hb_ dX3_setPrices_38 (by decide) ?_
              refine lv_istore (lv' := [(6, .int (sI 1)), (5, .int (sI (f (50 + s)))), (0, .ref y), (1, .ref t), (2, .int (sI d)), (3, .int (sI (bI B))), (4, .int (sI s))]) hx_ hb_ dX3_setPrices_42 hl (by decide) rfl (fun ls hl => ?_)
              refine lv_aload_n hx_ hb_ dX3_setPrices_44 rfl (lv_at hl 2 rfl) ?_
              refine sc_get (ci := 2) (C := RX3) (T := TX3) (n := 7) S hK hV inX3_ hc1 rfl 4 (by decide) (S.2.2.2.2 _ (List.mem_of_getElem? (i := 2) rfl)) rfl rfl dX3_setPrices_45 ?_
              refine lv_iload hx_ hb_ dX3_setPrices_48 (lv_at hl 6 rfl) ?_
              refine lv_iload_n hx_ hb_ dX3_setPrices_50 rfl (lv_at hl 4 rfl) ?_
              refine lv_iload hx_ hb_ dX3_setPrices_51 (lv_at hl 6 rfl) ?_
              refine sk_SP E hV (As := [.int (sI s)]) (rest := [.int (sI d), .int (sI s), .ref (y + 5)]) (kX3_digitOf l_ G b_ Ml3 N s (by omega)) (va_cwS 1 S.2.2.2.2 gX3_setPrices_X3_digitOf rfl rfl rfl (by decide +kernel) ⟨Nat.le_of_ble_eq_true rfl, Nat.le_of_ble_eq_true rfl⟩) rfl rfl hl.1 (Nat.le_of_ble_eq_true rfl) dX3_setPrices_53 (c1 := 0) (s1 := 0) ⟨⟨rfl, rfl⟩, by decide, by decide⟩ (fun H locs hV => ?_)
              refine si_shl S dX3_setPrices_56 ?_
              rw [ishl_w4 hd (by omega)]
              refine lv_iload hx_ hb_ dX3_setPrices_57 (lv_at hl 0 rfl) ?_
              refine sz_eq (tgt := 67) S dX3_setPrices_59 (by decide) (by omega) (fun c16 => absurd c16 (by omega)) (fun _ => ?_)
              refine si_ldc S (1048576) (S.2.2.2.2 _ (List.mem_of_getElem? (i := 3) rfl)) (by decide) dX3_setPrices_62 ?_
              refine lv_goto (tgt := 68) hx_ hb_ dX3_setPrices_64 (by decide) ?_
              refine si_add S dX3_setPrices_68 ?_
              refine sc_iast S hK hV hm3_0 (by omega) dX3_setPrices_69 (fun M17 H locs hM17 hV => ?_)
              have hc18 : M17 (y + 5) = some (sArr G 10 (iup P2 s ((d * w4 s) + 1048576))) := (congrFun hM17 (y + 5)).trans (va_up_self Ml3 (y + 5) _)
              refine si_inc (lv' := [(4, .int (sI (s + 1))), (6, .int (sI 1)), (5, .int (sI (f (50 + s)))), (0, .ref y), (1, .ref t), (2, .int (sI d)), (3, .int (sI (bI B)))]) S dX3_setPrices_70 hl (k := 6) rfl (by decide) rfl (fun ls hl => ?_)
              refine lv_goto (tgt := 3) hx_ hb_ dX3_setPrices_73 (by decide) ?_
              exact ih3 (s + 1) (iup P2 s ((d * w4 s) + 1048576)) M17 _ _ _ (by omega) (by omega) (fun x a b => by unfold iup; by_cases e : x = s; (rw [if_pos e, e]; unfold pcD; rw [(show mvI f B s d = 1048576 from pif_t ⟨h22, by omega, by omega⟩)]); (rw [if_neg e]; exact hP2 x a (by omega))) hc18 (fun x q0 => ((congrFun hM17 x).trans (va_up_ne Ml3 _ (by omega))).trans (hfr3 x (by omega))) hV (lv_sub hl [3, 4, 5, 6, 0] rfl)
  exact L3 _ 0 Pr M _ _ _ (Nat.lt_succ_self _) (by omega) (fun x a b => by omega) hy5 (fun x q0 => rfl) hV (lv_sub hl [1, 2, 3, 4, 0] rfl)

abbrev rmX3_priceSets : Room := { frames := 2, cells := 0, slots := 0, locals := 63 }
set_option maxHeartbeats 4000000 in
set_option maxRecDepth 100000 in
theorem kX3_priceSets (l_ : Launch) (G : sG) (b_ : Nat) (M : sM) (N : Nat) (y t : Nat) (co : Int) (Sz Wt He Pr f : sF) (d : Int) (B : Prop) (hy0 : M y = some (sObj 2 [.ref (y + 1), .ref (y + 2), .ref (y + 3), .ref (y + 4), .ref (y + 5), .int (sI (f 568)), .int (sI co)])) (hy1 : M (y + 1) = some (sArr G 1024 Sz)) (hy2 : M (y + 2) = some (sArr G 1024 Wt)) (hy3 : M (y + 3) = some (sArr G 1024 He)) (hy5 : M (y + 5) = some (sArr G 10 Pr)) (ht : stK G M t 2 4 8 (tvD f)) (hok : sOk f) (hne : t + 2 ≤ y ∨ y + 6 ≤ t) (hd : 0 ≤ d ∧ d ≤ 3) (hZ : szA f (p2 (f 568)) Sz) (hW : wtA f (p2 (f 568)) Wt) (hP : ∀ x, 0 ≤ x → x < f 568 → Pr x = pcD f B x d) : cV l_ yX3_priceSets wsX3_priceSets rmX3_priceSets G b_ M N [.ref y, .ref t, .int (sI d)] (fun M1 N1 => ∃ H9 : Int → Int, N1 = N ∧ M1 (y + 3) = some (sArr G 1024 H9) ∧ (∀ x : Nat, ¬ (x = y + 3) → M1 x = M x) ∧ (hlB f B d (p2 (f 568)) H9)) := by
  refine sE.ofV (cc := cX3_priceSets) (nL := 9) (ret := none) (by decide) rfl (Nat.le_of_ble_eq_true rfl) ?_
  intro p_ e_ s_ m_ args_ below_ meth_ c_ ls Q hQ E hl
  have E : sE p_ l_ e_ rmX3_priceSets s_ m_ args_ below_ meth_ c_ cX3_priceSets 9 wsX3_priceSets RX3 "priceSets" none G b_ M N := E
  have S := E.1
  have hx_ := S.1
  have hb_ := S.2.1
  have hK := E.2.2.2.2.1
  have hV := E.2.2.2.2.2.2
  have hl : lv_has ls 9 [(0, .ref y), (1, .ref t), (2, .int (sI d))] := hl
  have inX3_ : ∀ w ∈ wsX30, w ∈ wsX3_priceSets := fun _ h => List.mem_cons_of_mem _ (List.mem_append_left _ (List.mem_append_right _ h))
  have inX8_ : ∀ w ∈ wsX80, w ∈ wsX3_priceSets := fun _ h => List.mem_cons_of_mem _ (List.mem_append_right _ h)
  have kn0 := sOk_N hok
  have hp1 := p2_p (f 568)
  have hp2 := p2_10 (n := f 568) (by omega)
  have hDd := sOk_D hok d (by omega) (by omega)
  refine lv_aload_n hx_ hb_ dX3_priceSets_0 rfl (lv_at hl 1 rfl) ?_
  refine lv_iload_n hx_ hb_ dX3_priceSets_1 rfl (lv_at hl 2 rfl) ?_
  refine si_const S dX3_priceSets_2 ?_
  refine sk_VP E hV (As := [.int (sI d), .int (sI 0)]) (rest := []) (kTg l_ G b_ M N t 2 4 8 (tvD f) d 0 (f (150 + d)) ht (by omega) (by omega) (tvD_0 f d)) (cwV 2 S.2.2.2.2 gX3_priceSets_X8_get rfl rfl rfl (by decide +kernel) ⟨Nat.le_of_ble_eq_true rfl, Nat.le_of_ble_eq_true rfl⟩) (ci := 6) (ht).1 rfl rfl rfl hl.1 (Nat.le_of_ble_eq_true rfl) dX3_priceSets_3 (c1 := 0) (s1 := 0) ⟨⟨rfl, rfl⟩, by decide, by decide⟩ (fun H locs hV => ?_)
  have kn1 : 0 ≤ f (150 + d) ∧ f (150 + d) ≤ 99 := (sOk_D hok d (by omega) (by omega)).1
  refine lv_istore_n (lv' := [(3, .int (sI (f (150 + d)))), (0, .ref y), (1, .ref t), (2, .int (sI d))]) hx_ hb_ dX3_priceSets_6 rfl hl (by decide) rfl (fun ls hl => ?_)
  refine lv_aload_n hx_ hb_ dX3_priceSets_7 rfl (lv_at hl 2 rfl) ?_
  refine lv_iload_n hx_ hb_ dX3_priceSets_8 rfl (lv_at hl 3 rfl) ?_
  refine si_const S dX3_priceSets_9 ?_
  refine sk_VP E hV (As := [.int (sI d), .int (sI 1)]) (rest := []) (kTg l_ G b_ M N t 2 4 8 (tvD f) d 1 (f (154 + d)) ht (by omega) (by omega) (tvD_1 f d)) (cwV 2 S.2.2.2.2 gX3_priceSets_X8_get rfl rfl rfl (by decide +kernel) ⟨Nat.le_of_ble_eq_true rfl, Nat.le_of_ble_eq_true rfl⟩) (ci := 6) (ht).1 rfl rfl rfl hl.1 (Nat.le_of_ble_eq_true rfl) dX3_priceSets_10 (c1 := 0) (s1 := 0) ⟨⟨rfl, rfl⟩, by decide, by decide⟩ (fun H locs hV => ?_)
  have kn2 : 0 ≤ f (154 + d) ∧ f (154 + d) ≤ 999 := (sOk_D hok d (by omega) (by omega)).2
  refine lv_istore (lv' := [(4, .int (sI (f (154 + d)))), (3, .int (sI (f (150 + d)))), (0, .ref y), (1, .ref t), (2, .int (sI d))]) hx_ hb_ dX3_priceSets_13 hl (by decide) rfl (fun ls hl => ?_)
  refine lv_aload_n hx_ hb_ dX3_priceSets_15 rfl (lv_at hl 2 rfl) ?_
  refine sc_get (ci := 2) (C := RX3) (T := TX3) (n := 7) S hK hV inX3_ hy0 rfl 2 (by decide) (S.2.2.2.2 _ (List.mem_of_getElem? (i := 1) rfl)) rfl rfl dX3_priceSets_16 ?_
  refine si_const S dX3_priceSets_19 ?_
  refine si_const S dX3_priceSets_20 ?_
  refine sc_iast S hK hV hy3 (by omega) dX3_priceSets_21 (fun M3 H locs hM3 hV => ?_)
  have hc4 : M3 (y + 3) = some (sArr G 1024 (iup He 0 0)) := (congrFun hM3 (y + 3)).trans (va_up_self M (y + 3) _)
  refine si_const S dX3_priceSets_22 ?_
  refine lv_istore (lv' := [(5, .int (sI 0)), (4, .int (sI (f (154 + d)))), (3, .int (sI (f (150 + d)))), (0, .ref y), (1, .ref t), (2, .int (sI d))]) hx_ hb_ dX3_priceSets_23 hl (by decide) rfl (fun ls hl => ?_)
  have L25 : ∀ (fuel : Nat) (s : Int) (H2 : Int → Int) (Ml25 : sM) (H : Heap) (locs : List Loc) (ls : Array Slot), ((f 568 - s).toNat) < fuel → (0 ≤ s ∧ s ≤ f 568) → (hlB f B d (p2 s) H2) → (Ml25 (y + 3) = some (sArr G 1024 H2)) → (∀ x : Nat, ¬ (x = y + 3) → Ml25 x = M3 x) → sV G b_ Ml25 N s_ H locs → lv_has ls 9 [(0, .ref y), (3, .int (sI (f (150 + d)))), (4, .int (sI (f (154 + d)))), (5, .int (sI s))] → W p_ l_ e_ rmX3_priceSets s_ m_ args_ below_ meth_ c_ H locs 0 0 Q (F0 m_ 25 ls []) := by
    intro fuel
    induction fuel with
    | zero => intro s H2 Ml25 H locs ls hmu; exact absurd hmu (Nat.not_lt_zero _)
    | succ fuel ih25 =>
      intro s H2 Ml25 H locs ls hmu25 hv25_0 hH2 hm25_0 hfr25 hV hl
      refine lv_iload hx_ hb_ dX3_priceSets_25 (lv_at hl 3 rfl) ?_
      refine lv_aload_n hx_ hb_ dX3_priceSets_27 rfl (lv_at hl 0 rfl) ?_
      have hc5 : Ml25 y = some (sObj 2 [.ref (y + 1), .ref (y + 2), .ref (y + 3), .ref (y + 4), .ref (y + 5), .int (sI (f 568)), .int (sI co)]) := ((hfr25 y (by omega)).trans ((congrFun hM3 y).trans (va_up_ne M _ (by omega)))).trans hy0
      refine sc_get (ci := 2) (C := RX3) (T := TX3) (n := 7) S hK hV inX3_ hc5 rfl 5 (by decide) (S.2.2.2.2 _ (List.mem_of_getElem? (i := 2) rfl)) rfl rfl dX3_priceSets_28 ?_
      refine sb_ge (tgt := 145) S dX3_priceSets_31 (by decide) (by omega) (fun c6 => ?_) (fun c6 => ?_)
      · exact sr_v E hQ dX3_priceSets_145 ⟨Nat.le_of_ble_eq_true rfl, Nat.le_of_ble_eq_true rfl⟩ hV (⟨H2, rfl, hm25_0, fun x q0 => (hfr25 x (by omega)).trans ((congrFun hM3 x).trans (va_up_ne M _ (by omega))), by rw [show f 568 = s by omega]; exact hH2⟩)
      · refine si_const S dX3_priceSets_34 ?_
        refine lv_iload hx_ hb_ dX3_priceSets_35 (lv_at hl 3 rfl) ?_
        refine si_shl S dX3_priceSets_37 ?_
        have hps := p2_p s
        have hpm := p2_m (a := s + 1) (b := f 568) (by omega)
        have hps1 := p2_s (n := s) (by omega)
        have hpc := pcD_r f B (s := s) (d := d) (by omega) hd
        have hPs := hP s (by omega) (by omega)
        rw [ishl_p2 (k := s) (by omega)]
        refine lv_istore (lv' := [(6, .int (sI (p2 s))), (0, .ref y), (3, .int (sI (f (150 + d)))), (4, .int (sI (f (154 + d)))), (5, .int (sI s))]) hx_ hb_ dX3_priceSets_38 hl (by decide) rfl (fun ls hl => ?_)
        refine si_const S dX3_priceSets_40 ?_
        refine lv_istore (lv' := [(7, .int (sI 0)), (6, .int (sI (p2 s))), (0, .ref y), (3, .int (sI (f (150 + d)))), (4, .int (sI (f (154 + d)))), (5, .int (sI s))]) hx_ hb_ dX3_priceSets_41 hl (by decide) rfl (fun ls hl => ?_)
        have L43 : ∀ (fuel : Nat) (u : Int) (H3 : Int → Int) (Ml43 : sM) (H : Heap) (locs : List Loc) (ls : Array Slot), ((p2 s - u).toNat) < fuel → (0 ≤ u ∧ u ≤ p2 s) → (hlB f B d (p2 s + u) H3) → (Ml43 (y + 3) = some (sArr G 1024 H3)) → (∀ x : Nat, ¬ (x = y + 3) → Ml43 x = Ml25 x) → sV G b_ Ml43 N s_ H locs → lv_has ls 9 [(0, .ref y), (3, .int (sI (f (150 + d)))), (4, .int (sI (f (154 + d)))), (5, .int (sI s)), (6, .int (sI (p2 s))), (7, .int (sI u))] → W p_ l_ e_ rmX3_priceSets s_ m_ args_ below_ meth_ c_ H locs 0 0 Q (F0 m_ 43 ls []) := by
          intro fuel
          induction fuel with
          | zero => intro u H3 Ml43 H locs ls hmu; exact absurd hmu (Nat.not_lt_zero _)
          | succ fuel ih43 =>
            intro u H3 Ml43 H locs ls hmu43 hv43_0 hH3 hm43_0 hfr43 hV hl
            refine lv_iload hx_ hb_ dX3_priceSets_43 (lv_at hl 5 rfl) ?_
            refine lv_iload hx_ hb_ dX3_priceSets_45 (lv_at hl 4 rfl) ?_
            refine sb_ge (tgt := 139) S dX3_priceSets_47 (by decide) (by omega) (fun c7 => ?_) (fun c7 => ?_)
            · refine si_inc (lv' := [(5, .int (sI (s + 1))), (0, .ref y), (3, .int (sI (f (150 + d)))), (4, .int (sI (f (154 + d)))), (6, .int (sI (p2 s))), (7, .int (sI u))]) S dX3_priceSets_139 hl (k := 3) rfl (by decide) rfl (fun ls hl => ?_)
              refine lv_goto (tgt := 25) hx_ hb_ dX3_priceSets_142 (by decide) ?_
              exact ih25 (s + 1) H3 Ml43 _ _ _ (by omega) (by omega) (by rw [p2_s (by omega), show p2 s + p2 s = p2 s + u by omega]; exact hH3) hm43_0 (fun x q0 => (hfr43 x (by omega)).trans (hfr25 x (by omega))) hV (lv_sub hl [1, 2, 3, 0] rfl)
            · refine lv_aload_n hx_ hb_ dX3_priceSets_50 rfl (lv_at hl 0 rfl) ?_
              have hc8 : Ml43 y = some (sObj 2 [.ref (y + 1), .ref (y + 2), .ref (y + 3), .ref (y + 4), .ref (y + 5), .int (sI (f 568)), .int (sI co)]) := (hfr43 y (by omega)).trans hc5
              refine sc_get (ci := 2) (C := RX3) (T := TX3) (n := 7) S hK hV inX3_ hc8 rfl 2 (by decide) (S.2.2.2.2 _ (List.mem_of_getElem? (i := 1) rfl)) rfl rfl dX3_priceSets_51 ?_
              refine lv_iload hx_ hb_ dX3_priceSets_54 (lv_at hl 5 rfl) ?_
              refine sc_iald S hK hV hm43_0 (by omega) dX3_priceSets_56 ?_
              refine si_ldc S (268435456) (S.2.2.2.2 _ (List.mem_of_getElem? (i := 3) rfl)) (by decide) dX3_priceSets_57 ?_
              have hhr := hl_r (by omega) hd (hH3 u (by omega) (by omega))
              have hzz := hZ (u + p2 s) (by omega) (by omega)
              have hww := hW (u + p2 s) (by omega) (by omega)
              have hzr := (sz_r hok hzz).1
              have hwr := wt_r (f := f) (u := u + p2 s) hok
              refine sb_ge (tgt := 95) S dX3_priceSets_59 (by decide) (by omega) (fun c9 => ?_) (fun c9 => ?_)
              · refine si_const S dX3_priceSets_95 ?_
                refine lv_istore (lv' := [(8, .int (sI 0)), (0, .ref y), (3, .int (sI (f (150 + d)))), (4, .int (sI (f (154 + d)))), (5, .int (sI s)), (6, .int (sI (p2 s))), (7, .int (sI u))]) hx_ hb_ dX3_priceSets_96 hl (by decide) rfl (fun ls hl => ?_)
                refine lv_aload_n hx_ hb_ dX3_priceSets_98 rfl (lv_at hl 1 rfl) ?_
                refine sc_get (ci := 2) (C := RX3) (T := TX3) (n := 7) S hK hV inX3_ hc8 rfl 2 (by decide) (S.2.2.2.2 _ (List.mem_of_getElem? (i := 1) rfl)) rfl rfl dX3_priceSets_99 ?_
                refine lv_iload hx_ hb_ dX3_priceSets_102 (lv_at hl 6 rfl) ?_
                refine lv_iload hx_ hb_ dX3_priceSets_104 (lv_at hl 5 rfl) ?_
                refine si_or S dX3_priceSets_106 ?_
                rw [or_top (by omega) (by omega)]
                refine lv_iload hx_ hb_ dX3_priceSets_107 (lv_at hl 0 rfl) ?_
                refine sz_eq (tgt := 130) S dX3_priceSets_109 (by decide) (by omega) (fun _ => ?_) (fun c10 => absurd c10 (by omega))
                refine si_ldc S (268435456) (S.2.2.2.2 _ (List.mem_of_getElem? (i := 3) rfl)) (by decide) dX3_priceSets_130 ?_
                refine sc_iast S hK hV hm43_0 (by omega) dX3_priceSets_132 (fun M11 H locs hM11 hV => ?_)
                have hc12 : M11 (y + 3) = some (sArr G 1024 (iup H3 (u + p2 s) 268435456)) := (congrFun hM11 (y + 3)).trans (va_up_self Ml43 (y + 3) _)
                refine si_inc (lv' := [(7, .int (sI (u + 1))), (8, .int (sI 0)), (0, .ref y), (3, .int (sI (f (150 + d)))), (4, .int (sI (f (154 + d)))), (5, .int (sI s)), (6, .int (sI (p2 s)))]) S dX3_priceSets_133 hl (k := 6) rfl (by decide) rfl (fun ls hl => ?_)
                refine lv_goto (tgt := 43) hx_ hb_ dX3_priceSets_136 (by decide) ?_
                exact ih43 (u + 1) (iup H3 (u + p2 s) 268435456) M11 _ _ _ (by omega) (by omega) (by rw [show p2 s + (u + 1) = u + p2 s + 1 by omega]; exact hlB_s (by rw [show u + p2 s = p2 s + u by omega]; exact hH3) (hl_s (by omega) hd (by omega) ⟨by omega, by omega⟩ (hH3 u (by omega) (by omega)) hzz hww (by omega) (Or.inr ⟨fun q => by omega, rfl⟩))) hc12 (fun x q0 => ((congrFun hM11 x).trans (va_up_ne Ml43 _ (by omega))).trans (hfr43 x (by omega))) hV (lv_sub hl [2, 3, 4, 5, 6, 0] rfl)
              · refine lv_aload_n hx_ hb_ dX3_priceSets_62 rfl (lv_at hl 0 rfl) ?_
                refine sc_get (ci := 2) (C := RX3) (T := TX3) (n := 7) S hK hV inX3_ hc8 rfl 0 (by decide) (S.2.2.2.2 _ (List.mem_of_getElem? (i := 4) rfl)) rfl rfl dX3_priceSets_63 ?_
                refine lv_iload hx_ hb_ dX3_priceSets_66 (lv_at hl 5 rfl) ?_
                refine lv_iload hx_ hb_ dX3_priceSets_68 (lv_at hl 4 rfl) ?_
                refine si_or S dX3_priceSets_70 ?_
                rw [or_top (by omega) (by omega)]
                have hc13 : Ml43 (y + 1) = some (sArr G 1024 Sz) := (((hfr43 (y + 1) (by omega)).trans (hfr25 (y + 1) (by omega))).trans ((congrFun hM3 (y + 1)).trans (va_up_ne M _ (by omega)))).trans hy1
                refine sc_iald S hK hV hc13 (by omega) dX3_priceSets_71 ?_
                refine lv_iload_n hx_ hb_ dX3_priceSets_72 rfl (lv_at hl 1 rfl) ?_
                refine sb_gt (tgt := 95) S dX3_priceSets_73 (by decide) (by omega) (fun c14 => ?_) (fun c14 => ?_)
                · refine si_const S dX3_priceSets_95 ?_
                  refine lv_istore (lv' := [(8, .int (sI 0)), (0, .ref y), (3, .int (sI (f (150 + d)))), (4, .int (sI (f (154 + d)))), (5, .int (sI s)), (6, .int (sI (p2 s))), (7, .int (sI u))]) hx_ hb_ dX3_priceSets_96 hl (by decide) rfl (fun ls hl => ?_)
                  refine lv_aload_n hx_ hb_ dX3_priceSets_98 rfl (lv_at hl 1 rfl) ?_
                  refine sc_get (ci := 2) (C := RX3) (T := TX3) (n := 7) S hK hV inX3_ hc8 rfl 2 (by decide) (S.2.2.2.2 _ (List.mem_of_getElem? (i := 1) rfl)) rfl rfl dX3_priceSets_99 ?_
                  refine lv_iload hx_ hb_ dX3_priceSets_102 (lv_at hl 6 rfl) ?_
                  refine lv_iload hx_ hb_ dX3_priceSets_104 (lv_at hl 5 rfl) ?_
                  refine si_or S dX3_priceSets_106 ?_
                  rw [or_top (by omega) (by omega)]
                  refine lv_iload hx_ hb_ dX3_priceSets_107 (lv_at hl 0 rfl) ?_
                  refine sz_eq (tgt := 130) S dX3_priceSets_109 (by decide) (by omega) (fun _ => ?_) (fun c15 => absurd c15 (by omega))
                  refine si_ldc S (268435456) (S.2.2.2.2 _ (List.mem_of_getElem? (i := 3) rfl)) (by decide) dX3_priceSets_130 ?_
                  refine sc_iast S hK hV hm43_0 (by omega) dX3_priceSets_132 (fun M16 H locs hM16 hV => ?_)
                  have hc17 : M16 (y + 3) = some (sArr G 1024 (iup H3 (u + p2 s) 268435456)) := (congrFun hM16 (y + 3)).trans (va_up_self Ml43 (y + 3) _)
                  refine si_inc (lv' := [(7, .int (sI (u + 1))), (8, .int (sI 0)), (0, .ref y), (3, .int (sI (f (150 + d)))), (4, .int (sI (f (154 + d)))), (5, .int (sI s)), (6, .int (sI (p2 s)))]) S dX3_priceSets_133 hl (k := 6) rfl (by decide) rfl (fun ls hl => ?_)
                  refine lv_goto (tgt := 43) hx_ hb_ dX3_priceSets_136 (by decide) ?_
                  exact ih43 (u + 1) (iup H3 (u + p2 s) 268435456) M16 _ _ _ (by omega) (by omega) (by rw [show p2 s + (u + 1) = u + p2 s + 1 by omega]; exact hlB_s (by rw [show u + p2 s = p2 s + u by omega]; exact hH3) (hl_s (by omega) hd (by omega) ⟨by omega, by omega⟩ (hH3 u (by omega) (by omega)) hzz hww (by omega) (Or.inr ⟨fun q => by omega, rfl⟩))) hc17 (fun x q0 => ((congrFun hM16 x).trans (va_up_ne Ml43 _ (by omega))).trans (hfr43 x (by omega))) hV (lv_sub hl [2, 3, 4, 5, 6, 0] rfl)
                · refine lv_aload_n hx_ hb_ dX3_priceSets_76 rfl (lv_at hl 0 rfl) ?_
                  refine sc_get (ci := 2) (C := RX3) (T := TX3) (n := 7) S hK hV inX3_ hc8 rfl 1 (by decide) (S.2.2.2.2 _ (List.mem_of_getElem? (i := 5) rfl)) rfl rfl dX3_priceSets_77 ?_
                  refine lv_iload hx_ hb_ dX3_priceSets_80 (lv_at hl 5 rfl) ?_
                  refine lv_iload hx_ hb_ dX3_priceSets_82 (lv_at hl 4 rfl) ?_
                  refine si_or S dX3_priceSets_84 ?_
                  rw [or_top (by omega) (by omega)]
                  have hc18 : Ml43 (y + 2) = some (sArr G 1024 Wt) := (((hfr43 (y + 2) (by omega)).trans (hfr25 (y + 2) (by omega))).trans ((congrFun hM3 (y + 2)).trans (va_up_ne M _ (by omega)))).trans hy2
                  refine sc_iald S hK hV hc18 (by omega) dX3_priceSets_85 ?_
                  refine lv_iload hx_ hb_ dX3_priceSets_86 (lv_at hl 2 rfl) ?_
                  refine sb_gt (tgt := 95) S dX3_priceSets_88 (by decide) (by omega) (fun c19 => ?_) (fun c19 => ?_)
                  · refine si_const S dX3_priceSets_95 ?_
                    refine lv_istore (lv' := [(8, .int (sI 0)), (0, .ref y), (3, .int (sI (f (150 + d)))), (4, .int (sI (f (154 + d)))), (5, .int (sI s)), (6, .int (sI (p2 s))), (7, .int (sI u))]) hx_ hb_ dX3_priceSets_96 hl (by decide) rfl (fun ls hl => ?_)
                    refine lv_aload_n hx_ hb_ dX3_priceSets_98 rfl (lv_at hl 1 rfl) ?_
                    refine sc_get (ci := 2) (C := RX3) (T := TX3) (n := 7) S hK hV inX3_ hc8 rfl 2 (by decide) (S.2.2.2.2 _ (List.mem_of_getElem? (i := 1) rfl)) rfl rfl dX3_priceSets_99 ?_
                    refine lv_iload hx_ hb_ dX3_priceSets_102 (lv_at hl 6 rfl) ?_
                    refine lv_iload hx_ hb_ dX3_priceSets_104 (lv_at hl 5 rfl) ?_
                    refine si_or S dX3_priceSets_106 ?_
                    rw [or_top (by omega) (by omega)]
                    refine lv_iload hx_ hb_ dX3_priceSets_107 (lv_at hl 0 rfl) ?_
                    refine sz_eq (tgt := 130) S dX3_priceSets_109 (by decide) (by omega) (fun _ => ?_) (fun c20 => absurd c20 (by omega))
                    refine si_ldc S (268435456) (S.2.2.2.2 _ (List.mem_of_getElem? (i := 3) rfl)) (by decide) dX3_priceSets_130 ?_
                    refine sc_iast S hK hV hm43_0 (by omega) dX3_priceSets_132 (fun M21 H locs hM21 hV => ?_)
                    have hc22 : M21 (y + 3) = some (sArr G 1024 (iup H3 (u + p2 s) 268435456)) := (congrFun hM21 (y + 3)).trans (va_up_self Ml43 (y + 3) _)
                    refine si_inc (lv' := [(7, .int (sI (u + 1))), (8, .int (sI 0)), (0, .ref y), (3, .int (sI (f (150 + d)))), (4, .int (sI (f (154 + d)))), (5, .int (sI s)), (6, .int (sI (p2 s)))]) S dX3_priceSets_133 hl (k := 6) rfl (by decide) rfl (fun ls hl => ?_)
                    refine lv_goto (tgt := 43) hx_ hb_ dX3_priceSets_136 (by decide) ?_
                    exact ih43 (u + 1) (iup H3 (u + p2 s) 268435456) M21 _ _ _ (by omega) (by omega) (by rw [show p2 s + (u + 1) = u + p2 s + 1 by omega]; exact hlB_s (by rw [show u + p2 s = p2 s + u by omega]; exact hH3) (hl_s (by omega) hd (by omega) ⟨by omega, by omega⟩ (hH3 u (by omega) (by omega)) hzz hww (by omega) (Or.inr ⟨fun q => by omega, rfl⟩))) hc22 (fun x q0 => ((congrFun hM21 x).trans (va_up_ne Ml43 _ (by omega))).trans (hfr43 x (by omega))) hV (lv_sub hl [2, 3, 4, 5, 6, 0] rfl)
                  · refine si_const S dX3_priceSets_91 ?_
                    refine lv_goto (tgt := 96) hx_ hb_ dX3_priceSets_92 (by decide) ?_
                    refine lv_istore (lv' := [(8, .int (sI 1)), (0, .ref y), (3, .int (sI (f (150 + d)))), (4, .int (sI (f (154 + d)))), (5, .int (sI s)), (6, .int (sI (p2 s))), (7, .int (sI u))]) hx_ hb_ dX3_priceSets_96 hl (by decide) rfl (fun ls hl => ?_)
                    refine lv_aload_n hx_ hb_ dX3_priceSets_98 rfl (lv_at hl 1 rfl) ?_
                    refine sc_get (ci := 2) (C := RX3) (T := TX3) (n := 7) S hK hV inX3_ hc8 rfl 2 (by decide) (S.2.2.2.2 _ (List.mem_of_getElem? (i := 1) rfl)) rfl rfl dX3_priceSets_99 ?_
                    refine lv_iload hx_ hb_ dX3_priceSets_102 (lv_at hl 6 rfl) ?_
                    refine lv_iload hx_ hb_ dX3_priceSets_104 (lv_at hl 5 rfl) ?_
                    refine si_or S dX3_priceSets_106 ?_
                    rw [or_top (by omega) (by omega)]
                    refine lv_iload hx_ hb_ dX3_priceSets_107 (lv_at hl 0 rfl) ?_
                    refine sz_eq (tgt := 130) S dX3_priceSets_109 (by decide) (by omega) (fun c23 => absurd c23 (by omega)) (fun _ => ?_)
                    refine lv_aload_n hx_ hb_ dX3_priceSets_112 rfl (lv_at hl 1 rfl) ?_
                    refine sc_get (ci := 2) (C := RX3) (T := TX3) (n := 7) S hK hV inX3_ hc8 rfl 2 (by decide) (S.2.2.2.2 _ (List.mem_of_getElem? (i := 1) rfl)) rfl rfl dX3_priceSets_113 ?_
                    refine lv_iload hx_ hb_ dX3_priceSets_116 (lv_at hl 6 rfl) ?_
                    refine sc_iald S hK hV hm43_0 (by omega) dX3_priceSets_118 ?_
                    refine lv_aload_n hx_ hb_ dX3_priceSets_119 rfl (lv_at hl 1 rfl) ?_
                    refine sc_get (ci := 2) (C := RX3) (T := TX3) (n := 7) S hK hV inX3_ hc8 rfl 4 (by decide) (S.2.2.2.2 _ (List.mem_of_getElem? (i := 6) rfl)) rfl rfl dX3_priceSets_120 ?_
                    refine lv_iload hx_ hb_ dX3_priceSets_123 (lv_at hl 4 rfl) ?_
                    have hc24 : Ml43 (y + 5) = some (sArr G 10 Pr) := (((hfr43 (y + 5) (by omega)).trans (hfr25 (y + 5) (by omega))).trans ((congrFun hM3 (y + 5)).trans (va_up_ne M _ (by omega)))).trans hy5
                    refine sc_iald S hK hV hc24 (by omega) dX3_priceSets_125 ?_
                    refine si_add S dX3_priceSets_126 ?_
                    refine lv_goto (tgt := 132) hx_ hb_ dX3_priceSets_127 (by decide) ?_
                    refine sc_iast S hK hV hm43_0 (by omega) dX3_priceSets_132 (fun M25 H locs hM25 hV => ?_)
                    have hc26 : M25 (y + 3) = some (sArr G 1024 (iup H3 (u + p2 s) ((H3 u) + (Pr s)))) := (congrFun hM25 (y + 3)).trans (va_up_self Ml43 (y + 3) _)
                    refine si_inc (lv' := [(7, .int (sI (u + 1))), (8, .int (sI 1)), (0, .ref y), (3, .int (sI (f (150 + d)))), (4, .int (sI (f (154 + d)))), (5, .int (sI s)), (6, .int (sI (p2 s)))]) S dX3_priceSets_133 hl (k := 6) rfl (by decide) rfl (fun ls hl => ?_)
                    refine lv_goto (tgt := 43) hx_ hb_ dX3_priceSets_136 (by decide) ?_
                    exact ih43 (u + 1) (iup H3 (u + p2 s) ((H3 u) + (Pr s))) M25 _ _ _ (by omega) (by omega) (by rw [show p2 s + (u + 1) = u + p2 s + 1 by omega]; exact hlB_s (by rw [show u + p2 s = p2 s + u by omega]; exact hH3) (hl_s (by omega) hd (by omega) ⟨by omega, by omega⟩ (hH3 u (by omega) (by omega)) hzz hww (by omega) (Or.inl ⟨by omega, by omega, by omega, by rw [hP s (by omega) (by omega)]⟩))) hc26 (fun x q0 => ((congrFun hM25 x).trans (va_up_ne Ml43 _ (by omega))).trans (hfr43 x (by omega))) hV (lv_sub hl [2, 3, 4, 5, 6, 0] rfl)
        exact L43 _ 0 H2 Ml25 _ _ _ (Nat.lt_succ_self _) (by omega) (by rw [Int.add_zero]; exact hH2) hm25_0 (fun x q0 => rfl) hV (lv_sub hl [2, 3, 4, 5, 1, 0] rfl)
  exact L25 _ 0 (iup He 0 0) M3 _ _ _ (Nat.lt_succ_self _) (by omega) (fun u a b => by rw [p2_0] at b; rw [show u = 0 by omega, show iup He 0 0 0 = 0 from if_pos rfl]; exact hl_0) hc4 (fun x q0 => rfl) hV (lv_sub hl [3, 2, 1, 0] rfl)
