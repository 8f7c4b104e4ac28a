/-! Places in the order of codes. -/
theorem np_r (C : sF) (c k : Int) (hc : 0 ≤ c) : 0 ≤ isum c (plT C k) ∧ isum c (plT C k) ≤ c := by
  have := isum_b (n := c) (g := plT C k) 0 1 hc (fun o _ _ => by unfold plT; split <;> omega)
  omega
theorem np_lt {C : sF} {c k k2 : Int} (hk : 0 ≤ k ∧ k < c) (h : C k < C k2) : isum c (plT C k) + 1 ≤ isum c (plT C k2) := by
  refine isum_up (fun o a b => ?_) k hk ?_
  · unfold plT
    by_cases q : C o < C k
    · rw [if_pos q, if_pos (by omega)]; omega
    · rw [if_neg q]; split <;> omega
  · unfold plT
    rw [if_neg (by omega), if_pos h]
    omega
def dsP (C : sF) (c : Int) : Prop := (∀ o, 0 ≤ o → o < c → 1 ≤ C o ∧ C o < 531441) ∧ ∀ o p, 0 ≤ o → o < c → 0 ≤ p → p < c → C o = C p → o = p
theorem np_inj {C : sF} {c k k2 : Int} (hd : dsP C c) (hk : 0 ≤ k ∧ k < c) (hk2 : 0 ≤ k2 ∧ k2 < c) (h : isum c (plT C k) = isum c (plT C k2)) : k = k2 := by
  rcases Int.lt_trichotomy (C k) (C k2) with q | q | q
  · have := np_lt (c := c) hk q; omega
  · exact hd.2 k k2 hk.1 hk.2 hk2.1 hk2.2 q
  · have := np_lt (c := c) hk2 q; omega
/-- k is the first behind y -/
def rbP (C : sF) (c y k : Int) : Prop := (0 ≤ k ∧ k < c) ∧ y < C k ∧ ∀ o, 0 ≤ o → o < c → y < C o → C k ≤ C o
theorem rb_ex {C : sF} {c y : Int} (hd : dsP C c) (h : ∃ o, 0 ≤ o ∧ o < c ∧ y < C o) : ∃ k, rbP C c y k := by
  obtain ⟨o, a, b, d⟩ := h
  rcases idx_cases (fun v => ∃ k, 0 ≤ k ∧ k < c ∧ C k = v ∧ y < v) 531441 with ⟨-, q⟩ | ⟨q1, q2, ⟨k, k1, k2, k3, k4⟩, q4⟩
  · have := hd.1 o a b
    exact absurd ⟨o, a, b, rfl, d⟩ (q (C o) (by omega) (by omega))
  · refine ⟨k, ⟨k1, k2⟩, by omega, fun p u v w => ?_⟩
    rcases Int.lt_or_le (C p) (C k) with r | r
    · have := hd.1 p u v
      exact absurd ⟨p, u, v, rfl, w⟩ (q4 (C p) (by omega) (by omega))
    · exact r
def leC (C : sF) (y o : Int) : Int := if C o ≤ y then 1 else 0
theorem np_rb {C : sF} {c y k : Int} (h : rbP C c y k) : isum c (plT C k) = isum c (leC C y) := isum_c fun o a b => by
  unfold plT leC
  by_cases q : C o ≤ y
  · rw [if_pos q, if_pos (by have := h.2.1; omega)]
  · have := h.2.2 o a b (by omega)
    rw [if_neg q, if_neg (by omega)]
theorem np_nx {C : sF} {c k : Int} (hd : dsP C c) (hk : 0 ≤ k ∧ k < c) : isum c (leC C (C k)) = isum c (plT C k) + 1 := by
  have h := isum_one (n := c) (g := plT C k) (g' := leC C (C k)) k hk (fun o a b e => by
    unfold plT leC
    by_cases q : C o < C k
    · rw [if_pos q, if_pos (by omega)]
    · rw [if_neg q, if_neg (fun r => e (hd.2 o k a b hk.1 hk.2 (by omega)))])
  rw [h]
  unfold plT leC
  rw [if_pos (Int.le_refl _), if_neg (by omega)]
  omega
theorem np_ex {C : sF} {c : Int} (hd : dsP C c) (x : Int) (hx : 0 ≤ x ∧ x < c) : ∃ k, (0 ≤ k ∧ k < c) ∧ isum c (plT C k) = x := by
  have key : ∀ m : Nat, (m : Int) < c → ∃ k, (0 ≤ k ∧ k < c) ∧ isum c (plT C k) = (m : Int) := by
    intro m
    induction m with
    | zero =>
      intro h
      obtain ⟨k, hk⟩ := rb_ex (y := 0) hd ⟨0, by omega, by omega, by have := hd.1 0 (by omega) (by omega); omega⟩
      refine ⟨k, hk.1, ?_⟩
      rw [np_rb hk]
      exact isum_z fun o a b => if_neg (by have := hd.1 o a b; omega)
    | succ m ih =>
      intro h
      obtain ⟨k, hk, hm⟩ := ih (by omega)
      have h1 := np_nx hd hk
      have h2 : ∃ o, 0 ≤ o ∧ o < c ∧ C k < C o := by
        refine Classical.not_not.mp fun q => ?_
        have h3 : isum c (leC C (C k)) = isum c (fun _ => 1) := isum_c fun o a b => if_pos (by
          rcases Int.lt_or_le (C k) (C o) with r | r
          · exact absurd ⟨o, a, b, r⟩ q
          · exact r)
        have h4 := isum_b (n := c) (g := fun _ => 1) 1 1 (by omega) (fun _ _ _ => ⟨Int.le_refl _, Int.le_refl _⟩)
        omega
      obtain ⟨k2, hk2⟩ := rb_ex hd h2
      exact ⟨k2, hk2.1, by rw [np_rb hk2]; omega⟩
  have := key x.toNat (by omega)
  rw [show ((x.toNat : Nat) : Int) = x by omega] at this
  exact this
noncomputable def eoI (C : sF) (c x : Int) : Int := idx (fun k => isum c (plT C k) = x) c
theorem eo_i {C : sF} {c : Int} (hd : dsP C c) (x : Int) (hx : 0 ≤ x ∧ x < c) : (0 ≤ eoI C c x ∧ eoI C c x < c) ∧ isum c (plT C (eoI C c x)) = x := by
  obtain ⟨k, hk, e⟩ := np_ex hd x hx
  rcases idx_cases (fun k => isum c (plT C k) = x) c with ⟨-, q⟩ | ⟨q1, q2, q3, -⟩
  · exact absurd e (q k hk.1 hk.2)
  · exact ⟨⟨q1, q2⟩, q3⟩
theorem eo_u {C : sF} {c : Int} (hd : dsP C c) {x k : Int} (hk : 0 ≤ k ∧ k < c) (e : isum c (plT C k) = x) : k = eoI C c x := by
  have h := np_r C c k (by omega)
  rcases idx_cases (fun k => isum c (plT C k) = x) c with ⟨-, q⟩ | ⟨q1, q2, q3, -⟩
  · exact absurd e (q k hk.1 hk.2)
  · exact np_inj hd hk ⟨q1, q2⟩ (e.trans q3.symm)
/-! A stone more. -/
theorem cm_o {f : sF} {c k z w v i : Int} (h : i ≠ f 568 ∧ i ≠ 10 + f 568 ∧ i ≠ 20 + f 568 ∧ i ≠ 30 + f 568 ∧ i ≠ 40 + f 568 ∧ i ≠ 50 + f 568 ∧ i ≠ 60 + f 568 ∧ i ≠ 568) : comF f c k z w v i = f i := by
  unfold comF iup
  (repeat (first | rw [if_pos (by omega)] | rw [if_neg (by omega)]))
theorem cm_w {f : sF} {c k z w v : Int} (h : 0 ≤ f 568 ∧ f 568 ≤ 9) : comF f c k z w v (f 568) = c ∧ comF f c k z w v (10 + f 568) = k ∧ comF f c k z w v (20 + f 568) = z ∧ comF f c k z w v (30 + f 568) = w ∧ comF f c k z w v (40 + f 568) = v ∧ comF f c k z w v (50 + f 568) = -1 ∧ comF f c k z w v (60 + f 568) = 5000 ∧ comF f c k z w v 568 = f 568 + 1 := by
  unfold comF iup
  refine ⟨?_, ?_, ?_, ?_, ?_, ?_, ?_, ?_⟩ <;> (repeat (first | rw [if_pos (by omega)] | rw [if_neg (by omega)]))
theorem ok_com {f : sF} {c k z w v : Int} (h : sOk f) (hn : f 568 ≤ 9) (hc : 1 ≤ c ∧ c < 531441) (hi : ∀ q, 0 ≤ q → q < f 568 → f q ≠ c) (hu : nuP k z w v) : sOk (comF f c k z w v) := by
  have h0 := sOk_N h
  obtain ⟨w1, w2, w3, w4, w5, w6, w7, w8⟩ := cm_w (c := c) (k := k) (z := z) (w := w) (v := v) (show 0 ≤ f 568 ∧ f 568 ≤ 9 by omega)
  have co : ∀ i, (i < 0 ∨ 70 ≤ i) → i ≠ 568 → comF f c k z w v i = f i := fun i a b => cm_o (by omega)
  unfold nuP at hu
  refine ⟨?_, ?_, ?_, ?_, ⟨?_, ?_⟩, ?_, ?_, ?_, ?_⟩
  · rw [show okN (comF f c k z w v) = ((0 ≤ comF f c k z w v 568 ∧ comF f c k z w v 568 ≤ 10) ∧ (0 ≤ comF f c k z w v 569 ∧ comF f c k z w v 569 ≤ 40) ∧ (0 ≤ comF f c k z w v 570 ∧ comF f c k z w v 570 ≤ 60) ∧ (0 ≤ comF f c k z w v 571 ∧ comF f c k z w v 571 ≤ 1000) ∧ (0 ≤ comF f c k z w v 572 ∧ comF f c k z w v 572 ≤ 20) ∧ (0 ≤ comF f c k z w v 573 ∧ comF f c k z w v 573 ≤ 8)) from rfl, w8, co 569 (by omega) (by omega), co 570 (by omega) (by omega), co 571 (by omega) (by omega), co 572 (by omega) (by omega), co 573 (by omega) (by omega)]
    omega
  · intro s a b
    rw [w8] at b
    unfold okS
    by_cases e : s = f 568
    · rw [e, w1, w2, w3, w4, w5, w6, w7]
      omega
    · have hs := sOk_S h s a (by omega)
      rw [cm_o (f := f) (i := s) (by omega), cm_o (f := f) (i := 10 + s) (by omega), cm_o (f := f) (i := 20 + s) (by omega), cm_o (f := f) (i := 30 + s) (by omega), cm_o (f := f) (i := 40 + s) (by omega), cm_o (f := f) (i := 50 + s) (by omega), cm_o (f := f) (i := 60 + s) (by omega)]
      exact hs
  · intro s a b
    rw [co 569 (by omega) (by omega)] at b
    have hs := sOk_C h s a b
    unfold okC
    rw [co (70 + s) (by omega) (by omega), co (110 + s) (by omega) (by omega), w8]
    omega
  · intro s a b
    have hs := sOk_D h s a b
    unfold okD
    rw [co (150 + s) (by omega) (by omega), co (154 + s) (by omega) (by omega)]
    exact hs
  · intro s a b
    have hs := sOk_P h s a b
    unfold okP
    rw [co (158 + s) (by omega) (by omega)]
    exact hs
  · intro i j a b d e
    rw [co (158 + i) (by omega) (by omega), co (158 + j) (by omega) (by omega)]
    exact sOk_Ps h i j a b d e
  · intro s a b
    rw [co 570 (by omega) (by omega)] at b
    have hs := sOk_T h s a b
    unfold okT
    rw [co (164 + s) (by omega) (by omega), co (224 + s) (by omega) (by omega), co (284 + s) (by omega) (by omega), co (344 + s) (by omega) (by omega), co (404 + s) (by omega) (by omega), co 571 (by omega) (by omega), w8]
    exact ⟨by omega, hs.2.1, by omega, by omega, by omega⟩
  · intro s a b
    rw [co 572 (by omega) (by omega)] at b
    have hs := sOk_W h s a b
    unfold okW
    rw [co (464 + s) (by omega) (by omega), co (484 + s) (by omega) (by omega), co (504 + s) (by omega) (by omega), co (524 + s) (by omega) (by omega), w8]
    exact ⟨by omega, hs.2.1, by omega, by omega, by omega⟩
  · intro s a b
    rw [co 573 (by omega) (by omega)] at b
    have hs := sOk_O h s a b
    unfold okO
    rw [co (544 + s) (by omega) (by omega), co (552 + s) (by omega) (by omega), co (560 + s) (by omega) (by omega)]
    exact hs
  · intro s o a b d e r
    rw [w8] at b e
    by_cases e1 : s = f 568
    · by_cases e2 : o = f 568
      · omega
      · rw [e1, w1, cm_o (f := f) (i := o) (by omega)] at r
        exact absurd r.symm (hi o d (by omega))
    · by_cases e2 : o = f 568
      · rw [e2, w1, cm_o (f := f) (i := s) (by omega)] at r
        exact absurd r (hi s a (by omega))
      · rw [cm_o (f := f) (i := s) (by omega), cm_o (f := f) (i := o) (by omega)] at r
        exact sOk_i h s o a (by omega) d (by omega) r
/-- the numbers of a stone raised to those of an entry, w of the four -/
def raN (g V : sF) (e s : Int) : Nat → sF
  | 0 => g
  | j + 1 => iup (raN g V e s j) (10 + 10 * (j : Int) + s) (max (g (10 + 10 * (j : Int) + s)) (V (4 * e + (j : Int))))
theorem ra_s (g V : sF) (e s j : Int) (h : 0 ≤ j) : raN g V e s (j + 1).toNat = iup (raN g V e s j.toNat) (10 + 10 * j + s) (max (g (10 + 10 * j + s)) (V (4 * e + j))) := by
  rw [show (j + 1).toNat = j.toNat + 1 by omega]
  show iup _ (10 + 10 * ((j.toNat : Nat) : Int) + s) (max (g (10 + 10 * ((j.toNat : Nat) : Int) + s)) (V (4 * e + ((j.toNat : Nat) : Int)))) = _
  rw [show ((j.toNat : Nat) : Int) = j by omega]
theorem ra_o {g V : sF} {e s q : Int} : ∀ j : Nat, (∀ x : Int, 0 ≤ x → x < (j : Int) → q ≠ 10 + 10 * x + s) → raN g V e s j q = g q := by
  intro j
  induction j with
  | zero => intro _; rfl
  | succ j ih =>
    intro h
    show iup _ _ _ q = _
    unfold iup
    rw [if_neg (h (j : Int) (by omega) (by omega))]
    exact ih fun x a b => h x a (by omega)
theorem ra_v {g V : sF} {e s x : Int} (hx : 0 ≤ x) : ∀ j : Nat, x < (j : Int) → raN g V e s j (10 + 10 * x + s) = max (g (10 + 10 * x + s)) (V (4 * e + x)) := by
  intro j
  induction j with
  | zero => intro h; omega
  | succ j ih =>
    intro h
    show iup _ _ _ _ = _
    unfold iup
    by_cases q : x = (j : Int)
    · rw [if_pos (by omega), q]
    · rw [if_neg (by omega)]
      exact ih (by omega)
theorem iup_id (g : sF) (i : Int) : iup g i (g i) = g := by
  funext q
  unfold iup
  split
  · rename_i e; rw [e]
  · rfl
theorem ok_ra {f V : sF} {e s : Int} (h : sOk f) (hs : 0 ≤ s ∧ s < f 568) (hv : ∀ q, 0 ≤ q → q < 4 → irP q (V (4 * e + q))) : sOk (raN f V e s 4) := by
  have h0 := sOk_N h
  have co : ∀ i, (i < 10 ∨ 50 ≤ i) → raN f V e s 4 i = f i := fun i a => ra_o 4 fun x b c => by omega
  have w8 := co 568 (by omega)
  refine ⟨?_, ?_, ?_, ?_, ⟨?_, ?_⟩, ?_, ?_, ?_, ?_⟩
  · unfold okN
    rw [w8, co 569 (by omega), co 570 (by omega), co 571 (by omega), co 572 (by omega), co 573 (by omega)]
    exact h0
  · intro t a b
    rw [w8] at b
    have ht := sOk_S h t a b
    unfold okS
    rw [co t (by omega), co (50 + t) (by omega), co (60 + t) (by omega)]
    by_cases e9 : t = s
    · have v0 := hv 0 (by omega) (by omega)
      have v1 := hv 1 (by omega) (by omega)
      have v2 := hv 2 (by omega) (by omega)
      have v3 := hv 3 (by omega) (by omega)
      have r0 := ra_v (g := f) (V := V) (e := e) (s := s) (x := 0) (by omega) 4 (by omega)
      have r1 := ra_v (g := f) (V := V) (e := e) (s := s) (x := 1) (by omega) 4 (by omega)
      have r2 := ra_v (g := f) (V := V) (e := e) (s := s) (x := 2) (by omega) 4 (by omega)
      have r3 := ra_v (g := f) (V := V) (e := e) (s := s) (x := 3) (by omega) 4 (by omega)
      rw [show (10 + 10 * 0 + s : Int) = 10 + s by omega] at r0
      rw [show (10 + 10 * 1 + s : Int) = 20 + s by omega] at r1
      rw [show (10 + 10 * 2 + s : Int) = 30 + s by omega] at r2
      rw [show (10 + 10 * 3 + s : Int) = 40 + s by omega] at r3
      rw [e9] at ht ⊢
      rw [r0, r1, r2, r3]
      unfold irP at v0 v1 v2 v3
      unfold okS at ht
      omega
    · rw [ra_o (g := f) (q := 10 + t) 4 (fun x c d => by omega), ra_o (g := f) (q := 20 + t) 4 (fun x c d => by omega), ra_o (g := f) (q := 30 + t) 4 (fun x c d => by omega), ra_o (g := f) (q := 40 + t) 4 (fun x c d => by omega)]
      exact ht
  · intro t a b
    rw [co 569 (by omega)] at b
    unfold okC
    rw [co (70 + t) (by omega), co (110 + t) (by omega), w8]
    exact sOk_C h t a b
  · intro t a b
    unfold okD
    rw [co (150 + t) (by omega), co (154 + t) (by omega)]
    exact sOk_D h t a b
  · intro t a b
    unfold okP
    rw [co (158 + t) (by omega)]
    exact sOk_P h t a b
  · intro i j a b d e
    rw [co (158 + i) (by omega), co (158 + j) (by omega)]
    exact sOk_Ps h i j a b d e
  · intro t a b
    rw [co 570 (by omega)] at b
    unfold okT
    rw [co (164 + t) (by omega), co (224 + t) (by omega), co (284 + t) (by omega), co (344 + t) (by omega), co (404 + t) (by omega), co 571 (by omega), w8]
    exact sOk_T h t a b
  · intro t a b
    rw [co 572 (by omega)] at b
    unfold okW
    rw [co (464 + t) (by omega), co (484 + t) (by omega), co (504 + t) (by omega), co (524 + t) (by omega), w8]
    exact sOk_W h t a b
  · intro t a b
    rw [co 573 (by omega)] at b
    unfold okO
    rw [co (544 + t) (by omega), co (552 + t) (by omega), co (560 + t) (by omega)]
    exact sOk_O h t a b
  · intro t o a b d e r
    rw [w8] at b e
    rw [co t (by omega), co o (by omega)] at r
    exact sOk_i h t o a b d e r
/-! Entries joined, in the order of codes. -/
noncomputable def joX (C V : sF) (e : Int) (g : sF) : sF := if idx (fun q => g q = C e) (g 568) = -1 then comF g (C e) (V (4 * e)) (V (4 * e + 1)) (V (4 * e + 2)) (V (4 * e + 3)) else raN g V e (idx (fun q => g q = C e) (g 568)) 4
noncomputable def jnS (C V : sF) (c : Int) (f : sF) : Nat → sF
  | 0 => f
  | x + 1 => joX C V (eoI C c (x : Int)) (jnS C V c f x)
theorem jnS_s (C V : sF) (c : Int) (f : sF) (x : Int) (h : 0 ≤ x) : jnS C V c f (x + 1).toNat = joX C V (eoI C c x) (jnS C V c f x.toNat) := by
  rw [show (x + 1).toNat = x.toNat + 1 by omega]
  show joX C V (eoI C c ((x.toNat : Nat) : Int)) _ = _
  rw [show ((x.toNat : Nat) : Int) = x by omega]
/-- no room for an entry -/
def jnU (C V : sF) (c : Int) (f : sF) (x : Int) : Prop := idx (fun q => jnS C V c f x.toNat q = C (eoI C c x)) (jnS C V c f x.toNat 568) = -1 ∧ jnS C V c f x.toNat 568 = 10
theorem rcO_d {C V : sF} {c : Int} (h : rcO 0 c C V) : dsP C c ∧ ∀ o q, 0 ≤ o → o < c → 0 ≤ q → q < 4 → irP q (V (4 * o + q)) := by
  obtain ⟨o1, o2, o3, o4, o5⟩ := h
  rw [if_pos rfl] at o3 o4 o5
  refine ⟨⟨fun o a b => o3 o a (by omega), fun o p a b d e r => ?_⟩, fun o q a b d e => o5 o q a (by omega) d e (by omega)⟩
  rcases Int.lt_trichotomy o p with t | t | t
  · exact absurd r (o4 o p a t (by omega))
  · exact t
  · exact absurd r.symm (o4 p o d t (by omega))
theorem ok_jo {C V g : sF} {c e : Int} (hO : rcO 0 c C V) (he : 0 ≤ e ∧ e < c) (h : sOk g) (hf : ¬ (idx (fun q => g q = C e) (g 568) = -1 ∧ g 568 = 10)) : sOk (joX C V e g) := by
  have hd := rcO_d hO
  have h0 := sOk_N h
  have hv := hd.2 e
  have hc := hd.1.1 e he.1 he.2
  unfold joX
  rcases idx_cases (fun q => g q = C e) (g 568) with ⟨q1, q2⟩ | ⟨q1, q2, q3, q4⟩
  · rw [if_pos q1]
    have v0 := hv 0 he.1 he.2 (by omega) (by omega)
    have v1 := hv 1 he.1 he.2 (by omega) (by omega)
    have v2 := hv 2 he.1 he.2 (by omega) (by omega)
    have v3 := hv 3 he.1 he.2 (by omega) (by omega)
    rw [show 4 * e + 0 = 4 * e by omega] at v0
    unfold irP at v0 v1 v2 v3
    exact ok_com h (by omega) hc q2 (by unfold nuP; omega)
  · rw [if_neg (by omega)]
    exact ok_ra h ⟨q1, q2⟩ (fun q a b => hv q he.1 he.2 a b)
theorem ok_jn {C V f : sF} {c : Int} (hO : rcO 0 c C V) (h : sOk f) (x : Int) (hx : 0 ≤ x ∧ x ≤ c) (hf : ∀ y, 0 ≤ y → y < x → ¬ jnU C V c f y) : sOk (jnS C V c f x.toNat) := by
  have key : ∀ m : Nat, (m : Int) ≤ x → sOk (jnS C V c f m) := by
    intro m
    induction m with
    | zero => intro _; exact h
    | succ m ih =>
      intro hm
      have he := (eo_i (rcO_d hO).1 (m : Int) (by omega)).1
      exact ok_jo hO he (ih (by omega)) (hf (m : Int) (by omega) (by omega))
  exact key x.toNat (by omega)
theorem jo_o {C V g : sF} {e q : Int} (h : sOk g) (hf : ¬ (idx (fun q => g q = C e) (g 568) = -1 ∧ g 568 = 10)) (hq : q < 0 ∨ 70 ≤ q ∧ q ≠ 568) : joX C V e g q = g q := by
  have h0 := sOk_N h
  unfold joX
  rcases idx_cases (fun q => g q = C e) (g 568) with ⟨q1, q2⟩ | ⟨q1, q2, q3, q4⟩
  · rw [if_pos q1]
    exact cm_o (by omega)
  · rw [if_neg (by omega)]
    exact ra_o 4 fun x a b => by omega
theorem jn_o {C V f : sF} {c : Int} (hO : rcO 0 c C V) (h : sOk f) (x : Int) (hx : 0 ≤ x ∧ x ≤ c) (hf : ∀ y, 0 ≤ y → y < x → ¬ jnU C V c f y) (q : Int) (hq : q < 0 ∨ 70 ≤ q ∧ q ≠ 568) : jnS C V c f x.toNat q = f q := by
  have key : ∀ m : Nat, (m : Int) ≤ x → jnS C V c f m q = f q := by
    intro m
    induction m with
    | zero => intro _; rfl
    | succ m ih =>
      intro hm
      have h1 := ok_jn hO h (m : Int) (by omega) (fun y a b => hf y a (by omega))
      rw [Int.toNat_natCast] at h1
      show joX C V (eoI C c (m : Int)) (jnS C V c f m) q = _
      rw [jo_o h1 (hf (m : Int) (by omega) (by omega)) hq]
      exact ih (by omega)
  exact key x.toNat (by omega)
def drF (g : sF) : sF := fun q => g (50 + q)
def jnB (g : sF) : Prop := ∃ y, 0 ≤ y ∧ y < g 568 ∧ g (50 + y) ≠ -1 ∧ whyM g (drF g) y (g 568) ≠ 0
def jnK (C V : sF) (c : Int) (f : sF) : Prop := (∀ y, 0 ≤ y → y < c → ¬ jnU C V c f y) ∧ ¬ jnB (jnS C V c f c.toNat)
noncomputable def jnI (C V : sF) (c : Int) (f : sF) : Int := pif (jnK C V c f) (jnS C V c f c.toNat 568 - f 568) (-1)
theorem ra_com {g V : sF} {e : Int} (c : Int) (h : 0 ≤ g 568 ∧ g 568 ≤ 9) : raN (comF g c (V (4 * e)) (V (4 * e + 1)) (V (4 * e + 2)) (V (4 * e + 3))) V e (g 568) 4 = comF g c (V (4 * e)) (V (4 * e + 1)) (V (4 * e + 2)) (V (4 * e + 3)) := by
  obtain ⟨w1, w2, w3, w4, w5, w6, w7, w8⟩ := cm_w (c := c) (k := V (4 * e)) (z := V (4 * e + 1)) (w := V (4 * e + 2)) (v := V (4 * e + 3)) h
  generalize comF g c (V (4 * e)) (V (4 * e + 1)) (V (4 * e + 2)) (V (4 * e + 3)) = F at w2 w3 w4 w5 ⊢
  have a0 : iup F (10 + 10 * ((0 : Nat) : Int) + g 568) (max (F (10 + 10 * ((0 : Nat) : Int) + g 568)) (V (4 * e + ((0 : Nat) : Int)))) = F := by
    rw [show (10 + 10 * ((0 : Nat) : Int) + g 568) = 10 + g 568 by omega, show 4 * e + ((0 : Nat) : Int) = 4 * e by omega, ← w2, show max (F (10 + g 568)) (F (10 + g 568)) = F (10 + g 568) by omega]
    exact iup_id F _
  have a1 : iup F (10 + 10 * ((1 : Nat) : Int) + g 568) (max (F (10 + 10 * ((1 : Nat) : Int) + g 568)) (V (4 * e + ((1 : Nat) : Int)))) = F := by
    rw [show (10 + 10 * ((1 : Nat) : Int) + g 568) = 20 + g 568 by omega, show 4 * e + ((1 : Nat) : Int) = 4 * e + 1 by omega, ← w3, show max (F (20 + g 568)) (F (20 + g 568)) = F (20 + g 568) by omega]
    exact iup_id F _
  have a2 : iup F (10 + 10 * ((2 : Nat) : Int) + g 568) (max (F (10 + 10 * ((2 : Nat) : Int) + g 568)) (V (4 * e + ((2 : Nat) : Int)))) = F := by
    rw [show (10 + 10 * ((2 : Nat) : Int) + g 568) = 30 + g 568 by omega, show 4 * e + ((2 : Nat) : Int) = 4 * e + 2 by omega, ← w4, show max (F (30 + g 568)) (F (30 + g 568)) = F (30 + g 568) by omega]
    exact iup_id F _
  have a3 : iup F (10 + 10 * ((3 : Nat) : Int) + g 568) (max (F (10 + 10 * ((3 : Nat) : Int) + g 568)) (V (4 * e + ((3 : Nat) : Int)))) = F := by
    rw [show (10 + 10 * ((3 : Nat) : Int) + g 568) = 40 + g 568 by omega, show 4 * e + ((3 : Nat) : Int) = 4 * e + 3 by omega, ← w5, show max (F (40 + g 568)) (F (40 + g 568)) = F (40 + g 568) by omega]
    exact iup_id F _
  have b1 : raN F V e (g 568) 1 = F := a0
  have b2 : raN F V e (g 568) 2 = F := by
    show iup (raN F V e (g 568) 1) _ _ = F
    rw [b1]; exact a1
  have b3 : raN F V e (g 568) 3 = F := by
    show iup (raN F V e (g 568) 2) _ _ = F
    rw [b2]; exact a2
  show iup (raN F V e (g 568) 3) _ _ = F
  rw [b3]; exact a3

abbrev rmX11_newPlace : Room := { frames := 1, cells := 0, slots := 0, locals := 40 }
set_option maxHeartbeats 4000000 in
set_option maxRecDepth 100000 in
theorem kX11_newPlace (l_ : Launch) (G : sG) (b_ : Nat) (M : sM) (N : Nat) (m : Nat) (th ch tn ea sn nm wn : Int) (C cc : sF) (k : Int) (hm0 : M m = some (mO m th ch tn ea sn nm wn)) (hm12 : M (m + 12) = some (sArr G 60 cc)) (hnm : 0 ≤ nm ∧ nm ≤ 50) (hk : 0 ≤ k ∧ k < nm) (hC : ∀ o, 0 ≤ o → o < nm → cc o = C o) (hCr : ∀ o, 0 ≤ o → o < nm → 1 ≤ C o ∧ C o < 531441) : cP l_ yX11_newPlace wsX11_newPlace rmX11_newPlace G b_ M N [.ref m, .int (sI k)] (isum nm (plT C k)) := by
  refine sE.ofI (cc := cX11_newPlace) (nL := 4) (ret := (some .int)) (by decide) rfl (Nat.le_of_ble_eq_true rfl) ?_
  intro p_ e_ s_ m_ args_ below_ meth_ c_ ls Q hQ E hl
  have E : sE p_ l_ e_ rmX11_newPlace s_ m_ args_ below_ meth_ c_ cX11_newPlace 4 wsX11_newPlace RX11 "newPlace" (some .int) G b_ M N := E
  have S := E.1
  have hx_ := S.1
  have hb_ := S.2.1
  have hK := E.2.2.2.2.1
  have hV := E.2.2.2.2.2.2
  have hl : lv_has ls 4 [(0, .ref m), (1, .int (sI k))] := hl
  have inX11_ : ∀ w ∈ wsX110, w ∈ wsX11_newPlace := fun _ h => List.mem_cons_of_mem _ (List.mem_append_right _ h)
  refine si_const S dX11_newPlace_0 ?_
  refine lv_istore_n (lv' := [(2, .int (sI 0)), (0, .ref m), (1, .int (sI k))]) hx_ hb_ dX11_newPlace_1 rfl hl (by decide) rfl (fun ls hl => ?_)
  refine si_const S dX11_newPlace_2 ?_
  refine lv_istore_n (lv' := [(3, .int (sI 0)), (2, .int (sI 0)), (0, .ref m), (1, .int (sI k))]) hx_ hb_ dX11_newPlace_3 rfl hl (by decide) rfl (fun ls hl => ?_)
  have L4 : ∀ (fuel : Nat) (n : Int) (i : Int)  (H : Heap) (locs : List Loc) (ls : Array Slot), ((nm - i).toNat) < fuel → (0 ≤ i ∧ i ≤ nm) → (n = isum i (plT C k)) → sV G b_ M N s_ H locs → lv_has ls 4 [(0, .ref m), (1, .int (sI k)), (2, .int (sI n)), (3, .int (sI i))] → W p_ l_ e_ rmX11_newPlace s_ m_ args_ below_ meth_ c_ H locs 0 0 Q (F0 m_ 4 ls []) := by
    intro fuel
    induction fuel with
    | zero => intro n i H locs ls hmu; exact absurd hmu (Nat.not_lt_zero _)
    | succ fuel ih4 =>
      intro n i H locs ls hmu4 hv4_0 hn  hV hl
      refine lv_iload_n hx_ hb_ dX11_newPlace_4 rfl (lv_at hl 3 rfl) ?_
      refine lv_aload_n hx_ hb_ dX11_newPlace_5 rfl (lv_at hl 0 rfl) ?_
      refine sc_get (ci := 9) (C := RX11) (T := TX11) (n := 22) S hK hV inX11_ hm0 rfl 18 (by decide) (S.2.2.2.2 _ (List.mem_of_getElem? (i := 1) rfl)) rfl rfl dX11_newPlace_6 ?_
      refine sb_ge (tgt := 41) S dX11_newPlace_9 (by decide) (by omega) (fun c1 => ?_) (fun c1 => ?_)
      · refine lv_iload_n hx_ hb_ dX11_newPlace_41 rfl (lv_at hl 2 rfl) ?_
        exact sr_i E hQ dX11_newPlace_42 ⟨Nat.le_of_ble_eq_true rfl, Nat.le_of_ble_eq_true rfl⟩ hV (⟨by rw [hn, show i = nm by omega], rfl, rfl⟩)
      · refine lv_iload_n hx_ hb_ dX11_newPlace_12 rfl (lv_at hl 2 rfl) ?_
        refine lv_aload_n hx_ hb_ dX11_newPlace_13 rfl (lv_at hl 0 rfl) ?_
        refine sc_get (ci := 9) (C := RX11) (T := TX11) (n := 22) S hK hV inX11_ hm0 rfl 16 (by decide) (S.2.2.2.2 _ (List.mem_of_getElem? (i := 2) rfl)) rfl rfl dX11_newPlace_14 ?_
        refine lv_iload_n hx_ hb_ dX11_newPlace_17 rfl (lv_at hl 3 rfl) ?_
        refine sc_iald S hK hV hm12 (by omega) dX11_newPlace_18 ?_
        rw [show cc i = C i from hC i (by omega) (by omega)]
        have kn2 := hCr i (by omega) (by omega)
        refine lv_aload_n hx_ hb_ dX11_newPlace_19 rfl (lv_at hl 0 rfl) ?_
        refine sc_get (ci := 9) (C := RX11) (T := TX11) (n := 22) S hK hV inX11_ hm0 rfl 16 (by decide) (S.2.2.2.2 _ (List.mem_of_getElem? (i := 2) rfl)) rfl rfl dX11_newPlace_20 ?_
        refine lv_iload_n hx_ hb_ dX11_newPlace_23 rfl (lv_at hl 1 rfl) ?_
        refine sc_iald S hK hV hm12 (by omega) dX11_newPlace_24 ?_
        rw [show cc k = C k from hC k (by omega) (by omega)]
        have kn3 := hCr k (by omega) (by omega)
        refine sb_ge (tgt := 32) S dX11_newPlace_25 (by decide) (by omega) (fun c4 => ?_) (fun c4 => ?_)
        · refine si_const S dX11_newPlace_32 ?_
          refine si_add S dX11_newPlace_33 ?_
          refine lv_istore_n (lv' := [(2, .int (sI (n + 0))), (0, .ref m), (1, .int (sI k)), (3, .int (sI i))]) hx_ hb_ dX11_newPlace_34 rfl hl (by decide) rfl (fun ls hl => ?_)
          refine si_inc (lv' := [(3, .int (sI (i + 1))), (2, .int (sI (n + 0))), (0, .ref m), (1, .int (sI k))]) S dX11_newPlace_35 hl (k := 3) rfl (by decide) rfl (fun ls hl => ?_)
          refine lv_goto (tgt := 4) hx_ hb_ dX11_newPlace_38 (by decide) ?_
          exact ih4 (n + 0) (i + 1) _ _ _ (by omega) (by omega) (by have e := isum_s (plT C k) (show 0 ≤ i by omega); have e2 : plT C k i = if C i < C k then 1 else 0 := rfl; split at e2 <;> omega) hV (lv_sub hl [2, 3, 1, 0] rfl)
        · refine si_const S dX11_newPlace_28 ?_
          refine lv_goto (tgt := 33) hx_ hb_ dX11_newPlace_29 (by decide) ?_
          refine si_add S dX11_newPlace_33 ?_
          refine lv_istore_n (lv' := [(2, .int (sI (n + 1))), (0, .ref m), (1, .int (sI k)), (3, .int (sI i))]) hx_ hb_ dX11_newPlace_34 rfl hl (by decide) rfl (fun ls hl => ?_)
          refine si_inc (lv' := [(3, .int (sI (i + 1))), (2, .int (sI (n + 1))), (0, .ref m), (1, .int (sI k))]) S dX11_newPlace_35 hl (k := 3) rfl (by decide) rfl (fun ls hl => ?_)
          refine lv_goto (tgt := 4) hx_ hb_ dX11_newPlace_38 (by decide) ?_
          exact ih4 (n + 1) (i + 1) _ _ _ (by omega) (by omega) (by have e := isum_s (plT C k) (show 0 ≤ i by omega); have e2 : plT C k i = if C i < C k then 1 else 0 := rfl; split at e2 <;> omega) hV (lv_sub hl [2, 3, 1, 0] rfl)
  exact L4 _ 0 0 _ _ _ (Nat.lt_succ_self _) (by omega) (rfl) hV (lv_sub hl [2, 3, 1, 0] rfl)
