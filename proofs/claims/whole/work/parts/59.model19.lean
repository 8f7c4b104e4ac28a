theorem coN_b {t : sF} {n a : Int} : ∀ k : Nat, 0 ≤ coN t n a k ∧ coN t n a k < ((27 ^ k : Nat) : Int) := by
  intro k
  induction k with
  | zero => exact ⟨Int.le_refl _, by show (0 : Int) < 1; omega⟩
  | succ k ih =>
    have h1 := cdg_r t n a (k : Int) (by omega)
    have h2 : coN t n a (k + 1) = 27 * coN t n a k + cdg t n a (k : Int) := rfl
    have h3 : ((27 ^ (k + 1) : Nat) : Int) = 27 * ((27 ^ k : Nat) : Int) := by rw [Nat.pow_succ]; omega
    rw [h2, h3]
    omega
theorem coA_b (t : sF) (n a : Int) : 0 ≤ coA t n a ∧ coA t n a < 531441 := coN_b 4
/-- a code that begins with a letter isn't 0 -/
theorem coA_p {t : sF} {n a : Int} (h : ltP t n a) : 1 ≤ coA t n a := by
  have h0 : cdg t n a 0 = t a - 97 + 1 := by
    unfold cdg
    rw [pif_t (P := lrun t n a 0) (fun i p q => by rw [show i = a by omega]; exact h), Int.add_zero]
  have h1 := cdg_r t n a 1 (by omega)
  have h2 := cdg_r t n a 2 (by omega)
  have h3 := cdg_r t n a 3 (by omega)
  have h4 := h.2.1
  show 1 ≤ 27 * (27 * (27 * (27 * 0 + cdg t n a 0) + cdg t n a 1) + cdg t n a 2) + cdg t n a 3
  omega
/-- a choice between anything -/
noncomputable def cif {α : Type} (P : Prop) (a b : α) : α := @ite α P (Classical.propDecidable P) a b
theorem cif_t {α : Type} {P : Prop} {a b : α} (h : P) : cif P a b = a := if_pos h
theorem cif_f {α : Type} {P : Prop} {a b : α} (h : ¬ P) : cif P a b = b := if_neg h
/-- how far a property goes on -/
noncomputable def reE (P : Int → Prop) (n a : Int) : Int := if idx (fun k => ¬ P (a + k)) (n - a) = -1 then n else a + idx (fun k => ¬ P (a + k)) (n - a)
theorem reE_eq {P : Int → Prop} {n a e : Int} (h1 : a ≤ e ∧ e ≤ n) (h2 : ∀ i, a ≤ i → i < e → P i) (h3 : e < n → ¬ P e) : reE P n a = e := by
  unfold reE
  by_cases q : e = n
  · rw [idx_none (P := fun k => ¬ P (a + k)) (fun k u v w => w (h2 (a + k) (by omega) (by omega))), if_pos rfl, q]
  · rw [idx_some (P := fun k => ¬ P (a + k)) (z := e - a) (by omega) (by show ¬ P (a + (e - a)); rw [show a + (e - a) = e by omega]; exact h3 (by omega)) (fun k u v w => w (h2 (a + k) (by omega) (by omega))), if_neg (by omega)]
    omega
theorem reE_i {P : Int → Prop} {n a : Int} (h : a ≤ n) : (a ≤ reE P n a ∧ reE P n a ≤ n) ∧ (∀ i, a ≤ i → i < reE P n a → P i) ∧ (reE P n a < n → ¬ P (reE P n a)) := by
  unfold reE
  rcases idx_cases (fun k => ¬ P (a + k)) (n - a) with ⟨q, r⟩ | ⟨q, r, u, v⟩
  · rw [if_pos q]
    exact ⟨by omega, fun i x y => Classical.not_not.mp (by have := r (i - a) (by omega) (by omega); rw [show a + (i - a) = i by omega] at this; exact this), fun x => by omega⟩
  · rw [if_neg (by omega)]
    exact ⟨by omega, fun i x y => Classical.not_not.mp (by have := v (i - a) (by omega) (by omega); rw [show a + (i - a) = i by omega] at this; exact this), fun _ => u⟩
def wsP (t : sF) (i : Int) : Prop := t i = 32 ∨ t i = 10
/-- a number out of digits -/
def dgV (t : sF) (a : Int) : Nat → Int
  | 0 => 0
  | k + 1 => 10 * dgV t a k + t (a + (k : Int)) - 48
theorem dgV_s (t : sF) (a m : Int) (h : 0 ≤ m) : dgV t a (m + 1).toNat = 10 * dgV t a m.toNat + t (a + m) - 48 := by
  rw [show (m + 1).toNat = m.toNat + 1 by omega]
  show 10 * dgV t a m.toNat + t (a + ((m.toNat : Nat) : Int)) - 48 = _
  rw [show ((m.toNat : Nat) : Int) = m by omega]
theorem dgV_b {t : sF} {n a : Int} (m : Nat) (h : ∀ i, a ≤ i → i < a + (m : Int) → dgP t n i) : 0 ≤ dgV t a m ∧ dgV t a m < ((10 ^ m : Nat) : Int) := by
  induction m with
  | zero => exact ⟨Int.le_refl _, by show (0 : Int) < 1; omega⟩
  | succ m ih =>
    have h1 := ih (fun i x y => h i x (by omega))
    have h2 := h (a + (m : Int)) (by omega) (by omega)
    unfold dgP at h2
    have h3 : ((10 ^ (m + 1) : Nat) : Int) = 10 * ((10 ^ m : Nat) : Int) := by rw [Nat.pow_succ]; omega
    show 0 ≤ 10 * dgV t a m + t (a + (m : Int)) - 48 ∧ 10 * dgV t a m + t (a + (m : Int)) - 48 < _
    rw [h3]
    omega
theorem dgV_5 {t : sF} {n a m : Int} (hm : 0 ≤ m ∧ m ≤ 5) (h : ∀ i, a ≤ i → i < a + m → dgP t n i) : 0 ≤ dgV t a m.toNat ∧ dgV t a m.toNat ≤ 99999 := by
  have h1 := dgV_b (t := t) (n := n) (a := a) m.toNat (fun i x y => h i x (by omega))
  have h2 : (10 : Nat) ^ m.toNat ≤ 10 ^ 5 := Nat.pow_le_pow_right (by omega) (by omega)
  have h3 : (10 : Nat) ^ 5 = 100000 := rfl
  omega
/-- a catalogue read on, from a place, in a state, with so many entries -/
noncomputable def rcN (t : sF) (n : Int) : Nat → Int → Int → Int → sF → sF → Int × Int × sF × sF
  | 0, _, _, c, C, V => (0, c, C, V)
  | F + 1, k, j, c, C, V =>
    cif (n ≤ reE (wsP t) n k) (if j = 0 then -1 else n, c, C, V)
    (cif (j = 0) (cif ((1 ≤ reE (ltP t n) n (reE (wsP t) n k) - reE (wsP t) n k ∧ reE (ltP t n) n (reE (wsP t) n k) - reE (wsP t) n k ≤ 4) ∧ ¬ ∃ o, 0 ≤ o ∧ o < c ∧ C o = coA t n (reE (wsP t) n k)) (rcN t n F (reE (ltP t n) n (reE (wsP t) n k)) 1 c (iup C c (coA t n (reE (wsP t) n k))) V) (reE (wsP t) n k, c, C, V))
    (cif (j < 5) (cif ((1 ≤ reE (dgP t n) n (reE (wsP t) n k) - reE (wsP t) n k ∧ reE (dgP t n) n (reE (wsP t) n k) - reE (wsP t) n k ≤ 5) ∧ irP (j - 1) (dgV t (reE (wsP t) n k) (reE (dgP t n) n (reE (wsP t) n k) - reE (wsP t) n k).toNat)) (rcN t n F (reE (dgP t n) n (reE (wsP t) n k)) (j + 1) c C (iup V (4 * c + j - 1) (dgV t (reE (wsP t) n k) (reE (dgP t n) n (reE (wsP t) n k) - reE (wsP t) n k).toNat))) (reE (wsP t) n k, c, C, V))
    (cif (t (reE (wsP t) n k) = 59) (rcN t n F (reE (wsP t) n k + 1) 0 (c + 1) C V) (reE (wsP t) n k, c, C, V))))
section RC
variable {t C V : sF} {n k j c a e : Int} {F : Nat}
theorem rc_end (h : reE (wsP t) n k = a) (ha : n ≤ a) : rcN t n (F + 1) k j c C V = (if j = 0 then -1 else n, c, C, V) := by
  subst h
  exact cif_t ha
theorem rc_0t (h : reE (wsP t) n k = a) (ha : a < n) (hj : j = 0) (he : reE (ltP t n) n a = e) (h1 : 1 ≤ e - a ∧ e - a ≤ 4) (h2 : ¬ ∃ o, 0 ≤ o ∧ o < c ∧ C o = coA t n a) : rcN t n (F + 1) k j c C V = rcN t n F e 1 c (iup C c (coA t n a)) V := by
  subst h
  subst he
  exact (cif_f (by omega)).trans ((cif_t hj).trans (cif_t ⟨h1, h2⟩))
theorem rc_0f (h : reE (wsP t) n k = a) (ha : a < n) (hj : j = 0) (he : reE (ltP t n) n a = e) (h1 : ¬ ((1 ≤ e - a ∧ e - a ≤ 4) ∧ ¬ ∃ o, 0 ≤ o ∧ o < c ∧ C o = coA t n a)) : rcN t n (F + 1) k j c C V = (a, c, C, V) := by
  subst h
  subst he
  exact (cif_f (by omega)).trans ((cif_t hj).trans (cif_f h1))
theorem rc_nt (h : reE (wsP t) n k = a) (ha : a < n) (hj : 1 ≤ j ∧ j < 5) (he : reE (dgP t n) n a = e) (h1 : 1 ≤ e - a ∧ e - a ≤ 5) (h2 : irP (j - 1) (dgV t a (e - a).toNat)) : rcN t n (F + 1) k j c C V = rcN t n F e (j + 1) c C (iup V (4 * c + j - 1) (dgV t a (e - a).toNat)) := by
  subst h
  subst he
  exact (cif_f (by omega)).trans ((cif_f (by omega)).trans ((cif_t hj.2).trans (cif_t ⟨h1, h2⟩)))
theorem rc_nf (h : reE (wsP t) n k = a) (ha : a < n) (hj : 1 ≤ j ∧ j < 5) (he : reE (dgP t n) n a = e) (h1 : ¬ ((1 ≤ e - a ∧ e - a ≤ 5) ∧ irP (j - 1) (dgV t a (e - a).toNat))) : rcN t n (F + 1) k j c C V = (a, c, C, V) := by
  subst h
  subst he
  exact (cif_f (by omega)).trans ((cif_f (by omega)).trans ((cif_t hj.2).trans (cif_f h1)))
theorem rc_5t (h : reE (wsP t) n k = a) (ha : a < n) (hj : 5 ≤ j) (h1 : t a = 59) : rcN t n (F + 1) k j c C V = rcN t n F (a + 1) 0 (c + 1) C V := by
  subst h
  exact (cif_f (by omega)).trans ((cif_f (by omega)).trans ((cif_f (by omega)).trans (cif_t h1)))
theorem rc_5f (h : reE (wsP t) n k = a) (ha : a < n) (hj : 5 ≤ j) (h1 : ¬ t a = 59) : rcN t n (F + 1) k j c C V = (a, c, C, V) := by
  subst h
  exact (cif_f (by omega)).trans ((cif_f (by omega)).trans ((cif_f (by omega)).trans (cif_f h1)))
theorem ws_s (hk : k < n) (h : wsP t k) : reE (wsP t) n k = reE (wsP t) n (k + 1) := by
  have h1 := reE_i (P := wsP t) (n := n) (a := k + 1) (by omega)
  exact reE_eq (by omega) (fun i x y => by by_cases q : i = k; exact (by rw [q]; exact h); exact h1.2.1 i (by omega) y) h1.2.2
theorem ws_0 (hk : k < n) (h : ¬ wsP t k) : reE (wsP t) n k = k := reE_eq (by omega) (fun i x y => by omega) (fun _ => h)
theorem rc_w (hk : k < n) (h : wsP t k) : rcN t n F k j c C V = rcN t n F (k + 1) j c C V := by
  cases F with
  | zero => rfl
  | succ F => unfold rcN; rw [ws_s hk h]
end RC
noncomputable def rcR (t : sF) (n : Int) : Int × Int × sF × sF := rcN t n 302 0 0 0 (fun _ => 0) (fun _ => 0)
noncomputable def rcE (t : sF) (n : Int) : Int := (rcR t n).1
noncomputable def rcK (t : sF) (n : Int) : Int := (rcR t n).2.1
noncomputable def rcC (t : sF) (n : Int) : sF := (rcR t n).2.2.1
noncomputable def rcV (t : sF) (n : Int) : sF := (rcR t n).2.2.2
/-- where one is while reading -/
def rcI (t : sF) (n k j c : Int) (C2 V2 : sF) : Prop := ∃ (F : Nat) (C V : sF), n - k < (F : Int) ∧ rcR t n = rcN t n F k j c C V ∧ (∀ o, 0 ≤ o → o < c + (if j = 0 then 0 else 1) → C2 o = C o) ∧ ∀ q, 0 ≤ q → q < 4 * c + (if j = 0 then 0 else j - 1) → V2 q = V q
section RI
variable {t C2 V2 : sF} {n k j c a e : Int}
theorem ri_0 (hn : n ≤ 300) (C2 V2 : sF) : rcI t n 0 0 0 C2 V2 := ⟨302, fun _ => 0, fun _ => 0, by omega, rfl, fun o x y => by rw [if_pos rfl] at y; omega, fun q x y => by rw [if_pos rfl] at y; omega⟩
theorem ri_w (hk : k < n) (h : wsP t k) (hi : rcI t n k j c C2 V2) : rcI t n (k + 1) j c C2 V2 := by
  obtain ⟨F, C, V, f1, f2, f3, f4⟩ := hi
  exact ⟨F, C, V, by omega, by rw [f2, rc_w hk h], f3, f4⟩
theorem ri_end (hk : n ≤ k) (hkn : k ≤ n) (hi : rcI t n k j c C2 V2) : rcE t n = (if j = 0 then -1 else n) ∧ (j = 0 → rcK t n = c ∧ (∀ o, 0 ≤ o → o < c → C2 o = rcC t n o) ∧ ∀ q, 0 ≤ q → q < 4 * c → V2 q = rcV t n q) := by
  obtain ⟨F, C, V, f1, f2, f3, f4⟩ := hi
  obtain ⟨G, hG⟩ : ∃ G, F = G + 1 := ⟨F - 1, by omega⟩
  rw [hG, rc_end (a := k) (reE_eq (by omega) (fun i x y => by omega) (fun x => by omega)) hk] at f2
  unfold rcE rcK rcC rcV
  rw [f2]
  refine ⟨rfl, fun q => ⟨rfl, fun o x y => f3 o x (by rw [if_pos q]; omega), fun o x y => f4 o x (by rw [if_pos q]; omega)⟩⟩
theorem ri_er {E : Int} (hi : rcI t n k j c C2 V2) (hk : k < n) (h : ∀ F C V, (∀ o, 0 ≤ o → o < c + (if j = 0 then 0 else 1) → C2 o = C o) → rcN t n (F + 1) k j c C V = (E, c, C, V)) : rcE t n = E := by
  obtain ⟨F, C, V, f1, f2, f3, f4⟩ := hi
  obtain ⟨G, hG⟩ : ∃ G, F = G + 1 := ⟨F - 1, by omega⟩
  rw [hG, h G C V f3] at f2
  unfold rcE
  rw [f2]
theorem ri_0t (hi : rcI t n k 0 c C2 V2) (hw : ¬ wsP t k) (hk : k < n) (he : reE (ltP t n) n k = e) (h1 : 1 ≤ e - k ∧ e - k ≤ 4) (hc : 0 ≤ c) (h2 : ∀ o, 0 ≤ o → o < c → C2 o ≠ coA t n k) : rcI t n e 1 c (iup C2 c (coA t n k)) V2 := by
  obtain ⟨F, C, V, f1, f2, f3, f4⟩ := hi
  obtain ⟨G, hG⟩ : ∃ G, F = G + 1 := ⟨F - 1, by omega⟩
  rw [if_pos rfl] at f3 f4
  rw [hG, rc_0t (ws_0 hk hw) hk rfl he h1 (fun ⟨o, x, y, z⟩ => h2 o x y (by rw [f3 o x (by omega)]; exact z))] at f2
  refine ⟨G, _, V, by omega, f2, fun o x y => ?_, fun q x y => ?_⟩
  · rw [if_neg (by omega)] at y
    unfold iup
    by_cases q : o = c
    · rw [if_pos q, if_pos q]
    · rw [if_neg q, if_neg q]; exact f3 o x (by omega)
  · rw [if_neg (by omega)] at y
    exact f4 q x (by omega)
theorem ri_nt (hi : rcI t n k j c C2 V2) (hw : ¬ wsP t k) (hk : k < n) (hj : 1 ≤ j ∧ j < 5) (he : reE (dgP t n) n k = e) (h1 : 1 ≤ e - k ∧ e - k ≤ 5) (h2 : irP (j - 1) (dgV t k (e - k).toNat)) : rcI t n e (j + 1) c C2 (iup V2 (4 * c + j - 1) (dgV t k (e - k).toNat)) := by
  obtain ⟨F, C, V, f1, f2, f3, f4⟩ := hi
  obtain ⟨G, hG⟩ : ∃ G, F = G + 1 := ⟨F - 1, by omega⟩
  rw [if_neg (by omega)] at f3 f4
  rw [hG, rc_nt (ws_0 hk hw) hk hj he h1 h2] at f2
  refine ⟨G, C, _, by omega, f2, fun o x y => ?_, fun q x y => ?_⟩
  · rw [if_neg (by omega)] at y
    exact f3 o x y
  · rw [if_neg (by omega)] at y
    unfold iup
    by_cases r : q = 4 * c + j - 1
    · rw [if_pos r, if_pos r]
    · rw [if_neg r, if_neg r]; exact f4 q x (by omega)
theorem ri_5t (hi : rcI t n k 5 c C2 V2) (hw : ¬ wsP t k) (hk : k < n) (h1 : t k = 59) : rcI t n (k + 1) 0 (c + 1) C2 V2 := by
  obtain ⟨F, C, V, f1, f2, f3, f4⟩ := hi
  obtain ⟨G, hG⟩ : ∃ G, F = G + 1 := ⟨F - 1, by omega⟩
  rw [if_neg (by omega)] at f3 f4
  rw [hG, rc_5t (ws_0 hk hw) hk (by omega) h1] at f2
  exact ⟨G, C, V, by omega, f2, fun o x y => f3 o x (by rw [if_pos rfl] at y; omega), fun q x y => f4 q x (by rw [if_pos rfl] at y; omega)⟩
end RI
/-- what is read keeps its ranges -/
def rcO (j c : Int) (C V : sF) : Prop := 0 ≤ c ∧ (0 ≤ j ∧ j ≤ 5) ∧ (∀ o, 0 ≤ o → o < c + (if j = 0 then 0 else 1) → 1 ≤ C o ∧ C o < 531441) ∧ (∀ o o2, 0 ≤ o → o < o2 → o2 < c + (if j = 0 then 0 else 1) → C o ≠ C o2) ∧ ∀ o q, 0 ≤ o → o ≤ c → 0 ≤ q → q < 4 → 4 * o + q < 4 * c + (if j = 0 then 0 else j - 1) → irP q (V (4 * o + q))
theorem rc_ok {t : sF} {n : Int} : ∀ (F : Nat) (k j c : Int) (C V : sF), k ≤ n → rcO j c C V → (rcN t n F k j c C V).1 = -1 → 0 ≤ k → F ≠ 0 → n - k < (F : Int) → rcO 0 (rcN t n F k j c C V).2.1 (rcN t n F k j c C V).2.2.1 (rcN t n F k j c C V).2.2.2 := by
  intro F
  induction F with
  | zero => intro k j c C V _ _ _ _ h; exact absurd rfl h
  | succ F ih =>
    intro k j c C V hkn ho hE hk0 _ hF
    have hw := reE_i (P := wsP t) (n := n) (a := k) hkn
    obtain ⟨a, ha⟩ : ∃ a, reE (wsP t) n k = a := ⟨_, rfl⟩
    rw [ha] at hw
    obtain ⟨o1, o2, o3, o4, o5⟩ := ho
    by_cases q1 : n ≤ a
    · rw [rc_end ha q1] at hE ⊢
      by_cases q2 : j = 0
      · subst q2
        exact ⟨o1, by omega, o3, o4, o5⟩
      · rw [if_neg q2] at hE
        have hE2 : n = -1 := hE
        omega
    · have an : a < n := by omega
      by_cases q2 : j = 0
      · have hl := reE_i (P := ltP t n) (n := n) (a := a) (by omega)
        obtain ⟨e, he⟩ : ∃ e, reE (ltP t n) n a = e := ⟨_, rfl⟩
        rw [he] at hl
        by_cases q3 : (1 ≤ e - a ∧ e - a ≤ 4) ∧ ¬ ∃ o, 0 ≤ o ∧ o < c ∧ C o = coA t n a
        · rw [rc_0t ha an q2 he q3.1 q3.2] at hE ⊢
          rw [if_pos q2] at o3 o4 o5
          have hlt : ltP t n a := hl.2.1 a (Int.le_refl _) (by omega)
          have hb := coA_b t n a
          have hp := coA_p hlt
          refine ih e 1 c _ V (by omega) ⟨o1, by omega, fun o x y => ?_, fun o p x y z => ?_, fun o q x y z w v => o5 o q x y z w (by rw [if_neg (by omega)] at v; omega)⟩ hE (by omega) (by omega) (by omega)
          · rw [if_neg (by omega)] at y
            unfold iup
            by_cases r : o = c
            · rw [if_pos r]; omega
            · rw [if_neg r]; exact o3 o x (by omega)
          · rw [if_neg (by omega)] at z
            unfold iup
            rw [if_neg (show ¬ o = c by omega)]
            by_cases r : p = c
            · rw [if_pos r]; exact fun s => q3.2 ⟨o, x, by omega, s⟩
            · rw [if_neg r]; exact o4 o p x y (by omega)
        · rw [rc_0f ha an q2 he q3] at hE
          have hE2 : a = -1 := hE
          omega
      · by_cases q4 : j < 5
        · have hl := reE_i (P := dgP t n) (n := n) (a := a) (by omega)
          obtain ⟨e, he⟩ : ∃ e, reE (dgP t n) n a = e := ⟨_, rfl⟩
          rw [he] at hl
          by_cases q3 : (1 ≤ e - a ∧ e - a ≤ 5) ∧ irP (j - 1) (dgV t a (e - a).toNat)
          · rw [rc_nt ha an (by omega) he q3.1 q3.2] at hE ⊢
            rw [if_neg q2] at o3 o4 o5
            refine ih e (j + 1) c C _ (by omega) ⟨o1, by omega, fun o x y => o3 o x (by rw [if_neg (by omega)] at y; omega), fun o p x y z => o4 o p x y (by rw [if_neg (by omega)] at z; omega), fun o q x y z w v => ?_⟩ hE (by omega) (by omega) (by omega)
            rw [if_neg (by omega)] at v
            unfold iup
            by_cases r : 4 * o + q = 4 * c + j - 1
            · rw [if_pos r, show q = j - 1 by omega]; exact q3.2
            · rw [if_neg r]; exact o5 o q x y z w (by omega)
          · rw [rc_nf ha an (by omega) he q3] at hE
            have hE2 : a = -1 := hE
            omega
        · by_cases q3 : t a = 59
          · rw [rc_5t ha an (by omega) q3] at hE ⊢
            rw [if_neg q2] at o3 o4 o5
            refine ih (a + 1) 0 (c + 1) C V (by omega) ⟨by omega, by omega, fun o x y => o3 o x (by rw [if_pos rfl] at y; omega), fun o p x y z => o4 o p x y (by rw [if_pos rfl] at z; omega), fun o q x y z w v => o5 o q x (by rw [if_pos rfl] at v; omega) z w (by rw [if_pos rfl] at v; omega)⟩ hE (by omega) (by omega) (by omega)
          · rw [rc_5f ha an (by omega) q3] at hE
            have hE2 : a = -1 := hE
            omega
theorem rc_o {t : sF} {n : Int} (hn : 0 ≤ n ∧ n ≤ 300) (h : rcE t n = -1) : rcO 0 (rcK t n) (rcC t n) (rcV t n) :=
  rc_ok 302 0 0 0 _ _ (by omega) ⟨by omega, by omega, fun o x y => by rw [if_pos rfl] at y; omega, fun o p x y z => by rw [if_pos rfl] at z; omega, fun o q x y z w v => by rw [if_pos rfl] at v; omega⟩ h (by omega) (by omega) (by omega)
def lsI (j : Int) : Int := if j = 1 ∨ j = 2 then 1 else 0
def grI (j : Int) : Int := if j = 0 then 5 else if j = 1 then 9 else if j = 2 then 99 else 10000
theorem ls_r (j : Int) : 0 ≤ lsI j ∧ lsI j ≤ 1 := by unfold lsI; split <;> omega
theorem gr_r (j : Int) : 0 ≤ grI j ∧ grI j ≤ 10000 := by unfold grI; split; omega; split; omega; split <;> omega
theorem ir_i {j v : Int} (hj : 0 ≤ j ∧ j ≤ 3) : (lsI j ≤ v ∧ v ≤ grI j) ↔ irP j v := by
  rcases (show j = 0 ∨ j = 1 ∨ j = 2 ∨ j = 3 by omega) with rfl | rfl | rfl | rfl
  · rw [show lsI 0 = 0 from rfl, show grI 0 = 5 from rfl]; unfold irP; omega
  · rw [show lsI 1 = 1 from rfl, show grI 1 = 9 from rfl]; unfold irP; omega
  · rw [show lsI 2 = 1 from rfl, show grI 2 = 99 from rfl]; unfold irP; omega
  · rw [show lsI 3 = 0 from rfl, show grI 3 = 10000 from rfl]; unfold irP; omega

abbrev rmX11_least : Room := { frames := 1, cells := 0, slots := 0, locals := 40 }
set_option maxHeartbeats 4000000 in
set_option maxRecDepth 100000 in
theorem kX11_least (l_ : Launch) (G : sG) (b_ : Nat) (M : sM) (N : Nat) (j : Int) (hj : 0 ≤ j ∧ j ≤ 3) : cP l_ yX11_least wsX11_least rmX11_least G b_ M N [.int (sI j)] (lsI j) := by
  refine sE.ofI (cc := cX11_least) (nL := 1) (ret := (some .int)) (by decide) rfl (Nat.le_of_ble_eq_true rfl) ?_
  intro p_ e_ s_ m_ args_ below_ meth_ c_ ls Q hQ E hl
  have E : sE p_ l_ e_ rmX11_least s_ m_ args_ below_ meth_ c_ cX11_least 1 wsX11_least RX11 "least" (some .int) G b_ M N := E
  have S := E.1
  have hx_ := S.1
  have hb_ := S.2.1
  have hK := E.2.2.2.2.1
  have hV := E.2.2.2.2.2.2
  have hl : lv_has ls 1 [(0, .int (sI j))] := hl
  refine lv_iload_n hx_ hb_ dX11_least_0 rfl (lv_at hl 0 rfl) ?_
  refine si_const S dX11_least_1 ?_
  refine sb_eq (tgt := 10) S dX11_least_2 (by decide) (by omega) (fun c1 => ?_) (fun c1 => ?_)
  · refine si_const S dX11_least_10 ?_
    refine lv_goto (tgt := 15) hx_ hb_ dX11_least_11 (by decide) ?_
    exact sr_i E hQ dX11_least_15 ⟨Nat.le_of_ble_eq_true rfl, Nat.le_of_ble_eq_true rfl⟩ hV (⟨by unfold lsI; rw [if_pos (by omega)], rfl, rfl⟩)
  · refine lv_iload_n hx_ hb_ dX11_least_5 rfl (lv_at hl 0 rfl) ?_
    refine si_const S dX11_least_6 ?_
    refine sb_ne (tgt := 14) S dX11_least_7 (by decide) (by omega) (fun c2 => ?_) (fun c2 => ?_)
    · refine si_const S dX11_least_14 ?_
      exact sr_i E hQ dX11_least_15 ⟨Nat.le_of_ble_eq_true rfl, Nat.le_of_ble_eq_true rfl⟩ hV (⟨by unfold lsI; rw [if_neg (by omega)], rfl, rfl⟩)
    · refine si_const S dX11_least_10 ?_
      refine lv_goto (tgt := 15) hx_ hb_ dX11_least_11 (by decide) ?_
      exact sr_i E hQ dX11_least_15 ⟨Nat.le_of_ble_eq_true rfl, Nat.le_of_ble_eq_true rfl⟩ hV (⟨by unfold lsI; rw [if_pos (by omega)], rfl, rfl⟩)

abbrev rmX11_greatest : Room := { frames := 1, cells := 0, slots := 0, locals := 40 }
set_option maxHeartbeats 4000000 in
set_option maxRecDepth 100000 in
theorem kX11_greatest (l_ : Launch) (G : sG) (b_ : Nat) (M : sM) (N : Nat) (j : Int) (hj : 0 ≤ j ∧ j ≤ 3) : cP l_ yX11_greatest wsX11_greatest rmX11_greatest G b_ M N [.int (sI j)] (grI j) := by
  refine sE.ofI (cc := cX11_greatest) (nL := 1) (ret := (some .int)) (by decide) rfl (Nat.le_of_ble_eq_true rfl) ?_
  intro p_ e_ s_ m_ args_ below_ meth_ c_ ls Q hQ E hl
  have E : sE p_ l_ e_ rmX11_greatest s_ m_ args_ below_ meth_ c_ cX11_greatest 1 wsX11_greatest RX11 "greatest" (some .int) G b_ M N := E
  have S := E.1
  have hx_ := S.1
  have hb_ := S.2.1
  have hK := E.2.2.2.2.1
  have hV := E.2.2.2.2.2.2
  have hl : lv_has ls 1 [(0, .int (sI j))] := hl
  refine lv_iload_n hx_ hb_ dX11_greatest_0 rfl (lv_at hl 0 rfl) ?_
  refine sz_ne (tgt := 8) S dX11_greatest_1 (by decide) (by omega) (fun c1 => ?_) (fun c1 => ?_)
  · refine lv_iload_n hx_ hb_ dX11_greatest_8 rfl (lv_at hl 0 rfl) ?_
    refine si_const S dX11_greatest_9 ?_
    refine sb_ne (tgt := 18) S dX11_greatest_10 (by decide) (by omega) (fun c2 => ?_) (fun c2 => ?_)
    · refine lv_iload_n hx_ hb_ dX11_greatest_18 rfl (lv_at hl 0 rfl) ?_
      refine si_const S dX11_greatest_19 ?_
      refine sb_ne (tgt := 28) S dX11_greatest_20 (by decide) (by omega) (fun c3 => ?_) (fun c3 => ?_)
      · refine si_sipush S dX11_greatest_28 (by decide) ?_
        exact sr_i E hQ dX11_greatest_31 ⟨Nat.le_of_ble_eq_true rfl, Nat.le_of_ble_eq_true rfl⟩ hV (⟨by unfold grI; (repeat (first | rw [if_pos (by omega)] | rw [if_neg (by omega)])), rfl, rfl⟩)
      · refine si_bipush S dX11_greatest_23 (by decide) ?_
        refine lv_goto (tgt := 31) hx_ hb_ dX11_greatest_25 (by decide) ?_
        exact sr_i E hQ dX11_greatest_31 ⟨Nat.le_of_ble_eq_true rfl, Nat.le_of_ble_eq_true rfl⟩ hV (⟨by unfold grI; (repeat (first | rw [if_pos (by omega)] | rw [if_neg (by omega)])), rfl, rfl⟩)
    · refine si_bipush S dX11_greatest_13 (by decide) ?_
      refine lv_goto (tgt := 31) hx_ hb_ dX11_greatest_15 (by decide) ?_
      exact sr_i E hQ dX11_greatest_31 ⟨Nat.le_of_ble_eq_true rfl, Nat.le_of_ble_eq_true rfl⟩ hV (⟨by unfold grI; (repeat (first | rw [if_pos (by omega)] | rw [if_neg (by omega)])), rfl, rfl⟩)
  · refine si_const S dX11_greatest_4 ?_
    refine lv_goto (tgt := 31) hx_ hb_ dX11_greatest_5 (by decide) ?_
    exact sr_i E hQ dX11_greatest_31 ⟨Nat.le_of_ble_eq_true rfl, Nat.le_of_ble_eq_true rfl⟩ hV (⟨by unfold grI; (repeat (first | rw [if_pos (by omega)] | rw [if_neg (by omega)])), rfl, rfl⟩)
