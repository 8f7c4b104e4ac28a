/-! Sizes and weights of sets, and what a drawer holds of them. -/
def noP (f : sF) (u : Int) : Prop := ∀ s, 0 ≤ s → tb u s → ∀ o, 0 ≤ o → o < s → tb u o → ¬ dpK f o s
noncomputable def suI (f : sF) (b u : Int) : Int := isum (f 568) (fun o => pif (tb u o) (f (b + o)) 0)
def szP (f : sF) (u v : Int) : Prop := (noP f u → v = suI f 20 u) ∧ (¬ noP f u → v = 268435456)
section LZ
variable {f : sF} {B : Prop}
theorem su_a {b u s : Int} (hn : f 568 ≤ 10) (hs : 0 ≤ s ∧ s < f 568) (hu : 0 ≤ u ∧ u < p2 s) : suI f b (u + p2 s) = suI f b u + f (b + s) := by
  have h9 := p2_29 (n := s) (by omega)
  have h0 : ¬ tb u s := tb_lt hu (Int.le_refl _)
  have h := isum_one (n := f 568) (g := fun o => pif (tb u o) (f (b + o)) 0) (g' := fun o => pif (tb (u + p2 s) o) (f (b + o)) 0) s hs (fun o a c e => pif_c (by rw [tb_add (by omega) (by omega) a h0]; exact ⟨fun q => q.elim id (fun r => absurd r e), Or.inl⟩))
  unfold suI
  rw [h]
  show _ + (pif (tb (u + p2 s) s) (f (b + s)) 0 - pif (tb u s) (f (b + s)) 0) = _
  rw [pif_t ((tb_add (by omega) (by omega) hs.1 h0).mpr (Or.inr rfl)), pif_f h0]
  omega
theorem co_a {u s d : Int} (hn : f 568 ≤ 10) (hs : 0 ≤ s ∧ s < f 568) (hu : 0 ≤ u ∧ u < p2 s) : coS f B (u + p2 s) (fun _ => d) = coS f B u (fun _ => d) + pcD f B s d := by
  have h9 := p2_29 (n := s) (by omega)
  have h0 : ¬ tb u s := tb_lt hu (Int.le_refl _)
  have h := isum_one (n := f 568) (g := fun o => pif (tb u o) (pcD f B o d) 0) (g' := fun o => pif (tb (u + p2 s) o) (pcD f B o d) 0) s hs (fun o a c e => pif_c (by rw [tb_add (by omega) (by omega) a h0]; exact ⟨fun q => q.elim id (fun r => absurd r e), Or.inl⟩))
  show isum (f 568) (fun o => pif (tb (u + p2 s) o) (pcD f B o d) 0) = isum (f 568) (fun o => pif (tb u o) (pcD f B o d) 0) + pcD f B s d
  rw [h]
  show _ + (pif (tb (u + p2 s) s) (pcD f B s d) 0 - pif (tb u s) (pcD f B s d) 0) = _
  rw [pif_t ((tb_add (by omega) (by omega) hs.1 h0).mpr (Or.inr rfl)), pif_f h0]
  omega
theorem tb_top {u s k : Int} (hs : 0 ≤ s ∧ s ≤ 29) (hu : 0 ≤ u ∧ u < p2 s) (hk : 0 ≤ k) : tb (u + p2 s) k ↔ tb u k ∨ k = s := by
  have h9 := p2_29 (n := s) (by omega)
  exact tb_add (by omega) hs hk (tb_lt hu (Int.le_refl _))
theorem no_a {u s : Int} (hs : 0 ≤ s ∧ s ≤ 29) (hu : 0 ≤ u ∧ u < p2 s) : noP f (u + p2 s) ↔ noP f u ∧ ∀ o, 0 ≤ o → o < s → tb u o → ¬ dpK f o s := by
  have hlt : ∀ k, tb u k → k < s := fun k q => by
    rcases Int.lt_or_le k s with t | t
    · exact t
    · exact absurd q (tb_lt hu t)
  constructor
  · intro h
    exact ⟨fun k a q o o1 o2 o3 => h k a ((tb_top hs hu a).mpr (Or.inl q)) o o1 o2 ((tb_top hs hu o1).mpr (Or.inl o3)), fun o o1 o2 o3 => h s hs.1 ((tb_top hs hu hs.1).mpr (Or.inr rfl)) o o1 o2 ((tb_top hs hu o1).mpr (Or.inl o3))⟩
  · rintro ⟨h1, h2⟩ k a q o o1 o2 o3
    have o4 := (tb_top hs hu o1).mp o3
    rcases (tb_top hs hu a).mp q with t | t
    · have := hlt k t
      exact h1 k a t o o1 o2 (o4.elim id (fun e => by omega))
    · rw [t] at o2 ⊢
      exact h2 o o1 o2 (o4.elim id (fun e => by omega))
theorem no_0 : noP f 0 := fun s _ q => absurd q (tb_0 s)
theorem sz_0 : szP f 0 0 := ⟨fun _ => (isum_z fun o _ _ => pif_f (tb_0 o)).symm, fun q => absurd no_0 q⟩
theorem su_0 {b : Int} : suI f b 0 = 0 := isum_z fun o _ _ => pif_f (tb_0 o)
/-- the set of those that are parted from a stone -/
def paP (f : sF) (s v : Int) : Prop := (0 ≤ v ∧ v ≤ 2147483647) ∧ ∀ o, 0 ≤ o → (tb v o ↔ o < s ∧ dpK f o s)
theorem sz_s {u s v w r : Int} (hn : f 568 ≤ 10) (hs : 0 ≤ s ∧ s < f 568) (hu : 0 ≤ u ∧ u < p2 s) (hp : paP f s w) (h : szP f u v) (hv : 0 ≤ v ∧ v ≤ 268435456) (hz : 0 ≤ f (20 + s) ∧ f (20 + s) ≤ 9) (hv2 : noP f u → v ≤ 1000) (hr : (iand u w ≠ 0 ∧ r = 268435456) ∨ (iand u w = 0 ∧ r = min 268435456 (v + f (20 + s)))) : szP f (u + p2 s) r := by
  have h9 := p2_29 (n := s) (by omega)
  have hi := iand_z (x := u) (y := w) (by omega) hp.1
  have hno := no_a (f := f) (u := u) (s := s) (by omega) hu
  constructor
  · intro q
    have q2 := hno.mp q
    have e : iand u w = 0 := hi.mpr (fun ⟨o, a, b, c⟩ => by
      have c2 := (hp.2 o a).mp c
      exact q2.2 o a c2.1 b c2.2)
    rcases hr with ⟨r1, _⟩ | ⟨_, r2⟩
    · exact absurd e r1
    · rw [su_a hn hs hu, ← h.1 q2.1, r2]
      have := hv2 q2.1
      omega
  · intro q
    rcases hr with ⟨_, r2⟩ | ⟨r1, r2⟩
    · exact r2
    · have q3 : ¬ noP f u := fun q4 => q (hno.mpr ⟨q4, fun o o1 o2 o3 o4 => hi.mp r1 ⟨o, o1, o3, (hp.2 o o1).mpr ⟨o2, o4⟩⟩⟩)
      have := h.2 q3
      omega
theorem su_r {b u c : Int} (hn : 0 ≤ f 568 ∧ f 568 ≤ 10) (hc : 0 ≤ c) (h : ∀ s, 0 ≤ s → s < f 568 → 0 ≤ f (b + s) ∧ f (b + s) ≤ c) : 0 ≤ suI f b u ∧ suI f b u ≤ f 568 * c := by
  have := isum_b (n := f 568) (g := fun o => pif (tb u o) (f (b + o)) 0) 0 c hn.1 (fun s x y => by
    show 0 ≤ pif (tb u s) (f (b + s)) 0 ∧ pif (tb u s) (f (b + s)) 0 ≤ c
    have := h s x y
    rcases pif_cases (tb u s) (f (b + s)) 0 with ⟨_, e⟩ | ⟨_, e⟩ <;> omega)
  unfold suI
  omega
theorem fs_su {b u s : Int} (hn : f 568 ≤ 10) (hs : 0 ≤ s ∧ s < f 568) (hu : 0 ≤ u ∧ u < p2 s) : fsI f b (tb (u + p2 s)) s = suI f b u := by
  have h1 : fsI f b (tb (u + p2 s)) s = isum s (fun o => pif (tb u o) (f (b + o)) 0) := isum_c fun o x y => pif_c (by rw [tb_top (by omega) hu x]; exact ⟨fun q => q.elim id (fun r => by omega), Or.inl⟩)
  have h2 : suI f b u = isum (s + (f 568 - s)) (fun o => pif (tb u o) (f (b + o)) 0) := by rw [show s + (f 568 - s) = f 568 by omega]; rfl
  have h3 : isum (f 568 - s) (fun k => (fun o => pif (tb u o) (f (b + o)) 0) (s + k)) = 0 := isum_z fun k x y => pif_f (tb_lt hu (by omega))
  rw [h1, h2, isum_ap _ hs.1 (by omega), h3, Int.add_zero]
theorem gd_a {d u s : Int} (hn : f 568 ≤ 10) (hs : 0 ≤ s ∧ s < f 568) (hu : 0 ≤ u ∧ u < p2 s) : gdC f d (tb (u + p2 s)) ↔ gdC f d (tb u) ∧ f (20 + s) + suI f 20 u ≤ f (150 + d) ∧ f (30 + s) + suI f 30 u ≤ f (154 + d) ∧ ∀ o, 0 ≤ o → o < s → tb u o → ¬ dpK f o s := by
  have hlt : ∀ k, tb u k → k < s := fun k q => by
    rcases Int.lt_or_le k s with t | t
    · exact t
    · exact absurd q (tb_lt hu t)
  have hc : ∀ k, k ≤ s → ∀ o, 0 ≤ o → o < k → (tb (u + p2 s) o ↔ tb u o) := fun k a o x y => by
    rw [tb_top (by omega) hu x]
    exact ⟨fun q => q.elim id (fun r => by omega), Or.inl⟩
  constructor
  · intro h
    have h2 := h s hs.1 hs.2 ((tb_top (by omega) hu hs.1).mpr (Or.inr rfl))
    obtain ⟨a, b, c⟩ := h2
    rw [fs_su hn hs hu] at a b
    exact ⟨fun k k1 k2 k3 => fit_c (hc k (by have := hlt k k3; omega)) (h k k1 k2 ((tb_top (by omega) hu k1).mpr (Or.inl k3))), a, b, fun o o1 o2 o3 => c o o1 o2 ((hc s (Int.le_refl _) o o1 o2).mpr o3)⟩
  · rintro ⟨h, a, b, c⟩ k k1 k2 k3
    rcases (tb_top (by omega) hu k1).mp k3 with t | t
    · exact fit_c (fun o o1 o2 => (hc k (by have := hlt k t; omega) o o1 o2).symm) (h k k1 k2 t)
    · rw [t]
      refine ⟨by rw [fs_su hn hs hu]; exact a, by rw [fs_su hn hs hu]; exact b, fun o o1 o2 o3 => c o o1 o2 ((hc s (Int.le_refl _) o o1 o2).mp o3)⟩
theorem gd_no {d u : Int} (hu : 0 ≤ u ∧ u < p2 (f 568)) (h : gdC f d (tb u)) : noP f u := fun s a q o o1 o2 o3 => by
  rcases Int.lt_or_le s (f 568) with t | t
  · exact (h s a t q).2.2 o o1 o2 o3
  · exact absurd q (tb_lt hu t)
theorem gd_0 {d : Int} : gdC f d (tb 0) := fun s _ _ q => absurd q (tb_0 s)
theorem hl_0 {d : Int} : hlP f B d 0 0 := ⟨fun _ => (isum_z fun o _ _ => pif_f (tb_0 o)).symm, fun q => absurd gd_0 q⟩
/-- a set with one stone more -/
theorem hl_s {d u s h z w r : Int} (hn : 0 ≤ f 568 ∧ f 568 ≤ 10) (hd : 0 ≤ d ∧ d ≤ 3) (hs : 0 ≤ s ∧ s < f 568) (hu : 0 ≤ u ∧ u < p2 s) (hh : hlP f B d u h) (hz : szP f (u + p2 s) z) (hw : w = suI f 30 (u + p2 s)) (hcap : f (150 + d) ≤ 99) (hr : (h < 268435456 ∧ z ≤ f (150 + d) ∧ w ≤ f (154 + d) ∧ r = h + pcD f B s d) ∨ (¬ (h < 268435456 ∧ z ≤ f (150 + d) ∧ w ≤ f (154 + d)) ∧ r = 268435456)) : hlP f B d (u + p2 s) r := by
  have hg := gd_a (f := f) (d := d) hn.2 hs hu
  have hno := no_a (f := f) (u := u) (s := s) (by omega) hu
  have hpm := p2_m (a := s) (b := f 568) (by omega)
  have hco := co_r (B := B) (u := u) (p := fun _ => d) hn (fun s a b c => hd)
  have key : gdC f d (tb (u + p2 s)) ↔ (h < 268435456 ∧ z ≤ f (150 + d) ∧ w ≤ f (154 + d)) := by
    rw [hg]
    constructor
    · rintro ⟨a, b, c, e⟩
      have h1 := hh.1 a
      have h2 := hz.1 (hno.mpr ⟨gd_no ⟨hu.1, by omega⟩ a, e⟩)
      rw [su_a hn.2 hs hu] at h2 hw
      omega
    · rintro ⟨a, b, c⟩
      have h1 : gdC f d (tb u) := Classical.not_not.mp fun q => by have := hh.2 q; omega
      have h2 : noP f (u + p2 s) := Classical.not_not.mp fun q => by have := hz.2 q; omega
      have h3 := hz.1 h2
      rw [su_a hn.2 hs hu] at h3 hw
      exact ⟨h1, by omega, by omega, (hno.mp h2).2⟩
  constructor
  · intro q
    have q2 := key.mp q
    rcases hr with ⟨_, _, _, r1⟩ | ⟨r1, _⟩
    · rw [co_a hn.2 hs hu, r1, hh.1 (hg.mp q).1]
    · exact absurd q2 r1
  · intro q
    rcases hr with ⟨a, b, c, r1⟩ | ⟨_, r1⟩
    · exact absurd (key.mpr ⟨a, b, c⟩) q
    · exact r1
end LZ
