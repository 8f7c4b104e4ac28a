/-- the first place with more than 0, or the last one -/
noncomputable def rnN (g : Prop) (K : Int → Int) : Nat → Int
  | 0 => -1
  | k + 1 => pif ((rnN g K k = -1 ∨ g) ∧ 0 < K (k : Int)) (k : Int) (rnN g K k)
noncomputable def rnI (g : Prop) (K : Int → Int) (n : Int) : Int := rnN g K n.toNat
theorem rnI_s (g : Prop) (K : Int → Int) (k : Int) (h : 0 ≤ k) : rnI g K (k + 1) = pif ((rnI g K k = -1 ∨ g) ∧ 0 < K k) k (rnI g K k) := by
  unfold rnI
  rw [show (k + 1).toNat = k.toNat + 1 by omega]
  show pif ((_ = -1 ∨ g) ∧ 0 < K ((k.toNat : Nat) : Int)) ((k.toNat : Nat) : Int) _ = _
  rw [show ((k.toNat : Nat) : Int) = k by omega]
theorem rnI_r (g : Prop) (K : Int → Int) (k : Int) (h : 0 ≤ k) : -1 ≤ rnI g K k ∧ rnI g K k ≤ k := by
  have key : ∀ j : Nat, -1 ≤ rnN g K j ∧ rnN g K j ≤ (j : Int) := by
    intro j
    induction j with
    | zero => exact ⟨by show (-1 : Int) ≤ -1; omega, by show (-1 : Int) ≤ 0; omega⟩
    | succ j ih =>
      show _ ≤ pif _ _ _ ∧ pif _ _ _ ≤ _
      rcases pif_cases ((rnN g K j = -1 ∨ g) ∧ 0 < K (j : Int)) (j : Int) (rnN g K j) with ⟨-, e⟩ | ⟨-, e⟩ <;> rw [e] <;> omega
  have := key k.toNat
  unfold rnI
  omega
/-- the greatest that divides both -/
def cmI (a b : Int) : Int := ((Nat.gcd a.toNat b.toNat : Nat) : Int)
theorem cmI_s {p q : Int} (hp : 0 ≤ p) (hq : 0 ≤ q) : cmI q (p % q) = cmI p q := by
  unfold cmI
  have e : (p % q).toNat = p.toNat % q.toNat := by
    have h1 : p = ((p.toNat : Nat) : Int) := by omega
    have h2 : q = ((q.toNat : Nat) : Int) := by omega
    generalize p.toNat = P at h1 ⊢
    generalize q.toNat = Q at h2 ⊢
    subst h1
    subst h2
    rw [← Int.natCast_emod, Int.toNat_natCast]
  rw [e, Nat.gcd_comm p.toNat q.toNat, Nat.gcd_rec q.toNat p.toNat, Nat.gcd_comm]
theorem cmI_0 {p : Int} (hp : 0 ≤ p) : cmI p 0 = p := by
  unfold cmI
  rw [show (0 : Int).toNat = 0 from rfl, Nat.gcd_zero_right]
  omega
theorem cmI_p {a b : Int} (ha : 0 < a) : 1 ≤ cmI a b ∧ cmI a b ≤ a := by
  unfold cmI
  have h1 : 0 < Nat.gcd a.toNat b.toNat := Nat.gcd_pos_of_pos_left _ (by omega)
  have h2 := Nat.le_of_dvd (by omega) (Nat.gcd_dvd_left a.toNat b.toNat)
  omega
/-- a test's worth; the best of the tests up to a pair -/
noncomputable def woI (f : sF) (x y : Int) : Int := max (abI f x y) (abI f y x)
def ntQ (f : sF) (a b x y : Int) : Prop := 0 ≤ x ∧ x < y ∧ y < f 568 ∧ (x < a ∨ (x = a ∧ y < b))
def ntR (f : sF) (a b m t : Int) : Prop := (m = -1 ∧ t = -1 ∧ ∀ x y, ¬ ntQ f a b x y) ∨ (0 ≤ m ∧ ∃ x y, ntQ f a b x y ∧ m = woI f x y ∧ t = 10 * x + y ∧ ∀ x2 y2, ntQ f a b x2 y2 → m ≤ woI f x2 y2 ∧ (m = woI f x2 y2 → 10 * x + y ≤ 10 * x2 + y2))
theorem ntR_u {f : sF} {a b m t m2 t2 : Int} (h : ntR f a b m t) (h2 : ntR f a b m2 t2) : m = m2 ∧ t = t2 := by
  rcases h with ⟨a1, a2, a3⟩ | ⟨a0, x, y, a1, a2, a3, a4⟩
  · rcases h2 with ⟨b1, b2, b3⟩ | ⟨b0, x, y, b1, b2, b3, b4⟩
    · omega
    · exact absurd b1 (a3 x y)
  · rcases h2 with ⟨b1, b2, b3⟩ | ⟨b0, x2, y2, b1, b2, b3, b4⟩
    · exact absurd a1 (b3 x y)
    · have c1 := a4 x2 y2 b1
      have c2 := b4 x y a1
      have e : m = m2 := by omega
      exact ⟨e, by have := c1.2 (by omega); have := c2.2 (by omega); omega⟩
theorem ntR_0 (f : sF) : ntR f 0 0 (-1) (-1) := Or.inl ⟨rfl, rfl, fun x y h => by unfold ntQ at h; omega⟩
theorem ntQ_n {f : sF} {a b x y : Int} (h : f 568 ≤ b) : ntQ f a b x y ↔ ntQ f (a + 1) 0 x y := by unfold ntQ; omega
theorem ntR_n {f : sF} {a b m t : Int} (hb : f 568 ≤ b) (h : ntR f a b m t) : ntR f (a + 1) (a + 1 + 1) m t := by
  have e : ∀ x y, ntQ f a b x y ↔ ntQ f (a + 1) (a + 1 + 1) x y := fun x y => by unfold ntQ; omega
  rcases h with ⟨a1, a2, a3⟩ | ⟨a0, x, y, a1, a2, a3, a4⟩
  · exact Or.inl ⟨a1, a2, fun x y q => a3 x y ((e x y).mpr q)⟩
  · exact Or.inr ⟨a0, x, y, (e x y).mp a1, a2, a3, fun x2 y2 q => a4 x2 y2 ((e x2 y2).mpr q)⟩
theorem ntR_k {f : sF} {a b m t : Int} (hp : 0 ≤ a ∧ a < b) (hm : m ≠ -1) (hw : m ≤ woI f a b) (h : ntR f a b m t) (hq : f 568 ≤ 10) : ntR f a (b + 1) m t := by
  rcases h with ⟨a1, a2, a3⟩ | ⟨a0, x, y, a1, a2, a3, a4⟩
  · omega
  · refine Or.inr ⟨a0, x, y, by unfold ntQ at a1 ⊢; omega, a2, a3, fun x2 y2 q => ?_⟩
    by_cases e : x2 = a ∧ y2 = b
    · rw [e.1, e.2]
      exact ⟨hw, fun _ => by unfold ntQ at a1; omega⟩
    · exact a4 x2 y2 (by unfold ntQ at q ⊢; omega)
theorem ntR_t {f : sF} {a b m t : Int} (hp : 0 ≤ a ∧ a < b ∧ b < f 568) (hw0 : 0 ≤ woI f a b) (hw : m = -1 ∨ woI f a b < m) (h : ntR f a b m t) : ntR f a (b + 1) (woI f a b) (10 * a + b) := by
  refine Or.inr ⟨hw0, a, b, by unfold ntQ; omega, rfl, rfl, fun x2 y2 q => ?_⟩
  by_cases e : x2 = a ∧ y2 = b
  · rw [e.1, e.2]
    exact ⟨Int.le_refl _, fun _ => Int.le_refl _⟩
  · have q2 : ntQ f a b x2 y2 := by unfold ntQ at q ⊢; omega
    rcases h with ⟨a1, a2, a3⟩ | ⟨a0, x, y, a1, a2, a3, a4⟩
    · exact absurd q2 (a3 x2 y2)
    · have := (a4 x2 y2 q2).1
      omega
noncomputable def ntM (f : sF) : Int := @dite Int (∃ m t, ntR f (f 568) 0 m t) (Classical.propDecidable _) (fun q => q.choose) (fun _ => 0)
noncomputable def ntT (f : sF) : Int := @dite Int (∃ m t, ntR f (f 568) 0 m t) (Classical.propDecidable _) (fun q => q.choose_spec.choose) (fun _ => 0)
theorem nt_eq {f : sF} {a b m t : Int} (ha : f 568 ≤ a) (h : ntR f a b m t) : ntM f = m ∧ ntT f = t := by
  have e : ∀ x y, ntQ f a b x y ↔ ntQ f (f 568) 0 x y := fun x y => by unfold ntQ; omega
  have h1 : ntR f (f 568) 0 m t := by
    rcases h with ⟨a1, a2, a3⟩ | ⟨a0, x, y, a1, a2, a3, a4⟩
    · exact Or.inl ⟨a1, a2, fun x y q => a3 x y ((e x y).mpr q)⟩
    · exact Or.inr ⟨a0, x, y, (e x y).mp a1, a2, a3, fun x2 y2 q => a4 x2 y2 ((e x2 y2).mpr q)⟩
  have hx : ∃ m t, ntR f (f 568) 0 m t := ⟨m, t, h1⟩
  have e1 : ntM f = hx.choose := dif_pos hx
  have e2 : ntT f = hx.choose_spec.choose := dif_pos hx
  have h3 := ntR_u h1 hx.choose_spec.choose_spec
  exact ⟨by rw [e1]; exact h3.1.symm, by rw [e2]; exact h3.2.symm⟩
/-- the first order: the sets ahead -/
noncomputable def orS (f : sF) : Nat → Int
  | 0 => 0
  | k + 1 => orS f k + p2 (idx (nxS f (orS f k)) (f 568))
noncomputable def orI (f : sF) (r : Int) : Int := idx (nxS f (orS f r.toNat)) (f 568)
/-- where there is an order, one can go on from each set -/
theorem or_nx {f : sF} (hn : 0 ≤ f 568 ∧ f 568 ≤ 10) (hW : wyR (f 568) (nxS f) (wyC f)) (ht : 0 < totI f) {v : Int} (hv : 0 ≤ v ∧ v < p2 (f 568) - 1) : ∃ s, 0 ≤ s ∧ s < f 568 ∧ nxS f v s := by
  have hp := p2_10 hn.2
  have key : ∀ m : Nat, ∀ u, 0 ≤ u → u < (m : Int) → u < p2 (f 568) → 0 < wyC f u → (∃ k, 0 ≤ k ∧ k < f 568 ∧ tb u k ∧ ¬ tb v k) → ∃ s, 0 ≤ s ∧ s < f 568 ∧ nxS f v s := by
    intro m
    induction m with
    | zero => intro u a b; omega
    | succ m ih =>
      intro u a b c d ⟨k, k1, k2, k3, k4⟩
      by_cases e : u = 0
      · rw [e] at k3; exact absurd k3 (tb_0 k)
      · rw [hW.2 u (by omega) c] at d
        have h1 : ∃ s, 0 ≤ s ∧ s < f 568 ∧ (tb u s ∧ nxS f (u - p2 s) s) ∧ 0 < wyC f (u - p2 s) := by
          refine Classical.not_not.mp fun q => ?_
          have h2 := isum_le (n := f 568) (g := fun s => pif (tb u s ∧ nxS f (u - p2 s) s) (wyC f (u - p2 s)) 0) (g' := fun _ => 0) (fun s x y => by
            rcases pif_cases (tb u s ∧ nxS f (u - p2 s) s) (wyC f (u - p2 s)) 0 with ⟨r, e2⟩ | ⟨r, e2⟩
            · rcases Int.lt_or_le 0 (wyC f (u - p2 s)) with t | t
              · exact absurd ⟨s, x, y, r, t⟩ q
              · show pif _ _ _ ≤ 0; rw [e2]; exact t
            · show pif _ _ _ ≤ 0; rw [e2]; exact Int.le_refl _)
          have h3 : isum (f 568) (fun _ => 0) = 0 := isum_z (fun _ _ _ => rfl)
          omega
        obtain ⟨s, s1, s2, ⟨s3, s4⟩, s5⟩ := h1
        have h2 := tb_sub a s3
        have h3 := p2_p s
        by_cases e3 : ∃ k, 0 ≤ k ∧ k < f 568 ∧ tb (u - p2 s) k ∧ ¬ tb v k
        · exact ih (u - p2 s) h2.1 (by omega) (by omega) s5 e3
        · have h4 : ∀ o, 0 ≤ o → o < f 568 → tb (u - p2 s) o → tb v o := fun o x y z => Classical.not_not.mp fun q => e3 ⟨o, x, y, z, q⟩
          by_cases e4 : tb v s
          · have e5 : k ≠ s := fun q => k4 (by rw [q]; exact e4)
            exact absurd (h4 k k1 k2 ((tb_subk ⟨a, by omega⟩ ⟨s1, by omega⟩ k1 s3).mpr ⟨k3, e5⟩)) k4
          · exact ⟨s, s1, s2, e4, fun o x y z => h4 o x y (s4.2 o x y z)⟩
  have h5 : ∃ k, 0 ≤ k ∧ k < f 568 ∧ tb (p2 (f 568) - 1) k ∧ ¬ tb v k := by
    refine Classical.not_not.mp fun q => ?_
    have : v = p2 (f 568) - 1 := set_eq hv.1 (by omega) fun k a => by
      constructor
      · intro r
        refine (tb_full ⟨hn.1, by omega⟩ a).mpr ?_
        rcases Int.lt_or_le k (f 568) with t | t
        · exact t
        · exact absurd r (tb_lt ⟨hv.1, by omega⟩ t)
      · intro r
        have r2 := (tb_full ⟨hn.1, by omega⟩ a).mp r
        exact Classical.not_not.mp fun t => q ⟨k, a, r2, r, t⟩
    omega
  have hp1 := p2_p (f 568)
  exact key (p2 (f 568)).toNat (p2 (f 568) - 1) (by omega) (by omega) (by omega) ht h5
theorem orS_s (f : sF) (k : Int) (h : 0 ≤ k) : orS f (k + 1).toNat = orS f k.toNat + p2 (orI f k) := by
  rw [show (k + 1).toNat = k.toNat + 1 by omega]
  rfl
/-- the set ahead has as many stones as its rank says -/
theorem orS_r {f : sF} (hn : 0 ≤ f 568 ∧ f 568 ≤ 10) (hW : wyR (f 568) (nxS f) (wyC f)) (ht : 0 < totI f) (k : Int) (h : 0 ≤ k) (hk : k ≤ f 568) : (0 ≤ orS f k.toNat ∧ orS f k.toNat < p2 (f 568)) ∧ pcI (orS f k.toNat) = k ∧ (k < f 568 → 0 ≤ orI f k ∧ orI f k < f 568 ∧ nxS f (orS f k.toNat) (orI f k)) := by
  have hp := p2_10 hn.2
  have hp1 := p2_p (f 568)
  have nx : ∀ m : Int, m < f 568 → 0 ≤ m → (0 ≤ orS f m.toNat ∧ orS f m.toNat < p2 (f 568)) → pcI (orS f m.toNat) = m → 0 ≤ orI f m ∧ orI f m < f 568 ∧ nxS f (orS f m.toNat) (orI f m) := fun m a a0 b c => by
    have hne : orS f m.toNat ≠ p2 (f 568) - 1 := fun q => by
      have h1 := (pc_le (n := f 568) (u := p2 (f 568) - 1) ⟨hn.1, by omega⟩ ⟨by omega, by omega⟩).1
      have h2 : isum (f 568) (fun k => bI (tb (p2 (f 568) - 1) k)) = f 568 := by
        have h3 := isum_b (n := f 568) (g := fun k => bI (tb (p2 (f 568) - 1) k)) 1 1 hn.1 (fun k x y => by
          have : bI (tb (p2 (f 568) - 1) k) = 1 := bI_t ((tb_full ⟨hn.1, by omega⟩ x).mpr y)
          show 1 ≤ bI (tb (p2 (f 568) - 1) k) ∧ bI (tb (p2 (f 568) - 1) k) ≤ 1
          omega)
        omega
      rw [q] at c
      omega
    obtain ⟨s, s1, s2, s3⟩ := or_nx hn hW ht (v := orS f m.toNat) (by omega)
    rcases idx_cases (nxS f (orS f m.toNat)) (f 568) with ⟨q1, q2⟩ | ⟨q1, q2, q3, q4⟩
    · exact absurd s3 (q2 s s1 s2)
    · exact ⟨q1, q2, q3⟩
  have key : ∀ m : Nat, (m : Int) ≤ f 568 → (0 ≤ orS f m ∧ orS f m < p2 (f 568)) ∧ pcI (orS f m) = (m : Int) := by
    intro m
    induction m with
    | zero => intro _; exact ⟨⟨Int.le_refl _, by show 0 < p2 (f 568); omega⟩, pc_0⟩
    | succ m ih =>
      intro hm
      have h1 := ih (by omega)
      have h2 := nx (m : Int) (by omega) (by omega) (by rw [Int.toNat_natCast]; exact h1.1) (by rw [Int.toNat_natCast]; exact h1.2)
      rw [Int.toNat_natCast] at h2
      have h3 : orS f (m + 1) = orS f m + p2 (orI f (m : Int)) := by
        show orS f m + p2 (idx (nxS f (orS f m)) (f 568)) = _
        unfold orI
        rw [Int.toNat_natCast]
      have h4 := nx_lt h1.1 ⟨h2.1, h2.2.1⟩ (by omega) h2.2.2.1
      have h5 := p2_p (orI f (m : Int))
      rw [h3]
      refine ⟨⟨by omega, h4⟩, ?_⟩
      rw [pc_add ⟨h1.1.1, by omega⟩ ⟨h2.1, by omega⟩ h2.2.2.1, h1.2]
      omega
  have h1 := key k.toNat (by omega)
  rw [show ((k.toNat : Nat) : Int) = k by omega] at h1
  exact ⟨h1.1, h1.2, fun q => nx k q h h1.1 h1.2⟩

abbrev rmX11_ranked : Room := { frames := 2, cells := 0, slots := 0, locals := 62 }
set_option maxHeartbeats 4000000 in
set_option maxRecDepth 100000 in
theorem kX11_ranked (l_ : Launch) (G : sG) (b_ : Nat) (M : sM) (N : Nat) (m : Nat) (th ch tn ea sn nm wn : Int) (f : sF) (A Wy R : sF) (s r : Int) (hm0 : M m = some (mO m th ch tn ea sn nm wn)) (hm1 : M (m + 1) = some (sArr G 574 f)) (hm7 : M (m + 7) = some (sArr G 10 A)) (hm5 : M (m + 5) = some (sArr G 1024 Wy)) (hm6 : M (m + 6) = some (sArr G 1024 R)) (hok : sOk f) (hA : ahP f A) (hC : ctP f Wy R) (hs : (0 ≤ s ∧ s < f 568) ∧ sR r) : cP l_ yX11_ranked wsX11_ranked rmX11_ranked G b_ M N [.ref m, .int (sI s), .int (sI r)] (rkI f s r) := by
  refine sE.ofI (cc := cX11_ranked) (nL := 5) (ret := (some .int)) (by decide) rfl (Nat.le_of_ble_eq_true rfl) ?_
  intro p_ e_ s_ m_ args_ below_ meth_ c_ ls Q hQ E hl
  have E : sE p_ l_ e_ rmX11_ranked s_ m_ args_ below_ meth_ c_ cX11_ranked 5 wsX11_ranked RX11 "ranked" (some .int) G b_ M N := E
  have S := E.1
  have hx_ := S.1
  have hb_ := S.2.1
  have hK := E.2.2.2.2.1
  have hV := E.2.2.2.2.2.2
  have hl : lv_has ls 5 [(0, .ref m), (1, .int (sI s)), (2, .int (sI r))] := hl
  have inX11_ : ∀ w ∈ wsX110, w ∈ wsX11_ranked := fun _ h => List.mem_cons_of_mem _ (List.mem_append_right _ h)
  have kn0 := sOk_N hok
  have hp1 := p2_p (f 568)
  have hp2 := p2_10 (n := f 568) (by omega)
  refine si_const S dX11_ranked_0 ?_
  refine lv_istore_n (lv' := [(3, .int (sI 0)), (0, .ref m), (1, .int (sI s)), (2, .int (sI r))]) hx_ hb_ dX11_ranked_1 rfl hl (by decide) rfl (fun ls hl => ?_)
  refine si_const S dX11_ranked_2 ?_
  refine lv_istore (lv' := [(4, .int (sI 0)), (3, .int (sI 0)), (0, .ref m), (1, .int (sI s)), (2, .int (sI r))]) hx_ hb_ dX11_ranked_3 hl (by decide) rfl (fun ls hl => ?_)
  have L5 : ∀ (fuel : Nat) (c : Int) (u : Int)  (H : Heap) (locs : List Loc) (ls : Array Slot), ((p2 (f 568) - u).toNat) < fuel → (0 ≤ u ∧ u ≤ p2 (f 568)) → (c = isum u (rkT f s r)) → sV G b_ M N s_ H locs → lv_has ls 5 [(0, .ref m), (1, .int (sI s)), (2, .int (sI r)), (3, .int (sI c)), (4, .int (sI u))] → W p_ l_ e_ rmX11_ranked s_ m_ args_ below_ meth_ c_ H locs 0 0 Q (F0 m_ 5 ls []) := by
    intro fuel
    induction fuel with
    | zero => intro c u H locs ls hmu; exact absurd hmu (Nat.not_lt_zero _)
    | succ fuel ih5 =>
      intro c u H locs ls hmu5 hv5_0 hc  hV hl
      have hpcr := pc_r u
      refine lv_iload hx_ hb_ dX11_ranked_5 (lv_at hl 4 rfl) ?_
      refine si_const S dX11_ranked_7 ?_
      refine lv_aload_n hx_ hb_ dX11_ranked_8 rfl (lv_at hl 0 rfl) ?_
      refine sk_VP E hV (As := []) (rest := [.int (sI 1), .int (sI u)]) (kX11_many l_ G b_ M N m th ch tn ea sn nm wn f hm0 hm1) (cwV 0 S.2.2.2.2 gX11_ranked_X11_many rfl rfl rfl (by decide +kernel) ⟨Nat.le_of_ble_eq_true rfl, Nat.le_of_ble_eq_true rfl⟩) (ci := 9) hm0 rfl rfl rfl hl.1 (Nat.le_of_ble_eq_true rfl) dX11_ranked_9 (c1 := 0) (s1 := 0) ⟨⟨rfl, rfl⟩, by decide, by decide⟩ (fun H locs hV => ?_)
      refine si_shl S dX11_ranked_12 ?_
      rw [ishl_p2 (k := f 568) (by omega)]
      refine sb_ge (tgt := 63) S dX11_ranked_13 (by decide) (by omega) (fun c1 => ?_) (fun c1 => ?_)
      · refine lv_iload_n hx_ hb_ dX11_ranked_63 rfl (lv_at hl 3 rfl) ?_
        exact sr_i E hQ dX11_ranked_64 ⟨Nat.le_of_ble_eq_true rfl, Nat.le_of_ble_eq_true rfl⟩ hV (⟨by unfold rkI; rw [hc, show u = p2 (f 568) by omega], rfl, rfl⟩)
      · refine lv_iload hx_ hb_ dX11_ranked_16 (lv_at hl 4 rfl) ?_
        refine sk_SP E hV (As := [.int (sI u)]) (rest := []) (kX11_bits l_ G b_ M N u (by omega)) (va_cwS 1 S.2.2.2.2 gX11_ranked_X11_bits rfl rfl rfl (by decide +kernel) ⟨Nat.le_of_ble_eq_true rfl, Nat.le_of_ble_eq_true rfl⟩) rfl rfl hl.1 (Nat.le_of_ble_eq_true rfl) dX11_ranked_18 (c1 := 0) (s1 := 0) ⟨⟨rfl, rfl⟩, by decide, by decide⟩ (fun H locs hV => ?_)
        refine lv_iload_n hx_ hb_ dX11_ranked_21 rfl (lv_at hl 2 rfl) ?_
        refine sb_ne (tgt := 57) S dX11_ranked_22 (by decide) (by omega) (fun h22 => ?_) (fun h22 => ?_)
        · refine si_inc (lv' := [(4, .int (sI (u + 1))), (0, .ref m), (1, .int (sI s)), (2, .int (sI r)), (3, .int (sI c))]) S dX11_ranked_57 hl (k := 4) rfl (by decide) rfl (fun ls hl => ?_)
          refine lv_goto (tgt := 5) hx_ hb_ dX11_ranked_60 (by decide) ?_
          exact ih5 c (u + 1) _ _ _ (by omega) (by omega) (by have e := isum_s (rkT f s r) (show 0 ≤ u by omega); have e2 : rkT f s r u = pif (pcI u = r) (edF f u s) 0 := rfl; rw [pif_f h22] at e2; omega) hV (lv_sub hl [1, 2, 3, 4, 0] rfl)
        · refine lv_aload_n hx_ hb_ dX11_ranked_25 rfl (lv_at hl 0 rfl) ?_
          refine lv_iload hx_ hb_ dX11_ranked_26 (lv_at hl 4 rfl) ?_
          refine lv_iload_n hx_ hb_ dX11_ranked_28 rfl (lv_at hl 1 rfl) ?_
          refine sk_VP E hV (As := [.int (sI u), .int (sI s)]) (rest := []) (kX11_canBeNext l_ G b_ M N m th ch tn ea sn nm wn f A u s hm0 hm1 hm7 (by omega) (hA) (by omega) (by omega)) (cwV 2 S.2.2.2.2 gX11_ranked_X11_canBeNext rfl rfl rfl (by decide +kernel) ⟨Nat.le_of_ble_eq_true rfl, Nat.le_of_ble_eq_true rfl⟩) (ci := 9) hm0 rfl rfl rfl hl.1 (Nat.le_of_ble_eq_true rfl) dX11_ranked_29 (c1 := 0) (s1 := 0) ⟨⟨rfl, rfl⟩, by decide, by decide⟩ (fun H locs hV => ?_)
          refine sq_eq (tgt := 57) S dX11_ranked_32 (by decide) (fun hq32 => ?_) (fun hq32 => ?_)
          · refine si_inc (lv' := [(4, .int (sI (u + 1))), (0, .ref m), (1, .int (sI s)), (2, .int (sI r)), (3, .int (sI c))]) S dX11_ranked_57 hl (k := 4) rfl (by decide) rfl (fun ls hl => ?_)
            refine lv_goto (tgt := 5) hx_ hb_ dX11_ranked_60 (by decide) ?_
            exact ih5 c (u + 1) _ _ _ (by omega) (by omega) (by have e := isum_s (rkT f s r) (show 0 ≤ u by omega); have e2 : rkT f s r u = pif (pcI u = r) (edF f u s) 0 := rfl; rw [edF_f hq32] at e2; rcases pif_cases (pcI u = r) 0 0 with ⟨-, e9⟩ | ⟨-, e9⟩ <;> (rw [e9] at e2; omega)) hV (lv_sub hl [1, 2, 3, 4, 0] rfl)
          · have hnx := nx_lt (n := f 568) (v := u) (s := s) (by omega) (by omega) (by omega) hq32.1
            have hps := p2_p s
            refine lv_iload_n hx_ hb_ dX11_ranked_35 rfl (lv_at hl 3 rfl) ?_
            refine lv_aload_n hx_ hb_ dX11_ranked_36 rfl (lv_at hl 0 rfl) ?_
            refine sc_get (ci := 9) (C := RX11) (T := TX11) (n := 22) S hK hV inX11_ hm0 rfl 8 (by decide) (S.2.2.2.2 _ (List.mem_of_getElem? (i := 1) rfl)) rfl rfl dX11_ranked_37 ?_
            refine lv_iload hx_ hb_ dX11_ranked_40 (lv_at hl 4 rfl) ?_
            refine sc_iald S hK hV hm5 (by omega) dX11_ranked_42 ?_
            refine lv_aload_n hx_ hb_ dX11_ranked_43 rfl (lv_at hl 0 rfl) ?_
            refine sc_get (ci := 9) (C := RX11) (T := TX11) (n := 22) S hK hV inX11_ hm0 rfl 9 (by decide) (S.2.2.2.2 _ (List.mem_of_getElem? (i := 2) rfl)) rfl rfl dX11_ranked_44 ?_
            refine lv_iload hx_ hb_ dX11_ranked_47 (lv_at hl 4 rfl) ?_
            refine si_const S dX11_ranked_49 ?_
            refine lv_iload_n hx_ hb_ dX11_ranked_50 rfl (lv_at hl 1 rfl) ?_
            refine si_shl S dX11_ranked_51 ?_
            refine si_or S dX11_ranked_52 ?_
            rw [ior_p2 (by omega) (by omega) hq32.1]
            refine sc_iald S hK hV hm6 (by omega) dX11_ranked_53 ?_
            refine si_mul S dX11_ranked_54 ?_
            refine si_add S dX11_ranked_55 ?_
            refine lv_istore_n (lv' := [(3, .int (sI (c + ((Wy u) * (R (u + p2 s)))))), (0, .ref m), (1, .int (sI s)), (2, .int (sI r)), (4, .int (sI u))]) hx_ hb_ dX11_ranked_56 rfl hl (by decide) rfl (fun ls hl => ?_)
            refine si_inc (lv' := [(4, .int (sI (u + 1))), (3, .int (sI (c + ((Wy u) * (R (u + p2 s)))))), (0, .ref m), (1, .int (sI s)), (2, .int (sI r))]) S dX11_ranked_57 hl (k := 4) rfl (by decide) rfl (fun ls hl => ?_)
            refine lv_goto (tgt := 5) hx_ hb_ dX11_ranked_60 (by decide) ?_
            exact ih5 (c + ((Wy u) * (R (u + p2 s)))) (u + 1) _ _ _ (by omega) (by omega) (by have e := isum_s (rkT f s r) (show 0 ≤ u by omega); have e2 : rkT f s r u = pif (pcI u = r) (edF f u s) 0 := rfl; rw [pif_t h22, edF_v hC (by omega) (by omega) (by omega) hq32] at e2; omega) hV (lv_sub hl [2, 3, 4, 1, 0] rfl)
  exact L5 _ 0 0 _ _ _ (Nat.lt_succ_self _) (by omega) (rfl) hV (lv_sub hl [2, 3, 4, 1, 0] rfl)

abbrev rmX11_above : Room := { frames := 2, cells := 0, slots := 0, locals := 62 }
set_option maxHeartbeats 4000000 in
set_option maxRecDepth 100000 in
theorem kX11_above (l_ : Launch) (G : sG) (b_ : Nat) (M : sM) (N : Nat) (m : Nat) (th ch tn ea sn nm wn : Int) (f : sF) (A Wy R : sF) (a b : Int) (hm0 : M m = some (mO m th ch tn ea sn nm wn)) (hm1 : M (m + 1) = some (sArr G 574 f)) (hm7 : M (m + 7) = some (sArr G 10 A)) (hm5 : M (m + 5) = some (sArr G 1024 Wy)) (hm6 : M (m + 6) = some (sArr G 1024 R)) (hok : sOk f) (hA : ahP f A) (hC : ctP f Wy R) (hs : (0 ≤ a ∧ a < f 568) ∧ 0 ≤ b ∧ b < f 568) : cP l_ yX11_above wsX11_above rmX11_above G b_ M N [.ref m, .int (sI a), .int (sI b)] (abI f a b) := by
  refine sE.ofI (cc := cX11_above) (nL := 5) (ret := (some .int)) (by decide) rfl (Nat.le_of_ble_eq_true rfl) ?_
  intro p_ e_ s_ m_ args_ below_ meth_ c_ ls Q hQ E hl
  have E : sE p_ l_ e_ rmX11_above s_ m_ args_ below_ meth_ c_ cX11_above 5 wsX11_above RX11 "above" (some .int) G b_ M N := E
  have S := E.1
  have hx_ := S.1
  have hb_ := S.2.1
  have hK := E.2.2.2.2.1
  have hV := E.2.2.2.2.2.2
  have hl : lv_has ls 5 [(0, .ref m), (1, .int (sI a)), (2, .int (sI b))] := hl
  have inX11_ : ∀ w ∈ wsX110, w ∈ wsX11_above := fun _ h => List.mem_cons_of_mem _ (List.mem_append_right _ h)
  have kn0 := sOk_N hok
  have hp1 := p2_p (f 568)
  have hp2 := p2_10 (n := f 568) (by omega)
  refine si_const S dX11_above_0 ?_
  refine lv_istore_n (lv' := [(3, .int (sI 0)), (0, .ref m), (1, .int (sI a)), (2, .int (sI b))]) hx_ hb_ dX11_above_1 rfl hl (by decide) rfl (fun ls hl => ?_)
  refine si_const S dX11_above_2 ?_
  refine lv_istore (lv' := [(4, .int (sI 0)), (3, .int (sI 0)), (0, .ref m), (1, .int (sI a)), (2, .int (sI b))]) hx_ hb_ dX11_above_3 hl (by decide) rfl (fun ls hl => ?_)
  have L5 : ∀ (fuel : Nat) (c : Int) (u : Int)  (H : Heap) (locs : List Loc) (ls : Array Slot), ((p2 (f 568) - u).toNat) < fuel → (0 ≤ u ∧ u ≤ p2 (f 568)) → (c = isum u (abT f a b)) → sV G b_ M N s_ H locs → lv_has ls 5 [(0, .ref m), (1, .int (sI a)), (2, .int (sI b)), (3, .int (sI c)), (4, .int (sI u))] → W p_ l_ e_ rmX11_above s_ m_ args_ below_ meth_ c_ H locs 0 0 Q (F0 m_ 5 ls []) := by
    intro fuel
    induction fuel with
    | zero => intro c u H locs ls hmu; exact absurd hmu (Nat.not_lt_zero _)
    | succ fuel ih5 =>
      intro c u H locs ls hmu5 hv5_0 hc  hV hl
      have hpcr := pc_r u
      refine lv_iload hx_ hb_ dX11_above_5 (lv_at hl 4 rfl) ?_
      refine si_const S dX11_above_7 ?_
      refine lv_aload_n hx_ hb_ dX11_above_8 rfl (lv_at hl 0 rfl) ?_
      refine sk_VP E hV (As := []) (rest := [.int (sI 1), .int (sI u)]) (kX11_many l_ G b_ M N m th ch tn ea sn nm wn f hm0 hm1) (cwV 0 S.2.2.2.2 gX11_above_X11_many rfl rfl rfl (by decide +kernel) ⟨Nat.le_of_ble_eq_true rfl, Nat.le_of_ble_eq_true rfl⟩) (ci := 9) hm0 rfl rfl rfl hl.1 (Nat.le_of_ble_eq_true rfl) dX11_above_9 (c1 := 0) (s1 := 0) ⟨⟨rfl, rfl⟩, by decide, by decide⟩ (fun H locs hV => ?_)
      refine si_shl S dX11_above_12 ?_
      rw [ishl_p2 (k := f 568) (by omega)]
      refine sb_ge (tgt := 63) S dX11_above_13 (by decide) (by omega) (fun c1 => ?_) (fun c1 => ?_)
      · refine lv_iload_n hx_ hb_ dX11_above_63 rfl (lv_at hl 3 rfl) ?_
        exact sr_i E hQ dX11_above_64 ⟨Nat.le_of_ble_eq_true rfl, Nat.le_of_ble_eq_true rfl⟩ hV (⟨by unfold abI; rw [hc, show u = p2 (f 568) by omega], rfl, rfl⟩)
      · refine lv_iload hx_ hb_ dX11_above_16 (lv_at hl 4 rfl) ?_
        refine lv_iload_n hx_ hb_ dX11_above_18 rfl (lv_at hl 2 rfl) ?_
        refine si_shr S dX11_above_19 ?_
        refine si_const S dX11_above_20 ?_
        refine si_and S dX11_above_21 ?_
        rw [ibit (m := u) (k := b) (by omega) (by omega)]
        refine sq_ne (tgt := 57) S dX11_above_22 (by decide) (fun h22 => ?_) (fun h22 => ?_)
        · have h22 : ¬ ¬ tb u b := fun q => q h22
          refine si_inc (lv' := [(4, .int (sI (u + 1))), (0, .ref m), (1, .int (sI a)), (2, .int (sI b)), (3, .int (sI c))]) S dX11_above_57 hl (k := 4) rfl (by decide) rfl (fun ls hl => ?_)
          refine lv_goto (tgt := 5) hx_ hb_ dX11_above_60 (by decide) ?_
          exact ih5 c (u + 1) _ _ _ (by omega) (by omega) (by have e := isum_s (abT f a b) (show 0 ≤ u by omega); have e2 : abT f a b u = pif (¬ tb u b) (edF f u a) 0 := rfl; rw [pif_f h22] at e2; omega) hV (lv_sub hl [1, 2, 3, 4, 0] rfl)
        · refine lv_aload_n hx_ hb_ dX11_above_25 rfl (lv_at hl 0 rfl) ?_
          refine lv_iload hx_ hb_ dX11_above_26 (lv_at hl 4 rfl) ?_
          refine lv_iload_n hx_ hb_ dX11_above_28 rfl (lv_at hl 1 rfl) ?_
          refine sk_VP E hV (As := [.int (sI u), .int (sI a)]) (rest := []) (kX11_canBeNext l_ G b_ M N m th ch tn ea sn nm wn f A u a hm0 hm1 hm7 (by omega) (hA) (by omega) (by omega)) (cwV 2 S.2.2.2.2 gX11_above_X11_canBeNext rfl rfl rfl (by decide +kernel) ⟨Nat.le_of_ble_eq_true rfl, Nat.le_of_ble_eq_true rfl⟩) (ci := 9) hm0 rfl rfl rfl hl.1 (Nat.le_of_ble_eq_true rfl) dX11_above_29 (c1 := 0) (s1 := 0) ⟨⟨rfl, rfl⟩, by decide, by decide⟩ (fun H locs hV => ?_)
          refine sq_eq (tgt := 57) S dX11_above_32 (by decide) (fun hq32 => ?_) (fun hq32 => ?_)
          · refine si_inc (lv' := [(4, .int (sI (u + 1))), (0, .ref m), (1, .int (sI a)), (2, .int (sI b)), (3, .int (sI c))]) S dX11_above_57 hl (k := 4) rfl (by decide) rfl (fun ls hl => ?_)
            refine lv_goto (tgt := 5) hx_ hb_ dX11_above_60 (by decide) ?_
            exact ih5 c (u + 1) _ _ _ (by omega) (by omega) (by have e := isum_s (abT f a b) (show 0 ≤ u by omega); have e2 : abT f a b u = pif (¬ tb u b) (edF f u a) 0 := rfl; rw [edF_f hq32] at e2; rcases pif_cases (¬ tb u b) 0 0 with ⟨-, e9⟩ | ⟨-, e9⟩ <;> (rw [e9] at e2; omega)) hV (lv_sub hl [1, 2, 3, 4, 0] rfl)
          · have hnx := nx_lt (n := f 568) (v := u) (s := a) (by omega) (by omega) (by omega) hq32.1
            have hps := p2_p a
            refine lv_iload_n hx_ hb_ dX11_above_35 rfl (lv_at hl 3 rfl) ?_
            refine lv_aload_n hx_ hb_ dX11_above_36 rfl (lv_at hl 0 rfl) ?_
            refine sc_get (ci := 9) (C := RX11) (T := TX11) (n := 22) S hK hV inX11_ hm0 rfl 8 (by decide) (S.2.2.2.2 _ (List.mem_of_getElem? (i := 1) rfl)) rfl rfl dX11_above_37 ?_
            refine lv_iload hx_ hb_ dX11_above_40 (lv_at hl 4 rfl) ?_
            refine sc_iald S hK hV hm5 (by omega) dX11_above_42 ?_
            refine lv_aload_n hx_ hb_ dX11_above_43 rfl (lv_at hl 0 rfl) ?_
            refine sc_get (ci := 9) (C := RX11) (T := TX11) (n := 22) S hK hV inX11_ hm0 rfl 9 (by decide) (S.2.2.2.2 _ (List.mem_of_getElem? (i := 2) rfl)) rfl rfl dX11_above_44 ?_
            refine lv_iload hx_ hb_ dX11_above_47 (lv_at hl 4 rfl) ?_
            refine si_const S dX11_above_49 ?_
            refine lv_iload_n hx_ hb_ dX11_above_50 rfl (lv_at hl 1 rfl) ?_
            refine si_shl S dX11_above_51 ?_
            refine si_or S dX11_above_52 ?_
            rw [ior_p2 (by omega) (by omega) hq32.1]
            refine sc_iald S hK hV hm6 (by omega) dX11_above_53 ?_
            refine si_mul S dX11_above_54 ?_
            refine si_add S dX11_above_55 ?_
            refine lv_istore_n (lv' := [(3, .int (sI (c + ((Wy u) * (R (u + p2 a)))))), (0, .ref m), (1, .int (sI a)), (2, .int (sI b)), (4, .int (sI u))]) hx_ hb_ dX11_above_56 rfl hl (by decide) rfl (fun ls hl => ?_)
            refine si_inc (lv' := [(4, .int (sI (u + 1))), (3, .int (sI (c + ((Wy u) * (R (u + p2 a)))))), (0, .ref m), (1, .int (sI a)), (2, .int (sI b))]) S dX11_above_57 hl (k := 4) rfl (by decide) rfl (fun ls hl => ?_)
            refine lv_goto (tgt := 5) hx_ hb_ dX11_above_60 (by decide) ?_
            exact ih5 (c + ((Wy u) * (R (u + p2 a)))) (u + 1) _ _ _ (by omega) (by omega) (by have e := isum_s (abT f a b) (show 0 ≤ u by omega); have e2 : abT f a b u = pif (¬ tb u b) (edF f u a) 0 := rfl; rw [pif_t h22, edF_v hC (by omega) (by omega) (by omega) hq32] at e2; omega) hV (lv_sub hl [2, 3, 4, 1, 0] rfl)
  exact L5 _ 0 0 _ _ _ (Nat.lt_succ_self _) (by omega) (rfl) hV (lv_sub hl [2, 3, 4, 1, 0] rfl)
