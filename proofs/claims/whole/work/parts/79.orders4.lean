/-! Orders as a whole: what it has found, of whom it speaks, and what it answers. -/
theorem nxS_c {f f2 : sF} (h : f 568 = f2 568) (h2 : doP f = doP f2) : nxS f = nxS f2 := by
  funext v s
  unfold nxS
  rw [h, h2]
theorem rqP_c {f f2 : sF} (h : f 568 = f2 568) (h2 : doP f = doP f2) : rqP f = rqP f2 := by
  funext a k x
  unfold rqP
  have key : ∀ m : Nat, ∀ y, rqN f a m y = rqN f2 a m y := by
    intro m
    induction m with
    | zero => intro y; rfl
    | succ m ih =>
      intro y
      show ((a < y ∧ y < f 568) ∧ ∃ z, doP f y z ∧ rqN f a m z) = ((a < y ∧ y < f2 568) ∧ ∃ z, doP f2 y z ∧ rqN f2 a m z)
      rw [h, h2, show rqN f a m = rqN f2 a m from funext ih]
  exact key _ x
def doR (f : sF) : Prop := (0 ≤ f 568 ∧ f 568 ≤ 10) ∧ ∀ a b, doP f a b → (0 ≤ a ∧ a < 10) ∧ 0 ≤ b
theorem do_R {f : sF} (hok : sOk f) : doR f := ⟨(sOk_N hok).1, fun a b h => by have := doP_r hok h; have := (sOk_N hok).1; omega⟩
theorem do_c {f f2 T T2 : sF} (h : doR f) (h2 : doR f2) (hT : sfP f T) (hT2 : sfP f2 T2) (e : ∀ j, 0 ≤ j → j < 10 → T j = T2 j) : doP f = doP f2 := by
  funext a b
  refine propext ⟨fun q => ?_, fun q => ?_⟩
  · have r := h.2 a b q
    have u := ((hT a r.1.1 r.1.2).2 b r.2).mpr q
    rw [e a r.1.1 r.1.2] at u
    exact ((hT2 a r.1.1 r.1.2).2 b r.2).mp u
  · have r := h2.2 a b q
    have u := ((hT2 a r.1.1 r.1.2).2 b r.2).mpr q
    rw [← e a r.1.1 r.1.2] at u
    exact ((hT a r.1.1 r.1.2).2 b r.2).mp u
def odA (f W : sF) : Prop := ∀ u, 0 ≤ u → u < p2 (f 568) → W u = wyC f u
/-- what the rows of Orders say of f -/
def odD (f : sF) (L : Int) (T Hr W A P R : sF) : Prop := doR f ∧ sfP f T ∧ haP f Hr ∧ odA f W ∧ rkA f A ∧ abA f P ∧ fiP f (f 568) L R
def odQ (c L : Int) (T Hr W A P R : sF) : Prop := (∀ j, 0 ≤ j → j < 10 → 0 ≤ T j ∧ T j ≤ 2147483647) ∧ (c = -1 ∨ ∃ f, c = f 568 ∧ odD f L T Hr W A P R)
theorem od_c {f f2 T Hr W A P R : sF} {L : Int} (hf : doR f) (h : f2 568 = f 568) (hd : doP f2 = doP f) (q : odD f2 L T Hr W A P R) : odD f L T Hr W A P R := by
  obtain ⟨-, q2, q3, q4, q5, q6, q7⟩ := q
  have e1 := nxS_c h hd
  have e2 := wyC_c h e1
  have e3 := rsC_c h e1
  have e4 := rqP_c h hd
  refine ⟨hf, ?_, ?_, ?_, ?_, ?_, ?_⟩
  · unfold sfP at q2 ⊢; rw [hd] at q2; exact q2
  · unfold haP at q3 ⊢; rw [hd] at q3; exact q3
  · unfold odA at q4 ⊢; rw [h, e2] at q4; exact q4
  · unfold rkA rkI rkT edF at q5 ⊢; rw [h, e1, e2, e3] at q5; exact q5
  · unfold abA abI abT edF at q6 ⊢; rw [h, e1, e2, e3] at q6; exact q6
  · unfold fiP wkQ rdP at q7 ⊢; rw [h, hd, e4] at q7; exact q7
theorem od_s {f T T2 Hr W A P R : sF} {c L : Int} (hok : sOk f) (hc : c = f 568) (hT2 : sfP f T2) (e : ∀ j, 0 ≤ j → j < 10 → T2 j = T j) (q : odQ c L T Hr W A P R) : odD f L T Hr W A P R := by
  have hf := do_R hok
  rcases q.2 with q | ⟨f2, q1, q2⟩
  · have := hf.1; omega
  · exact od_c hf (by omega) (do_c q2.1 hf q2.2.1 hT2 (fun j a b => (e j a b).symm)) q2
theorem od_q {f T Hr W A P R : sF} {L : Int} (h : odD f L T Hr W A P R) : odQ (f 568) L T Hr W A P R := ⟨fun j a b => (h.2.1 j a b).1, Or.inr ⟨f, rfl, h⟩⟩
theorem fi_r {f G : sF} {b L : Int} (hn : 0 ≤ f 568) (h : fiP f b L G) : 0 ≤ L ∧ L ≤ f 568 := by
  rcases h with ⟨e, _⟩ | ⟨e, _⟩ <;> omega
/-- with orders there is no ring -/
theorem rg_no {f r : sF} {L : Int} (hok : sOk f) (h : riP f L r) : totI f = 0 := by
  have hn := (sOk_N hok).1
  have hW := wyC_R f hn
  have hp := p2_p (f 568)
  have hp9 := p2_10 (n := f 568) hn.2
  have hL := h.1
  have key : ∀ m : Nat, ∀ u, 0 ≤ u → u < p2 (f 568) → u < (m : Int) → 0 < wyC f u → ∀ i, 0 ≤ i → i < L → ¬ tb u (r i) := by
    intro m
    induction m with
    | zero => intro u a _ b; omega
    | succ m ih =>
      intro u a b c d i i1 i2 q
      have e0 : u ≠ 0 := fun e => tb_0 (r i) (by rw [← e]; exact q)
      have hz : wyC f u = 0 := by
        rw [hW.2 u (by omega) b]
        refine isum_z fun s s1 s2 => ?_
        by_cases t : tb u s ∧ nxS f (u - p2 s) s
        · rw [pif_t t]
          have t1 := tb_sub a t.1
          have t2 := p2_p s
          have t3 := wyW_r hn hW (u - p2 s) (by omega) (by omega)
          refine Classical.not_not.mp fun t4 => ?_
          have ih2 := ih (u - p2 s) (by omega) (by omega) (by omega) (by omega)
          have t5 : s = r i := Classical.not_not.mp fun e => ih2 i i1 i2 ((tb_subk (by omega) (by omega) (h.2.1 i i1 i2).1 t.1).mpr ⟨q, fun e2 => e e2.symm⟩)
          have t6 : ∃ j, (0 ≤ j ∧ j < L) ∧ doP f (r j) (r i) := by
            by_cases e : i = 0
            · rw [e]; exact ⟨L - 1, by omega, h.2.2.2.2.2⟩
            · have t7 := h.2.2.2.2.1 (i - 1) (by omega) (by omega)
              rw [show i - 1 + 1 = i by omega] at t7
              exact ⟨i - 1, by omega, t7⟩
          obtain ⟨j, j1, j2⟩ := t6
          rw [← t5] at j2
          exact ih2 j j1.1 j1.2 (t.2.2 (r j) (h.2.1 j j1.1 j1.2).1 (h.2.1 j j1.1 j1.2).2 j2)
        · exact pif_f t
      omega
  have hr := tot_r hn (ctC f hn)
  refine Classical.not_not.mp fun q => ?_
  have h0 := h.2.1 0 (by omega) (by omega)
  exact key (p2 (f 568)).toNat (p2 (f 568) - 1) (by omega) (by omega) (by omega) (by show 0 < totI f; omega) 0 (by omega) (by omega) ((tb_full (by omega) h0.1).mpr h0.2)
theorem lst {g : Int → Int} : ∀ b : Nat, ∀ i : Nat, (∀ k : Nat, 0 ≤ g k) → (∃ k : Nat, i ≤ k ∧ g k < (b : Int)) → ∃ m : Nat, i ≤ m ∧ ∀ k : Nat, i ≤ k → g m ≤ g k := by
  intro b
  induction b with
  | zero => rintro i h ⟨k, _, h2⟩; have := h k; omega
  | succ b ih =>
    rintro i h ⟨k, h1, h2⟩
    by_cases e : ∃ k : Nat, i ≤ k ∧ g k < (b : Int)
    · exact ih i h e
    · exact ⟨k, h1, fun j h3 => by
        rcases Int.lt_or_le (g j) (b : Int) with t | t
        · exact absurd ⟨j, h3, t⟩ e
        · omega⟩
/-- where nobody can come next there is a ring -/
theorem rd_ex {f : sF} (hok : sOk f) {v : Int} (hv : 0 ≤ v ∧ v < p2 (f 568) - 1) (h : ∀ s, 0 ≤ s → s < f 568 → ¬ nxS f v s) : ∃ a k, (0 ≤ a ∧ a < f 568) ∧ (1 ≤ k ∧ k ≤ f 568) ∧ rdP f a k := by
  have hn := (sOk_N hok).1
  have hp9 := p2_10 (n := f 568) hn.2
  have h5 : ∃ k, 0 ≤ k ∧ k < f 568 ∧ ¬ tb v k := by
    refine Classical.not_not.mp fun q => ?_
    have : v = p2 (f 568) - 1 := set_eq hv.1 (by omega) fun k a => by
      constructor
      · intro r
        refine (tb_full ⟨hn.1, by omega⟩ a).mpr ?_
        rcases Int.lt_or_le k (f 568) with t | t
        · exact t
        · exact absurd r (tb_lt ⟨hv.1, by omega⟩ t)
      · intro r
        have r2 := (tb_full ⟨hn.1, by omega⟩ a).mp r
        exact Classical.not_not.mp fun t => q ⟨k, a, r2, t⟩
    omega
  obtain ⟨s0, a1, a2, a3⟩ := h5
  have hpr : ∀ s : Int, ∃ o : Int, (0 ≤ s ∧ s < f 568 ∧ ¬ tb v s) → (0 ≤ o ∧ o < f 568 ∧ ¬ tb v o) ∧ doP f o s := fun s => by
    by_cases q : 0 ≤ s ∧ s < f 568 ∧ ¬ tb v s
    · have q2 : ∃ o, (0 ≤ o ∧ o < f 568 ∧ ¬ tb v o) ∧ doP f o s := by
        refine Classical.not_not.mp fun w => h s q.1 q.2.1 ⟨q.2.2, fun o o1 o2 o3 => Classical.not_not.mp fun o4 => w ⟨o, ⟨o1, o2, o4⟩, o3⟩⟩
      obtain ⟨o, q3⟩ := q2
      exact ⟨o, fun _ => q3⟩
    · exact ⟨0, fun w => absurd w q⟩
  have hg : ∀ k : Nat, 0 ≤ itN (fun s => (hpr s).choose) k s0 ∧ itN (fun s => (hpr s).choose) k s0 < f 568 ∧ ¬ tb v (itN (fun s => (hpr s).choose) k s0) := by
    intro k
    induction k with
    | zero => exact ⟨a1, a2, a3⟩
    | succ k ih => exact ((hpr _).choose_spec ih).1
  have hd : ∀ k : Nat, doP f (itN (fun s => (hpr s).choose) (k + 1) s0) (itN (fun s => (hpr s).choose) k s0) := fun k => ((hpr _).choose_spec (hg k)).2
  have hst : ∀ k : Nat, ∀ j : Nat, itN (fun s => (hpr s).choose) k s0 = itN (fun s => (hpr s).choose) j s0 → ∀ t : Nat, itN (fun s => (hpr s).choose) (k + t) s0 = itN (fun s => (hpr s).choose) (j + t) s0 := by
    intro k j e t
    induction t with
    | zero => exact e
    | succ t ih =>
      show (hpr (itN (fun s => (hpr s).choose) (k + t) s0)).choose = (hpr (itN (fun s => (hpr s).choose) (j + t) s0)).choose
      rw [ih]
  generalize hgd : (fun k : Nat => itN (fun s => (hpr s).choose) k s0) = g
  have eg : ∀ k : Nat, itN (fun s => (hpr s).choose) k s0 = g k := fun k => congrFun hgd k
  have hg2 : ∀ k : Nat, 0 ≤ g k ∧ g k < f 568 := fun k => by rw [← eg k]; exact ⟨(hg k).1, (hg k).2.1⟩
  have hd2 : ∀ k : Nat, doP f (g (k + 1)) (g k) := fun k => by rw [← eg k, ← eg (k + 1)]; exact hd k
  have hst2 : ∀ k j : Nat, g k = g j → ∀ t : Nat, g (k + t) = g (j + t) := fun k j e t => by
    rw [← eg (k + t), ← eg (j + t)]
    exact hst k j (by rw [eg k, eg j]; exact e) t
  obtain ⟨i, j, c1, c2, c3, c4⟩ := pig (m := f 568 + 1) (n := f 568) (h := fun k => g k.toNat) hn.1 (by omega) (fun k _ _ => hg2 k.toNat)
  obtain ⟨m, d1, d2⟩ := lst (g := fun k => g k.toNat) 11 i.toNat (fun k => (hg2 _).1) ⟨i.toNat, Nat.le_refl _, by have := (hg2 (((i.toNat : Nat) : Int).toNat)).2; show g _ < 11; omega⟩
  have d3 : ∀ k : Nat, i.toNat ≤ k → g m ≤ g k := fun k w => by
    have := d2 k w
    exact this
  have d4 : g (m + (j.toNat - i.toNat)) = g m := by
    have := hst2 j.toNat i.toNat c4.symm (m - i.toNat)
    rw [show j.toNat + (m - i.toNat) = m + (j.toNat - i.toNat) by omega, show i.toNat + (m - i.toNat) = m by omega] at this
    exact this
  have d5 : ∃ t : Nat, 1 ≤ t ∧ t ≤ j.toNat - i.toNat ∧ g (m + t) = g m ∧ ∀ x : Nat, 1 ≤ x → x < t → g (m + x) ≠ g m := by
    rcases idx_cases (fun t => g (m + 1 + t.toNat) = g m) ((j.toNat - i.toNat : Nat) : Int) with ⟨-, w⟩ | ⟨w1, w2, w3, w4⟩
    · exact absurd (by
        show g (m + 1 + (((j.toNat - i.toNat : Nat) : Int) - 1).toNat) = g m
        rw [show m + 1 + (((j.toNat - i.toNat : Nat) : Int) - 1).toNat = m + (j.toNat - i.toNat) by omega]
        exact d4) (w (((j.toNat - i.toNat : Nat) : Int) - 1) (by omega) (by omega))
    · generalize idx (fun t => g (m + 1 + t.toNat) = g m) ((j.toNat - i.toNat : Nat) : Int) = t0 at w1 w2 w3 w4
      refine ⟨t0.toNat + 1, by omega, by omega, ?_, fun x x1 x2 q => w4 ((x : Int) - 1) (by omega) (by omega) ?_⟩
      · rw [show m + (t0.toNat + 1) = m + 1 + t0.toNat by omega]; exact w3
      · show g (m + 1 + ((x : Int) - 1).toNat) = g m
        rw [show m + 1 + ((x : Int) - 1).toNat = m + x by omega]; exact q
  obtain ⟨t, t1, t2, t3, t4⟩ := d5
  have key : ∀ x : Nat, x < t → rqP f (g m) (x : Int) (g (m + x)) := by
    intro x
    induction x with
    | zero => intro _; exact (rqP_0 f (g m) _).mpr rfl
    | succ x ih =>
      intro hx
      have y1 := d3 (m + (x + 1)) (by omega)
      have y2 := t4 (x + 1) (by omega) hx
      have y3 := hg2 (m + (x + 1))
      rw [show ((x + 1 : Nat) : Int) = (x : Int) + 1 by omega]
      exact (rqP_s f (g m) _ (by omega)).mpr ⟨by omega, g (m + x), hd2 (m + x), ih (by omega)⟩
  refine ⟨g m, (t : Int), hg2 m, by omega, g (m + (t - 1)), ?_, ?_⟩
  · have := hd2 (m + (t - 1))
    rw [show m + (t - 1) + 1 = m + t by omega, t3] at this
    exact this
  · rw [show (t : Int) - 1 = ((t - 1 : Nat) : Int) by omega]
    exact key (t - 1) (by omega)
/-- without a ring there is an order -/
theorem tot_p {f : sF} (hok : sOk f) (h : ∀ a k, (0 ≤ a ∧ a < f 568) → (1 ≤ k ∧ k ≤ f 568) → ¬ rdP f a k) : 0 < totI f := by
  have hn := (sOk_N hok).1
  have hp := p2_p (f 568)
  have hp9 := p2_10 (n := f 568) hn.2
  have key : ∀ m : Nat, (m : Int) ≤ f 568 → ∃ v, (0 ≤ v ∧ v < p2 (f 568)) ∧ pcI v = (m : Int) ∧ 0 < wyC f v := by
    intro m
    induction m with
    | zero => intro _; exact ⟨0, by omega, pc_0, by rw [(wyC_R f hn).1]; omega⟩
    | succ m ih =>
      intro hm
      obtain ⟨v, v1, v2, v3⟩ := ih (by omega)
      have h1 : v ≠ p2 (f 568) - 1 := fun e => by rw [e, pc_full (by omega)] at v2; omega
      have h2 : ∃ s, 0 ≤ s ∧ s < f 568 ∧ nxS f v s := Classical.not_not.mp fun q => by
        obtain ⟨a, k, q1, q2, q3⟩ := rd_ex hok (v := v) (by omega) (fun s s1 s2 s3 => q ⟨s, s1, s2, s3⟩)
        exact h a k q1 q2 q3
      obtain ⟨s, s1, s2, s3⟩ := h2
      have h4 := p2_p s
      have h5 := nx_lt v1 ⟨s1, s2⟩ (by omega) s3.1
      exact ⟨v + p2 s, by omega, by rw [pc_add (by omega) (by omega) s3.1]; omega, wy_go hn v1 ⟨s1, s2⟩ s3 v3⟩
  obtain ⟨v, v1, v2, v3⟩ := key (f 568).toNat (by omega)
  by_cases e : v = p2 (f 568) - 1
  · rw [e] at v3; exact v3
  · have h5 : ∃ k, 0 ≤ k ∧ k < f 568 ∧ ¬ tb v k := by
      refine Classical.not_not.mp fun q => e (set_eq v1.1 (by omega) fun k a => ?_)
      constructor
      · intro r
        refine (tb_full ⟨hn.1, by omega⟩ a).mpr ?_
        rcases Int.lt_or_le k (f 568) with t | t
        · exact t
        · exact absurd r (tb_lt v1 t)
      · intro r
        have r2 := (tb_full ⟨hn.1, by omega⟩ a).mp r
        exact Classical.not_not.mp fun t => q ⟨k, a, r2, t⟩
    obtain ⟨k, k1, k2, k3⟩ := h5
    have h6 := nx_lt v1 ⟨k1, k2⟩ (by omega) k3
    have h7 := p2_p k
    have h8 := (pc_le (n := f 568) (u := v + p2 k) (by omega) (by omega)).2
    rw [pc_add (by omega) (by omega) k3] at h8
    omega
theorem fi_tot {f G : sF} {L : Int} (hok : sOk f) (h : fiP f (f 568) L G) : 0 < L ↔ totI f = 0 := by
  have hn := (sOk_N hok).1
  constructor
  · intro q
    rcases fi_rg hok h with ⟨e, _⟩ | ⟨e, _⟩
    · omega
    · exact rg_no hok e
  · intro q
    rcases h with ⟨e, h⟩ | ⟨e, _⟩
    · have := tot_p hok (fun a k a1 k1 => h a a1.1 a1.2 k k1.1 k1.2)
      omega
    · omega
theorem rk_sum {f : sF} (hn : 0 ≤ f 568 ∧ f 568 ≤ 10) {a : Int} (ha : 0 ≤ a ∧ a < f 568) : isum (f 568) (rkI f a) = totI f := by
  have h := eg_s (n := f 568) (by omega) nxS_n (wyC_R f hn) (rsC_R f hn) a ha
  have hp9 := p2_10 (n := f 568) hn.2
  have h2 : isum (f 568) (rkI f a) = isum (f 568) (fun r => isum (p2 (f 568)) (fun u => pif (pcI u = r) (edF f u a) 0)) := isum_c fun r _ _ => rfl
  rw [h2, isum_swap (fun r u => pif (pcI u = r) (edF f u a) 0)]
  refine Eq.trans (isum_c fun u b c => ?_) h
  show isum (f 568) (fun r => pif (pcI u = r) (edF f u a) 0) = edF f u a
  by_cases q : nxS f u a
  · have h5 := nx_lt (n := f 568) ⟨b, c⟩ ha (by omega) q.1
    have h6 := p2_p a
    have h7 := (pc_le (n := f 568) (u := u + p2 a) (by omega) (by omega)).2
    rw [pc_add (by omega) (by omega) q.1] at h7
    have h8 := (pc_le (n := f 568) (u := u) (by omega) ⟨b, c⟩).1
    have h9 := isum_n (n := f 568) (g := fun k => bI (tb u k)) (fun k _ _ => by have h10 : 0 ≤ bI (tb u k) ∧ bI (tb u k) ≤ 1 := bI_r; exact h10.1)
    rw [isum_pick (fun r => pif (pcI u = r) (edF f u a) 0) (a := pcI u) (by omega) (fun k _ _ e => pif_f (fun w => e w.symm))]
    exact pif_t rfl
  · rw [edF_f q]
    exact isum_z fun r _ _ => by
      show pif (pcI u = r) 0 0 = 0
      rcases pif_cases (pcI u = r) 0 0 with ⟨-, e⟩ | ⟨-, e⟩ <;> exact e
theorem ab_sum {f : sF} (hn : 0 ≤ f 568 ∧ f 568 ≤ 10) {a b : Int} (ha : 0 ≤ a ∧ a < f 568) (hb : 0 ≤ b ∧ b < f 568) (hab : a ≠ b) : abI f a b + abI f b a = totI f := by
  have h := eg_s (n := f 568) (by omega) nxS_n (wyC_R f hn) (rsC_R f hn) a ha
  rw [← ab_fl hn hb ha (fun e => hab e.symm)]
  unfold abI
  rw [← isum_add]
  refine Eq.trans (isum_c fun u c d => ?_) h
  show abT f a b u + pif (tb u b) (edF f u a) 0 = edF f u a
  unfold abT
  by_cases q : tb u b
  · rw [pif_t q, pif_f (fun w => w q)]; omega
  · rw [pif_f q, pif_t q]; omega

abbrev rmX5_findRing : Room := { frames := 3, cells := 0, slots := 0, locals := 84 }
set_option maxHeartbeats 4000000 in
set_option maxRecDepth 100000 in
theorem kX5_findRing (l_ : Launch) (G : sG) (b_ : Nat) (M : sM) (N : Nat) (o : Nat) (L : Int) (So Rc Rs f : sF) (ho0 : M o = some (sObj 3 [.ref (o + 1), .ref (o + 2), .ref (o + 3), .ref (o + 4), .ref (o + 5), .ref (o + 6), .ref (o + 7), .ref (o + 8), .ref (o + 9), .int (sI L), .int (sI (f 568))])) (ho2 : M (o + 2) = some (sArr G 10 So)) (ho8 : M (o + 8) = some (sArr G 11 Rc)) (ho9 : M (o + 9) = some (sArr G 10 Rs)) (hok : sOk f) (hS : sfP f So) : cV l_ yX5_findRing wsX5_findRing rmX5_findRing G b_ M N [.ref o] (fun M1 N1 => ∃ L9 : Int, ∃ R9 : Int → Int, ∃ G9 : Int → Int, N1 = N ∧ M1 o = some (sObj 3 [.ref (o + 1), .ref (o + 2), .ref (o + 3), .ref (o + 4), .ref (o + 5), .ref (o + 6), .ref (o + 7), .ref (o + 8), .ref (o + 9), .int (sI L9), .int (sI (f 568))]) ∧ M1 (o + 8) = some (sArr G 11 R9) ∧ M1 (o + 9) = some (sArr G 10 G9) ∧ (∀ x : Nat, ¬ (x = o) → ¬ (x = o + 8) → ¬ (x = o + 9) → M1 x = M x) ∧ (fiP f (f 568) L9 G9)) := by
  refine sE.ofV (cc := cX5_findRing) (nL := 3) (ret := none) (by decide) rfl (Nat.le_of_ble_eq_true rfl) ?_
  intro p_ e_ s_ m_ args_ below_ meth_ c_ ls Q hQ E hl
  have E : sE p_ l_ e_ rmX5_findRing s_ m_ args_ below_ meth_ c_ cX5_findRing 3 wsX5_findRing RX5 "findRing" none G b_ M N := E
  have S := E.1
  have hx_ := S.1
  have hb_ := S.2.1
  have hK := E.2.2.2.2.1
  have hV := E.2.2.2.2.2.2
  have hl : lv_has ls 3 [(0, .ref o)] := hl
  have inX5_ : ∀ w ∈ wsX50, w ∈ wsX5_findRing := fun _ h => List.mem_cons_of_mem _ (List.mem_append_right _ h)
  have kn0 := sOk_N hok
  refine lv_aload_n hx_ hb_ dX5_findRing_0 rfl (lv_at hl 0 rfl) ?_
  refine si_const S dX5_findRing_1 ?_
  refine sc_put (ci := 3) (C := RX5) (T := TX5) (n := 11) S hK hV inX5_ tyX5_ok nmX5 ho0 rfl 9 (by decide) (S.2.2.2.2 _ (List.mem_of_getElem? (i := 1) rfl)) rfl rfl rfl rfl (Nat.le_of_ble_eq_true rfl) dX5_findRing_2 (fs1 := [.ref (o + 1), .ref (o + 2), .ref (o + 3), .ref (o + 4), .ref (o + 5), .ref (o + 6), .ref (o + 7), .ref (o + 8), .ref (o + 9), .int (sI 0), .int (sI (f 568))]) rfl (fun M1 H locs hM1 hV => ?_)
  have hc2 : M1 o = some (sObj 3 [.ref (o + 1), .ref (o + 2), .ref (o + 3), .ref (o + 4), .ref (o + 5), .ref (o + 6), .ref (o + 7), .ref (o + 8), .ref (o + 9), .int (sI 0), .int (sI (f 568))]) := (congrFun hM1 o).trans (va_up_self M o _)
  refine si_const S dX5_findRing_5 ?_
  refine lv_istore_n (lv' := [(1, .int (sI 0)), (0, .ref o)]) hx_ hb_ dX5_findRing_6 rfl hl (by decide) rfl (fun ls hl => ?_)
  have L7 : ∀ (fuel : Nat) (a : Int) (L2 : Int) (R2 : Int → Int) (G2 : Int → Int) (Ml7 : sM) (H : Heap) (locs : List Loc) (ls : Array Slot), ((f 568 - a).toNat) < fuel → (0 ≤ a ∧ a ≤ f 568) → (0 ≤ L2 ∧ L2 ≤ f 568) → (fiP f a L2 G2) → (Ml7 o = some (sObj 3 [.ref (o + 1), .ref (o + 2), .ref (o + 3), .ref (o + 4), .ref (o + 5), .ref (o + 6), .ref (o + 7), .ref (o + 8), .ref (o + 9), .int (sI L2), .int (sI (f 568))])) → (Ml7 (o + 8) = some (sArr G 11 R2)) → (Ml7 (o + 9) = some (sArr G 10 G2)) → (∀ x : Nat, ¬ (x = o) → ¬ (x = o + 8) → ¬ (x = o + 9) → Ml7 x = M1 x) → sV G b_ Ml7 N s_ H locs → lv_has ls 3 [(0, .ref o), (1, .int (sI a))] → W p_ l_ e_ rmX5_findRing s_ m_ args_ below_ meth_ c_ H locs 0 0 Q (F0 m_ 7 ls []) := by
    intro fuel
    induction fuel with
    | zero => intro a L2 R2 G2 Ml7 H locs ls hmu; exact absurd hmu (Nat.not_lt_zero _)
    | succ fuel ih7 =>
      intro a L2 R2 G2 Ml7 H locs ls hmu7 hv7_0 hLr hG2 hm7_0 hm7_1 hm7_2 hfr7 hV hl
      refine lv_iload_n hx_ hb_ dX5_findRing_7 rfl (lv_at hl 1 rfl) ?_
      refine lv_aload_n hx_ hb_ dX5_findRing_8 rfl (lv_at hl 0 rfl) ?_
      refine sc_get (ci := 3) (C := RX5) (T := TX5) (n := 11) S hK hV inX5_ hm7_0 rfl 10 (by decide) (S.2.2.2.2 _ (List.mem_of_getElem? (i := 2) rfl)) rfl rfl dX5_findRing_9 ?_
      refine sb_ge (tgt := 56) S dX5_findRing_12 (by decide) (by omega) (fun c3 => ?_) (fun c3 => ?_)
      · exact sr_v E hQ dX5_findRing_56 ⟨Nat.le_of_ble_eq_true rfl, Nat.le_of_ble_eq_true rfl⟩ hV (⟨L2, R2, G2, rfl, hm7_0, hm7_1, hm7_2, fun x q0 q1 q2 => (hfr7 x (by omega) (by omega) (by omega)).trans ((congrFun hM1 x).trans (va_up_ne M _ (by omega))), by rw [show a = f 568 by omega] at hG2; exact hG2⟩)
      · refine lv_aload_n hx_ hb_ dX5_findRing_15 rfl (lv_at hl 0 rfl) ?_
        refine lv_iload_n hx_ hb_ dX5_findRing_16 rfl (lv_at hl 1 rfl) ?_
        have hc4 : Ml7 (o + 2) = some (sArr G 10 So) := ((hfr7 (o + 2) (by omega) (by omega) (by omega)).trans ((congrFun hM1 (o + 2)).trans (va_up_ne M _ (by omega)))).trans ho2
        refine sk_Vi E hV (As := [.int (sI a)]) (rest := []) (kX5_stepsRound l_ G b_ Ml7 N o L2 So R2 f a hm7_0 hc4 hm7_1 (by omega) (by omega) (by omega)) (cwV 1 S.2.2.2.2 gX5_findRing_X5_stepsRound rfl rfl rfl (by decide +kernel) ⟨Nat.le_of_ble_eq_true rfl, Nat.le_of_ble_eq_true rfl⟩) (ci := 3) hm7_0 rfl rfl rfl hl.1 (Nat.le_of_ble_eq_true rfl) dX5_findRing_17 (c1 := 0) (s1 := 0) ⟨⟨rfl, rfl⟩, by decide, by decide⟩ (fun z8 M5 N6 H locs hp7 hV => ?_)
        obtain ⟨R99, hN10, hc11, hf12, hz13, hR914⟩ := hp7
        rw [hN10] at hV
        have hzr : 0 ≤ z8 ∧ z8 ≤ f 568 := by rcases hz13 with ⟨q, _⟩ | ⟨q, _⟩ <;> omega
        refine lv_istore_n (lv' := [(2, .int (sI z8)), (0, .ref o), (1, .int (sI a))]) hx_ hb_ dX5_findRing_20 rfl hl (by decide) rfl (fun ls hl => ?_)
        refine lv_iload_n hx_ hb_ dX5_findRing_21 rfl (lv_at hl 0 rfl) ?_
        refine sz_le (tgt := 50) S dX5_findRing_22 (by decide) (by omega) (fun c15 => ?_) (fun c15 => ?_)
        · refine si_inc (lv' := [(1, .int (sI (a + 1))), (2, .int (sI z8)), (0, .ref o)]) S dX5_findRing_50 hl (k := 2) rfl (by decide) rfl (fun ls hl => ?_)
          refine lv_goto (tgt := 7) hx_ hb_ dX5_findRing_53 (by decide) ?_
          have hc16 : M5 o = some (sObj 3 [.ref (o + 1), .ref (o + 2), .ref (o + 3), .ref (o + 4), .ref (o + 5), .ref (o + 6), .ref (o + 7), .ref (o + 8), .ref (o + 9), .int (sI L2), .int (sI (f 568))]) := (hf12 o (by omega)).trans hm7_0
          have hc17 : M5 (o + 9) = some (sArr G 10 G2) := (hf12 (o + 9) (by omega)).trans hm7_2
          exact ih7 (a + 1) L2 R99 G2 M5 _ _ _ (by omega) (by omega) (by omega) (fi_n hz13 (Or.inl (by omega)) hG2) hc16 hc11 hc17 (fun x q0 q1 q2 => (hf12 x (by omega)).trans (hfr7 x (by omega) (by omega) (by omega))) hV (lv_sub hl [2, 0] rfl)
        · refine lv_aload_n hx_ hb_ dX5_findRing_25 rfl (lv_at hl 1 rfl) ?_
          have hc18 : M5 o = some (sObj 3 [.ref (o + 1), .ref (o + 2), .ref (o + 3), .ref (o + 4), .ref (o + 5), .ref (o + 6), .ref (o + 7), .ref (o + 8), .ref (o + 9), .int (sI L2), .int (sI (f 568))]) := (hf12 o (by omega)).trans hm7_0
          refine sc_get (ci := 3) (C := RX5) (T := TX5) (n := 11) S hK hV inX5_ hc18 rfl 9 (by decide) (S.2.2.2.2 _ (List.mem_of_getElem? (i := 1) rfl)) rfl rfl dX5_findRing_26 ?_
          refine sz_eq (tgt := 40) S dX5_findRing_29 (by decide) (by omega) (fun c19 => ?_) (fun c19 => ?_)
          · refine lv_aload_n hx_ hb_ dX5_findRing_40 rfl (lv_at hl 1 rfl) ?_
            refine lv_iload_n hx_ hb_ dX5_findRing_41 rfl (lv_at hl 0 rfl) ?_
            refine sc_put (ci := 3) (C := RX5) (T := TX5) (n := 11) S hK hV inX5_ tyX5_ok nmX5 hc18 rfl 9 (by decide) (S.2.2.2.2 _ (List.mem_of_getElem? (i := 1) rfl)) rfl rfl rfl rfl (Nat.le_of_ble_eq_true rfl) dX5_findRing_42 (fs1 := [.ref (o + 1), .ref (o + 2), .ref (o + 3), .ref (o + 4), .ref (o + 5), .ref (o + 6), .ref (o + 7), .ref (o + 8), .ref (o + 9), .int (sI z8), .int (sI (f 568))]) rfl (fun M20 H locs hM20 hV => ?_)
            have hc21 : M20 o = some (sObj 3 [.ref (o + 1), .ref (o + 2), .ref (o + 3), .ref (o + 4), .ref (o + 5), .ref (o + 6), .ref (o + 7), .ref (o + 8), .ref (o + 9), .int (sI z8), .int (sI (f 568))]) := (congrFun hM20 o).trans (va_up_self M5 o _)
            have hdz : rdP f a z8 := by rcases hz13 with ⟨q, _⟩ | ⟨_, q, _⟩; omega; exact q
            refine lv_aload_n hx_ hb_ dX5_findRing_45 rfl (lv_at hl 1 rfl) ?_
            refine lv_iload_n hx_ hb_ dX5_findRing_46 rfl (lv_at hl 2 rfl) ?_
            have hc22 : M20 (o + 2) = some (sArr G 10 So) := (((congrFun hM20 (o + 2)).trans (va_up_ne M5 _ (by omega))).trans (hf12 (o + 2) (by omega))).trans hc4
            have hc23 : M20 (o + 8) = some (sArr G 11 R99) := ((congrFun hM20 (o + 8)).trans (va_up_ne M5 _ (by omega))).trans hc11
            have hc24 : M20 (o + 9) = some (sArr G 10 G2) := (((congrFun hM20 (o + 9)).trans (va_up_ne M5 _ (by omega))).trans (hf12 (o + 9) (by omega))).trans hm7_2
            refine sk_Vv E hV (As := [.int (sI a)]) (rest := []) (kX5_walkRing l_ G b_ M20 N o z8 So R99 G2 f a hc21 hc22 hc23 hc24 (by omega) (by omega) (by omega) (by omega) (hdz) (by assumption)) (cwV 1 S.2.2.2.2 gX5_findRing_X5_walkRing rfl rfl rfl (by decide +kernel) ⟨Nat.le_of_ble_eq_true rfl, Nat.le_of_ble_eq_true rfl⟩) (ci := 3) hc21 rfl rfl rfl hl.1 (Nat.le_of_ble_eq_true rfl) dX5_findRing_47 (c1 := 0) (s1 := 0) ⟨⟨rfl, rfl⟩, by decide, by decide⟩ (fun M25 N26 H locs hp27 hV => ?_)
            obtain ⟨G929, hN30, hc31, hf32, hG933⟩ := hp27
            rw [hN30] at hV
            refine si_inc (lv' := [(1, .int (sI (a + 1))), (2, .int (sI z8)), (0, .ref o)]) S dX5_findRing_50 hl (k := 2) rfl (by decide) rfl (fun ls hl => ?_)
            refine lv_goto (tgt := 7) hx_ hb_ dX5_findRing_53 (by decide) ?_
            have hc34 : M25 o = some (sObj 3 [.ref (o + 1), .ref (o + 2), .ref (o + 3), .ref (o + 4), .ref (o + 5), .ref (o + 6), .ref (o + 7), .ref (o + 8), .ref (o + 9), .int (sI z8), .int (sI (f 568))]) := (hf32 o (by omega)).trans hc21
            have hc35 : M25 (o + 8) = some (sArr G 11 R99) := (hf32 (o + 8) (by omega)).trans hc23
            exact ih7 (a + 1) z8 R99 G929 M25 _ _ _ (by omega) (by omega) (by omega) (fi_y (by omega) hz13 (by omega) (Or.inl (by omega)) hG933 hG2) hc34 hc35 hc31 (fun x q0 q1 q2 => (((hf32 x (by omega)).trans ((congrFun hM20 x).trans (va_up_ne M5 _ (by omega)))).trans (hf12 x (by omega))).trans (hfr7 x (by omega) (by omega) (by omega))) hV (lv_sub hl [2, 0] rfl)
          · refine lv_iload_n hx_ hb_ dX5_findRing_32 rfl (lv_at hl 0 rfl) ?_
            refine lv_aload_n hx_ hb_ dX5_findRing_33 rfl (lv_at hl 1 rfl) ?_
            refine sc_get (ci := 3) (C := RX5) (T := TX5) (n := 11) S hK hV inX5_ hc18 rfl 9 (by decide) (S.2.2.2.2 _ (List.mem_of_getElem? (i := 1) rfl)) rfl rfl dX5_findRing_34 ?_
            refine sb_ge (tgt := 50) S dX5_findRing_37 (by decide) (by omega) (fun c36 => ?_) (fun c36 => ?_)
            · refine si_inc (lv' := [(1, .int (sI (a + 1))), (2, .int (sI z8)), (0, .ref o)]) S dX5_findRing_50 hl (k := 2) rfl (by decide) rfl (fun ls hl => ?_)
              refine lv_goto (tgt := 7) hx_ hb_ dX5_findRing_53 (by decide) ?_
              have hc37 : M5 (o + 9) = some (sArr G 10 G2) := (hf12 (o + 9) (by omega)).trans hm7_2
              exact ih7 (a + 1) L2 R99 G2 M5 _ _ _ (by omega) (by omega) (by omega) (fi_n hz13 (Or.inr ⟨by omega, by omega⟩) hG2) hc18 hc11 hc37 (fun x q0 q1 q2 => (hf12 x (by omega)).trans (hfr7 x (by omega) (by omega) (by omega))) hV (lv_sub hl [2, 0] rfl)
            · refine lv_aload_n hx_ hb_ dX5_findRing_40 rfl (lv_at hl 1 rfl) ?_
              refine lv_iload_n hx_ hb_ dX5_findRing_41 rfl (lv_at hl 0 rfl) ?_
              refine sc_put (ci := 3) (C := RX5) (T := TX5) (n := 11) S hK hV inX5_ tyX5_ok nmX5 hc18 rfl 9 (by decide) (S.2.2.2.2 _ (List.mem_of_getElem? (i := 1) rfl)) rfl rfl rfl rfl (Nat.le_of_ble_eq_true rfl) dX5_findRing_42 (fs1 := [.ref (o + 1), .ref (o + 2), .ref (o + 3), .ref (o + 4), .ref (o + 5), .ref (o + 6), .ref (o + 7), .ref (o + 8), .ref (o + 9), .int (sI z8), .int (sI (f 568))]) rfl (fun M38 H locs hM38 hV => ?_)
              have hc39 : M38 o = some (sObj 3 [.ref (o + 1), .ref (o + 2), .ref (o + 3), .ref (o + 4), .ref (o + 5), .ref (o + 6), .ref (o + 7), .ref (o + 8), .ref (o + 9), .int (sI z8), .int (sI (f 568))]) := (congrFun hM38 o).trans (va_up_self M5 o _)
              have hdz : rdP f a z8 := by rcases hz13 with ⟨q, _⟩ | ⟨_, q, _⟩; omega; exact q
              refine lv_aload_n hx_ hb_ dX5_findRing_45 rfl (lv_at hl 1 rfl) ?_
              refine lv_iload_n hx_ hb_ dX5_findRing_46 rfl (lv_at hl 2 rfl) ?_
              have hc40 : M38 (o + 2) = some (sArr G 10 So) := (((congrFun hM38 (o + 2)).trans (va_up_ne M5 _ (by omega))).trans (hf12 (o + 2) (by omega))).trans hc4
              have hc41 : M38 (o + 8) = some (sArr G 11 R99) := ((congrFun hM38 (o + 8)).trans (va_up_ne M5 _ (by omega))).trans hc11
              have hc42 : M38 (o + 9) = some (sArr G 10 G2) := (((congrFun hM38 (o + 9)).trans (va_up_ne M5 _ (by omega))).trans (hf12 (o + 9) (by omega))).trans hm7_2
              refine sk_Vv E hV (As := [.int (sI a)]) (rest := []) (kX5_walkRing l_ G b_ M38 N o z8 So R99 G2 f a hc39 hc40 hc41 hc42 (by omega) (by omega) (by omega) (by omega) (hdz) (by assumption)) (cwV 1 S.2.2.2.2 gX5_findRing_X5_walkRing rfl rfl rfl (by decide +kernel) ⟨Nat.le_of_ble_eq_true rfl, Nat.le_of_ble_eq_true rfl⟩) (ci := 3) hc39 rfl rfl rfl hl.1 (Nat.le_of_ble_eq_true rfl) dX5_findRing_47 (c1 := 0) (s1 := 0) ⟨⟨rfl, rfl⟩, by decide, by decide⟩ (fun M43 N44 H locs hp45 hV => ?_)
              obtain ⟨G947, hN48, hc49, hf50, hG951⟩ := hp45
              rw [hN48] at hV
              refine si_inc (lv' := [(1, .int (sI (a + 1))), (2, .int (sI z8)), (0, .ref o)]) S dX5_findRing_50 hl (k := 2) rfl (by decide) rfl (fun ls hl => ?_)
              refine lv_goto (tgt := 7) hx_ hb_ dX5_findRing_53 (by decide) ?_
              have hc52 : M43 o = some (sObj 3 [.ref (o + 1), .ref (o + 2), .ref (o + 3), .ref (o + 4), .ref (o + 5), .ref (o + 6), .ref (o + 7), .ref (o + 8), .ref (o + 9), .int (sI z8), .int (sI (f 568))]) := (hf50 o (by omega)).trans hc39
              have hc53 : M43 (o + 8) = some (sArr G 11 R99) := (hf50 (o + 8) (by omega)).trans hc41
              exact ih7 (a + 1) z8 R99 G947 M43 _ _ _ (by omega) (by omega) (by omega) (fi_y (by omega) hz13 (by omega) (Or.inr (by omega)) hG951 hG2) hc52 hc53 hc49 (fun x q0 q1 q2 => (((hf50 x (by omega)).trans ((congrFun hM38 x).trans (va_up_ne M5 _ (by omega)))).trans (hf12 x (by omega))).trans (hfr7 x (by omega) (by omega) (by omega))) hV (lv_sub hl [2, 0] rfl)
  have hc54 : M1 (o + 8) = some (sArr G 11 Rc) := ((congrFun hM1 (o + 8)).trans (va_up_ne M _ (by omega))).trans ho8
  have hc55 : M1 (o + 9) = some (sArr G 10 Rs) := ((congrFun hM1 (o + 9)).trans (va_up_ne M _ (by omega))).trans ho9
  exact L7 _ 0 0 Rc Rs M1 _ _ _ (Nat.lt_succ_self _) (by omega) (by omega) (fi_0 f Rs) hc2 hc54 hc55 (fun x q0 q1 q2 => rfl) hV (lv_sub hl [1, 0] rfl)

abbrev rmX5_countAt : Room := { frames := 2, cells := 0, slots := 0, locals := 60 }
set_option maxHeartbeats 4000000 in
set_option maxRecDepth 100000 in
theorem kX5_countAt (l_ : Launch) (G : sG) (b_ : Nat) (M : sM) (N : Nat) (o : Nat) (L c : Int) (At : sF) (s r : Int) (ho0 : M o = some (sObj 3 [.ref (o + 1), .ref (o + 2), .ref (o + 3), .ref (o + 4), .ref (o + 5), .ref (o + 6), .ref (o + 7), .ref (o + 8), .ref (o + 9), .int (sI L), .int (sI c)])) (ho6 : M (o + 6) = some (sArr G 100 At)) (hs : (0 ≤ s ∧ s < 10) ∧ 0 ≤ r ∧ r < 10) : cP l_ yX5_countAt wsX5_countAt rmX5_countAt G b_ M N [.ref o, .int (sI s), .int (sI r)] (At (s * 10 + r)) := by
  refine sE.ofI (cc := cX5_countAt) (nL := 3) (ret := (some .int)) (by decide) rfl (Nat.le_of_ble_eq_true rfl) ?_
  intro p_ e_ s_ m_ args_ below_ meth_ c_ ls Q hQ E hl
  have E : sE p_ l_ e_ rmX5_countAt s_ m_ args_ below_ meth_ c_ cX5_countAt 3 wsX5_countAt RX5 "countAt" (some .int) G b_ M N := E
  have S := E.1
  have hx_ := S.1
  have hb_ := S.2.1
  have hK := E.2.2.2.2.1
  have hV := E.2.2.2.2.2.2
  have hl : lv_has ls 3 [(0, .ref o), (1, .int (sI s)), (2, .int (sI r))] := hl
  have inX5_ : ∀ w ∈ wsX50, w ∈ wsX5_countAt := fun _ h => List.mem_cons_of_mem _ (List.mem_append_right _ h)
  refine lv_iload_n hx_ hb_ dX5_countAt_0 rfl (lv_at hl 1 rfl) ?_
  refine sk_SP E hV (As := [.int (sI s)]) (rest := []) (kX5_isStone l_ G b_ M N s (by omega)) (va_cwS 1 S.2.2.2.2 gX5_countAt_X5_isStone rfl rfl rfl (by decide +kernel) ⟨Nat.le_of_ble_eq_true rfl, Nat.le_of_ble_eq_true rfl⟩) rfl rfl hl.1 (Nat.le_of_ble_eq_true rfl) dX5_countAt_1 (c1 := 0) (s1 := 0) ⟨⟨rfl, rfl⟩, by decide, by decide⟩ (fun H locs hV => ?_)
  refine sq_eq (tgt := 28) S dX5_countAt_4 (by decide) (fun c1 => absurd c1 (by omega)) (fun _ => ?_)
  refine lv_iload_n hx_ hb_ dX5_countAt_7 rfl (lv_at hl 2 rfl) ?_
  refine sk_SP E hV (As := [.int (sI r)]) (rest := []) (kX5_isStone l_ G b_ M N r (by omega)) (va_cwS 1 S.2.2.2.2 gX5_countAt_X5_isStone rfl rfl rfl (by decide +kernel) ⟨Nat.le_of_ble_eq_true rfl, Nat.le_of_ble_eq_true rfl⟩) rfl rfl hl.1 (Nat.le_of_ble_eq_true rfl) dX5_countAt_8 (c1 := 0) (s1 := 0) ⟨⟨rfl, rfl⟩, by decide, by decide⟩ (fun H locs hV => ?_)
  refine sq_eq (tgt := 28) S dX5_countAt_11 (by decide) (fun c2 => absurd c2 (by omega)) (fun _ => ?_)
  refine lv_aload_n hx_ hb_ dX5_countAt_14 rfl (lv_at hl 0 rfl) ?_
  refine sc_get (ci := 3) (C := RX5) (T := TX5) (n := 11) S hK hV inX5_ ho0 rfl 5 (by decide) (S.2.2.2.2 _ (List.mem_of_getElem? (i := 1) rfl)) rfl rfl dX5_countAt_15 ?_
  refine lv_iload_n hx_ hb_ dX5_countAt_18 rfl (lv_at hl 1 rfl) ?_
  refine si_bipush S dX5_countAt_19 (by decide) ?_
  refine si_mul S dX5_countAt_21 ?_
  refine lv_iload_n hx_ hb_ dX5_countAt_22 rfl (lv_at hl 2 rfl) ?_
  refine si_add S dX5_countAt_23 ?_
  refine sc_iald S hK hV ho6 (by omega) dX5_countAt_24 ?_
  refine lv_goto (tgt := 29) hx_ hb_ dX5_countAt_25 (by decide) ?_
  exact sr_i E hQ dX5_countAt_29 ⟨Nat.le_of_ble_eq_true rfl, Nat.le_of_ble_eq_true rfl⟩ hV (⟨rfl, rfl, rfl⟩)

abbrev rmX5_countAhead : Room := { frames := 2, cells := 0, slots := 0, locals := 60 }
set_option maxHeartbeats 4000000 in
set_option maxRecDepth 100000 in
theorem kX5_countAhead (l_ : Launch) (G : sG) (b_ : Nat) (M : sM) (N : Nat) (o : Nat) (L c : Int) (Pa : sF) (s r : Int) (ho0 : M o = some (sObj 3 [.ref (o + 1), .ref (o + 2), .ref (o + 3), .ref (o + 4), .ref (o + 5), .ref (o + 6), .ref (o + 7), .ref (o + 8), .ref (o + 9), .int (sI L), .int (sI c)])) (ho7 : M (o + 7) = some (sArr G 100 Pa)) (hs : (0 ≤ s ∧ s < 10) ∧ 0 ≤ r ∧ r < 10) : cP l_ yX5_countAhead wsX5_countAhead rmX5_countAhead G b_ M N [.ref o, .int (sI s), .int (sI r)] (Pa (s * 10 + r)) := by
  refine sE.ofI (cc := cX5_countAhead) (nL := 3) (ret := (some .int)) (by decide) rfl (Nat.le_of_ble_eq_true rfl) ?_
  intro p_ e_ s_ m_ args_ below_ meth_ c_ ls Q hQ E hl
  have E : sE p_ l_ e_ rmX5_countAhead s_ m_ args_ below_ meth_ c_ cX5_countAhead 3 wsX5_countAhead RX5 "countAhead" (some .int) G b_ M N := E
  have S := E.1
  have hx_ := S.1
  have hb_ := S.2.1
  have hK := E.2.2.2.2.1
  have hV := E.2.2.2.2.2.2
  have hl : lv_has ls 3 [(0, .ref o), (1, .int (sI s)), (2, .int (sI r))] := hl
  have inX5_ : ∀ w ∈ wsX50, w ∈ wsX5_countAhead := fun _ h => List.mem_cons_of_mem _ (List.mem_append_right _ h)
  refine lv_iload_n hx_ hb_ dX5_countAhead_0 rfl (lv_at hl 1 rfl) ?_
  refine sk_SP E hV (As := [.int (sI s)]) (rest := []) (kX5_isStone l_ G b_ M N s (by omega)) (va_cwS 1 S.2.2.2.2 gX5_countAhead_X5_isStone rfl rfl rfl (by decide +kernel) ⟨Nat.le_of_ble_eq_true rfl, Nat.le_of_ble_eq_true rfl⟩) rfl rfl hl.1 (Nat.le_of_ble_eq_true rfl) dX5_countAhead_1 (c1 := 0) (s1 := 0) ⟨⟨rfl, rfl⟩, by decide, by decide⟩ (fun H locs hV => ?_)
  refine sq_eq (tgt := 28) S dX5_countAhead_4 (by decide) (fun c1 => absurd c1 (by omega)) (fun _ => ?_)
  refine lv_iload_n hx_ hb_ dX5_countAhead_7 rfl (lv_at hl 2 rfl) ?_
  refine sk_SP E hV (As := [.int (sI r)]) (rest := []) (kX5_isStone l_ G b_ M N r (by omega)) (va_cwS 1 S.2.2.2.2 gX5_countAhead_X5_isStone rfl rfl rfl (by decide +kernel) ⟨Nat.le_of_ble_eq_true rfl, Nat.le_of_ble_eq_true rfl⟩) rfl rfl hl.1 (Nat.le_of_ble_eq_true rfl) dX5_countAhead_8 (c1 := 0) (s1 := 0) ⟨⟨rfl, rfl⟩, by decide, by decide⟩ (fun H locs hV => ?_)
  refine sq_eq (tgt := 28) S dX5_countAhead_11 (by decide) (fun c2 => absurd c2 (by omega)) (fun _ => ?_)
  refine lv_aload_n hx_ hb_ dX5_countAhead_14 rfl (lv_at hl 0 rfl) ?_
  refine sc_get (ci := 3) (C := RX5) (T := TX5) (n := 11) S hK hV inX5_ ho0 rfl 6 (by decide) (S.2.2.2.2 _ (List.mem_of_getElem? (i := 1) rfl)) rfl rfl dX5_countAhead_15 ?_
  refine lv_iload_n hx_ hb_ dX5_countAhead_18 rfl (lv_at hl 1 rfl) ?_
  refine si_bipush S dX5_countAhead_19 (by decide) ?_
  refine si_mul S dX5_countAhead_21 ?_
  refine lv_iload_n hx_ hb_ dX5_countAhead_22 rfl (lv_at hl 2 rfl) ?_
  refine si_add S dX5_countAhead_23 ?_
  refine sc_iald S hK hV ho7 (by omega) dX5_countAhead_24 ?_
  refine lv_goto (tgt := 29) hx_ hb_ dX5_countAhead_25 (by decide) ?_
  exact sr_i E hQ dX5_countAhead_29 ⟨Nat.le_of_ble_eq_true rfl, Nat.le_of_ble_eq_true rfl⟩ hV (⟨rfl, rfl, rfl⟩)

abbrev rmX5_ringSize : Room := { frames := 1, cells := 0, slots := 0, locals := 40 }
set_option maxHeartbeats 4000000 in
set_option maxRecDepth 100000 in
theorem kX5_ringSize (l_ : Launch) (G : sG) (b_ : Nat) (M : sM) (N : Nat) (o : Nat) (L c : Int) (ho0 : M o = some (sObj 3 [.ref (o + 1), .ref (o + 2), .ref (o + 3), .ref (o + 4), .ref (o + 5), .ref (o + 6), .ref (o + 7), .ref (o + 8), .ref (o + 9), .int (sI L), .int (sI c)])) : cP l_ yX5_ringSize wsX5_ringSize rmX5_ringSize G b_ M N [.ref o] L := by
  refine sE.ofI (cc := cX5_ringSize) (nL := 1) (ret := (some .int)) (by decide) rfl (Nat.le_of_ble_eq_true rfl) ?_
  intro p_ e_ s_ m_ args_ below_ meth_ c_ ls Q hQ E hl
  have E : sE p_ l_ e_ rmX5_ringSize s_ m_ args_ below_ meth_ c_ cX5_ringSize 1 wsX5_ringSize RX5 "ringSize" (some .int) G b_ M N := E
  have S := E.1
  have hx_ := S.1
  have hb_ := S.2.1
  have hK := E.2.2.2.2.1
  have hV := E.2.2.2.2.2.2
  have hl : lv_has ls 1 [(0, .ref o)] := hl
  have inX5_ : ∀ w ∈ wsX50, w ∈ wsX5_ringSize := fun _ h => List.mem_cons_of_mem _ (List.mem_append_right _ h)
  refine lv_aload_n hx_ hb_ dX5_ringSize_0 rfl (lv_at hl 0 rfl) ?_
  refine sc_get (ci := 3) (C := RX5) (T := TX5) (n := 11) S hK hV inX5_ ho0 rfl 9 (by decide) (S.2.2.2.2 _ (List.mem_of_getElem? (i := 1) rfl)) rfl rfl dX5_ringSize_1 ?_
  exact sr_i E hQ dX5_ringSize_4 ⟨Nat.le_of_ble_eq_true rfl, Nat.le_of_ble_eq_true rfl⟩ hV (⟨rfl, rfl, rfl⟩)

abbrev rmX5_ringStone : Room := { frames := 2, cells := 0, slots := 0, locals := 60 }
set_option maxHeartbeats 4000000 in
set_option maxRecDepth 100000 in
theorem kX5_ringStone (l_ : Launch) (G : sG) (b_ : Nat) (M : sM) (N : Nat) (o : Nat) (L c : Int) (Rs : sF) (p : Int) (ho0 : M o = some (sObj 3 [.ref (o + 1), .ref (o + 2), .ref (o + 3), .ref (o + 4), .ref (o + 5), .ref (o + 6), .ref (o + 7), .ref (o + 8), .ref (o + 9), .int (sI L), .int (sI c)])) (ho9 : M (o + 9) = some (sArr G 10 Rs)) (hp : 0 ≤ p ∧ p < 10) : cP l_ yX5_ringStone wsX5_ringStone rmX5_ringStone G b_ M N [.ref o, .int (sI p)] (Rs p) := by
  refine sE.ofI (cc := cX5_ringStone) (nL := 2) (ret := (some .int)) (by decide) rfl (Nat.le_of_ble_eq_true rfl) ?_
  intro p_ e_ s_ m_ args_ below_ meth_ c_ ls Q hQ E hl
  have E : sE p_ l_ e_ rmX5_ringStone s_ m_ args_ below_ meth_ c_ cX5_ringStone 2 wsX5_ringStone RX5 "ringStone" (some .int) G b_ M N := E
  have S := E.1
  have hx_ := S.1
  have hb_ := S.2.1
  have hK := E.2.2.2.2.1
  have hV := E.2.2.2.2.2.2
  have hl : lv_has ls 2 [(0, .ref o), (1, .int (sI p))] := hl
  have inX5_ : ∀ w ∈ wsX50, w ∈ wsX5_ringStone := fun _ h => List.mem_cons_of_mem _ (List.mem_append_right _ h)
  refine lv_iload_n hx_ hb_ dX5_ringStone_0 rfl (lv_at hl 1 rfl) ?_
  refine sk_SP E hV (As := [.int (sI p)]) (rest := []) (kX5_isStone l_ G b_ M N p (by omega)) (va_cwS 1 S.2.2.2.2 gX5_ringStone_X5_isStone rfl rfl rfl (by decide +kernel) ⟨Nat.le_of_ble_eq_true rfl, Nat.le_of_ble_eq_true rfl⟩) rfl rfl hl.1 (Nat.le_of_ble_eq_true rfl) dX5_ringStone_1 (c1 := 0) (s1 := 0) ⟨⟨rfl, rfl⟩, by decide, by decide⟩ (fun H locs hV => ?_)
  refine sq_eq (tgt := 16) S dX5_ringStone_4 (by decide) (fun c1 => absurd c1 (by omega)) (fun _ => ?_)
  refine lv_aload_n hx_ hb_ dX5_ringStone_7 rfl (lv_at hl 0 rfl) ?_
  refine sc_get (ci := 3) (C := RX5) (T := TX5) (n := 11) S hK hV inX5_ ho0 rfl 8 (by decide) (S.2.2.2.2 _ (List.mem_of_getElem? (i := 1) rfl)) rfl rfl dX5_ringStone_8 ?_
  refine lv_iload_n hx_ hb_ dX5_ringStone_11 rfl (lv_at hl 1 rfl) ?_
  refine sc_iald S hK hV ho9 (by omega) dX5_ringStone_12 ?_
  refine lv_goto (tgt := 17) hx_ hb_ dX5_ringStone_13 (by decide) ?_
  exact sr_i E hQ dX5_ringStone_17 ⟨Nat.le_of_ble_eq_true rfl, Nat.le_of_ble_eq_true rfl⟩ hV (⟨rfl, rfl, rfl⟩)

abbrev rmX5_bestTest : Room := { frames := 3, cells := 0, slots := 0, locals := 82 }
set_option maxHeartbeats 4000000 in
set_option maxRecDepth 100000 in
theorem kX5_bestTest (l_ : Launch) (G : sG) (b_ : Nat) (M : sM) (N : Nat) (o : Nat) (L : Int) (Pa f : sF) (B : Prop) (ho0 : M o = some (sObj 3 [.ref (o + 1), .ref (o + 2), .ref (o + 3), .ref (o + 4), .ref (o + 5), .ref (o + 6), .ref (o + 7), .ref (o + 8), .ref (o + 9), .int (sI L), .int (sI (f 568))])) (ho7 : M (o + 7) = some (sArr G 100 Pa)) (hok : sOk f) (hP : abA f Pa) : cP l_ yX5_bestTest wsX5_bestTest rmX5_bestTest G b_ M N [.ref o, .int (sI (bI B))] (pif B (ntM f) (ntT f)) := by
  refine sE.ofI (cc := cX5_bestTest) (nL := 7) (ret := (some .int)) (by decide) rfl (Nat.le_of_ble_eq_true rfl) ?_
  intro p_ e_ s_ m_ args_ below_ meth_ c_ ls Q hQ E hl
  have E : sE p_ l_ e_ rmX5_bestTest s_ m_ args_ below_ meth_ c_ cX5_bestTest 7 wsX5_bestTest RX5 "bestTest" (some .int) G b_ M N := E
  have S := E.1
  have hx_ := S.1
  have hb_ := S.2.1
  have hK := E.2.2.2.2.1
  have hV := E.2.2.2.2.2.2
  have hl : lv_has ls 7 [(0, .ref o), (1, .int (sI (bI B)))] := hl
  have inX5_ : ∀ w ∈ wsX50, w ∈ wsX5_bestTest := fun _ h => List.mem_cons_of_mem _ (List.mem_append_right _ h)
  have kn0 := sOk_N hok
  refine si_const S dX5_bestTest_0 ?_
  refine lv_istore_n (lv' := [(2, .int (sI (-1))), (0, .ref o), (1, .int (sI (bI B)))]) hx_ hb_ dX5_bestTest_1 rfl hl (by decide) rfl (fun ls hl => ?_)
  refine si_const S dX5_bestTest_2 ?_
  refine lv_istore_n (lv' := [(3, .int (sI (-1))), (2, .int (sI (-1))), (0, .ref o), (1, .int (sI (bI B)))]) hx_ hb_ dX5_bestTest_3 rfl hl (by decide) rfl (fun ls hl => ?_)
  refine si_const S dX5_bestTest_4 ?_
  refine lv_istore (lv' := [(4, .int (sI 0)), (3, .int (sI (-1))), (2, .int (sI (-1))), (0, .ref o), (1, .int (sI (bI B)))]) hx_ hb_ dX5_bestTest_5 hl (by decide) rfl (fun ls hl => ?_)
  have L7 : ∀ (fuel : Nat) (z : Int) (t : Int) (a : Int)  (H : Heap) (locs : List Loc) (ls : Array Slot), ((f 568 - a).toNat) < fuel → (0 ≤ a ∧ a ≤ f 568 ∧ -1 ≤ z ∧ z ≤ 3628800) → (ntR f a (a + 1) z t) → sV G b_ M N s_ H locs → lv_has ls 7 [(0, .ref o), (1, .int (sI (bI B))), (2, .int (sI z)), (3, .int (sI t)), (4, .int (sI a))] → W p_ l_ e_ rmX5_bestTest s_ m_ args_ below_ meth_ c_ H locs 0 0 Q (F0 m_ 7 ls []) := by
    intro fuel
    induction fuel with
    | zero => intro z t a H locs ls hmu; exact absurd hmu (Nat.not_lt_zero _)
    | succ fuel ih7 =>
      intro z t a H locs ls hmu7 hv7_0 hnt  hV hl
      refine lv_iload hx_ hb_ dX5_bestTest_7 (lv_at hl 4 rfl) ?_
      refine lv_aload_n hx_ hb_ dX5_bestTest_9 rfl (lv_at hl 0 rfl) ?_
      refine sc_get (ci := 3) (C := RX5) (T := TX5) (n := 11) S hK hV inX5_ ho0 rfl 10 (by decide) (S.2.2.2.2 _ (List.mem_of_getElem? (i := 1) rfl)) rfl rfl dX5_bestTest_10 ?_
      refine sb_ge (tgt := 87) S dX5_bestTest_13 (by decide) (by omega) (fun c1 => ?_) (fun c1 => ?_)
      · refine lv_iload_n hx_ hb_ dX5_bestTest_87 rfl (lv_at hl 1 rfl) ?_
        refine sq_eq (tgt := 95) S dX5_bestTest_88 (by decide) (fun h88 => ?_) (fun h88 => ?_)
        · refine lv_iload_n hx_ hb_ dX5_bestTest_95 rfl (lv_at hl 3 rfl) ?_
          exact sr_i E hQ dX5_bestTest_96 ⟨Nat.le_of_ble_eq_true rfl, Nat.le_of_ble_eq_true rfl⟩ hV (⟨by rw [pif_f h88]; exact (nt_eq (by omega) hnt).2.symm, rfl, rfl⟩)
        · refine lv_iload_n hx_ hb_ dX5_bestTest_91 rfl (lv_at hl 2 rfl) ?_
          refine lv_goto (tgt := 96) hx_ hb_ dX5_bestTest_92 (by decide) ?_
          exact sr_i E hQ dX5_bestTest_96 ⟨Nat.le_of_ble_eq_true rfl, Nat.le_of_ble_eq_true rfl⟩ hV (⟨by rw [pif_t h88]; exact (nt_eq (by omega) hnt).1.symm, rfl, rfl⟩)
      · refine lv_iload hx_ hb_ dX5_bestTest_16 (lv_at hl 4 rfl) ?_
        refine si_const S dX5_bestTest_18 ?_
        refine si_add S dX5_bestTest_19 ?_
        refine lv_istore (lv' := [(5, .int (sI (a + 1))), (0, .ref o), (1, .int (sI (bI B))), (2, .int (sI z)), (3, .int (sI t)), (4, .int (sI a))]) hx_ hb_ dX5_bestTest_20 hl (by decide) rfl (fun ls hl => ?_)
        have L22 : ∀ (fuel : Nat) (z2 : Int) (t2 : Int) (b : Int)  (H : Heap) (locs : List Loc) (ls : Array Slot), ((f 568 - b).toNat) < fuel → (a + 1 ≤ b ∧ b ≤ f 568 ∧ -1 ≤ z2 ∧ z2 ≤ 3628800) → (ntR f a b z2 t2) → sV G b_ M N s_ H locs → lv_has ls 7 [(0, .ref o), (1, .int (sI (bI B))), (2, .int (sI z2)), (3, .int (sI t2)), (4, .int (sI a)), (5, .int (sI b))] → W p_ l_ e_ rmX5_bestTest s_ m_ args_ below_ meth_ c_ H locs 0 0 Q (F0 m_ 22 ls []) := by
          intro fuel
          induction fuel with
          | zero => intro z2 t2 b H locs ls hmu; exact absurd hmu (Nat.not_lt_zero _)
          | succ fuel ih22 =>
            intro z2 t2 b H locs ls hmu22 hv22_0 hnt2  hV hl
            refine lv_iload hx_ hb_ dX5_bestTest_22 (lv_at hl 5 rfl) ?_
            refine lv_aload_n hx_ hb_ dX5_bestTest_24 rfl (lv_at hl 0 rfl) ?_
            refine sc_get (ci := 3) (C := RX5) (T := TX5) (n := 11) S hK hV inX5_ ho0 rfl 10 (by decide) (S.2.2.2.2 _ (List.mem_of_getElem? (i := 1) rfl)) rfl rfl dX5_bestTest_25 ?_
            refine sb_ge (tgt := 81) S dX5_bestTest_28 (by decide) (by omega) (fun c2 => ?_) (fun c2 => ?_)
            · refine si_inc (lv' := [(4, .int (sI (a + 1))), (0, .ref o), (1, .int (sI (bI B))), (2, .int (sI z2)), (3, .int (sI t2)), (5, .int (sI b))]) S dX5_bestTest_81 hl (k := 4) rfl (by decide) rfl (fun ls hl => ?_)
              refine lv_goto (tgt := 7) hx_ hb_ dX5_bestTest_84 (by decide) ?_
              exact ih7 z2 t2 (a + 1) _ _ _ (by omega) (by omega) (ntR_n (by omega) hnt2) hV (lv_sub hl [1, 2, 3, 4, 0] rfl)
            · refine lv_aload_n hx_ hb_ dX5_bestTest_31 rfl (lv_at hl 0 rfl) ?_
              refine lv_iload hx_ hb_ dX5_bestTest_32 (lv_at hl 4 rfl) ?_
              refine lv_iload hx_ hb_ dX5_bestTest_34 (lv_at hl 5 rfl) ?_
              refine sk_VP E hV (As := [.int (sI a), .int (sI b)]) (rest := []) (kX5_countAhead l_ G b_ M N o L (f 568) Pa a b ho0 ho7 (by omega)) (cwV 2 S.2.2.2.2 gX5_bestTest_X5_countAhead rfl rfl rfl (by decide +kernel) ⟨Nat.le_of_ble_eq_true rfl, Nat.le_of_ble_eq_true rfl⟩) (ci := 3) ho0 rfl rfl rfl hl.1 (Nat.le_of_ble_eq_true rfl) dX5_bestTest_36 (c1 := 0) (s1 := 0) ⟨⟨rfl, rfl⟩, by decide, by decide⟩ (fun H locs hV => ?_)
              have ha1 := ab_r (by omega) (ctC f (by omega)) a b (by omega)
              have ha2 := ab_r (by omega) (ctC f (by omega)) b a (by omega)
              have htr := tot_r (by omega) (ctC f (by omega))
              rw [hP a b (by omega) (by omega) (by omega) (by omega) (by omega)]
              refine lv_aload_n hx_ hb_ dX5_bestTest_39 rfl (lv_at hl 0 rfl) ?_
              refine lv_iload hx_ hb_ dX5_bestTest_40 (lv_at hl 5 rfl) ?_
              refine lv_iload hx_ hb_ dX5_bestTest_42 (lv_at hl 4 rfl) ?_
              refine sk_VP E hV (As := [.int (sI b), .int (sI a)]) (rest := [.int (sI (abI f a b))]) (kX5_countAhead l_ G b_ M N o L (f 568) Pa b a ho0 ho7 (by omega)) (cwV 2 S.2.2.2.2 gX5_bestTest_X5_countAhead rfl rfl rfl (by decide +kernel) ⟨Nat.le_of_ble_eq_true rfl, Nat.le_of_ble_eq_true rfl⟩) (ci := 3) ho0 rfl rfl rfl hl.1 (Nat.le_of_ble_eq_true rfl) dX5_bestTest_44 (c1 := 0) (s1 := 0) ⟨⟨rfl, rfl⟩, by decide, by decide⟩ (fun H locs hV => ?_)
              rw [hP b a (by omega) (by omega) (by omega) (by omega) (by omega)]
              refine si_max S hl.1 (S.2.2.2.2 _ (List.mem_of_getElem? (i := 2) rfl)) (S.2.2.2.2 _ (List.mem_of_getElem? (i := 3) rfl)) (S.2.2.2.2 _ (List.mem_of_getElem? (i := 4) rfl)) (S.2.2.2.2 _ (List.mem_of_getElem? (i := 5) rfl)) ⟨by decide, Nat.le_of_ble_eq_true rfl, by decide, by decide⟩ (by omega) dX5_bestTest_47 ?_
              have hwo : 0 ≤ woI f a b ∧ woI f a b ≤ 3628800 := by unfold woI; omega
              rw [show max (abI f a b) (abI f b a) = woI f a b from rfl]
              refine lv_istore (lv' := [(6, .int (sI (woI f a b))), (0, .ref o), (1, .int (sI (bI B))), (2, .int (sI z2)), (3, .int (sI t2)), (4, .int (sI a)), (5, .int (sI b))]) hx_ hb_ dX5_bestTest_50 hl (by decide) rfl (fun ls hl => ?_)
              refine lv_iload_n hx_ hb_ dX5_bestTest_52 rfl (lv_at hl 3 rfl) ?_
              refine si_const S dX5_bestTest_53 ?_
              refine sb_eq (tgt := 63) S dX5_bestTest_54 (by decide) (by omega) (fun h54 => ?_) (fun h54 => ?_)
              · refine lv_iload hx_ hb_ dX5_bestTest_63 (lv_at hl 0 rfl) ?_
                refine lv_istore_n (lv' := [(2, .int (sI (woI f a b))), (6, .int (sI (woI f a b))), (0, .ref o), (1, .int (sI (bI B))), (3, .int (sI t2)), (4, .int (sI a)), (5, .int (sI b))]) hx_ hb_ dX5_bestTest_65 rfl hl (by decide) rfl (fun ls hl => ?_)
                refine si_bipush S dX5_bestTest_66 (by decide) ?_
                refine lv_iload hx_ hb_ dX5_bestTest_68 (lv_at hl 5 rfl) ?_
                refine si_mul S dX5_bestTest_70 ?_
                refine lv_iload hx_ hb_ dX5_bestTest_71 (lv_at hl 6 rfl) ?_
                refine si_add S dX5_bestTest_73 ?_
                refine lv_istore_n (lv' := [(3, .int (sI ((10 * a) + b))), (2, .int (sI (woI f a b))), (6, .int (sI (woI f a b))), (0, .ref o), (1, .int (sI (bI B))), (4, .int (sI a)), (5, .int (sI b))]) hx_ hb_ dX5_bestTest_74 rfl hl (by decide) rfl (fun ls hl => ?_)
                refine si_inc (lv' := [(5, .int (sI (b + 1))), (3, .int (sI ((10 * a) + b))), (2, .int (sI (woI f a b))), (6, .int (sI (woI f a b))), (0, .ref o), (1, .int (sI (bI B))), (4, .int (sI a))]) S dX5_bestTest_75 hl (k := 6) rfl (by decide) rfl (fun ls hl => ?_)
                refine lv_goto (tgt := 22) hx_ hb_ dX5_bestTest_78 (by decide) ?_
                exact ih22 (woI f a b) ((10 * a) + b) (b + 1) _ _ _ (by omega) (by omega) (ntR_t (by omega) (by omega) (by omega) hnt2) hV (lv_sub hl [4, 5, 2, 1, 6, 0] rfl)
              · refine lv_iload hx_ hb_ dX5_bestTest_57 (lv_at hl 0 rfl) ?_
                refine lv_iload_n hx_ hb_ dX5_bestTest_59 rfl (lv_at hl 3 rfl) ?_
                refine sb_ge (tgt := 75) S dX5_bestTest_60 (by decide) (by omega) (fun c3 => ?_) (fun c3 => ?_)
                · refine si_inc (lv' := [(5, .int (sI (b + 1))), (6, .int (sI (woI f a b))), (0, .ref o), (1, .int (sI (bI B))), (2, .int (sI z2)), (3, .int (sI t2)), (4, .int (sI a))]) S dX5_bestTest_75 hl (k := 6) rfl (by decide) rfl (fun ls hl => ?_)
                  refine lv_goto (tgt := 22) hx_ hb_ dX5_bestTest_78 (by decide) ?_
                  exact ih22 z2 t2 (b + 1) _ _ _ (by omega) (by omega) (ntR_k (by omega) h54 (by omega) hnt2 (by omega)) hV (lv_sub hl [2, 3, 4, 5, 6, 0] rfl)
                · refine lv_iload hx_ hb_ dX5_bestTest_63 (lv_at hl 0 rfl) ?_
                  refine lv_istore_n (lv' := [(2, .int (sI (woI f a b))), (6, .int (sI (woI f a b))), (0, .ref o), (1, .int (sI (bI B))), (3, .int (sI t2)), (4, .int (sI a)), (5, .int (sI b))]) hx_ hb_ dX5_bestTest_65 rfl hl (by decide) rfl (fun ls hl => ?_)
                  refine si_bipush S dX5_bestTest_66 (by decide) ?_
                  refine lv_iload hx_ hb_ dX5_bestTest_68 (lv_at hl 5 rfl) ?_
                  refine si_mul S dX5_bestTest_70 ?_
                  refine lv_iload hx_ hb_ dX5_bestTest_71 (lv_at hl 6 rfl) ?_
                  refine si_add S dX5_bestTest_73 ?_
                  refine lv_istore_n (lv' := [(3, .int (sI ((10 * a) + b))), (2, .int (sI (woI f a b))), (6, .int (sI (woI f a b))), (0, .ref o), (1, .int (sI (bI B))), (4, .int (sI a)), (5, .int (sI b))]) hx_ hb_ dX5_bestTest_74 rfl hl (by decide) rfl (fun ls hl => ?_)
                  refine si_inc (lv' := [(5, .int (sI (b + 1))), (3, .int (sI ((10 * a) + b))), (2, .int (sI (woI f a b))), (6, .int (sI (woI f a b))), (0, .ref o), (1, .int (sI (bI B))), (4, .int (sI a))]) S dX5_bestTest_75 hl (k := 6) rfl (by decide) rfl (fun ls hl => ?_)
                  refine lv_goto (tgt := 22) hx_ hb_ dX5_bestTest_78 (by decide) ?_
                  exact ih22 (woI f a b) ((10 * a) + b) (b + 1) _ _ _ (by omega) (by omega) (ntR_t (by omega) (by omega) (by omega) hnt2) hV (lv_sub hl [4, 5, 2, 1, 6, 0] rfl)
        exact L22 _ z t (a + 1) _ _ _ (Nat.lt_succ_self _) (by omega) (hnt) hV (lv_sub hl [1, 2, 3, 4, 5, 0] rfl)
  exact L7 _ (-1) (-1) 0 _ _ _ (Nat.lt_succ_self _) (by omega) (Or.inl ⟨rfl, rfl, fun x y q => by unfold ntQ at q; omega⟩) hV (lv_sub hl [3, 4, 2, 1, 0] rfl)

abbrev rmX5_stoneInFirst : Room := { frames := 2, cells := 0, slots := 0, locals := 62 }
set_option maxHeartbeats 4000000 in
set_option maxRecDepth 100000 in
theorem kX5_stoneInFirst (l_ : Launch) (G : sG) (b_ : Nat) (M : sM) (N : Nat) (o : Nat) (L : Int) (Ha f : sF) (r : Int) (ho0 : M o = some (sObj 3 [.ref (o + 1), .ref (o + 2), .ref (o + 3), .ref (o + 4), .ref (o + 5), .ref (o + 6), .ref (o + 7), .ref (o + 8), .ref (o + 9), .int (sI L), .int (sI (f 568))])) (ho3 : M (o + 3) = some (sArr G 10 Ha)) (hok : sOk f) (hH : haP f Ha) (hr : 0 ≤ r ∧ r < f 568) (ht0 : 0 < totI f) : cP l_ yX5_stoneInFirst wsX5_stoneInFirst rmX5_stoneInFirst G b_ M N [.ref o, .int (sI r)] (orI f r) := by
  refine sE.ofI (cc := cX5_stoneInFirst) (nL := 6) (ret := (some .int)) (by decide) rfl (Nat.le_of_ble_eq_true rfl) ?_
  intro p_ e_ s_ m_ args_ below_ meth_ c_ ls Q hQ E hl
  have E : sE p_ l_ e_ rmX5_stoneInFirst s_ m_ args_ below_ meth_ c_ cX5_stoneInFirst 6 wsX5_stoneInFirst RX5 "stoneInFirst" (some .int) G b_ M N := E
  have S := E.1
  have hx_ := S.1
  have hb_ := S.2.1
  have hK := E.2.2.2.2.1
  have hV := E.2.2.2.2.2.2
  have hl : lv_has ls 6 [(0, .ref o), (1, .int (sI r))] := hl
  have inX5_ : ∀ w ∈ wsX50, w ∈ wsX5_stoneInFirst := fun _ h => List.mem_cons_of_mem _ (List.mem_append_right _ h)
  have kn0 := sOk_N hok
  have hp1 := p2_p (f 568)
  have hp2 := p2_10 (n := f 568) (by omega)
  have hor := orS_r (f := f) (by omega) (wyC_R f (by omega)) ht0
  refine si_const S dX5_stoneInFirst_0 ?_
  refine lv_istore_n (lv' := [(2, .int (sI 0)), (0, .ref o), (1, .int (sI r))]) hx_ hb_ dX5_stoneInFirst_1 rfl hl (by decide) rfl (fun ls hl => ?_)
  refine si_const S dX5_stoneInFirst_2 ?_
  refine lv_istore_n (lv' := [(3, .int (sI (-1))), (2, .int (sI 0)), (0, .ref o), (1, .int (sI r))]) hx_ hb_ dX5_stoneInFirst_3 rfl hl (by decide) rfl (fun ls hl => ?_)
  refine si_const S dX5_stoneInFirst_4 ?_
  refine lv_istore (lv' := [(4, .int (sI 0)), (3, .int (sI (-1))), (2, .int (sI 0)), (0, .ref o), (1, .int (sI r))]) hx_ hb_ dX5_stoneInFirst_5 hl (by decide) rfl (fun ls hl => ?_)
  have L7 : ∀ (fuel : Nat) (v : Int) (s : Int) (k : Int)  (H : Heap) (locs : List Loc) (ls : Array Slot), ((r + 1 - k).toNat) < fuel → (0 ≤ k ∧ k ≤ r + 1) → (v = orS f k.toNat) → (s = if k = 0 then -1 else orI f (k - 1)) → sV G b_ M N s_ H locs → lv_has ls 6 [(0, .ref o), (1, .int (sI r)), (2, .int (sI v)), (3, .int (sI s)), (4, .int (sI k))] → W p_ l_ e_ rmX5_stoneInFirst s_ m_ args_ below_ meth_ c_ H locs 0 0 Q (F0 m_ 7 ls []) := by
    intro fuel
    induction fuel with
    | zero => intro v s k H locs ls hmu; exact absurd hmu (Nat.not_lt_zero _)
    | succ fuel ih7 =>
      intro v s k H locs ls hmu7 hv7_0 hv hsk  hV hl
      refine lv_iload hx_ hb_ dX5_stoneInFirst_7 (lv_at hl 4 rfl) ?_
      refine lv_iload_n hx_ hb_ dX5_stoneInFirst_9 rfl (lv_at hl 1 rfl) ?_
      refine sb_gt (tgt := 81) S dX5_stoneInFirst_10 (by decide) (by omega) (fun c1 => ?_) (fun c1 => ?_)
      · refine lv_iload_n hx_ hb_ dX5_stoneInFirst_81 rfl (lv_at hl 3 rfl) ?_
        exact sr_i E hQ dX5_stoneInFirst_82 ⟨Nat.le_of_ble_eq_true rfl, Nat.le_of_ble_eq_true rfl⟩ hV (⟨by rw [hsk, if_neg (by omega), show k - 1 = r by omega], rfl, rfl⟩)
      · refine lv_iload hx_ hb_ dX5_stoneInFirst_13 (lv_at hl 4 rfl) ?_
        refine lv_aload_n hx_ hb_ dX5_stoneInFirst_15 rfl (lv_at hl 0 rfl) ?_
        refine sc_get (ci := 3) (C := RX5) (T := TX5) (n := 11) S hK hV inX5_ ho0 rfl 10 (by decide) (S.2.2.2.2 _ (List.mem_of_getElem? (i := 1) rfl)) rfl rfl dX5_stoneInFirst_16 ?_
        refine sb_ge (tgt := 81) S dX5_stoneInFirst_19 (by decide) (by omega) (fun c2 => ?_) (fun c2 => ?_)
        · refine lv_iload_n hx_ hb_ dX5_stoneInFirst_81 rfl (lv_at hl 3 rfl) ?_
          exact sr_i E hQ dX5_stoneInFirst_82 ⟨Nat.le_of_ble_eq_true rfl, Nat.le_of_ble_eq_true rfl⟩ hV (⟨by rw [hsk, if_neg (by omega), show k - 1 = r by omega], rfl, rfl⟩)
        · have hok2 := hor k (by omega) (by omega)
          have hok3 := hok2.2.2 (by omega)
          rw [← hv] at hok2 hok3
          refine si_const S dX5_stoneInFirst_22 ?_
          refine lv_istore_n (lv' := [(3, .int (sI (-1))), (0, .ref o), (1, .int (sI r)), (2, .int (sI v)), (4, .int (sI k))]) hx_ hb_ dX5_stoneInFirst_23 rfl hl (by decide) rfl (fun ls hl => ?_)
          refine si_const S dX5_stoneInFirst_24 ?_
          refine lv_istore (lv' := [(5, .int (sI 0)), (3, .int (sI (-1))), (0, .ref o), (1, .int (sI r)), (2, .int (sI v)), (4, .int (sI k))]) hx_ hb_ dX5_stoneInFirst_25 hl (by decide) rfl (fun ls hl => ?_)
          have L27 : ∀ (fuel : Nat) (t : Int) (q : Int)  (H : Heap) (locs : List Loc) (ls : Array Slot), ((f 568 - q).toNat) < fuel → (0 ≤ q ∧ q ≤ f 568) → (t = -1 ∨ t = orI f k) → (t = -1 → ∀ x, 0 ≤ x → x < q → ¬ nxS f v x) → sV G b_ M N s_ H locs → lv_has ls 6 [(0, .ref o), (1, .int (sI r)), (2, .int (sI v)), (3, .int (sI t)), (4, .int (sI k)), (5, .int (sI q))] → W p_ l_ e_ rmX5_stoneInFirst s_ m_ args_ below_ meth_ c_ H locs 0 0 Q (F0 m_ 27 ls []) := by
            intro fuel
            induction fuel with
            | zero => intro t q H locs ls hmu; exact absurd hmu (Nat.not_lt_zero _)
            | succ fuel ih27 =>
              intro t q H locs ls hmu27 hv27_0 htr hq  hV hl
              refine lv_iload hx_ hb_ dX5_stoneInFirst_27 (lv_at hl 5 rfl) ?_
              refine lv_aload_n hx_ hb_ dX5_stoneInFirst_29 rfl (lv_at hl 0 rfl) ?_
              refine sc_get (ci := 3) (C := RX5) (T := TX5) (n := 11) S hK hV inX5_ ho0 rfl 10 (by decide) (S.2.2.2.2 _ (List.mem_of_getElem? (i := 1) rfl)) rfl rfl dX5_stoneInFirst_30 ?_
              refine sb_ge (tgt := 60) S dX5_stoneInFirst_33 (by decide) (by omega) (fun c3 => ?_) (fun c3 => ?_)
              · have htI : t = orI f k := by
                  rcases htr with e | e
                  · first
                    | omega
                    | exact absurd hok3.2.2 (hq e _ (by omega) (by omega))
                  · exact e
                rw [← htI] at hok3
                have htv := hok3.2.2.1
                refine lv_iload_n hx_ hb_ dX5_stoneInFirst_60 rfl (lv_at hl 2 rfl) ?_
                refine lv_iload_n hx_ hb_ dX5_stoneInFirst_61 rfl (lv_at hl 3 rfl) ?_
                refine si_const S dX5_stoneInFirst_62 ?_
                refine sb_ne (tgt := 70) S dX5_stoneInFirst_63 (by decide) (by omega) (fun _ => ?_) (fun c4 => absurd c4 (by omega))
                refine si_const S dX5_stoneInFirst_70 ?_
                refine lv_iload_n hx_ hb_ dX5_stoneInFirst_71 rfl (lv_at hl 3 rfl) ?_
                refine si_shl S dX5_stoneInFirst_72 ?_
                rw [ishl_p2 (k := t) (by omega)]
                refine si_or S dX5_stoneInFirst_73 ?_
                rw [← ishl_p2 (k := t) (by omega), ior_p2 (by omega) (by omega) htv]
                refine lv_istore_n (lv' := [(2, .int (sI (v + p2 t))), (0, .ref o), (1, .int (sI r)), (3, .int (sI t)), (4, .int (sI k)), (5, .int (sI q))]) hx_ hb_ dX5_stoneInFirst_74 rfl hl (by decide) rfl (fun ls hl => ?_)
                refine si_inc (lv' := [(4, .int (sI (k + 1))), (2, .int (sI (v + p2 t))), (0, .ref o), (1, .int (sI r)), (3, .int (sI t)), (5, .int (sI q))]) S dX5_stoneInFirst_75 hl (k := 4) rfl (by decide) rfl (fun ls hl => ?_)
                refine lv_goto (tgt := 7) hx_ hb_ dX5_stoneInFirst_78 (by decide) ?_
                exact ih7 (v + p2 t) t (k + 1) _ _ _ (by omega) (by omega) (by rw [orS_s f k (by omega), ← hv, htI]) (by rw [if_neg (by omega), show k + 1 - 1 = k by omega]; exact htI) hV (lv_sub hl [2, 3, 1, 4, 0] rfl)
              · refine lv_iload_n hx_ hb_ dX5_stoneInFirst_36 rfl (lv_at hl 3 rfl) ?_
                refine si_const S dX5_stoneInFirst_37 ?_
                refine sb_ne (tgt := 60) S dX5_stoneInFirst_38 (by decide) (by omega) (fun c5 => ?_) (fun c5 => ?_)
                · have htI : t = orI f k := by
                    rcases htr with e | e
                    · first
                      | omega
                      | exact absurd hok3.2.2 (hq e _ (by omega) (by omega))
                    · exact e
                  rw [← htI] at hok3
                  have htv := hok3.2.2.1
                  refine lv_iload_n hx_ hb_ dX5_stoneInFirst_60 rfl (lv_at hl 2 rfl) ?_
                  refine lv_iload_n hx_ hb_ dX5_stoneInFirst_61 rfl (lv_at hl 3 rfl) ?_
                  refine si_const S dX5_stoneInFirst_62 ?_
                  refine sb_ne (tgt := 70) S dX5_stoneInFirst_63 (by decide) (by omega) (fun _ => ?_) (fun c6 => absurd c6 (by omega))
                  refine si_const S dX5_stoneInFirst_70 ?_
                  refine lv_iload_n hx_ hb_ dX5_stoneInFirst_71 rfl (lv_at hl 3 rfl) ?_
                  refine si_shl S dX5_stoneInFirst_72 ?_
                  rw [ishl_p2 (k := t) (by omega)]
                  refine si_or S dX5_stoneInFirst_73 ?_
                  rw [← ishl_p2 (k := t) (by omega), ior_p2 (by omega) (by omega) htv]
                  refine lv_istore_n (lv' := [(2, .int (sI (v + p2 t))), (0, .ref o), (1, .int (sI r)), (3, .int (sI t)), (4, .int (sI k)), (5, .int (sI q))]) hx_ hb_ dX5_stoneInFirst_74 rfl hl (by decide) rfl (fun ls hl => ?_)
                  refine si_inc (lv' := [(4, .int (sI (k + 1))), (2, .int (sI (v + p2 t))), (0, .ref o), (1, .int (sI r)), (3, .int (sI t)), (5, .int (sI q))]) S dX5_stoneInFirst_75 hl (k := 4) rfl (by decide) rfl (fun ls hl => ?_)
                  refine lv_goto (tgt := 7) hx_ hb_ dX5_stoneInFirst_78 (by decide) ?_
                  exact ih7 (v + p2 t) t (k + 1) _ _ _ (by omega) (by omega) (by rw [orS_s f k (by omega), ← hv, htI]) (by rw [if_neg (by omega), show k + 1 - 1 = k by omega]; exact htI) hV (lv_sub hl [2, 3, 1, 4, 0] rfl)
                · refine lv_aload_n hx_ hb_ dX5_stoneInFirst_41 rfl (lv_at hl 0 rfl) ?_
                  refine lv_iload hx_ hb_ dX5_stoneInFirst_42 (lv_at hl 5 rfl) ?_
                  refine lv_iload_n hx_ hb_ dX5_stoneInFirst_44 rfl (lv_at hl 2 rfl) ?_
                  refine sk_VP E hV (As := [.int (sI q), .int (sI v)]) (rest := []) (kX5_canBeNext l_ G b_ M N o L Ha f q v ho0 ho3 (by omega) (hH) (by omega) (by omega)) (cwV 2 S.2.2.2.2 gX5_stoneInFirst_X5_canBeNext rfl rfl rfl (by decide +kernel) ⟨Nat.le_of_ble_eq_true rfl, Nat.le_of_ble_eq_true rfl⟩) (ci := 3) ho0 rfl rfl rfl hl.1 (Nat.le_of_ble_eq_true rfl) dX5_stoneInFirst_45 (c1 := 0) (s1 := 0) ⟨⟨rfl, rfl⟩, by decide, by decide⟩ (fun H locs hV => ?_)
                  refine sq_eq (tgt := 54) S dX5_stoneInFirst_48 (by decide) (fun h48 => ?_) (fun h48 => ?_)
                  · refine si_inc (lv' := [(5, .int (sI (q + 1))), (0, .ref o), (1, .int (sI r)), (2, .int (sI v)), (3, .int (sI t)), (4, .int (sI k))]) S dX5_stoneInFirst_54 hl (k := 5) rfl (by decide) rfl (fun ls hl => ?_)
                    refine lv_goto (tgt := 27) hx_ hb_ dX5_stoneInFirst_57 (by decide) ?_
                    exact ih27 t (q + 1) _ _ _ (by omega) (by omega) (htr) (fun q9 => idx_st (hq q9) h48) hV (lv_sub hl [1, 2, 3, 4, 5, 0] rfl)
                  · refine lv_iload hx_ hb_ dX5_stoneInFirst_51 (lv_at hl 5 rfl) ?_
                    refine lv_istore_n (lv' := [(3, .int (sI q)), (0, .ref o), (1, .int (sI r)), (2, .int (sI v)), (4, .int (sI k)), (5, .int (sI q))]) hx_ hb_ dX5_stoneInFirst_53 rfl hl (by decide) rfl (fun ls hl => ?_)
                    refine si_inc (lv' := [(5, .int (sI (q + 1))), (3, .int (sI q)), (0, .ref o), (1, .int (sI r)), (2, .int (sI v)), (4, .int (sI k))]) S dX5_stoneInFirst_54 hl (k := 5) rfl (by decide) rfl (fun ls hl => ?_)
                    refine lv_goto (tgt := 27) hx_ hb_ dX5_stoneInFirst_57 (by decide) ?_
                    exact ih27 q (q + 1) _ _ _ (by omega) (by omega) (Or.inr ((idx_some (P := nxS f v) (n := f 568) ⟨by omega, by omega⟩ h48 (hq (by omega))).symm.trans (by unfold orI; rw [← hv]))) (fun q9 => by omega) hV (lv_sub hl [2, 3, 4, 1, 5, 0] rfl)
          exact L27 _ (-1) 0 _ _ _ (Nat.lt_succ_self _) (by omega) (Or.inl rfl) (fun _ x a b => by omega) hV (lv_sub hl [2, 3, 4, 1, 5, 0] rfl)
  exact L7 _ 0 (-1) 0 _ _ _ (Nat.lt_succ_self _) (by omega) (rfl) (by rw [if_pos rfl]) hV (lv_sub hl [3, 4, 2, 1, 0] rfl)

abbrev rmX5_miscounts : Room := { frames := 3, cells := 0, slots := 0, locals := 82 }
set_option maxHeartbeats 4000000 in
set_option maxRecDepth 100000 in
theorem kX5_miscounts (l_ : Launch) (G : sG) (b_ : Nat) (M : sM) (N : Nat) (o : Nat) (L : Int) (Ah At Pa Rs f : sF) (ho0 : M o = some (sObj 3 [.ref (o + 1), .ref (o + 2), .ref (o + 3), .ref (o + 4), .ref (o + 5), .ref (o + 6), .ref (o + 7), .ref (o + 8), .ref (o + 9), .int (sI L), .int (sI (f 568))])) (ho4 : M (o + 4) = some (sArr G 1024 Ah)) (ho6 : M (o + 6) = some (sArr G 100 At)) (ho7 : M (o + 7) = some (sArr G 100 Pa)) (ho9 : M (o + 9) = some (sArr G 10 Rs)) (hok : sOk f) (hA : ∀ u, 0 ≤ u → u < p2 (f 568) → Ah u = wyC f u) (hR : rkA f At) (hP : abA f Pa) (hL : fiP f (f 568) L Rs) : cP l_ yX5_miscounts wsX5_miscounts rmX5_miscounts G b_ M N [.ref o] 0 := by
  refine sE.ofI (cc := cX5_miscounts) (nL := 5) (ret := (some .int)) (by decide) rfl (Nat.le_of_ble_eq_true rfl) ?_
  intro p_ e_ s_ m_ args_ below_ meth_ c_ ls Q hQ E hl
  have E : sE p_ l_ e_ rmX5_miscounts s_ m_ args_ below_ meth_ c_ cX5_miscounts 5 wsX5_miscounts RX5 "miscounts" (some .int) G b_ M N := E
  have S := E.1
  have hx_ := S.1
  have hb_ := S.2.1
  have hK := E.2.2.2.2.1
  have hV := E.2.2.2.2.2.2
  have hl : lv_has ls 5 [(0, .ref o)] := hl
  have inX5_ : ∀ w ∈ wsX50, w ∈ wsX5_miscounts := fun _ h => List.mem_cons_of_mem _ (List.mem_append_right _ h)
  have kn0 := sOk_N hok
  have hLr := fi_r (by omega) hL
  have htz := fi_tot hok hL
  have htr := tot_r (by omega) (ctC f (by omega))
  refine lv_aload_n hx_ hb_ dX5_miscounts_0 rfl (lv_at hl 0 rfl) ?_
  refine sc_get (ci := 3) (C := RX5) (T := TX5) (n := 11) S hK hV inX5_ ho0 rfl 9 (by decide) (S.2.2.2.2 _ (List.mem_of_getElem? (i := 1) rfl)) rfl rfl dX5_miscounts_1 ?_
  refine sz_le (tgt := 11) S dX5_miscounts_4 (by decide) (by omega) (fun c1 => ?_) (fun c1 => ?_)
  · refine si_const S dX5_miscounts_11 ?_
    refine lv_aload_n hx_ hb_ dX5_miscounts_12 rfl (lv_at hl 0 rfl) ?_
    refine sk_VP E hV (As := []) (rest := [.int (sI 0)]) (kX5_total l_ G b_ M N o L Ah f ho0 ho4 (by omega) (hA)) (cwV 0 S.2.2.2.2 gX5_miscounts_X5_total rfl rfl rfl (by decide +kernel) ⟨Nat.le_of_ble_eq_true rfl, Nat.le_of_ble_eq_true rfl⟩) (ci := 3) ho0 rfl rfl rfl hl.1 (Nat.le_of_ble_eq_true rfl) dX5_miscounts_13 (c1 := 0) (s1 := 0) ⟨⟨rfl, rfl⟩, by decide, by decide⟩ (fun H locs hV => ?_)
    refine sz_le (tgt := 23) S dX5_miscounts_16 (by decide) (by omega) (fun c2 => absurd c2 (by omega)) (fun _ => ?_)
    refine si_const S dX5_miscounts_19 ?_
    refine lv_goto (tgt := 24) hx_ hb_ dX5_miscounts_20 (by decide) ?_
    refine sb_ne (tgt := 31) S dX5_miscounts_24 (by decide) (by omega) (fun _ => ?_) (fun c3 => absurd c3 (by omega))
    refine si_const S dX5_miscounts_31 ?_
    refine lv_istore_n (lv' := [(1, .int (sI 0)), (0, .ref o)]) hx_ hb_ dX5_miscounts_32 rfl hl (by decide) rfl (fun ls hl => ?_)
    refine si_const S dX5_miscounts_33 ?_
    refine lv_istore_n (lv' := [(2, .int (sI 0)), (1, .int (sI 0)), (0, .ref o)]) hx_ hb_ dX5_miscounts_34 rfl hl (by decide) rfl (fun ls hl => ?_)
    have L35 : ∀ (fuel : Nat) (w : Int) (a : Int)  (H : Heap) (locs : List Loc) (ls : Array Slot), ((f 568 - a).toNat) < fuel → (0 ≤ a ∧ a ≤ f 568 ∧ w = 0) → sV G b_ M N s_ H locs → lv_has ls 5 [(0, .ref o), (1, .int (sI w)), (2, .int (sI a))] → W p_ l_ e_ rmX5_miscounts s_ m_ args_ below_ meth_ c_ H locs 0 0 Q (F0 m_ 35 ls []) := by
      intro fuel
      induction fuel with
      | zero => intro w a H locs ls hmu; exact absurd hmu (Nat.not_lt_zero _)
      | succ fuel ih35 =>
        intro w a H locs ls hmu35 hv35_0  hV hl
        refine lv_iload_n hx_ hb_ dX5_miscounts_35 rfl (lv_at hl 2 rfl) ?_
        refine lv_aload_n hx_ hb_ dX5_miscounts_36 rfl (lv_at hl 0 rfl) ?_
        refine sc_get (ci := 3) (C := RX5) (T := TX5) (n := 11) S hK hV inX5_ ho0 rfl 10 (by decide) (S.2.2.2.2 _ (List.mem_of_getElem? (i := 2) rfl)) rfl rfl dX5_miscounts_37 ?_
        refine sb_ge (tgt := 145) S dX5_miscounts_40 (by decide) (by omega) (fun c4 => ?_) (fun c4 => ?_)
        · refine lv_iload_n hx_ hb_ dX5_miscounts_145 rfl (lv_at hl 1 rfl) ?_
          exact sr_i E hQ dX5_miscounts_146 ⟨Nat.le_of_ble_eq_true rfl, Nat.le_of_ble_eq_true rfl⟩ hV (⟨by omega, rfl, rfl⟩)
        · refine si_const S dX5_miscounts_43 ?_
          refine lv_istore_n (lv' := [(3, .int (sI 0)), (0, .ref o), (1, .int (sI w)), (2, .int (sI a))]) hx_ hb_ dX5_miscounts_44 rfl hl (by decide) rfl (fun ls hl => ?_)
          refine si_const S dX5_miscounts_45 ?_
          refine lv_istore (lv' := [(4, .int (sI 0)), (3, .int (sI 0)), (0, .ref o), (1, .int (sI w)), (2, .int (sI a))]) hx_ hb_ dX5_miscounts_46 hl (by decide) rfl (fun ls hl => ?_)
          have L48 : ∀ (fuel : Nat) (sm : Int) (r : Int)  (H : Heap) (locs : List Loc) (ls : Array Slot), ((f 568 - r).toNat) < fuel → (0 ≤ r ∧ r ≤ f 568) → (sm = isum r (rkI f a)) → sV G b_ M N s_ H locs → lv_has ls 5 [(0, .ref o), (1, .int (sI w)), (2, .int (sI a)), (3, .int (sI sm)), (4, .int (sI r))] → W p_ l_ e_ rmX5_miscounts s_ m_ args_ below_ meth_ c_ H locs 0 0 Q (F0 m_ 48 ls []) := by
            intro fuel
            induction fuel with
            | zero => intro sm r H locs ls hmu; exact absurd hmu (Nat.not_lt_zero _)
            | succ fuel ih48 =>
              intro sm r H locs ls hmu48 hv48_0 hsm  hV hl
              refine lv_iload hx_ hb_ dX5_miscounts_48 (lv_at hl 4 rfl) ?_
              refine lv_aload_n hx_ hb_ dX5_miscounts_50 rfl (lv_at hl 0 rfl) ?_
              refine sc_get (ci := 3) (C := RX5) (T := TX5) (n := 11) S hK hV inX5_ ho0 rfl 10 (by decide) (S.2.2.2.2 _ (List.mem_of_getElem? (i := 2) rfl)) rfl rfl dX5_miscounts_51 ?_
              refine sb_ge (tgt := 73) S dX5_miscounts_54 (by decide) (by omega) (fun c5 => ?_) (fun c5 => ?_)
              · refine lv_iload_n hx_ hb_ dX5_miscounts_73 rfl (lv_at hl 1 rfl) ?_
                refine lv_iload_n hx_ hb_ dX5_miscounts_74 rfl (lv_at hl 3 rfl) ?_
                refine lv_aload_n hx_ hb_ dX5_miscounts_75 rfl (lv_at hl 0 rfl) ?_
                refine sk_VP E hV (As := []) (rest := [.int (sI sm), .int (sI w)]) (kX5_total l_ G b_ M N o L Ah f ho0 ho4 (by omega) (hA)) (cwV 0 S.2.2.2.2 gX5_miscounts_X5_total rfl rfl rfl (by decide +kernel) ⟨Nat.le_of_ble_eq_true rfl, Nat.le_of_ble_eq_true rfl⟩) (ci := 3) ho0 rfl rfl rfl hl.1 (Nat.le_of_ble_eq_true rfl) dX5_miscounts_76 (c1 := 0) (s1 := 0) ⟨⟨rfl, rfl⟩, by decide, by decide⟩ (fun H locs hV => ?_)
                have hrs : sm = totI f := by rw [hsm, show r = f 568 by omega]; exact rk_sum (by omega) (by omega)
                refine sb_ne (tgt := 86) S dX5_miscounts_79 (by decide) (by omega) (fun c6 => absurd c6 (by omega)) (fun _ => ?_)
                refine si_const S dX5_miscounts_82 ?_
                refine lv_goto (tgt := 87) hx_ hb_ dX5_miscounts_83 (by decide) ?_
                refine si_add S dX5_miscounts_87 ?_
                refine lv_istore_n (lv' := [(1, .int (sI (w + 0))), (0, .ref o), (2, .int (sI a)), (3, .int (sI sm)), (4, .int (sI r))]) hx_ hb_ dX5_miscounts_88 rfl hl (by decide) rfl (fun ls hl => ?_)
                refine lv_iload_n hx_ hb_ dX5_miscounts_89 rfl (lv_at hl 2 rfl) ?_
                refine si_const S dX5_miscounts_90 ?_
                refine si_add S dX5_miscounts_91 ?_
                refine lv_istore (lv' := [(4, .int (sI (a + 1))), (1, .int (sI (w + 0))), (0, .ref o), (2, .int (sI a)), (3, .int (sI sm))]) hx_ hb_ dX5_miscounts_92 hl (by decide) rfl (fun ls hl => ?_)
                have L94 : ∀ (fuel : Nat) (w2 : Int) (b : Int)  (H : Heap) (locs : List Loc) (ls : Array Slot), ((f 568 - b).toNat) < fuel → (a + 1 ≤ b ∧ b ≤ f 568 ∧ w2 = 0) → sV G b_ M N s_ H locs → lv_has ls 5 [(0, .ref o), (1, .int (sI w2)), (2, .int (sI a)), (4, .int (sI b))] → W p_ l_ e_ rmX5_miscounts s_ m_ args_ below_ meth_ c_ H locs 0 0 Q (F0 m_ 94 ls []) := by
                  intro fuel
                  induction fuel with
                  | zero => intro w2 b H locs ls hmu; exact absurd hmu (Nat.not_lt_zero _)
                  | succ fuel ih94 =>
                    intro w2 b H locs ls hmu94 hv94_0  hV hl
                    refine lv_iload hx_ hb_ dX5_miscounts_94 (lv_at hl 3 rfl) ?_
                    refine lv_aload_n hx_ hb_ dX5_miscounts_96 rfl (lv_at hl 0 rfl) ?_
                    refine sc_get (ci := 3) (C := RX5) (T := TX5) (n := 11) S hK hV inX5_ ho0 rfl 10 (by decide) (S.2.2.2.2 _ (List.mem_of_getElem? (i := 2) rfl)) rfl rfl dX5_miscounts_97 ?_
                    refine sb_ge (tgt := 139) S dX5_miscounts_100 (by decide) (by omega) (fun c7 => ?_) (fun c7 => ?_)
                    · refine si_inc (lv' := [(2, .int (sI (a + 1))), (0, .ref o), (1, .int (sI w2)), (4, .int (sI b))]) S dX5_miscounts_139 hl (k := 2) rfl (by decide) rfl (fun ls hl => ?_)
                      refine lv_goto (tgt := 35) hx_ hb_ dX5_miscounts_142 (by decide) ?_
                      exact ih35 w2 (a + 1) _ _ _ (by omega) (by omega) hV (lv_sub hl [1, 2, 0] rfl)
                    · refine lv_iload_n hx_ hb_ dX5_miscounts_103 rfl (lv_at hl 1 rfl) ?_
                      refine lv_aload_n hx_ hb_ dX5_miscounts_104 rfl (lv_at hl 0 rfl) ?_
                      refine lv_iload_n hx_ hb_ dX5_miscounts_105 rfl (lv_at hl 2 rfl) ?_
                      refine lv_iload hx_ hb_ dX5_miscounts_106 (lv_at hl 3 rfl) ?_
                      refine sk_VP E hV (As := [.int (sI a), .int (sI b)]) (rest := [.int (sI w2)]) (kX5_countAhead l_ G b_ M N o L (f 568) Pa a b ho0 ho7 (by omega)) (cwV 2 S.2.2.2.2 gX5_miscounts_X5_countAhead rfl rfl rfl (by decide +kernel) ⟨Nat.le_of_ble_eq_true rfl, Nat.le_of_ble_eq_true rfl⟩) (ci := 3) ho0 rfl rfl rfl hl.1 (Nat.le_of_ble_eq_true rfl) dX5_miscounts_108 (c1 := 0) (s1 := 0) ⟨⟨rfl, rfl⟩, by decide, by decide⟩ (fun H locs hV => ?_)
                      rw [hP a b (by omega) (by omega) (by omega) (by omega) (by omega)]
                      refine lv_aload_n hx_ hb_ dX5_miscounts_111 rfl (lv_at hl 0 rfl) ?_
                      refine lv_iload hx_ hb_ dX5_miscounts_112 (lv_at hl 3 rfl) ?_
                      refine lv_iload_n hx_ hb_ dX5_miscounts_114 rfl (lv_at hl 2 rfl) ?_
                      refine sk_VP E hV (As := [.int (sI b), .int (sI a)]) (rest := [.int (sI (abI f a b)), .int (sI w2)]) (kX5_countAhead l_ G b_ M N o L (f 568) Pa b a ho0 ho7 (by omega)) (cwV 2 S.2.2.2.2 gX5_miscounts_X5_countAhead rfl rfl rfl (by decide +kernel) ⟨Nat.le_of_ble_eq_true rfl, Nat.le_of_ble_eq_true rfl⟩) (ci := 3) ho0 rfl rfl rfl hl.1 (Nat.le_of_ble_eq_true rfl) dX5_miscounts_115 (c1 := 0) (s1 := 0) ⟨⟨rfl, rfl⟩, by decide, by decide⟩ (fun H locs hV => ?_)
                      rw [hP b a (by omega) (by omega) (by omega) (by omega) (by omega)]
                      refine si_add S dX5_miscounts_118 ?_
                      refine lv_aload_n hx_ hb_ dX5_miscounts_119 rfl (lv_at hl 0 rfl) ?_
                      refine sk_VP E hV (As := []) (rest := [.int (sI ((abI f a b) + (abI f b a))), .int (sI w2)]) (kX5_total l_ G b_ M N o L Ah f ho0 ho4 (by omega) (hA)) (cwV 0 S.2.2.2.2 gX5_miscounts_X5_total rfl rfl rfl (by decide +kernel) ⟨Nat.le_of_ble_eq_true rfl, Nat.le_of_ble_eq_true rfl⟩) (ci := 3) ho0 rfl rfl rfl hl.1 (Nat.le_of_ble_eq_true rfl) dX5_miscounts_120 (c1 := 0) (s1 := 0) ⟨⟨rfl, rfl⟩, by decide, by decide⟩ (fun H locs hV => ?_)
                      have hps := ab_sum (f := f) (by omega) (a := a) (b := b) (by omega) (by omega) (by omega)
                      refine sb_ne (tgt := 130) S dX5_miscounts_123 (by decide) (by omega) (fun c8 => absurd c8 (by omega)) (fun _ => ?_)
                      refine si_const S dX5_miscounts_126 ?_
                      refine lv_goto (tgt := 131) hx_ hb_ dX5_miscounts_127 (by decide) ?_
                      refine si_add S dX5_miscounts_131 ?_
                      refine lv_istore_n (lv' := [(1, .int (sI (w2 + 0))), (0, .ref o), (2, .int (sI a)), (4, .int (sI b))]) hx_ hb_ dX5_miscounts_132 rfl hl (by decide) rfl (fun ls hl => ?_)
                      refine si_inc (lv' := [(4, .int (sI (b + 1))), (1, .int (sI (w2 + 0))), (0, .ref o), (2, .int (sI a))]) S dX5_miscounts_133 hl (k := 3) rfl (by decide) rfl (fun ls hl => ?_)
                      refine lv_goto (tgt := 94) hx_ hb_ dX5_miscounts_136 (by decide) ?_
                      exact ih94 (w2 + 0) (b + 1) _ _ _ (by omega) (by omega) hV (lv_sub hl [2, 1, 3, 0] rfl)
                exact L94 _ (w + 0) (a + 1) _ _ _ (Nat.lt_succ_self _) (by omega) hV (lv_sub hl [2, 1, 3, 0] rfl)
              · refine lv_iload_n hx_ hb_ dX5_miscounts_57 rfl (lv_at hl 3 rfl) ?_
                refine lv_aload_n hx_ hb_ dX5_miscounts_58 rfl (lv_at hl 0 rfl) ?_
                refine lv_iload_n hx_ hb_ dX5_miscounts_59 rfl (lv_at hl 2 rfl) ?_
                refine lv_iload hx_ hb_ dX5_miscounts_60 (lv_at hl 4 rfl) ?_
                refine sk_VP E hV (As := [.int (sI a), .int (sI r)]) (rest := [.int (sI sm)]) (kX5_countAt l_ G b_ M N o L (f 568) At a r ho0 ho6 (by omega)) (cwV 2 S.2.2.2.2 gX5_miscounts_X5_countAt rfl rfl rfl (by decide +kernel) ⟨Nat.le_of_ble_eq_true rfl, Nat.le_of_ble_eq_true rfl⟩) (ci := 3) ho0 rfl rfl rfl hl.1 (Nat.le_of_ble_eq_true rfl) dX5_miscounts_62 (c1 := 0) (s1 := 0) ⟨⟨rfl, rfl⟩, by decide, by decide⟩ (fun H locs hV => ?_)
                rw [hR a r (by omega) (by omega) (by omega) (by omega)]
                refine si_add S dX5_miscounts_65 ?_
                refine lv_istore_n (lv' := [(3, .int (sI (sm + (rkI f a r)))), (0, .ref o), (1, .int (sI w)), (2, .int (sI a)), (4, .int (sI r))]) hx_ hb_ dX5_miscounts_66 rfl hl (by decide) rfl (fun ls hl => ?_)
                refine si_inc (lv' := [(4, .int (sI (r + 1))), (3, .int (sI (sm + (rkI f a r)))), (0, .ref o), (1, .int (sI w)), (2, .int (sI a))]) S dX5_miscounts_67 hl (k := 4) rfl (by decide) rfl (fun ls hl => ?_)
                refine lv_goto (tgt := 48) hx_ hb_ dX5_miscounts_70 (by decide) ?_
                exact ih48 (sm + (rkI f a r)) (r + 1) _ _ _ (by omega) (by omega) (by rw [isum_s _ (by omega), ← hsm]) hV (lv_sub hl [2, 3, 4, 1, 0] rfl)
          exact L48 _ 0 0 _ _ _ (Nat.lt_succ_self _) (by omega) (rfl) hV (lv_sub hl [2, 3, 4, 1, 0] rfl)
    exact L35 _ 0 0 _ _ _ (Nat.lt_succ_self _) (by omega) hV (lv_sub hl [2, 1, 0] rfl)
  · refine si_const S dX5_miscounts_7 ?_
    refine lv_goto (tgt := 12) hx_ hb_ dX5_miscounts_8 (by decide) ?_
    refine lv_aload_n hx_ hb_ dX5_miscounts_12 rfl (lv_at hl 0 rfl) ?_
    refine sk_VP E hV (As := []) (rest := [.int (sI 1)]) (kX5_total l_ G b_ M N o L Ah f ho0 ho4 (by omega) (hA)) (cwV 0 S.2.2.2.2 gX5_miscounts_X5_total rfl rfl rfl (by decide +kernel) ⟨Nat.le_of_ble_eq_true rfl, Nat.le_of_ble_eq_true rfl⟩) (ci := 3) ho0 rfl rfl rfl hl.1 (Nat.le_of_ble_eq_true rfl) dX5_miscounts_13 (c1 := 0) (s1 := 0) ⟨⟨rfl, rfl⟩, by decide, by decide⟩ (fun H locs hV => ?_)
    refine sz_le (tgt := 23) S dX5_miscounts_16 (by decide) (by omega) (fun _ => ?_) (fun c9 => absurd c9 (by omega))
    refine si_const S dX5_miscounts_23 ?_
    refine sb_ne (tgt := 31) S dX5_miscounts_24 (by decide) (by omega) (fun _ => ?_) (fun c10 => absurd c10 (by omega))
    refine si_const S dX5_miscounts_31 ?_
    refine lv_istore_n (lv' := [(1, .int (sI 0)), (0, .ref o)]) hx_ hb_ dX5_miscounts_32 rfl hl (by decide) rfl (fun ls hl => ?_)
    refine si_const S dX5_miscounts_33 ?_
    refine lv_istore_n (lv' := [(2, .int (sI 0)), (1, .int (sI 0)), (0, .ref o)]) hx_ hb_ dX5_miscounts_34 rfl hl (by decide) rfl (fun ls hl => ?_)
    have L35 : ∀ (fuel : Nat) (w : Int) (a : Int)  (H : Heap) (locs : List Loc) (ls : Array Slot), ((f 568 - a).toNat) < fuel → (0 ≤ a ∧ a ≤ f 568 ∧ w = 0) → sV G b_ M N s_ H locs → lv_has ls 5 [(0, .ref o), (1, .int (sI w)), (2, .int (sI a))] → W p_ l_ e_ rmX5_miscounts s_ m_ args_ below_ meth_ c_ H locs 0 0 Q (F0 m_ 35 ls []) := by
      intro fuel
      induction fuel with
      | zero => intro w a H locs ls hmu; exact absurd hmu (Nat.not_lt_zero _)
      | succ fuel ih35 =>
        intro w a H locs ls hmu35 hv35_0  hV hl
        refine lv_iload_n hx_ hb_ dX5_miscounts_35 rfl (lv_at hl 2 rfl) ?_
        refine lv_aload_n hx_ hb_ dX5_miscounts_36 rfl (lv_at hl 0 rfl) ?_
        refine sc_get (ci := 3) (C := RX5) (T := TX5) (n := 11) S hK hV inX5_ ho0 rfl 10 (by decide) (S.2.2.2.2 _ (List.mem_of_getElem? (i := 2) rfl)) rfl rfl dX5_miscounts_37 ?_
        refine sb_ge (tgt := 145) S dX5_miscounts_40 (by decide) (by omega) (fun c11 => ?_) (fun c11 => ?_)
        · refine lv_iload_n hx_ hb_ dX5_miscounts_145 rfl (lv_at hl 1 rfl) ?_
          exact sr_i E hQ dX5_miscounts_146 ⟨Nat.le_of_ble_eq_true rfl, Nat.le_of_ble_eq_true rfl⟩ hV (⟨by omega, rfl, rfl⟩)
        · refine si_const S dX5_miscounts_43 ?_
          refine lv_istore_n (lv' := [(3, .int (sI 0)), (0, .ref o), (1, .int (sI w)), (2, .int (sI a))]) hx_ hb_ dX5_miscounts_44 rfl hl (by decide) rfl (fun ls hl => ?_)
          refine si_const S dX5_miscounts_45 ?_
          refine lv_istore (lv' := [(4, .int (sI 0)), (3, .int (sI 0)), (0, .ref o), (1, .int (sI w)), (2, .int (sI a))]) hx_ hb_ dX5_miscounts_46 hl (by decide) rfl (fun ls hl => ?_)
          have L48 : ∀ (fuel : Nat) (sm : Int) (r : Int)  (H : Heap) (locs : List Loc) (ls : Array Slot), ((f 568 - r).toNat) < fuel → (0 ≤ r ∧ r ≤ f 568) → (sm = isum r (rkI f a)) → sV G b_ M N s_ H locs → lv_has ls 5 [(0, .ref o), (1, .int (sI w)), (2, .int (sI a)), (3, .int (sI sm)), (4, .int (sI r))] → W p_ l_ e_ rmX5_miscounts s_ m_ args_ below_ meth_ c_ H locs 0 0 Q (F0 m_ 48 ls []) := by
            intro fuel
            induction fuel with
            | zero => intro sm r H locs ls hmu; exact absurd hmu (Nat.not_lt_zero _)
            | succ fuel ih48 =>
              intro sm r H locs ls hmu48 hv48_0 hsm  hV hl
              refine lv_iload hx_ hb_ dX5_miscounts_48 (lv_at hl 4 rfl) ?_
              refine lv_aload_n hx_ hb_ dX5_miscounts_50 rfl (lv_at hl 0 rfl) ?_
              refine sc_get (ci := 3) (C := RX5) (T := TX5) (n := 11) S hK hV inX5_ ho0 rfl 10 (by decide) (S.2.2.2.2 _ (List.mem_of_getElem? (i := 2) rfl)) rfl rfl dX5_miscounts_51 ?_
              refine sb_ge (tgt := 73) S dX5_miscounts_54 (by decide) (by omega) (fun c12 => ?_) (fun c12 => ?_)
              · refine lv_iload_n hx_ hb_ dX5_miscounts_73 rfl (lv_at hl 1 rfl) ?_
                refine lv_iload_n hx_ hb_ dX5_miscounts_74 rfl (lv_at hl 3 rfl) ?_
                refine lv_aload_n hx_ hb_ dX5_miscounts_75 rfl (lv_at hl 0 rfl) ?_
                refine sk_VP E hV (As := []) (rest := [.int (sI sm), .int (sI w)]) (kX5_total l_ G b_ M N o L Ah f ho0 ho4 (by omega) (hA)) (cwV 0 S.2.2.2.2 gX5_miscounts_X5_total rfl rfl rfl (by decide +kernel) ⟨Nat.le_of_ble_eq_true rfl, Nat.le_of_ble_eq_true rfl⟩) (ci := 3) ho0 rfl rfl rfl hl.1 (Nat.le_of_ble_eq_true rfl) dX5_miscounts_76 (c1 := 0) (s1 := 0) ⟨⟨rfl, rfl⟩, by decide, by decide⟩ (fun H locs hV => ?_)
                have hrs : sm = totI f := by rw [hsm, show r = f 568 by omega]; exact rk_sum (by omega) (by omega)
                refine sb_ne (tgt := 86) S dX5_miscounts_79 (by decide) (by omega) (fun c13 => absurd c13 (by omega)) (fun _ => ?_)
                refine si_const S dX5_miscounts_82 ?_
                refine lv_goto (tgt := 87) hx_ hb_ dX5_miscounts_83 (by decide) ?_
                refine si_add S dX5_miscounts_87 ?_
                refine lv_istore_n (lv' := [(1, .int (sI (w + 0))), (0, .ref o), (2, .int (sI a)), (3, .int (sI sm)), (4, .int (sI r))]) hx_ hb_ dX5_miscounts_88 rfl hl (by decide) rfl (fun ls hl => ?_)
                refine lv_iload_n hx_ hb_ dX5_miscounts_89 rfl (lv_at hl 2 rfl) ?_
                refine si_const S dX5_miscounts_90 ?_
                refine si_add S dX5_miscounts_91 ?_
                refine lv_istore (lv' := [(4, .int (sI (a + 1))), (1, .int (sI (w + 0))), (0, .ref o), (2, .int (sI a)), (3, .int (sI sm))]) hx_ hb_ dX5_miscounts_92 hl (by decide) rfl (fun ls hl => ?_)
                have L94 : ∀ (fuel : Nat) (w2 : Int) (b : Int)  (H : Heap) (locs : List Loc) (ls : Array Slot), ((f 568 - b).toNat) < fuel → (a + 1 ≤ b ∧ b ≤ f 568 ∧ w2 = 0) → sV G b_ M N s_ H locs → lv_has ls 5 [(0, .ref o), (1, .int (sI w2)), (2, .int (sI a)), (4, .int (sI b))] → W p_ l_ e_ rmX5_miscounts s_ m_ args_ below_ meth_ c_ H locs 0 0 Q (F0 m_ 94 ls []) := by
                  intro fuel
                  induction fuel with
                  | zero => intro w2 b H locs ls hmu; exact absurd hmu (Nat.not_lt_zero _)
                  | succ fuel ih94 =>
                    intro w2 b H locs ls hmu94 hv94_0  hV hl
                    refine lv_iload hx_ hb_ dX5_miscounts_94 (lv_at hl 3 rfl) ?_
                    refine lv_aload_n hx_ hb_ dX5_miscounts_96 rfl (lv_at hl 0 rfl) ?_
                    refine sc_get (ci := 3) (C := RX5) (T := TX5) (n := 11) S hK hV inX5_ ho0 rfl 10 (by decide) (S.2.2.2.2 _ (List.mem_of_getElem? (i := 2) rfl)) rfl rfl dX5_miscounts_97 ?_
                    refine sb_ge (tgt := 139) S dX5_miscounts_100 (by decide) (by omega) (fun c14 => ?_) (fun c14 => ?_)
                    · refine si_inc (lv' := [(2, .int (sI (a + 1))), (0, .ref o), (1, .int (sI w2)), (4, .int (sI b))]) S dX5_miscounts_139 hl (k := 2) rfl (by decide) rfl (fun ls hl => ?_)
                      refine lv_goto (tgt := 35) hx_ hb_ dX5_miscounts_142 (by decide) ?_
                      exact ih35 w2 (a + 1) _ _ _ (by omega) (by omega) hV (lv_sub hl [1, 2, 0] rfl)
                    · refine lv_iload_n hx_ hb_ dX5_miscounts_103 rfl (lv_at hl 1 rfl) ?_
                      refine lv_aload_n hx_ hb_ dX5_miscounts_104 rfl (lv_at hl 0 rfl) ?_
                      refine lv_iload_n hx_ hb_ dX5_miscounts_105 rfl (lv_at hl 2 rfl) ?_
                      refine lv_iload hx_ hb_ dX5_miscounts_106 (lv_at hl 3 rfl) ?_
                      refine sk_VP E hV (As := [.int (sI a), .int (sI b)]) (rest := [.int (sI w2)]) (kX5_countAhead l_ G b_ M N o L (f 568) Pa a b ho0 ho7 (by omega)) (cwV 2 S.2.2.2.2 gX5_miscounts_X5_countAhead rfl rfl rfl (by decide +kernel) ⟨Nat.le_of_ble_eq_true rfl, Nat.le_of_ble_eq_true rfl⟩) (ci := 3) ho0 rfl rfl rfl hl.1 (Nat.le_of_ble_eq_true rfl) dX5_miscounts_108 (c1 := 0) (s1 := 0) ⟨⟨rfl, rfl⟩, by decide, by decide⟩ (fun H locs hV => ?_)
                      rw [hP a b (by omega) (by omega) (by omega) (by omega) (by omega)]
                      refine lv_aload_n hx_ hb_ dX5_miscounts_111 rfl (lv_at hl 0 rfl) ?_
                      refine lv_iload hx_ hb_ dX5_miscounts_112 (lv_at hl 3 rfl) ?_
                      refine lv_iload_n hx_ hb_ dX5_miscounts_114 rfl (lv_at hl 2 rfl) ?_
                      refine sk_VP E hV (As := [.int (sI b), .int (sI a)]) (rest := [.int (sI (abI f a b)), .int (sI w2)]) (kX5_countAhead l_ G b_ M N o L (f 568) Pa b a ho0 ho7 (by omega)) (cwV 2 S.2.2.2.2 gX5_miscounts_X5_countAhead rfl rfl rfl (by decide +kernel) ⟨Nat.le_of_ble_eq_true rfl, Nat.le_of_ble_eq_true rfl⟩) (ci := 3) ho0 rfl rfl rfl hl.1 (Nat.le_of_ble_eq_true rfl) dX5_miscounts_115 (c1 := 0) (s1 := 0) ⟨⟨rfl, rfl⟩, by decide, by decide⟩ (fun H locs hV => ?_)
                      rw [hP b a (by omega) (by omega) (by omega) (by omega) (by omega)]
                      refine si_add S dX5_miscounts_118 ?_
                      refine lv_aload_n hx_ hb_ dX5_miscounts_119 rfl (lv_at hl 0 rfl) ?_
                      refine sk_VP E hV (As := []) (rest := [.int (sI ((abI f a b) + (abI f b a))), .int (sI w2)]) (kX5_total l_ G b_ M N o L Ah f ho0 ho4 (by omega) (hA)) (cwV 0 S.2.2.2.2 gX5_miscounts_X5_total rfl rfl rfl (by decide +kernel) ⟨Nat.le_of_ble_eq_true rfl, Nat.le_of_ble_eq_true rfl⟩) (ci := 3) ho0 rfl rfl rfl hl.1 (Nat.le_of_ble_eq_true rfl) dX5_miscounts_120 (c1 := 0) (s1 := 0) ⟨⟨rfl, rfl⟩, by decide, by decide⟩ (fun H locs hV => ?_)
                      have hps := ab_sum (f := f) (by omega) (a := a) (b := b) (by omega) (by omega) (by omega)
                      refine sb_ne (tgt := 130) S dX5_miscounts_123 (by decide) (by omega) (fun c15 => absurd c15 (by omega)) (fun _ => ?_)
                      refine si_const S dX5_miscounts_126 ?_
                      refine lv_goto (tgt := 131) hx_ hb_ dX5_miscounts_127 (by decide) ?_
                      refine si_add S dX5_miscounts_131 ?_
                      refine lv_istore_n (lv' := [(1, .int (sI (w2 + 0))), (0, .ref o), (2, .int (sI a)), (4, .int (sI b))]) hx_ hb_ dX5_miscounts_132 rfl hl (by decide) rfl (fun ls hl => ?_)
                      refine si_inc (lv' := [(4, .int (sI (b + 1))), (1, .int (sI (w2 + 0))), (0, .ref o), (2, .int (sI a))]) S dX5_miscounts_133 hl (k := 3) rfl (by decide) rfl (fun ls hl => ?_)
                      refine lv_goto (tgt := 94) hx_ hb_ dX5_miscounts_136 (by decide) ?_
                      exact ih94 (w2 + 0) (b + 1) _ _ _ (by omega) (by omega) hV (lv_sub hl [2, 1, 3, 0] rfl)
                exact L94 _ (w + 0) (a + 1) _ _ _ (Nat.lt_succ_self _) (by omega) hV (lv_sub hl [2, 1, 3, 0] rfl)
              · refine lv_iload_n hx_ hb_ dX5_miscounts_57 rfl (lv_at hl 3 rfl) ?_
                refine lv_aload_n hx_ hb_ dX5_miscounts_58 rfl (lv_at hl 0 rfl) ?_
                refine lv_iload_n hx_ hb_ dX5_miscounts_59 rfl (lv_at hl 2 rfl) ?_
                refine lv_iload hx_ hb_ dX5_miscounts_60 (lv_at hl 4 rfl) ?_
                refine sk_VP E hV (As := [.int (sI a), .int (sI r)]) (rest := [.int (sI sm)]) (kX5_countAt l_ G b_ M N o L (f 568) At a r ho0 ho6 (by omega)) (cwV 2 S.2.2.2.2 gX5_miscounts_X5_countAt rfl rfl rfl (by decide +kernel) ⟨Nat.le_of_ble_eq_true rfl, Nat.le_of_ble_eq_true rfl⟩) (ci := 3) ho0 rfl rfl rfl hl.1 (Nat.le_of_ble_eq_true rfl) dX5_miscounts_62 (c1 := 0) (s1 := 0) ⟨⟨rfl, rfl⟩, by decide, by decide⟩ (fun H locs hV => ?_)
                rw [hR a r (by omega) (by omega) (by omega) (by omega)]
                refine si_add S dX5_miscounts_65 ?_
                refine lv_istore_n (lv' := [(3, .int (sI (sm + (rkI f a r)))), (0, .ref o), (1, .int (sI w)), (2, .int (sI a)), (4, .int (sI r))]) hx_ hb_ dX5_miscounts_66 rfl hl (by decide) rfl (fun ls hl => ?_)
                refine si_inc (lv' := [(4, .int (sI (r + 1))), (3, .int (sI (sm + (rkI f a r)))), (0, .ref o), (1, .int (sI w)), (2, .int (sI a))]) S dX5_miscounts_67 hl (k := 4) rfl (by decide) rfl (fun ls hl => ?_)
                refine lv_goto (tgt := 48) hx_ hb_ dX5_miscounts_70 (by decide) ?_
                exact ih48 (sm + (rkI f a r)) (r + 1) _ _ _ (by omega) (by omega) (by rw [isum_s _ (by omega), ← hsm]) hV (lv_sub hl [2, 3, 4, 1, 0] rfl)
          exact L48 _ 0 0 _ _ _ (Nat.lt_succ_self _) (by omega) (rfl) hV (lv_sub hl [2, 3, 4, 1, 0] rfl)
    exact L35 _ 0 0 _ _ _ (Nat.lt_succ_self _) (by omega) hV (lv_sub hl [2, 1, 0] rfl)

abbrev rmX5_lookAt : Room := { frames := 4, cells := 0, slots := 0, locals := 111 }
set_option maxHeartbeats 4000000 in
set_option maxRecDepth 100000 in
theorem kX5_lookAt (l_ : Launch) (G : sG) (b_ : Nat) (M : sM) (N : Nat) (o a : Nat) (L c : Int) (Fr So Ha Ah Be At Pa Rc Rs f : sF) (ho0 : M o = some (sObj 3 [.ref (o + 1), .ref (o + 2), .ref (o + 3), .ref (o + 4), .ref (o + 5), .ref (o + 6), .ref (o + 7), .ref (o + 8), .ref (o + 9), .int (sI L), .int (sI c)])) (ho1 : M (o + 1) = some (sArr G 10 Fr)) (ho2 : M (o + 2) = some (sArr G 10 So)) (ho3 : M (o + 3) = some (sArr G 10 Ha)) (ho4 : M (o + 4) = some (sArr G 1024 Ah)) (ho5 : M (o + 5) = some (sArr G 1024 Be)) (ho6 : M (o + 6) = some (sArr G 100 At)) (ho7 : M (o + 7) = some (sArr G 100 Pa)) (ho8 : M (o + 8) = some (sArr G 11 Rc)) (ho9 : M (o + 9) = some (sArr G 10 Rs)) (hst : stC G M a f) (hok : sOk f) (hne : o + 10 ≤ a ∨ a + 15 ≤ o) (hq0 : odQ c L So Ha Ah At Pa Rs) (hcr : -1 ≤ c ∧ c ≤ 10) : cV l_ yX5_lookAt wsX5_lookAt rmX5_lookAt G b_ M N [.ref o, .ref a] (fun M1 N1 => ∃ L9 : Int, ∃ F9 : Int → Int, ∃ S9 : Int → Int, ∃ H9 : Int → Int, ∃ W9 : Int → Int, ∃ B9 : Int → Int, ∃ A9 : Int → Int, ∃ P9 : Int → Int, ∃ R9 : Int → Int, ∃ G9 : Int → Int, N1 = N ∧ M1 o = some (sObj 3 [.ref (o + 1), .ref (o + 2), .ref (o + 3), .ref (o + 4), .ref (o + 5), .ref (o + 6), .ref (o + 7), .ref (o + 8), .ref (o + 9), .int (sI L9), .int (sI (f 568))]) ∧ M1 (o + 1) = some (sArr G 10 F9) ∧ M1 (o + 2) = some (sArr G 10 S9) ∧ M1 (o + 3) = some (sArr G 10 H9) ∧ M1 (o + 4) = some (sArr G 1024 W9) ∧ M1 (o + 5) = some (sArr G 1024 B9) ∧ M1 (o + 6) = some (sArr G 100 A9) ∧ M1 (o + 7) = some (sArr G 100 P9) ∧ M1 (o + 8) = some (sArr G 11 R9) ∧ M1 (o + 9) = some (sArr G 10 G9) ∧ (∀ x : Nat, ¬ (x = o) → ¬ (x = o + 1) → ¬ (x = o + 2) → ¬ (x = o + 3) → ¬ (x = o + 4) → ¬ (x = o + 5) → ¬ (x = o + 6) → ¬ (x = o + 7) → ¬ (x = o + 8) → ¬ (x = o + 9) → M1 x = M x) ∧ (odD f L9 S9 H9 W9 A9 P9 G9)) := by
  refine sE.ofV (cc := cX5_lookAt) (nL := 5) (ret := none) (by decide) rfl (Nat.le_of_ble_eq_true rfl) ?_
  intro p_ e_ s_ m_ args_ below_ meth_ c_ ls Q hQ E hl
  have E : sE p_ l_ e_ rmX5_lookAt s_ m_ args_ below_ meth_ c_ cX5_lookAt 5 wsX5_lookAt RX5 "lookAt" none G b_ M N := E
  have S := E.1
  have hx_ := S.1
  have hb_ := S.2.1
  have hK := E.2.2.2.2.1
  have hV := E.2.2.2.2.2.2
  have hl : lv_has ls 5 [(0, .ref o), (1, .ref a)] := hl
  have inX6_ : ∀ w ∈ wsX60, w ∈ wsX5_lookAt := fun _ h => List.mem_cons_of_mem _ (List.mem_append_left _ (List.mem_append_left _ (List.mem_append_right _ h)))
  have inX5_ : ∀ w ∈ wsX50, w ∈ wsX5_lookAt := fun _ h => List.mem_cons_of_mem _ (List.mem_append_left _ (List.mem_append_right _ h))
  have inX8_ : ∀ w ∈ wsX80, w ∈ wsX5_lookAt := fun _ h => List.mem_cons_of_mem _ (List.mem_append_right _ h)
  have kn0 := sOk_N hok
  refine lv_aload_n hx_ hb_ dX5_lookAt_0 rfl (lv_at hl 1 rfl) ?_
  refine sc_getN (ci := 4) (C := RX6) (T := TX6) (n := 8) S hK hV inX6_ (hst).1 rfl 0 (by decide) (E.2.2.2.2.2.1.1.2.1 _ (List.mem_of_getElem? (i := 0) rfl)) rfl rfl dX5_lookAt_1 ?_
  refine sk_VP E hV (As := []) (rest := []) (kTs l_ G b_ M N (a + 1) 7 (f 568) 70 (tvS f) ((hst).2.1)) (cwV 0 S.2.2.2.2 gX5_lookAt_X8_size rfl rfl rfl (by decide +kernel) ⟨Nat.le_of_ble_eq_true rfl, Nat.le_of_ble_eq_true rfl⟩) (ci := 6) ((hst).2.1).1 rfl rfl rfl hl.1 (Nat.le_of_ble_eq_true rfl) dX5_lookAt_4 (c1 := 0) (s1 := 0) ⟨⟨rfl, rfl⟩, by decide, by decide⟩ (fun H locs hV => ?_)
  refine si_bipush S dX5_lookAt_7 (by decide) ?_
  refine si_min S hl.1 (S.2.2.2.2 _ (List.mem_of_getElem? (i := 1) rfl)) (S.2.2.2.2 _ (List.mem_of_getElem? (i := 2) rfl)) (S.2.2.2.2 _ (List.mem_of_getElem? (i := 3) rfl)) (S.2.2.2.2 _ (List.mem_of_getElem? (i := 4) rfl)) ⟨by decide, Nat.le_of_ble_eq_true rfl, by decide, by decide⟩ (by omega) dX5_lookAt_9 ?_
  rw [show min (f 568) 10 = f 568 by omega]
  refine lv_istore_n (lv' := [(2, .int (sI (f 568))), (0, .ref o), (1, .ref a)]) hx_ hb_ dX5_lookAt_12 rfl hl (by decide) rfl (fun ls hl => ?_)
  refine lv_iload_n hx_ hb_ dX5_lookAt_13 rfl (lv_at hl 0 rfl) ?_
  refine lv_aload_n hx_ hb_ dX5_lookAt_14 rfl (lv_at hl 1 rfl) ?_
  refine sc_get (ci := 3) (C := RX5) (T := TX5) (n := 11) S hK hV inX5_ ho0 rfl 10 (by decide) (S.2.2.2.2 _ (List.mem_of_getElem? (i := 5) rfl)) rfl rfl dX5_lookAt_15 ?_
  refine sb_ne (tgt := 25) S dX5_lookAt_18 (by decide) (by omega) (fun c1 => ?_) (fun c1 => ?_)
  · refine si_const S dX5_lookAt_25 ?_
    refine lv_istore_n (lv' := [(3, .int (sI 0)), (2, .int (sI (f 568))), (0, .ref o), (1, .ref a)]) hx_ hb_ dX5_lookAt_26 rfl hl (by decide) rfl (fun ls hl => ?_)
    refine lv_aload_n hx_ hb_ dX5_lookAt_27 rfl (lv_at hl 2 rfl) ?_
    refine lv_aload_n hx_ hb_ dX5_lookAt_28 rfl (lv_at hl 3 rfl) ?_
    refine sc_getN (ci := 4) (C := RX6) (T := TX6) (n := 8) S hK hV inX6_ (hst).1 rfl 1 (by decide) (E.2.2.2.2.2.1.1.2.1 _ (List.mem_of_getElem? (i := 5) rfl)) rfl rfl dX5_lookAt_29 ?_
    refine sk_Vv E hV (As := [.ref (a + 3)]) (rest := []) (kX5_readScratches l_ G b_ M N o (a + 3) L c Fr f ho0 ho1 ((hst).2.2.1) (by omega) (by omega)) (cwV 1 S.2.2.2.2 gX5_lookAt_X5_readScratches rfl rfl rfl (by decide +kernel) ⟨Nat.le_of_ble_eq_true rfl, Nat.le_of_ble_eq_true rfl⟩) (ci := 3) ho0 rfl rfl rfl hl.1 (Nat.le_of_ble_eq_true rfl) dX5_lookAt_32 (c1 := 0) (s1 := 0) ⟨⟨rfl, rfl⟩, by decide, by decide⟩ (fun M2 N3 H locs hp4 hV => ?_)
    obtain ⟨F96, hN7, hc8, hf9, hF910⟩ := hp4
    rw [hN7] at hV
    refine si_const S dX5_lookAt_35 ?_
    refine lv_istore (lv' := [(4, .int (sI 0)), (3, .int (sI 0)), (2, .int (sI (f 568))), (0, .ref o), (1, .ref a)]) hx_ hb_ dX5_lookAt_36 hl (by decide) rfl (fun ls hl => ?_)
    have L38 : ∀ (fuel : Nat) (x : Int) (k : Int)  (H : Heap) (locs : List Loc) (ls : Array Slot), ((10 - k).toNat) < fuel → (0 ≤ k ∧ k ≤ 10 ∧ (x = 0 ∨ x = 1)) → (x = 1 → c = f 568 ∧ ∀ j, 0 ≤ j → j < k → F96 j = So j) → sV G b_ M2 N s_ H locs → lv_has ls 5 [(0, .ref o), (2, .int (sI (f 568))), (3, .int (sI x)), (4, .int (sI k))] → W p_ l_ e_ rmX5_lookAt s_ m_ args_ below_ meth_ c_ H locs 0 0 Q (F0 m_ 38 ls []) := by
      intro fuel
      induction fuel with
      | zero => intro x k H locs ls hmu; exact absurd hmu (Nat.not_lt_zero _)
      | succ fuel ih38 =>
        intro x k H locs ls hmu38 hv38_0 hxs  hV hl
        refine lv_iload hx_ hb_ dX5_lookAt_38 (lv_at hl 3 rfl) ?_
        refine si_bipush S dX5_lookAt_40 (by decide) ?_
        refine sb_ge (tgt := 78) S dX5_lookAt_42 (by decide) (by omega) (fun c11 => ?_) (fun c11 => ?_)
        · refine lv_iload_n hx_ hb_ dX5_lookAt_78 rfl (lv_at hl 2 rfl) ?_
          refine sz_ne (tgt := 103) S dX5_lookAt_79 (by decide) (by omega) (fun c12 => ?_) (fun c12 => ?_)
          · have hc13 : M2 o = some (sObj 3 [.ref (o + 1), .ref (o + 2), .ref (o + 3), .ref (o + 4), .ref (o + 5), .ref (o + 6), .ref (o + 7), .ref (o + 8), .ref (o + 9), .int (sI L), .int (sI c)]) := (hf9 o (by omega)).trans ho0
            have hc14 : M2 (o + 2) = some (sArr G 10 So) := (hf9 (o + 2) (by omega)).trans ho2
            have hc15 : M2 (o + 3) = some (sArr G 10 Ha) := (hf9 (o + 3) (by omega)).trans ho3
            have hc16 : M2 (o + 4) = some (sArr G 1024 Ah) := (hf9 (o + 4) (by omega)).trans ho4
            have hc17 : M2 (o + 5) = some (sArr G 1024 Be) := (hf9 (o + 5) (by omega)).trans ho5
            have hc18 : M2 (o + 6) = some (sArr G 100 At) := (hf9 (o + 6) (by omega)).trans ho6
            have hc19 : M2 (o + 7) = some (sArr G 100 Pa) := (hf9 (o + 7) (by omega)).trans ho7
            have hc20 : M2 (o + 8) = some (sArr G 11 Rc) := (hf9 (o + 8) (by omega)).trans ho8
            have hc21 : M2 (o + 9) = some (sArr G 10 Rs) := (hf9 (o + 9) (by omega)).trans ho9
            exact sr_v E hQ dX5_lookAt_103 ⟨Nat.le_of_ble_eq_true rfl, Nat.le_of_ble_eq_true rfl⟩ hV (⟨L, F96, So, Ha, Ah, Be, At, Pa, Rc, Rs, rfl, by rw [← (hxs (by omega)).1]; exact hc13, hc8, hc14, hc15, hc16, hc17, hc18, hc19, hc20, hc21, fun x q0 q1 q2 q3 q4 q5 q6 q7 q8 q9 => hf9 x (by omega), od_s hok (hxs (by omega)).1 hF910 (fun j b c => (hxs (by omega)).2 j b (by omega)) hq0⟩)
          · refine lv_aload_n hx_ hb_ dX5_lookAt_82 rfl (lv_at hl 0 rfl) ?_
            refine lv_iload_n hx_ hb_ dX5_lookAt_83 rfl (lv_at hl 1 rfl) ?_
            have hc22 : M2 o = some (sObj 3 [.ref (o + 1), .ref (o + 2), .ref (o + 3), .ref (o + 4), .ref (o + 5), .ref (o + 6), .ref (o + 7), .ref (o + 8), .ref (o + 9), .int (sI L), .int (sI c)]) := (hf9 o (by omega)).trans ho0
            refine sc_put (ci := 3) (C := RX5) (T := TX5) (n := 11) S hK hV inX5_ tyX5_ok nmX5 hc22 rfl 10 (by decide) (S.2.2.2.2 _ (List.mem_of_getElem? (i := 5) rfl)) rfl rfl rfl rfl (Nat.le_of_ble_eq_true rfl) dX5_lookAt_84 (fs1 := [.ref (o + 1), .ref (o + 2), .ref (o + 3), .ref (o + 4), .ref (o + 5), .ref (o + 6), .ref (o + 7), .ref (o + 8), .ref (o + 9), .int (sI L), .int (sI (f 568))]) rfl (fun M23 H locs hM23 hV => ?_)
            have hc24 : M23 o = some (sObj 3 [.ref (o + 1), .ref (o + 2), .ref (o + 3), .ref (o + 4), .ref (o + 5), .ref (o + 6), .ref (o + 7), .ref (o + 8), .ref (o + 9), .int (sI L), .int (sI (f 568))]) := (congrFun hM23 o).trans (va_up_self M2 o _)
            refine lv_aload_n hx_ hb_ dX5_lookAt_87 rfl (lv_at hl 0 rfl) ?_
            have hc25 : M23 (o + 1) = some (sArr G 10 F96) := ((congrFun hM23 (o + 1)).trans (va_up_ne M2 _ (by omega))).trans hc8
            have hc26 : M23 (o + 2) = some (sArr G 10 So) := (((congrFun hM23 (o + 2)).trans (va_up_ne M2 _ (by omega))).trans (hf9 (o + 2) (by omega))).trans ho2
            have hc27 : M23 (o + 3) = some (sArr G 10 Ha) := (((congrFun hM23 (o + 3)).trans (va_up_ne M2 _ (by omega))).trans (hf9 (o + 3) (by omega))).trans ho3
            refine sk_Vv E hV (As := []) (rest := []) (kX5_takeScratches l_ G b_ M23 N o L (f 568) F96 So Ha f hc24 hc25 hc26 hc27 (by omega) (by omega)) (cwV 0 S.2.2.2.2 gX5_lookAt_X5_takeScratches rfl rfl rfl (by decide +kernel) ⟨Nat.le_of_ble_eq_true rfl, Nat.le_of_ble_eq_true rfl⟩) (ci := 3) hc24 rfl rfl rfl hl.1 (Nat.le_of_ble_eq_true rfl) dX5_lookAt_88 (c1 := 0) (s1 := 0) ⟨⟨rfl, rfl⟩, by decide, by decide⟩ (fun M28 N29 H locs hp30 hV => ?_)
            obtain ⟨S932, H933, hN34, hc35, hc36, hf37, hS938, hH939⟩ := hp30
            rw [hN34] at hV
            refine lv_aload_n hx_ hb_ dX5_lookAt_91 rfl (lv_at hl 0 rfl) ?_
            have hc40 : M28 o = some (sObj 3 [.ref (o + 1), .ref (o + 2), .ref (o + 3), .ref (o + 4), .ref (o + 5), .ref (o + 6), .ref (o + 7), .ref (o + 8), .ref (o + 9), .int (sI L), .int (sI (f 568))]) := (hf37 o (by omega) (by omega)).trans hc24
            have hc41 : M28 (o + 4) = some (sArr G 1024 Ah) := (((hf37 (o + 4) (by omega) (by omega)).trans ((congrFun hM23 (o + 4)).trans (va_up_ne M2 _ (by omega)))).trans (hf9 (o + 4) (by omega))).trans ho4
            refine sk_Vv E hV (As := []) (rest := []) (kX5_countWaysAhead l_ G b_ M28 N o L H933 Ah f hc40 hc36 hc41 (by omega) (by omega)) (cwV 0 S.2.2.2.2 gX5_lookAt_X5_countWaysAhead rfl rfl rfl (by decide +kernel) ⟨Nat.le_of_ble_eq_true rfl, Nat.le_of_ble_eq_true rfl⟩) (ci := 3) hc40 rfl rfl rfl hl.1 (Nat.le_of_ble_eq_true rfl) dX5_lookAt_92 (c1 := 0) (s1 := 0) ⟨⟨rfl, rfl⟩, by decide, by decide⟩ (fun M42 N43 H locs hp44 hV => ?_)
            obtain ⟨W946, hN47, hc48, hf49, hW950⟩ := hp44
            rw [hN47] at hV
            refine lv_aload_n hx_ hb_ dX5_lookAt_95 rfl (lv_at hl 0 rfl) ?_
            have hc51 : M42 o = some (sObj 3 [.ref (o + 1), .ref (o + 2), .ref (o + 3), .ref (o + 4), .ref (o + 5), .ref (o + 6), .ref (o + 7), .ref (o + 8), .ref (o + 9), .int (sI L), .int (sI (f 568))]) := (hf49 o (by omega)).trans hc40
            have hc52 : M42 (o + 3) = some (sArr G 10 H933) := (hf49 (o + 3) (by omega)).trans hc36
            have hc53 : M42 (o + 5) = some (sArr G 1024 Be) := ((((hf49 (o + 5) (by omega)).trans (hf37 (o + 5) (by omega) (by omega))).trans ((congrFun hM23 (o + 5)).trans (va_up_ne M2 _ (by omega)))).trans (hf9 (o + 5) (by omega))).trans ho5
            have hc54 : M42 (o + 6) = some (sArr G 100 At) := ((((hf49 (o + 6) (by omega)).trans (hf37 (o + 6) (by omega) (by omega))).trans ((congrFun hM23 (o + 6)).trans (va_up_ne M2 _ (by omega)))).trans (hf9 (o + 6) (by omega))).trans ho6
            have hc55 : M42 (o + 7) = some (sArr G 100 Pa) := ((((hf49 (o + 7) (by omega)).trans (hf37 (o + 7) (by omega) (by omega))).trans ((congrFun hM23 (o + 7)).trans (va_up_ne M2 _ (by omega)))).trans (hf9 (o + 7) (by omega))).trans ho7
            refine sk_Vv E hV (As := []) (rest := []) (kX5_countWaysBehind l_ G b_ M42 N o L H933 W946 Be At Pa f hc51 hc52 hc48 hc53 hc54 hc55 (by omega) (by omega) (by omega)) (cwV 0 S.2.2.2.2 gX5_lookAt_X5_countWaysBehind rfl rfl rfl (by decide +kernel) ⟨Nat.le_of_ble_eq_true rfl, Nat.le_of_ble_eq_true rfl⟩) (ci := 3) hc51 rfl rfl rfl hl.1 (Nat.le_of_ble_eq_true rfl) dX5_lookAt_96 (c1 := 0) (s1 := 0) ⟨⟨rfl, rfl⟩, by decide, by decide⟩ (fun M56 N57 H locs hp58 hV => ?_)
            obtain ⟨B960, A961, P962, hN63, hc64, hc65, hc66, hf67, hA968, hP969⟩ := hp58
            rw [hN63] at hV
            refine lv_aload_n hx_ hb_ dX5_lookAt_99 rfl (lv_at hl 0 rfl) ?_
            have hc70 : M56 o = some (sObj 3 [.ref (o + 1), .ref (o + 2), .ref (o + 3), .ref (o + 4), .ref (o + 5), .ref (o + 6), .ref (o + 7), .ref (o + 8), .ref (o + 9), .int (sI L), .int (sI (f 568))]) := (hf67 o (by omega) (by omega) (by omega)).trans hc51
            have hc71 : M56 (o + 2) = some (sArr G 10 S932) := ((hf67 (o + 2) (by omega) (by omega) (by omega)).trans (hf49 (o + 2) (by omega))).trans hc35
            have hc72 : M56 (o + 8) = some (sArr G 11 Rc) := (((((hf67 (o + 8) (by omega) (by omega) (by omega)).trans (hf49 (o + 8) (by omega))).trans (hf37 (o + 8) (by omega) (by omega))).trans ((congrFun hM23 (o + 8)).trans (va_up_ne M2 _ (by omega)))).trans (hf9 (o + 8) (by omega))).trans ho8
            have hc73 : M56 (o + 9) = some (sArr G 10 Rs) := (((((hf67 (o + 9) (by omega) (by omega) (by omega)).trans (hf49 (o + 9) (by omega))).trans (hf37 (o + 9) (by omega) (by omega))).trans ((congrFun hM23 (o + 9)).trans (va_up_ne M2 _ (by omega)))).trans (hf9 (o + 9) (by omega))).trans ho9
            refine sk_Vv E hV (As := []) (rest := []) (kX5_findRing l_ G b_ M56 N o L S932 Rc Rs f hc70 hc71 hc72 hc73 (by omega) (by omega)) (cwV 0 S.2.2.2.2 gX5_lookAt_X5_findRing rfl rfl rfl (by decide +kernel) ⟨Nat.le_of_ble_eq_true rfl, Nat.le_of_ble_eq_true rfl⟩) (ci := 3) hc70 rfl rfl rfl hl.1 (Nat.le_of_ble_eq_true rfl) dX5_lookAt_100 (c1 := 0) (s1 := 0) ⟨⟨rfl, rfl⟩, by decide, by decide⟩ (fun M74 N75 H locs hp76 hV => ?_)
            obtain ⟨L978, R979, G980, hN81, hc82, hc83, hc84, hf85, hL986⟩ := hp76
            rw [hN81] at hV
            have hc87 : M74 (o + 1) = some (sArr G 10 F96) := ((((hf85 (o + 1) (by omega) (by omega) (by omega)).trans (hf67 (o + 1) (by omega) (by omega) (by omega))).trans (hf49 (o + 1) (by omega))).trans (hf37 (o + 1) (by omega) (by omega))).trans hc25
            have hc88 : M74 (o + 2) = some (sArr G 10 S932) := (hf85 (o + 2) (by omega) (by omega) (by omega)).trans hc71
            have hc89 : M74 (o + 3) = some (sArr G 10 H933) := ((hf85 (o + 3) (by omega) (by omega) (by omega)).trans (hf67 (o + 3) (by omega) (by omega) (by omega))).trans hc52
            have hc90 : M74 (o + 4) = some (sArr G 1024 W946) := ((hf85 (o + 4) (by omega) (by omega) (by omega)).trans (hf67 (o + 4) (by omega) (by omega) (by omega))).trans hc48
            have hc91 : M74 (o + 5) = some (sArr G 1024 B960) := (hf85 (o + 5) (by omega) (by omega) (by omega)).trans hc64
            have hc92 : M74 (o + 6) = some (sArr G 100 A961) := (hf85 (o + 6) (by omega) (by omega) (by omega)).trans hc65
            have hc93 : M74 (o + 7) = some (sArr G 100 P962) := (hf85 (o + 7) (by omega) (by omega) (by omega)).trans hc66
            exact sr_v E hQ dX5_lookAt_103 ⟨Nat.le_of_ble_eq_true rfl, Nat.le_of_ble_eq_true rfl⟩ hV (⟨L978, F96, S932, H933, W946, B960, A961, P962, R979, G980, rfl, hc82, hc87, hc88, hc89, hc90, hc91, hc92, hc93, hc83, hc84, fun x q0 q1 q2 q3 q4 q5 q6 q7 q8 q9 => (((((hf85 x (by omega) (by omega) (by omega)).trans (hf67 x (by omega) (by omega) (by omega))).trans (hf49 x (by omega))).trans (hf37 x (by omega) (by omega))).trans ((congrFun hM23 x).trans (va_up_ne M2 _ (by omega)))).trans (hf9 x (by omega)), ⟨do_R hok, hS938, hH939, hW950, hA968, hP969, hL986⟩⟩)
        · refine lv_iload_n hx_ hb_ dX5_lookAt_45 rfl (lv_at hl 2 rfl) ?_
          refine sz_eq (tgt := 70) S dX5_lookAt_46 (by decide) (by omega) (fun c94 => ?_) (fun c94 => ?_)
          · refine si_const S dX5_lookAt_70 ?_
            refine lv_istore_n (lv' := [(3, .int (sI 0)), (0, .ref o), (2, .int (sI (f 568))), (4, .int (sI k))]) hx_ hb_ dX5_lookAt_71 rfl hl (by decide) rfl (fun ls hl => ?_)
            refine si_inc (lv' := [(4, .int (sI (k + 1))), (3, .int (sI 0)), (0, .ref o), (2, .int (sI (f 568)))]) S dX5_lookAt_72 hl (k := 3) rfl (by decide) rfl (fun ls hl => ?_)
            refine lv_goto (tgt := 38) hx_ hb_ dX5_lookAt_75 (by decide) ?_
            exact ih38 0 (k + 1) _ _ _ (by omega) (by omega) (fun q9 => by first | omega | exact ⟨by omega, fun j b c => by by_cases e : j = k; (rw [e]; assumption); exact (hxs (by omega)).2 j b (by omega)⟩) hV (lv_sub hl [2, 3, 1, 0] rfl)
          · refine lv_aload_n hx_ hb_ dX5_lookAt_49 rfl (lv_at hl 0 rfl) ?_
            have hc95 : M2 o = some (sObj 3 [.ref (o + 1), .ref (o + 2), .ref (o + 3), .ref (o + 4), .ref (o + 5), .ref (o + 6), .ref (o + 7), .ref (o + 8), .ref (o + 9), .int (sI L), .int (sI c)]) := (hf9 o (by omega)).trans ho0
            refine sc_get (ci := 3) (C := RX5) (T := TX5) (n := 11) S hK hV inX5_ hc95 rfl 0 (by decide) (S.2.2.2.2 _ (List.mem_of_getElem? (i := 6) rfl)) rfl rfl dX5_lookAt_50 ?_
            refine lv_iload hx_ hb_ dX5_lookAt_53 (lv_at hl 3 rfl) ?_
            refine sc_iald S hK hV hc8 (by omega) dX5_lookAt_55 ?_
            refine lv_aload_n hx_ hb_ dX5_lookAt_56 rfl (lv_at hl 0 rfl) ?_
            refine sc_get (ci := 3) (C := RX5) (T := TX5) (n := 11) S hK hV inX5_ hc95 rfl 1 (by decide) (S.2.2.2.2 _ (List.mem_of_getElem? (i := 7) rfl)) rfl rfl dX5_lookAt_57 ?_
            refine lv_iload hx_ hb_ dX5_lookAt_60 (lv_at hl 3 rfl) ?_
            have hc96 : M2 (o + 2) = some (sArr G 10 So) := (hf9 (o + 2) (by omega)).trans ho2
            refine sc_iald S hK hV hc96 (by omega) dX5_lookAt_62 ?_
            have h63a := (hF910 k (by omega) (by omega)).1
            have h63b := hq0.1 k (by omega) (by omega)
            refine sb_ne (tgt := 70) S dX5_lookAt_63 (by decide) (by omega) (fun h63 => ?_) (fun h63 => ?_)
            · refine si_const S dX5_lookAt_70 ?_
              refine lv_istore_n (lv' := [(3, .int (sI 0)), (0, .ref o), (2, .int (sI (f 568))), (4, .int (sI k))]) hx_ hb_ dX5_lookAt_71 rfl hl (by decide) rfl (fun ls hl => ?_)
              refine si_inc (lv' := [(4, .int (sI (k + 1))), (3, .int (sI 0)), (0, .ref o), (2, .int (sI (f 568)))]) S dX5_lookAt_72 hl (k := 3) rfl (by decide) rfl (fun ls hl => ?_)
              refine lv_goto (tgt := 38) hx_ hb_ dX5_lookAt_75 (by decide) ?_
              exact ih38 0 (k + 1) _ _ _ (by omega) (by omega) (fun q9 => by first | omega | exact ⟨by omega, fun j b c => by by_cases e : j = k; (rw [e]; assumption); exact (hxs (by omega)).2 j b (by omega)⟩) hV (lv_sub hl [2, 3, 1, 0] rfl)
            · refine si_const S dX5_lookAt_66 ?_
              refine lv_goto (tgt := 71) hx_ hb_ dX5_lookAt_67 (by decide) ?_
              refine lv_istore_n (lv' := [(3, .int (sI 1)), (0, .ref o), (2, .int (sI (f 568))), (4, .int (sI k))]) hx_ hb_ dX5_lookAt_71 rfl hl (by decide) rfl (fun ls hl => ?_)
              refine si_inc (lv' := [(4, .int (sI (k + 1))), (3, .int (sI 1)), (0, .ref o), (2, .int (sI (f 568)))]) S dX5_lookAt_72 hl (k := 3) rfl (by decide) rfl (fun ls hl => ?_)
              refine lv_goto (tgt := 38) hx_ hb_ dX5_lookAt_75 (by decide) ?_
              exact ih38 1 (k + 1) _ _ _ (by omega) (by omega) (fun q9 => by first | omega | exact ⟨by omega, fun j b c => by by_cases e : j = k; (rw [e]; assumption); exact (hxs (by omega)).2 j b (by omega)⟩) hV (lv_sub hl [2, 3, 1, 0] rfl)
    exact L38 _ 0 0 _ _ _ (Nat.lt_succ_self _) (by omega) (fun q9 => by first | omega | exact ⟨by omega, fun j b c => by omega⟩) hV (lv_sub hl [3, 2, 1, 0] rfl)
  · refine si_const S dX5_lookAt_21 ?_
    refine lv_goto (tgt := 26) hx_ hb_ dX5_lookAt_22 (by decide) ?_
    refine lv_istore_n (lv' := [(3, .int (sI 1)), (2, .int (sI (f 568))), (0, .ref o), (1, .ref a)]) hx_ hb_ dX5_lookAt_26 rfl hl (by decide) rfl (fun ls hl => ?_)
    refine lv_aload_n hx_ hb_ dX5_lookAt_27 rfl (lv_at hl 2 rfl) ?_
    refine lv_aload_n hx_ hb_ dX5_lookAt_28 rfl (lv_at hl 3 rfl) ?_
    refine sc_getN (ci := 4) (C := RX6) (T := TX6) (n := 8) S hK hV inX6_ (hst).1 rfl 1 (by decide) (E.2.2.2.2.2.1.1.2.1 _ (List.mem_of_getElem? (i := 5) rfl)) rfl rfl dX5_lookAt_29 ?_
    refine sk_Vv E hV (As := [.ref (a + 3)]) (rest := []) (kX5_readScratches l_ G b_ M N o (a + 3) L c Fr f ho0 ho1 ((hst).2.2.1) (by omega) (by omega)) (cwV 1 S.2.2.2.2 gX5_lookAt_X5_readScratches rfl rfl rfl (by decide +kernel) ⟨Nat.le_of_ble_eq_true rfl, Nat.le_of_ble_eq_true rfl⟩) (ci := 3) ho0 rfl rfl rfl hl.1 (Nat.le_of_ble_eq_true rfl) dX5_lookAt_32 (c1 := 0) (s1 := 0) ⟨⟨rfl, rfl⟩, by decide, by decide⟩ (fun M97 N98 H locs hp99 hV => ?_)
    obtain ⟨F9101, hN102, hc103, hf104, hF9105⟩ := hp99
    rw [hN102] at hV
    refine si_const S dX5_lookAt_35 ?_
    refine lv_istore (lv' := [(4, .int (sI 0)), (3, .int (sI 1)), (2, .int (sI (f 568))), (0, .ref o), (1, .ref a)]) hx_ hb_ dX5_lookAt_36 hl (by decide) rfl (fun ls hl => ?_)
    have L38 : ∀ (fuel : Nat) (x : Int) (k : Int)  (H : Heap) (locs : List Loc) (ls : Array Slot), ((10 - k).toNat) < fuel → (0 ≤ k ∧ k ≤ 10 ∧ (x = 0 ∨ x = 1)) → (x = 1 → c = f 568 ∧ ∀ j, 0 ≤ j → j < k → F9101 j = So j) → sV G b_ M97 N s_ H locs → lv_has ls 5 [(0, .ref o), (2, .int (sI (f 568))), (3, .int (sI x)), (4, .int (sI k))] → W p_ l_ e_ rmX5_lookAt s_ m_ args_ below_ meth_ c_ H locs 0 0 Q (F0 m_ 38 ls []) := by
      intro fuel
      induction fuel with
      | zero => intro x k H locs ls hmu; exact absurd hmu (Nat.not_lt_zero _)
      | succ fuel ih38 =>
        intro x k H locs ls hmu38 hv38_0 hxs  hV hl
        refine lv_iload hx_ hb_ dX5_lookAt_38 (lv_at hl 3 rfl) ?_
        refine si_bipush S dX5_lookAt_40 (by decide) ?_
        refine sb_ge (tgt := 78) S dX5_lookAt_42 (by decide) (by omega) (fun c106 => ?_) (fun c106 => ?_)
        · refine lv_iload_n hx_ hb_ dX5_lookAt_78 rfl (lv_at hl 2 rfl) ?_
          refine sz_ne (tgt := 103) S dX5_lookAt_79 (by decide) (by omega) (fun c107 => ?_) (fun c107 => ?_)
          · have hc108 : M97 o = some (sObj 3 [.ref (o + 1), .ref (o + 2), .ref (o + 3), .ref (o + 4), .ref (o + 5), .ref (o + 6), .ref (o + 7), .ref (o + 8), .ref (o + 9), .int (sI L), .int (sI c)]) := (hf104 o (by omega)).trans ho0
            have hc109 : M97 (o + 2) = some (sArr G 10 So) := (hf104 (o + 2) (by omega)).trans ho2
            have hc110 : M97 (o + 3) = some (sArr G 10 Ha) := (hf104 (o + 3) (by omega)).trans ho3
            have hc111 : M97 (o + 4) = some (sArr G 1024 Ah) := (hf104 (o + 4) (by omega)).trans ho4
            have hc112 : M97 (o + 5) = some (sArr G 1024 Be) := (hf104 (o + 5) (by omega)).trans ho5
            have hc113 : M97 (o + 6) = some (sArr G 100 At) := (hf104 (o + 6) (by omega)).trans ho6
            have hc114 : M97 (o + 7) = some (sArr G 100 Pa) := (hf104 (o + 7) (by omega)).trans ho7
            have hc115 : M97 (o + 8) = some (sArr G 11 Rc) := (hf104 (o + 8) (by omega)).trans ho8
            have hc116 : M97 (o + 9) = some (sArr G 10 Rs) := (hf104 (o + 9) (by omega)).trans ho9
            exact sr_v E hQ dX5_lookAt_103 ⟨Nat.le_of_ble_eq_true rfl, Nat.le_of_ble_eq_true rfl⟩ hV (⟨L, F9101, So, Ha, Ah, Be, At, Pa, Rc, Rs, rfl, by rw [← (hxs (by omega)).1]; exact hc108, hc103, hc109, hc110, hc111, hc112, hc113, hc114, hc115, hc116, fun x q0 q1 q2 q3 q4 q5 q6 q7 q8 q9 => hf104 x (by omega), od_s hok (hxs (by omega)).1 hF9105 (fun j b c => (hxs (by omega)).2 j b (by omega)) hq0⟩)
          · refine lv_aload_n hx_ hb_ dX5_lookAt_82 rfl (lv_at hl 0 rfl) ?_
            refine lv_iload_n hx_ hb_ dX5_lookAt_83 rfl (lv_at hl 1 rfl) ?_
            have hc117 : M97 o = some (sObj 3 [.ref (o + 1), .ref (o + 2), .ref (o + 3), .ref (o + 4), .ref (o + 5), .ref (o + 6), .ref (o + 7), .ref (o + 8), .ref (o + 9), .int (sI L), .int (sI c)]) := (hf104 o (by omega)).trans ho0
            refine sc_put (ci := 3) (C := RX5) (T := TX5) (n := 11) S hK hV inX5_ tyX5_ok nmX5 hc117 rfl 10 (by decide) (S.2.2.2.2 _ (List.mem_of_getElem? (i := 5) rfl)) rfl rfl rfl rfl (Nat.le_of_ble_eq_true rfl) dX5_lookAt_84 (fs1 := [.ref (o + 1), .ref (o + 2), .ref (o + 3), .ref (o + 4), .ref (o + 5), .ref (o + 6), .ref (o + 7), .ref (o + 8), .ref (o + 9), .int (sI L), .int (sI (f 568))]) rfl (fun M118 H locs hM118 hV => ?_)
            have hc119 : M118 o = some (sObj 3 [.ref (o + 1), .ref (o + 2), .ref (o + 3), .ref (o + 4), .ref (o + 5), .ref (o + 6), .ref (o + 7), .ref (o + 8), .ref (o + 9), .int (sI L), .int (sI (f 568))]) := (congrFun hM118 o).trans (va_up_self M97 o _)
            refine lv_aload_n hx_ hb_ dX5_lookAt_87 rfl (lv_at hl 0 rfl) ?_
            have hc120 : M118 (o + 1) = some (sArr G 10 F9101) := ((congrFun hM118 (o + 1)).trans (va_up_ne M97 _ (by omega))).trans hc103
            have hc121 : M118 (o + 2) = some (sArr G 10 So) := (((congrFun hM118 (o + 2)).trans (va_up_ne M97 _ (by omega))).trans (hf104 (o + 2) (by omega))).trans ho2
            have hc122 : M118 (o + 3) = some (sArr G 10 Ha) := (((congrFun hM118 (o + 3)).trans (va_up_ne M97 _ (by omega))).trans (hf104 (o + 3) (by omega))).trans ho3
            refine sk_Vv E hV (As := []) (rest := []) (kX5_takeScratches l_ G b_ M118 N o L (f 568) F9101 So Ha f hc119 hc120 hc121 hc122 (by omega) (by omega)) (cwV 0 S.2.2.2.2 gX5_lookAt_X5_takeScratches rfl rfl rfl (by decide +kernel) ⟨Nat.le_of_ble_eq_true rfl, Nat.le_of_ble_eq_true rfl⟩) (ci := 3) hc119 rfl rfl rfl hl.1 (Nat.le_of_ble_eq_true rfl) dX5_lookAt_88 (c1 := 0) (s1 := 0) ⟨⟨rfl, rfl⟩, by decide, by decide⟩ (fun M123 N124 H locs hp125 hV => ?_)
            obtain ⟨S9127, H9128, hN129, hc130, hc131, hf132, hS9133, hH9134⟩ := hp125
            rw [hN129] at hV
            refine lv_aload_n hx_ hb_ dX5_lookAt_91 rfl (lv_at hl 0 rfl) ?_
            have hc135 : M123 o = some (sObj 3 [.ref (o + 1), .ref (o + 2), .ref (o + 3), .ref (o + 4), .ref (o + 5), .ref (o + 6), .ref (o + 7), .ref (o + 8), .ref (o + 9), .int (sI L), .int (sI (f 568))]) := (hf132 o (by omega) (by omega)).trans hc119
            have hc136 : M123 (o + 4) = some (sArr G 1024 Ah) := (((hf132 (o + 4) (by omega) (by omega)).trans ((congrFun hM118 (o + 4)).trans (va_up_ne M97 _ (by omega)))).trans (hf104 (o + 4) (by omega))).trans ho4
            refine sk_Vv E hV (As := []) (rest := []) (kX5_countWaysAhead l_ G b_ M123 N o L H9128 Ah f hc135 hc131 hc136 (by omega) (by omega)) (cwV 0 S.2.2.2.2 gX5_lookAt_X5_countWaysAhead rfl rfl rfl (by decide +kernel) ⟨Nat.le_of_ble_eq_true rfl, Nat.le_of_ble_eq_true rfl⟩) (ci := 3) hc135 rfl rfl rfl hl.1 (Nat.le_of_ble_eq_true rfl) dX5_lookAt_92 (c1 := 0) (s1 := 0) ⟨⟨rfl, rfl⟩, by decide, by decide⟩ (fun M137 N138 H locs hp139 hV => ?_)
            obtain ⟨W9141, hN142, hc143, hf144, hW9145⟩ := hp139
            rw [hN142] at hV
            refine lv_aload_n hx_ hb_ dX5_lookAt_95 rfl (lv_at hl 0 rfl) ?_
            have hc146 : M137 o = some (sObj 3 [.ref (o + 1), .ref (o + 2), .ref (o + 3), .ref (o + 4), .ref (o + 5), .ref (o + 6), .ref (o + 7), .ref (o + 8), .ref (o + 9), .int (sI L), .int (sI (f 568))]) := (hf144 o (by omega)).trans hc135
            have hc147 : M137 (o + 3) = some (sArr G 10 H9128) := (hf144 (o + 3) (by omega)).trans hc131
            have hc148 : M137 (o + 5) = some (sArr G 1024 Be) := ((((hf144 (o + 5) (by omega)).trans (hf132 (o + 5) (by omega) (by omega))).trans ((congrFun hM118 (o + 5)).trans (va_up_ne M97 _ (by omega)))).trans (hf104 (o + 5) (by omega))).trans ho5
            have hc149 : M137 (o + 6) = some (sArr G 100 At) := ((((hf144 (o + 6) (by omega)).trans (hf132 (o + 6) (by omega) (by omega))).trans ((congrFun hM118 (o + 6)).trans (va_up_ne M97 _ (by omega)))).trans (hf104 (o + 6) (by omega))).trans ho6
            have hc150 : M137 (o + 7) = some (sArr G 100 Pa) := ((((hf144 (o + 7) (by omega)).trans (hf132 (o + 7) (by omega) (by omega))).trans ((congrFun hM118 (o + 7)).trans (va_up_ne M97 _ (by omega)))).trans (hf104 (o + 7) (by omega))).trans ho7
            refine sk_Vv E hV (As := []) (rest := []) (kX5_countWaysBehind l_ G b_ M137 N o L H9128 W9141 Be At Pa f hc146 hc147 hc143 hc148 hc149 hc150 (by omega) (by omega) (by omega)) (cwV 0 S.2.2.2.2 gX5_lookAt_X5_countWaysBehind rfl rfl rfl (by decide +kernel) ⟨Nat.le_of_ble_eq_true rfl, Nat.le_of_ble_eq_true rfl⟩) (ci := 3) hc146 rfl rfl rfl hl.1 (Nat.le_of_ble_eq_true rfl) dX5_lookAt_96 (c1 := 0) (s1 := 0) ⟨⟨rfl, rfl⟩, by decide, by decide⟩ (fun M151 N152 H locs hp153 hV => ?_)
            obtain ⟨B9155, A9156, P9157, hN158, hc159, hc160, hc161, hf162, hA9163, hP9164⟩ := hp153
            rw [hN158] at hV
            refine lv_aload_n hx_ hb_ dX5_lookAt_99 rfl (lv_at hl 0 rfl) ?_
            have hc165 : M151 o = some (sObj 3 [.ref (o + 1), .ref (o + 2), .ref (o + 3), .ref (o + 4), .ref (o + 5), .ref (o + 6), .ref (o + 7), .ref (o + 8), .ref (o + 9), .int (sI L), .int (sI (f 568))]) := (hf162 o (by omega) (by omega) (by omega)).trans hc146
            have hc166 : M151 (o + 2) = some (sArr G 10 S9127) := ((hf162 (o + 2) (by omega) (by omega) (by omega)).trans (hf144 (o + 2) (by omega))).trans hc130
            have hc167 : M151 (o + 8) = some (sArr G 11 Rc) := (((((hf162 (o + 8) (by omega) (by omega) (by omega)).trans (hf144 (o + 8) (by omega))).trans (hf132 (o + 8) (by omega) (by omega))).trans ((congrFun hM118 (o + 8)).trans (va_up_ne M97 _ (by omega)))).trans (hf104 (o + 8) (by omega))).trans ho8
            have hc168 : M151 (o + 9) = some (sArr G 10 Rs) := (((((hf162 (o + 9) (by omega) (by omega) (by omega)).trans (hf144 (o + 9) (by omega))).trans (hf132 (o + 9) (by omega) (by omega))).trans ((congrFun hM118 (o + 9)).trans (va_up_ne M97 _ (by omega)))).trans (hf104 (o + 9) (by omega))).trans ho9
            refine sk_Vv E hV (As := []) (rest := []) (kX5_findRing l_ G b_ M151 N o L S9127 Rc Rs f hc165 hc166 hc167 hc168 (by omega) (by omega)) (cwV 0 S.2.2.2.2 gX5_lookAt_X5_findRing rfl rfl rfl (by decide +kernel) ⟨Nat.le_of_ble_eq_true rfl, Nat.le_of_ble_eq_true rfl⟩) (ci := 3) hc165 rfl rfl rfl hl.1 (Nat.le_of_ble_eq_true rfl) dX5_lookAt_100 (c1 := 0) (s1 := 0) ⟨⟨rfl, rfl⟩, by decide, by decide⟩ (fun M169 N170 H locs hp171 hV => ?_)
            obtain ⟨L9173, R9174, G9175, hN176, hc177, hc178, hc179, hf180, hL9181⟩ := hp171
            rw [hN176] at hV
            have hc182 : M169 (o + 1) = some (sArr G 10 F9101) := ((((hf180 (o + 1) (by omega) (by omega) (by omega)).trans (hf162 (o + 1) (by omega) (by omega) (by omega))).trans (hf144 (o + 1) (by omega))).trans (hf132 (o + 1) (by omega) (by omega))).trans hc120
            have hc183 : M169 (o + 2) = some (sArr G 10 S9127) := (hf180 (o + 2) (by omega) (by omega) (by omega)).trans hc166
            have hc184 : M169 (o + 3) = some (sArr G 10 H9128) := ((hf180 (o + 3) (by omega) (by omega) (by omega)).trans (hf162 (o + 3) (by omega) (by omega) (by omega))).trans hc147
            have hc185 : M169 (o + 4) = some (sArr G 1024 W9141) := ((hf180 (o + 4) (by omega) (by omega) (by omega)).trans (hf162 (o + 4) (by omega) (by omega) (by omega))).trans hc143
            have hc186 : M169 (o + 5) = some (sArr G 1024 B9155) := (hf180 (o + 5) (by omega) (by omega) (by omega)).trans hc159
            have hc187 : M169 (o + 6) = some (sArr G 100 A9156) := (hf180 (o + 6) (by omega) (by omega) (by omega)).trans hc160
            have hc188 : M169 (o + 7) = some (sArr G 100 P9157) := (hf180 (o + 7) (by omega) (by omega) (by omega)).trans hc161
            exact sr_v E hQ dX5_lookAt_103 ⟨Nat.le_of_ble_eq_true rfl, Nat.le_of_ble_eq_true rfl⟩ hV (⟨L9173, F9101, S9127, H9128, W9141, B9155, A9156, P9157, R9174, G9175, rfl, hc177, hc182, hc183, hc184, hc185, hc186, hc187, hc188, hc178, hc179, fun x q0 q1 q2 q3 q4 q5 q6 q7 q8 q9 => (((((hf180 x (by omega) (by omega) (by omega)).trans (hf162 x (by omega) (by omega) (by omega))).trans (hf144 x (by omega))).trans (hf132 x (by omega) (by omega))).trans ((congrFun hM118 x).trans (va_up_ne M97 _ (by omega)))).trans (hf104 x (by omega)), ⟨do_R hok, hS9133, hH9134, hW9145, hA9163, hP9164, hL9181⟩⟩)
        · refine lv_iload_n hx_ hb_ dX5_lookAt_45 rfl (lv_at hl 2 rfl) ?_
          refine sz_eq (tgt := 70) S dX5_lookAt_46 (by decide) (by omega) (fun c189 => ?_) (fun c189 => ?_)
          · refine si_const S dX5_lookAt_70 ?_
            refine lv_istore_n (lv' := [(3, .int (sI 0)), (0, .ref o), (2, .int (sI (f 568))), (4, .int (sI k))]) hx_ hb_ dX5_lookAt_71 rfl hl (by decide) rfl (fun ls hl => ?_)
            refine si_inc (lv' := [(4, .int (sI (k + 1))), (3, .int (sI 0)), (0, .ref o), (2, .int (sI (f 568)))]) S dX5_lookAt_72 hl (k := 3) rfl (by decide) rfl (fun ls hl => ?_)
            refine lv_goto (tgt := 38) hx_ hb_ dX5_lookAt_75 (by decide) ?_
            exact ih38 0 (k + 1) _ _ _ (by omega) (by omega) (fun q9 => by first | omega | exact ⟨by omega, fun j b c => by by_cases e : j = k; (rw [e]; assumption); exact (hxs (by omega)).2 j b (by omega)⟩) hV (lv_sub hl [2, 3, 1, 0] rfl)
          · refine lv_aload_n hx_ hb_ dX5_lookAt_49 rfl (lv_at hl 0 rfl) ?_
            have hc190 : M97 o = some (sObj 3 [.ref (o + 1), .ref (o + 2), .ref (o + 3), .ref (o + 4), .ref (o + 5), .ref (o + 6), .ref (o + 7), .ref (o + 8), .ref (o + 9), .int (sI L), .int (sI c)]) := (hf104 o (by omega)).trans ho0
            refine sc_get (ci := 3) (C := RX5) (T := TX5) (n := 11) S hK hV inX5_ hc190 rfl 0 (by decide) (S.2.2.2.2 _ (List.mem_of_getElem? (i := 6) rfl)) rfl rfl dX5_lookAt_50 ?_
            refine lv_iload hx_ hb_ dX5_lookAt_53 (lv_at hl 3 rfl) ?_
            refine sc_iald S hK hV hc103 (by omega) dX5_lookAt_55 ?_
            refine lv_aload_n hx_ hb_ dX5_lookAt_56 rfl (lv_at hl 0 rfl) ?_
            refine sc_get (ci := 3) (C := RX5) (T := TX5) (n := 11) S hK hV inX5_ hc190 rfl 1 (by decide) (S.2.2.2.2 _ (List.mem_of_getElem? (i := 7) rfl)) rfl rfl dX5_lookAt_57 ?_
            refine lv_iload hx_ hb_ dX5_lookAt_60 (lv_at hl 3 rfl) ?_
            have hc191 : M97 (o + 2) = some (sArr G 10 So) := (hf104 (o + 2) (by omega)).trans ho2
            refine sc_iald S hK hV hc191 (by omega) dX5_lookAt_62 ?_
            have h63a := (hF9105 k (by omega) (by omega)).1
            have h63b := hq0.1 k (by omega) (by omega)
            refine sb_ne (tgt := 70) S dX5_lookAt_63 (by decide) (by omega) (fun h63 => ?_) (fun h63 => ?_)
            · refine si_const S dX5_lookAt_70 ?_
              refine lv_istore_n (lv' := [(3, .int (sI 0)), (0, .ref o), (2, .int (sI (f 568))), (4, .int (sI k))]) hx_ hb_ dX5_lookAt_71 rfl hl (by decide) rfl (fun ls hl => ?_)
              refine si_inc (lv' := [(4, .int (sI (k + 1))), (3, .int (sI 0)), (0, .ref o), (2, .int (sI (f 568)))]) S dX5_lookAt_72 hl (k := 3) rfl (by decide) rfl (fun ls hl => ?_)
              refine lv_goto (tgt := 38) hx_ hb_ dX5_lookAt_75 (by decide) ?_
              exact ih38 0 (k + 1) _ _ _ (by omega) (by omega) (fun q9 => by first | omega | exact ⟨by omega, fun j b c => by by_cases e : j = k; (rw [e]; assumption); exact (hxs (by omega)).2 j b (by omega)⟩) hV (lv_sub hl [2, 3, 1, 0] rfl)
            · refine si_const S dX5_lookAt_66 ?_
              refine lv_goto (tgt := 71) hx_ hb_ dX5_lookAt_67 (by decide) ?_
              refine lv_istore_n (lv' := [(3, .int (sI 1)), (0, .ref o), (2, .int (sI (f 568))), (4, .int (sI k))]) hx_ hb_ dX5_lookAt_71 rfl hl (by decide) rfl (fun ls hl => ?_)
              refine si_inc (lv' := [(4, .int (sI (k + 1))), (3, .int (sI 1)), (0, .ref o), (2, .int (sI (f 568)))]) S dX5_lookAt_72 hl (k := 3) rfl (by decide) rfl (fun ls hl => ?_)
              refine lv_goto (tgt := 38) hx_ hb_ dX5_lookAt_75 (by decide) ?_
              exact ih38 1 (k + 1) _ _ _ (by omega) (by omega) (fun q9 => by first | omega | exact ⟨by omega, fun j b c => by by_cases e : j = k; (rw [e]; assumption); exact (hxs (by omega)).2 j b (by omega)⟩) hV (lv_sub hl [2, 3, 1, 0] rfl)
    exact L38 _ 1 0 _ _ _ (Nat.lt_succ_self _) (by omega) (fun q9 => by first | omega | exact ⟨by omega, fun j b c => by omega⟩) hV (lv_sub hl [3, 2, 1, 0] rfl)
