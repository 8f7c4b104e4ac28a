/-! The class's Stays. -/
noncomputable def dF (F : sF) (j : Int) : Int := if j ≤ 0 then -1 else dayI (F j) + 3652
theorem dF_0 (F : sF) {j : Int} (h : j ≤ 0) : dF F j = -1 := if_pos h
theorem dF_1 (F : sF) {j : Int} (h : 1 ≤ j) : dF F j = dayI (F j) + 3652 := if_neg (by omega)
theorem dF_c {F F2 : sF} {j k : Int} (h : F j = F2 k) (hj : 1 ≤ j) (hk : 1 ≤ k) : dF F j = dF F2 k := by rw [dF_1 F hj, dF_1 F2 hk, h]
/-- dates of stays: in their order -/
def dsF (F : sF) (c : Int) : Prop := F 0 = -1 ∧ (∀ j, 1 ≤ j → j < c → isDt (F j)) ∧ ∀ j k, 1 ≤ j → j < k → k < c → F j < F k
theorem dF_lt {F : sF} {c j k : Int} (h : dsF F c) (a : 0 ≤ j) (b : j < k) (d : k < c) : dF F j < dF F k := by
  have h2 := h.2.1 k (by omega) d
  have h3 := dayI_r h2
  by_cases e : j = 0
  · rw [dF_0 F (by omega), dF_1 F (by omega)]; omega
  · have h4 := dayI_lt (isDt_x (h.2.1 j (by omega) (by omega))) (isDt_x h2) (h.2.2 j k (by omega) b d)
    rw [dF_1 F (by omega), dF_1 F (by omega)]; omega
theorem dF_le {F : sF} {c j k : Int} (h : dsF F c) (a : 0 ≤ j) (b : j ≤ k) (d : k < c) : dF F j ≤ dF F k := by
  by_cases e : j = k
  · rw [e]; exact Int.le_refl _
  · have := dF_lt h a (by omega) d; omega
theorem dF_r {F : sF} {c j : Int} (h : dsF F c) (a : 1 ≤ j) (b : j < c) : 3652 ≤ dF F j ∧ dF F j < 113225 ∧ isDt (F j) ∧ F j = dat (dF F j) := by
  have h2 := h.2.1 j a b
  have h3 := dayI_r h2
  rw [dF_1 F a]
  exact ⟨by omega, by omega, h2, (dat_dt h2).symm⟩
def stI (f : sF) (s t i c : Int) (F Hn : sF) : Prop := (1 ≤ c ∧ c ≤ i + 1) ∧ dsF F c ∧ Hn 0 = 6 ∧ (∀ j, 0 ≤ j → j < c → 0 ≤ Hn j ∧ Hn j ≤ 6) ∧ ∀ x j, 0 ≤ j → j < c → dF F j ≤ x → (j + 1 < c → x < dF F (j + 1)) → (j = 0 → hiI f s x t i = -1) ∧ (1 ≤ j → 0 ≤ hiI f s x t i ∧ f (224 + hiI f s x t i) = dF F j ∧ f (284 + hiI f s x t i) = Hn j)
section ST
variable {f : sF} {s t i c d h p : Int} {F Hn : sF}
theorem st_0 (F Hn : sF) : stI f s t 0 1 (iup F 0 (-1)) (iup Hn 0 6) :=
  ⟨by omega, ⟨if_pos rfl, fun j a b => by omega, fun j k a b c => by omega⟩, if_pos rfl, fun j a b => by rw [show j = 0 by omega, show iup Hn 0 6 0 = 6 from if_pos rfl]; omega, fun x j a b _ _ => ⟨fun _ => rfl, fun q => by omega⟩⟩
theorem st_k (hi : 0 ≤ i) (hst : stI f s t i c F Hn) (hn : ¬ (f (164 + i) = s ∧ knP f i t)) : stI f s t (i + 1) c F Hn := by
  obtain ⟨h1, h2, h3, h4, h5⟩ := hst
  refine ⟨by omega, h2, h3, h4, fun x j a b u v => ?_⟩
  rw [hiI_s f s x t i hi, pif_f (fun q => hn ⟨q.1.1, q.1.2.2⟩)]
  exact h5 x j a b u v
theorem hi_lo {x : Int} (hi : 0 ≤ i) (h : x < f (224 + i)) : hiI f s x t (i + 1) = hiI f s x t i := by
  rw [hiI_s f s x t i hi, pif_f (fun q => by have := q.1.2.1; omega)]
theorem hi_no {x : Int} (hi : 0 ≤ i) (h1 : hiI f s x t i ≠ -1) (h2 : f (224 + i) < f (224 + hiI f s x t i)) : hiI f s x t (i + 1) = hiI f s x t i := by
  rw [hiI_s f s x t i hi, pif_f (fun q => by rcases q.2 with e | e; exact h1 e; omega)]
theorem hi_hi {x : Int} (hi : 0 ≤ i) (h0 : f (164 + i) = s ∧ knP f i t) (h : f (224 + i) ≤ x) (h2 : hiI f s x t i = -1 ∨ f (224 + hiI f s x t i) ≤ f (224 + i)) : hiI f s x t (i + 1) = i := by
  rw [hiI_s f s x t i hi, pif_t ⟨⟨h0.1, h, h0.2⟩, h2⟩]
theorem st_r (hi : 0 ≤ i) (hst : stI f s t i c F Hn) (h0 : f (164 + i) = s ∧ knP f i t) (hd : isDt d ∧ dayI d + 3652 = f (224 + i)) (hh : h = f (284 + i)) (hhr : 0 ≤ h ∧ h ≤ 6) (hp : 1 ≤ p ∧ p < c) (he : F p = d) : stI f s t (i + 1) c F (iup Hn p h) := by
  obtain ⟨h1, h2, h3, h4, h5⟩ := hst
  have hy : dF F p = f (224 + i) := by rw [dF_1 F hp.1, he]; exact hd.2
  refine ⟨by omega, h2, by rw [show iup Hn p h 0 = Hn 0 from if_neg (by omega)]; exact h3, fun j a b => ?_, fun x j a b u v => ?_⟩
  · unfold iup
    by_cases e : j = p
    · rw [if_pos e]; exact hhr
    · rw [if_neg e]; exact h4 j a b
  · have o := h5 x j a b u v
    rcases Int.lt_trichotomy j p with q | q | q
    · have w := v (by omega)
      have w2 := dF_le h2 (j := j + 1) (k := p) (by omega) (by omega) hp.2
      rw [hi_lo hi (by omega), show iup Hn p h j = Hn j from if_neg (by omega)]
      exact o
    · rw [q] at u o ⊢
      have o2 := o.2 hp.1
      rw [hi_hi hi h0 (by omega) (Or.inr (by omega))]
      exact ⟨fun r => by omega, fun _ => ⟨hi, hy.symm, by rw [show iup Hn p h p = h from if_pos rfl]; exact hh.symm⟩⟩
    · have o2 := o.2 (by omega)
      have w2 := dF_lt h2 (j := p) (k := j) (by omega) q b
      rw [hi_no hi (by omega) (by omega), show iup Hn p h j = Hn j from if_neg (by omega)]
      exact o
/-- a place put in between -/
def insF (F : sF) (p c d : Int) : sF := iup (icpy F F p (p + 1) (c - p)) p d
theorem ins_v (F : sF) {p c d : Int} (hp : p ≤ c) : (∀ j, j < p → insF F p c d j = F j) ∧ insF F p c d p = d ∧ ∀ j, p < j → j < c + 1 → insF F p c d j = F (j - 1) := by
  refine ⟨fun j a => ?_, if_pos rfl, fun j a b => ?_⟩
  · unfold insF iup icpy
    rw [if_neg (by omega), if_neg (by omega)]
  · unfold insF iup icpy
    rw [if_neg (by omega), if_pos (by omega)]
    congr 1
    omega
theorem st_i (hi : 0 ≤ i) (hst : stI f s t i c F Hn) (h0 : f (164 + i) = s ∧ knP f i t) (hd : isDt d ∧ dayI d + 3652 = f (224 + i)) (hh : h = f (284 + i)) (hhr : 0 ≤ h ∧ h ≤ 6) (hp : 1 ≤ p ∧ p ≤ c) (hlo : p = 1 ∨ F (p - 1) < d) (hup : ∀ j, p ≤ j → j < c → d < F j) : stI f s t (i + 1) (c + 1) (insF F p c d) (insF Hn p c h) := by
  obtain ⟨h1, h2, h3, h4, h5⟩ := hst
  obtain ⟨v1, v2, v3⟩ := ins_v F (d := d) hp.2
  obtain ⟨g1, g2, g3⟩ := ins_v Hn (d := h) hp.2
  have hdr := dayI_r hd.1
  have hlo2 : ∀ j, 1 ≤ j → j < p → F j < d := fun j a b => by
    rcases hlo with e | e
    · omega
    · by_cases e2 : j = p - 1
      · rw [e2]; exact e
      · have := h2.2.2 j (p - 1) a (by omega) (by omega); omega
  have hds : dsF (insF F p c d) (c + 1) := by
    refine ⟨by rw [v1 0 (by omega)]; exact h2.1, fun j a b => ?_, fun j k a b e => ?_⟩
    · rcases Int.lt_trichotomy j p with q | q | q
      · rw [v1 j q]; exact h2.2.1 j a (by omega)
      · rw [q, v2]; exact hd.1
      · rw [v3 j q b]; exact h2.2.1 (j - 1) (by omega) (by omega)
    · rcases Int.lt_trichotomy j p with q | q | q
      · rw [v1 j q]
        rcases Int.lt_trichotomy k p with r | r | r
        · rw [v1 k r]; exact h2.2.2 j k a b (by omega)
        · rw [r, v2]; exact hlo2 j a q
        · rw [v3 k r e]
          by_cases e2 : j = k - 1
          · omega
          · exact h2.2.2 j (k - 1) a (by omega) (by omega)
      · rw [q, v2, v3 k (by omega) e]
        exact hup (k - 1) (by omega) (by omega)
      · rw [v3 j q (by omega), v3 k (by omega) e]
        exact h2.2.2 (j - 1) (k - 1) (by omega) (by omega) (by omega)
  have w1 : ∀ j, j < p → dF (insF F p c d) j = dF F j := fun j a => by
    by_cases e : j ≤ 0
    · rw [dF_0 _ e, dF_0 _ e]
    · exact dF_c (v1 j a) (by omega) (by omega)
  have w2 : dF (insF F p c d) p = f (224 + i) := by rw [dF_1 _ hp.1, v2]; exact hd.2
  have w3 : ∀ j, p < j → j < c + 1 → dF (insF F p c d) j = dF F (j - 1) := fun j a b => dF_c (v3 j a b) (by omega) (by omega)
  have b1 : ∀ j, 0 ≤ j → j < p → dF F j < f (224 + i) := fun j a b => by
    have := dF_lt hds (j := j) (k := p) a b (by omega)
    rw [w1 j b, w2] at this
    exact this
  have b2 : ∀ j, p ≤ j → j < c → f (224 + i) < dF F j := fun j a b => by
    have := dF_lt hds (j := p) (k := j + 1) (by omega) (by omega) (by omega)
    rw [w2, w3 (j + 1) (by omega) (by omega), show j + 1 - 1 = j by omega] at this
    exact this
  refine ⟨by omega, hds, by rw [g1 0 (by omega)]; exact h3, fun j a b => ?_, fun x j a b u v => ?_⟩
  · rcases Int.lt_trichotomy j p with q | q | q
    · rw [g1 j q]; exact h4 j a (by omega)
    · rw [q, g2]; exact hhr
    · rw [g3 j q b]; exact h4 (j - 1) (by omega) (by omega)
  · rcases Int.lt_trichotomy j p with q | q | q
    · rw [w1 j q] at u ⊢
      have v4 := v (by omega)
      rw [g1 j q]
      by_cases e : j + 1 = p
      · rw [e, w2] at v4
        rw [hi_lo hi v4]
        exact h5 x j a (by omega) u (fun r => by have := b2 (j + 1) (by omega) r; omega)
      · rw [w1 (j + 1) (by omega)] at v4
        have := b1 (j + 1) (by omega) (by omega)
        rw [hi_lo hi (by omega)]
        exact h5 x j a (by omega) u (fun _ => v4)
    · rw [q] at u v ⊢
      rw [w2] at u ⊢
      rw [g2]
      have o := h5 x (p - 1) (by omega) (by omega) (by have := b1 (p - 1) (by omega) (by omega); omega) (fun r => by
        have v4 := v (by omega)
        rw [w3 (p + 1) (by omega) (by omega), show p + 1 - 1 = p by omega] at v4
        rw [show p - 1 + 1 = p by omega]
        exact v4)
      rw [hi_hi hi h0 u (by
        by_cases e : p - 1 = 0
        · exact Or.inl (o.1 e)
        · have o2 := o.2 (by omega)
          have := b1 (p - 1) (by omega) (by omega)
          exact Or.inr (by omega))]
      exact ⟨fun r => by omega, fun _ => ⟨hi, rfl, hh.symm⟩⟩
    · rw [w3 j q b] at u ⊢
      rw [g3 j q b]
      have o := h5 x (j - 1) (by omega) (by omega) u (fun r => by
        have v4 := v (by omega)
        rw [w3 (j + 1) (by omega) (by omega), show j + 1 - 1 = j by omega] at v4
        rw [show j - 1 + 1 = j by omega]
        exact v4)
      have o2 := o.2 (by omega)
      have := b2 (j - 1) (by omega) (by omega)
      rw [hi_no hi (by omega) (by omega)]
      exact ⟨fun r => by omega, fun _ => o2⟩
end ST
/-- stays, whatever hands follow each other; stays -/
def rpS (h : Int → Int) (c : Int) (F Hn : sF) : Prop := (1 ≤ c ∧ c ≤ 61) ∧ dsF F c ∧ (∀ j, 0 ≤ j → j < c → 0 ≤ Hn j ∧ Hn j ≤ 6) ∧ ∀ x j, 0 ≤ j → j < c → dF F j ≤ x → (j + 1 < c → x < dF F (j + 1)) → h x = Hn j
def skQ (h : Int → Int) (c : Int) (F Hn : sF) : Prop := segP h c (dF F) ∧ (1 ≤ c ∧ c ≤ 61) ∧ dsF F c ∧ ∀ j, 0 ≤ j → j < c → Hn j = h (dF F j) ∧ 0 ≤ Hn j ∧ Hn j ≤ 6
theorem st_e {f : sF} {s t i c : Int} {F Hn : sF} (h8 : 0 ≤ f 570 ∧ f 570 ≤ 60) (hi : i = f 570) (hst : stI f s t i c F Hn) : rpS (fun x => hnd f s x t) c F Hn := by
  subst hi
  obtain ⟨h1, h2, h3, h4, h5⟩ := hst
  refine ⟨by omega, h2, h4, fun x j a b u v => ?_⟩
  have o := h5 x j a b u v
  show hnd f s x t = Hn j
  unfold hnd
  by_cases e : j = 0
  · rw [if_pos (o.1 e), e, h3]
  · have o2 := o.2 (by omega)
    rw [if_neg (by omega)]
    exact o2.2.2
def mlI (h : Int → Int) (c : Int) (F Hn : sF) (k l : Int) (F2 H2 : sF) : Prop := (1 ≤ l ∧ l ≤ k ∧ k ≤ c) ∧ dsF F2 l ∧ (∀ j, k ≤ j → j < c → F2 j = F j ∧ H2 j = Hn j) ∧ (∀ j m, 0 ≤ j → j < l → k ≤ m → m < c → dF F2 j < dF F m) ∧ (∀ j, 0 ≤ j → j < l → 0 ≤ H2 j ∧ H2 j ≤ 6) ∧ (∀ j, 0 ≤ j → j + 1 < l → H2 j ≠ H2 (j + 1)) ∧ ∀ x j, 0 ≤ j → j < l → dF F2 j ≤ x → (j + 1 < l → x < dF F2 (j + 1)) → (k < c → x < dF F k) → h x = H2 j
section ML
variable {h : Int → Int} {c k l : Int} {F Hn F2 H2 : sF}
theorem ml_0 (hr : rpS h c F Hn) : mlI h c F Hn 1 1 F Hn := by
  obtain ⟨h1, h2, h3, h4⟩ := hr
  refine ⟨by omega, ⟨h2.1, fun j a b => by omega, fun j k a b e => by omega⟩, fun j a b => ⟨rfl, rfl⟩, fun j m a b e g => dF_lt h2 a (by omega) g, fun j a b => h3 j a (by omega), fun j a b => by omega, fun x j a b u _ v => h4 x j a (by omega) u (fun r => by rw [show j + 1 = 1 by omega]; exact v (by omega))⟩
theorem ml_k (hr : rpS h c F Hn) (hm : mlI h c F Hn k l F2 H2) (hk : k < c) (he : H2 k = H2 (l - 1)) : mlI h c F Hn (k + 1) l F2 H2 := by
  obtain ⟨m1, m2, m3, m4, m5, m6, m7⟩ := hm
  refine ⟨by omega, m2, fun j a b => m3 j (by omega) b, fun j m a b e g => m4 j m a b (by omega) g, m5, m6, fun x j a b u v w => ?_⟩
  rcases Int.lt_or_le x (dF F k) with q | q
  · exact m7 x j a b u v (fun _ => q)
  · have e : j = l - 1 := by
      rcases Int.lt_or_le (j + 1) l with r | r
      · have := v r
        have := m4 (j + 1) k (by omega) r (Int.le_refl _) hk
        omega
      · omega
    rw [e, ← he, (m3 k (Int.le_refl _) hk).2]
    exact hr.2.2.2 x k (by omega) hk q w
theorem ml_n (hr : rpS h c F Hn) (hm : mlI h c F Hn k l F2 H2) (hk : k < c) (he : H2 k ≠ H2 (l - 1)) : mlI h c F Hn (k + 1) (l + 1) (iup F2 l (F2 k)) (iup H2 l (H2 k)) := by
  obtain ⟨m1, m2, m3, m4, m5, m6, m7⟩ := hm
  have ek := m3 k (Int.le_refl _) hk
  have f1 : ∀ j, j ≠ l → iup F2 l (F2 k) j = F2 j := fun j a => if_neg a
  have f2 : iup F2 l (F2 k) l = F k := by rw [show iup F2 l (F2 k) l = F2 k from if_pos rfl]; exact ek.1
  have g1 : ∀ j, j ≠ l → iup H2 l (H2 k) j = H2 j := fun j a => if_neg a
  have g2 : iup H2 l (H2 k) l = H2 k := if_pos rfl
  have hdk := dF_r hr.2.1 (j := k) (by omega) hk
  have d1 : ∀ j, 0 ≤ j → j < l → dF (iup F2 l (F2 k)) j = dF F2 j := fun j a b => by
    by_cases e : j = 0
    · rw [e]; rfl
    · exact dF_c (f1 j (by omega)) (by omega) (by omega)
  have d2 : dF (iup F2 l (F2 k)) l = dF F k := dF_c f2 (by omega) (by omega)
  have hds : dsF (iup F2 l (F2 k)) (l + 1) := by
    refine ⟨by rw [f1 0 (by omega)]; exact m2.1, fun j a b => ?_, fun j m a b e => ?_⟩
    · by_cases q : j = l
      · rw [q, f2]; exact hdk.2.2.1
      · rw [f1 j q]; exact m2.2.1 j a (by omega)
    · rw [f1 j (by omega)]
      by_cases q : m = l
      · rw [q, f2]
        have w := m4 j k (by omega) (by omega) (Int.le_refl _) hk
        rw [dF_1 _ a, dF_1 _ (show 1 ≤ k by omega)] at w
        rcases Int.lt_or_le (F2 j) (F k) with r | r
        · exact r
        · have := (dayI_le (isDt_x hdk.2.2.1) (isDt_x (m2.2.1 j a (by omega)))).mpr r
          omega
      · rw [f1 m q]; exact m2.2.2 j m a b (by omega)
  refine ⟨by omega, hds, fun j a b => ?_, fun j m a b e g => ?_, fun j a b => ?_, fun j a b => ?_, fun x j a b u v w => ?_⟩
  · rw [f1 j (by omega), g1 j (by omega)]; exact m3 j (by omega) b
  · by_cases q : j = l
    · rw [q, d2]; exact dF_lt hr.2.1 (by omega) (by omega) g
    · rw [d1 j a (by omega)]; exact m4 j m a (by omega) (by omega) g
  · by_cases q : j = l
    · rw [q, g2, ek.2]; exact hr.2.2.1 k (by omega) hk
    · rw [g1 j q]; exact m5 j a (by omega)
  · rw [g1 j (by omega)]
    by_cases q : j + 1 = l
    · rw [q, g2, show j = l - 1 by omega]; exact fun r => he r.symm
    · rw [g1 (j + 1) q]; exact m6 j a (by omega)
  · by_cases q : j = l
    · rw [q, d2] at u
      rw [q, g2, ek.2]
      exact hr.2.2.2 x k (by omega) hk u w
    · rw [d1 j a (by omega)] at u
      rw [g1 j q]
      have v2 := v (by omega)
      by_cases r : j + 1 = l
      · rw [r, d2] at v2
        exact m7 x j a (by omega) u (fun z => by omega) (fun _ => v2)
      · rw [d1 (j + 1) (by omega) (by omega)] at v2
        have := m4 (j + 1) k (by omega) (by omega) (Int.le_refl _) hk
        exact m7 x j a (by omega) u (fun _ => v2) (fun _ => by omega)
theorem ml_e (hr : rpS h c F Hn) (hm : mlI h c F Hn k l F2 H2) (hk : c ≤ k) : skQ h l F2 H2 := by
  obtain ⟨m1, m2, m3, m4, m5, m6, m7⟩ := hm
  have h1 := hr.1
  have hv : ∀ x j, 0 ≤ j → j < l → dF F2 j ≤ x → (j + 1 < l → x < dF F2 (j + 1)) → h x = H2 j := fun x j a b u v => m7 x j a b u v (fun w => by omega)
  have hd : ∀ j, 0 ≤ j → j < l → h (dF F2 j) = H2 j := fun j a b => hv _ j a b (Int.le_refl _) (fun q => dF_lt m2 a (by omega) q)
  refine ⟨⟨by omega, dF_0 _ (Int.le_refl _), fun j a b => ⟨dF_lt m2 a (by omega) b, ?_, fun x u v => ?_⟩, fun x u => ?_⟩, by omega, m2, fun j a b => ⟨(hd j a b).symm, m5 j a b⟩⟩
  · rw [hd j a (by omega), hd (j + 1) (by omega) b]; exact m6 j a b
  · rw [hd j a (by omega)]; exact hv x j a (by omega) u (fun _ => v)
  · rw [hd (l - 1) (by omega) (by omega)]; exact hv x (l - 1) (by omega) (by omega) u (fun q => by omega)
end ML
/-- the last stay looked at that has begun on a day -/
def haQ (F Hn : sF) (x j z : Int) : Prop := j = 0 ∨ ∃ q, 0 ≤ q ∧ q < j ∧ z = Hn q ∧ dF F q ≤ x ∧ ∀ m, q < m → m < j → x < dF F m
theorem ha_k {F Hn : sF} {x j z : Int} (hj : 0 < j) (h : haQ F Hn x j z) (h2 : x < dF F j) : haQ F Hn x (j + 1) z := by
  rcases h with e | ⟨q, a, b, e, g, m1⟩
  · omega
  · exact Or.inr ⟨q, a, by omega, e, g, fun m u v => by
      by_cases e9 : m = j
      · rw [e9]; exact h2
      · exact m1 m u (by omega)⟩
theorem ha_n {F Hn : sF} {x j : Int} (hj : 0 ≤ j) (h2 : dF F j ≤ x) : haQ F Hn x (j + 1) (Hn j) := Or.inr ⟨j, hj, by omega, rfl, h2, fun m a b => by omega⟩
theorem ha_e {h : Int → Int} {F Hn : sF} {x c z : Int} (hs : skQ h c F Hn) (hq : haQ F Hn x c z) : z = h x := by
  have hc := hs.2.1
  rcases hq with e | ⟨q, a, b, e, g, m1⟩
  · omega
  · rw [e, (hs.2.2.2 q a b).1]
    by_cases e9 : q + 1 < c
    · exact ((hs.1.2.2.1 q a e9).2.2 _ g (m1 (q + 1) (by omega) e9)).symm
    · have h8 := hs.1.2.2.2 x (by rw [show c - 1 = q by omega]; exact g)
      rw [show c - 1 = q by omega] at h8
      exact h8.symm
/-- the day ahead -/
theorem prev_d {e : Int} (h : isDt e) : isDx (prevD e) ∧ dayI (prevD e) = dayI e - 1 := by
  have hr := dayI_r h
  unfold prevD
  by_cases c1 : 1 < e % 100
  · rw [if_pos c1]
    have q1 : (e - 1) / 10000 = e / 10000 := by omega
    have q2 : (e - 1) / 100 % 100 = e / 100 % 100 := by omega
    have q3 : (e - 1) % 100 = e % 100 - 1 := by omega
    unfold isDx dayI
    rw [q1, q2, q3]
    have := dim_b (e / 10000) (e / 100 % 100) (by omega)
    omega
  · rw [if_neg c1]
    by_cases c2 : 1 < e / 100 % 100
    · rw [if_pos c2]
      have hb := dim_b (e / 10000) (e / 100 % 100 - 1) (by omega)
      have ho := dayI_o (y := e / 10000) (m := e / 100 % 100 - 1) (t := dim (e / 10000) (e / 100 % 100 - 1) - 1) (by omega) (by omega) (by omega)
      rw [show 10000 * (e / 10000) + 100 * (e / 100 % 100 - 1) + (dim (e / 10000) (e / 100 % 100 - 1) - 1) + 1 = 10000 * (e / 10000) + 100 * (e / 100 % 100 - 1) + dim (e / 10000) (e / 100 % 100 - 1) by omega] at ho
      have hs := dA_s (e / 10000) (e / 100 % 100 - 1)
      rw [show e / 100 % 100 - 1 + 1 = e / 100 % 100 by omega] at hs
      unfold isDx dayI
      rw [ho.1, ho.2.1, ho.2.2]
      omega
    · rw [if_neg c2]
      have h1 := dayI_sy (y := e / 10000 - 1) (by omega)
      rw [show e / 10000 - 1 + 1 = e / 10000 by omega] at h1
      have h2 : dayI e = nyr (e / 10000) := by
        unfold dayI
        rw [show e / 100 % 100 = 1 by omega, dA_1]
        omega
      have hdm : dim (e / 10000 - 1) 12 = 31 := by rw [dim_v _ 12 (by omega), if_neg (by omega), if_neg (by omega)]
      refine ⟨?_, by omega⟩
      unfold isDx
      rw [show (10000 * (e / 10000 - 1) + 1231) / 10000 = e / 10000 - 1 by omega, show (10000 * (e / 10000 - 1) + 1231) / 100 % 100 = 12 by omega, show (10000 * (e / 10000 - 1) + 1231) % 100 = 31 by omega, hdm]
      omega
theorem prev_dat {e : Int} (h : isDt e) : prevD e = dat (dayI e + 3652 - 1) := (dat_eq (prev_d h).1 (by have := (prev_d h).2; omega)).symm
/-- days of a stay among those of a stretch -/
noncomputable def dwI (F : sF) (c q a b : Int) : Int := max 0 ((if q < c - 1 then min b (dF F (q + 1) - 3653) else b) - (if q = 0 then a else max a (dF F q - 3652)) + 1)

abbrev rmX7_init : Room := { frames := 1, cells := 2, slots := 122, locals := 40 }
set_option maxHeartbeats 4000000 in
set_option maxRecDepth 100000 in
theorem kX7_init (l_ : Launch) (G : sG) (b_ : Nat) (M : sM) (N : Nat) (k : Nat) (hk0 : M k = some (sObj 5 [.null, .null, .int (sI 0)])) (hN : N = k + 1) : cV l_ yX7_init wsX7_init rmX7_init G b_ M N [.ref k] (fun M1 N1 => N1 = k + 3 ∧ M1 k = some (sObj 5 [.ref (k + 1), .ref (k + 2), .int (sI 0)]) ∧ M1 (k + 1) = some (sArr G 61 (fun _ => 0)) ∧ M1 (k + 2) = some (sArr G 61 (fun _ => 0)) ∧ (∀ x : Nat, ¬ (x = k) → ¬ (x = k + 1) → ¬ (x = k + 2) → M1 x = M x)) := by
  refine sE.ofV (cc := cX7_init) (nL := 1) (ret := none) (by decide) rfl (Nat.le_of_ble_eq_true rfl) ?_
  intro p_ e_ s_ m_ args_ below_ meth_ c_ ls Q hQ E hl
  have E : sE p_ l_ e_ rmX7_init s_ m_ args_ below_ meth_ c_ cX7_init 1 wsX7_init RX7 "<init>" none G b_ M N := E
  have S := E.1
  have hx_ := S.1
  have hb_ := S.2.1
  have hK := E.2.2.2.2.1
  have hV := E.2.2.2.2.2.2
  have hnm := E.2.2.2.1
  have hl : lv_has ls 1 [(0, .ref k)] := hl
  have inX7_ : ∀ w ∈ wsX70, w ∈ wsX7_init := fun _ h => List.mem_cons_of_mem _ (List.mem_append_right _ h)
  have hbN : b_ ≤ N := by have h1 := hV.1.1; have h2 := hV.2.2; omega
  subst hN
  refine lv_aload_n hx_ hb_ dX7_init_0 rfl (lv_at hl 0 rfl) ?_
  refine W.objInit hx_ hb_ S.2.2.2.1 (S.2.2.2.2 _ (List.mem_of_getElem? (i := 1) rfl)) (S.2.2.2.2 _ (List.mem_of_getElem? (i := 2) rfl)) (S.2.2.2.2 _ (List.mem_of_getElem? (i := 3) rfl)) rfl (by rw [S.2.2.1]; exact hl.1) rfl dX7_init_1 (Nat.le_of_ble_eq_true rfl) (Nat.le_of_ble_eq_true rfl) ?_
  refine W.eq (g2 := F0 m_ 4 ls []) rfl ?_
  refine lv_aload_n hx_ hb_ dX7_init_4 rfl (lv_at hl 0 rfl) ?_
  refine si_bipush S dX7_init_5 (by decide) ?_
  refine sc_newa S hK hV (S.2.2.2.2 _ (List.mem_of_getElem? (i := 4) rfl)) (N0 := 61) ⟨rfl, Nat.le_of_ble_eq_true rfl⟩ ⟨Nat.le_of_ble_eq_true rfl, Nat.le_of_ble_eq_true rfl⟩ dX7_init_7 (fun M1 H locs hM1 hV => ?_)
  have hc2 : M1 (k + 1) = some (sArr G 61 (fun _ => 0)) := (congrFun hM1 (k + 1)).trans (va_up_self M (k + 1) _)
  have hc3 : M1 k = some (sObj 5 [.null, .null, .int (sI 0)]) := ((congrFun hM1 k).trans (va_up_ne M _ (by omega))).trans hk0
  refine sc_putF (ci := 5) (C := RX7) (T := TX7) (n := 3) S hK hV inX7_ tyX7_ok nmX7 hc3 rfl 0 (by decide) (S.2.2.2.2 _ (List.mem_of_getElem? (i := 5) rfl)) rfl rfl hnm rfl rfl rfl (Nat.le_of_ble_eq_true rfl) dX7_init_9 (fs1 := [.ref (k + 1), .null, .int (sI 0)]) rfl (fun M4 H locs hM4 hV => ?_)
  have hc5 : M4 k = some (sObj 5 [.ref (k + 1), .null, .int (sI 0)]) := (congrFun hM4 k).trans (va_up_self M1 k _)
  refine lv_aload_n hx_ hb_ dX7_init_12 rfl (lv_at hl 0 rfl) ?_
  refine si_bipush S dX7_init_13 (by decide) ?_
  refine sc_newa S hK hV (S.2.2.2.2 _ (List.mem_of_getElem? (i := 4) rfl)) (N0 := 61) ⟨rfl, Nat.le_of_ble_eq_true rfl⟩ ⟨Nat.le_of_ble_eq_true rfl, Nat.le_of_ble_eq_true rfl⟩ dX7_init_15 (fun M6 H locs hM6 hV => ?_)
  have hc7 : M6 (k + 2) = some (sArr G 61 (fun _ => 0)) := (congrFun hM6 (k + 2)).trans (va_up_self M4 (k + 2) _)
  have hc8 : M6 k = some (sObj 5 [.ref (k + 1), .null, .int (sI 0)]) := ((congrFun hM6 k).trans (va_up_ne M4 _ (by omega))).trans hc5
  refine sc_putF (ci := 5) (C := RX7) (T := TX7) (n := 3) S hK hV inX7_ tyX7_ok nmX7 hc8 rfl 1 (by decide) (S.2.2.2.2 _ (List.mem_of_getElem? (i := 6) rfl)) rfl rfl hnm rfl rfl rfl (Nat.le_of_ble_eq_true rfl) dX7_init_17 (fs1 := [.ref (k + 1), .ref (k + 2), .int (sI 0)]) rfl (fun M9 H locs hM9 hV => ?_)
  have hc10 : M9 k = some (sObj 5 [.ref (k + 1), .ref (k + 2), .int (sI 0)]) := (congrFun hM9 k).trans (va_up_self M6 k _)
  refine lv_aload_n hx_ hb_ dX7_init_20 rfl (lv_at hl 0 rfl) ?_
  refine si_const S dX7_init_21 ?_
  refine sc_put (ci := 5) (C := RX7) (T := TX7) (n := 3) S hK hV inX7_ tyX7_ok nmX7 hc10 rfl 2 (by decide) (S.2.2.2.2 _ (List.mem_of_getElem? (i := 7) rfl)) rfl rfl rfl rfl (Nat.le_of_ble_eq_true rfl) dX7_init_22 (fs1 := [.ref (k + 1), .ref (k + 2), .int (sI 0)]) rfl (fun M11 H locs hM11 hV => ?_)
  have hc12 : M11 k = some (sObj 5 [.ref (k + 1), .ref (k + 2), .int (sI 0)]) := (congrFun hM11 k).trans (va_up_self M9 k _)
  have hc13 : M11 (k + 1) = some (sArr G 61 (fun _ => 0)) := (((((congrFun hM11 (k + 1)).trans (va_up_ne M9 _ (by omega))).trans ((congrFun hM9 (k + 1)).trans (va_up_ne M6 _ (by omega)))).trans ((congrFun hM6 (k + 1)).trans (va_up_ne M4 _ (by omega)))).trans ((congrFun hM4 (k + 1)).trans (va_up_ne M1 _ (by omega)))).trans hc2
  have hc14 : M11 (k + 2) = some (sArr G 61 (fun _ => 0)) := (((congrFun hM11 (k + 2)).trans (va_up_ne M9 _ (by omega))).trans ((congrFun hM9 (k + 2)).trans (va_up_ne M6 _ (by omega)))).trans hc7
  exact sr_v E hQ dX7_init_25 ⟨Nat.le_of_ble_eq_true rfl, Nat.le_of_ble_eq_true rfl⟩ hV (⟨by omega, hc12, hc13, hc14, fun x q0 q1 q2 => (((((congrFun hM11 x).trans (va_up_ne M9 _ (by omega))).trans ((congrFun hM9 x).trans (va_up_ne M6 _ (by omega)))).trans ((congrFun hM6 x).trans (va_up_ne M4 _ (by omega)))).trans ((congrFun hM4 x).trans (va_up_ne M1 _ (by omega)))).trans ((congrFun hM1 x).trans (va_up_ne M _ (by omega)))⟩)

abbrev rmX7_size : Room := { frames := 1, cells := 0, slots := 0, locals := 40 }
set_option maxHeartbeats 4000000 in
set_option maxRecDepth 100000 in
theorem kX7_size (l_ : Launch) (G : sG) (b_ : Nat) (M : sM) (N : Nat) (k : Nat) (c : Int) (hk0 : M k = some (sObj 5 [.ref (k + 1), .ref (k + 2), .int (sI c)])) : cP l_ yX7_size wsX7_size rmX7_size G b_ M N [.ref k] c := by
  refine sE.ofI (cc := cX7_size) (nL := 1) (ret := (some .int)) (by decide) rfl (Nat.le_of_ble_eq_true rfl) ?_
  intro p_ e_ s_ m_ args_ below_ meth_ c_ ls Q hQ E hl
  have E : sE p_ l_ e_ rmX7_size s_ m_ args_ below_ meth_ c_ cX7_size 1 wsX7_size RX7 "size" (some .int) G b_ M N := E
  have S := E.1
  have hx_ := S.1
  have hb_ := S.2.1
  have hK := E.2.2.2.2.1
  have hV := E.2.2.2.2.2.2
  have hl : lv_has ls 1 [(0, .ref k)] := hl
  have inX7_ : ∀ w ∈ wsX70, w ∈ wsX7_size := fun _ h => List.mem_cons_of_mem _ (List.mem_append_right _ h)
  refine lv_aload_n hx_ hb_ dX7_size_0 rfl (lv_at hl 0 rfl) ?_
  refine sc_get (ci := 5) (C := RX7) (T := TX7) (n := 3) S hK hV inX7_ hk0 rfl 2 (by decide) (S.2.2.2.2 _ (List.mem_of_getElem? (i := 1) rfl)) rfl rfl dX7_size_1 ?_
  exact sr_i E hQ dX7_size_4 ⟨Nat.le_of_ble_eq_true rfl, Nat.le_of_ble_eq_true rfl⟩ hV (⟨rfl, rfl, rfl⟩)

abbrev rmX7_handOf : Room := { frames := 1, cells := 0, slots := 0, locals := 40 }
set_option maxHeartbeats 4000000 in
set_option maxRecDepth 100000 in
theorem kX7_handOf (l_ : Launch) (G : sG) (b_ : Nat) (M : sM) (N : Nat) (k : Nat) (c : Int) (Hn : sF) (q : Int) (hk0 : M k = some (sObj 5 [.ref (k + 1), .ref (k + 2), .int (sI c)])) (hk2 : M (k + 2) = some (sArr G 61 Hn)) (hq : 0 ≤ q ∧ q < c ∧ c ≤ 61) : cP l_ yX7_handOf wsX7_handOf rmX7_handOf G b_ M N [.ref k, .int (sI q)] (Hn q) := by
  refine sE.ofI (cc := cX7_handOf) (nL := 2) (ret := (some .int)) (by decide) rfl (Nat.le_of_ble_eq_true rfl) ?_
  intro p_ e_ s_ m_ args_ below_ meth_ c_ ls Q hQ E hl
  have E : sE p_ l_ e_ rmX7_handOf s_ m_ args_ below_ meth_ c_ cX7_handOf 2 wsX7_handOf RX7 "handOf" (some .int) G b_ M N := E
  have S := E.1
  have hx_ := S.1
  have hb_ := S.2.1
  have hK := E.2.2.2.2.1
  have hV := E.2.2.2.2.2.2
  have hl : lv_has ls 2 [(0, .ref k), (1, .int (sI q))] := hl
  have inX7_ : ∀ w ∈ wsX70, w ∈ wsX7_handOf := fun _ h => List.mem_cons_of_mem _ (List.mem_append_right _ h)
  refine lv_iload_n hx_ hb_ dX7_handOf_0 rfl (lv_at hl 1 rfl) ?_
  refine sz_lt (tgt := 21) S dX7_handOf_1 (by decide) (by omega) (fun c1 => absurd c1 (by omega)) (fun _ => ?_)
  refine lv_iload_n hx_ hb_ dX7_handOf_4 rfl (lv_at hl 1 rfl) ?_
  refine lv_aload_n hx_ hb_ dX7_handOf_5 rfl (lv_at hl 0 rfl) ?_
  refine sc_get (ci := 5) (C := RX7) (T := TX7) (n := 3) S hK hV inX7_ hk0 rfl 2 (by decide) (S.2.2.2.2 _ (List.mem_of_getElem? (i := 1) rfl)) rfl rfl dX7_handOf_6 ?_
  refine sb_ge (tgt := 21) S dX7_handOf_9 (by decide) (by omega) (fun c2 => absurd c2 (by omega)) (fun _ => ?_)
  refine lv_aload_n hx_ hb_ dX7_handOf_12 rfl (lv_at hl 0 rfl) ?_
  refine sc_get (ci := 5) (C := RX7) (T := TX7) (n := 3) S hK hV inX7_ hk0 rfl 1 (by decide) (S.2.2.2.2 _ (List.mem_of_getElem? (i := 2) rfl)) rfl rfl dX7_handOf_13 ?_
  refine lv_iload_n hx_ hb_ dX7_handOf_16 rfl (lv_at hl 1 rfl) ?_
  refine sc_iald S hK hV hk2 (by omega) dX7_handOf_17 ?_
  refine lv_goto (tgt := 22) hx_ hb_ dX7_handOf_18 (by decide) ?_
  exact sr_i E hQ dX7_handOf_22 ⟨Nat.le_of_ble_eq_true rfl, Nat.le_of_ble_eq_true rfl⟩ hV (⟨rfl, rfl, rfl⟩)

abbrev rmX7_firstOf : Room := { frames := 1, cells := 0, slots := 0, locals := 40 }
set_option maxHeartbeats 4000000 in
set_option maxRecDepth 100000 in
theorem kX7_firstOf (l_ : Launch) (G : sG) (b_ : Nat) (M : sM) (N : Nat) (k : Nat) (c : Int) (F : sF) (q : Int) (hk0 : M k = some (sObj 5 [.ref (k + 1), .ref (k + 2), .int (sI c)])) (hk1 : M (k + 1) = some (sArr G 61 F)) (hq : 0 ≤ q ∧ q < c ∧ c ≤ 61) : cP l_ yX7_firstOf wsX7_firstOf rmX7_firstOf G b_ M N [.ref k, .int (sI q)] (F q) := by
  refine sE.ofI (cc := cX7_firstOf) (nL := 2) (ret := (some .int)) (by decide) rfl (Nat.le_of_ble_eq_true rfl) ?_
  intro p_ e_ s_ m_ args_ below_ meth_ c_ ls Q hQ E hl
  have E : sE p_ l_ e_ rmX7_firstOf s_ m_ args_ below_ meth_ c_ cX7_firstOf 2 wsX7_firstOf RX7 "firstOf" (some .int) G b_ M N := E
  have S := E.1
  have hx_ := S.1
  have hb_ := S.2.1
  have hK := E.2.2.2.2.1
  have hV := E.2.2.2.2.2.2
  have hl : lv_has ls 2 [(0, .ref k), (1, .int (sI q))] := hl
  have inX7_ : ∀ w ∈ wsX70, w ∈ wsX7_firstOf := fun _ h => List.mem_cons_of_mem _ (List.mem_append_right _ h)
  refine lv_iload_n hx_ hb_ dX7_firstOf_0 rfl (lv_at hl 1 rfl) ?_
  refine sz_lt (tgt := 21) S dX7_firstOf_1 (by decide) (by omega) (fun c1 => absurd c1 (by omega)) (fun _ => ?_)
  refine lv_iload_n hx_ hb_ dX7_firstOf_4 rfl (lv_at hl 1 rfl) ?_
  refine lv_aload_n hx_ hb_ dX7_firstOf_5 rfl (lv_at hl 0 rfl) ?_
  refine sc_get (ci := 5) (C := RX7) (T := TX7) (n := 3) S hK hV inX7_ hk0 rfl 2 (by decide) (S.2.2.2.2 _ (List.mem_of_getElem? (i := 1) rfl)) rfl rfl dX7_firstOf_6 ?_
  refine sb_ge (tgt := 21) S dX7_firstOf_9 (by decide) (by omega) (fun c2 => absurd c2 (by omega)) (fun _ => ?_)
  refine lv_aload_n hx_ hb_ dX7_firstOf_12 rfl (lv_at hl 0 rfl) ?_
  refine sc_get (ci := 5) (C := RX7) (T := TX7) (n := 3) S hK hV inX7_ hk0 rfl 0 (by decide) (S.2.2.2.2 _ (List.mem_of_getElem? (i := 2) rfl)) rfl rfl dX7_firstOf_13 ?_
  refine lv_iload_n hx_ hb_ dX7_firstOf_16 rfl (lv_at hl 1 rfl) ?_
  refine sc_iald S hK hV hk1 (by omega) dX7_firstOf_17 ?_
  refine lv_goto (tgt := 22) hx_ hb_ dX7_firstOf_18 (by decide) ?_
  exact sr_i E hQ dX7_firstOf_22 ⟨Nat.le_of_ble_eq_true rfl, Nat.le_of_ble_eq_true rfl⟩ hV (⟨rfl, rfl, rfl⟩)

abbrev rmX7_isKnown : Room := { frames := 2, cells := 0, slots := 0, locals := 63 }
set_option maxHeartbeats 4000000 in
set_option maxRecDepth 100000 in
theorem kX7_isKnown (l_ : Launch) (G : sG) (b_ : Nat) (M : sM) (N : Nat) (t : Nat) (f : sF) (n z : Int) (ht : stK G M t 5 (f 570) 300 (tvT f)) (hok : sOk f) (hn : 0 ≤ n ∧ n < f 570) (hz : sR z) : cP l_ yX7_isKnown wsX7_isKnown rmX7_isKnown G b_ M N [.ref t, .int (sI n), .int (sI z)] (bI (knP f n z)) := by
  refine sE.ofI (cc := cX7_isKnown) (nL := 4) (ret := (some .boolean)) (by decide) rfl (Nat.le_of_ble_eq_true rfl) ?_
  intro p_ e_ s_ m_ args_ below_ meth_ c_ ls Q hQ E hl
  have E : sE p_ l_ e_ rmX7_isKnown s_ m_ args_ below_ meth_ c_ cX7_isKnown 4 wsX7_isKnown RX7 "isKnown" (some .boolean) G b_ M N := E
  have S := E.1
  have hx_ := S.1
  have hb_ := S.2.1
  have hK := E.2.2.2.2.1
  have hV := E.2.2.2.2.2.2
  have hl : lv_has ls 4 [(0, .ref t), (1, .int (sI n)), (2, .int (sI z))] := hl
  have inX8_ : ∀ w ∈ wsX80, w ∈ wsX7_isKnown := fun _ h => List.mem_cons_of_mem _ (List.mem_append_right _ h)
  have kn0 := sOk_N hok
  have hT := sOk_T hok n hn.1 hn.2
  have htk : (takn (f (404 + n)) = -1 ↔ f (404 + n) = 0) ∧ (f (404 + n) ≠ 0 → takn (f (404 + n)) = f (404 + n)) ∧ -1 ≤ takn (f (404 + n)) ∧ takn (f (404 + n)) ≤ 1000 := by unfold takn; split <;> omega
  refine lv_aload_n hx_ hb_ dX7_isKnown_0 rfl (lv_at hl 0 rfl) ?_
  refine lv_iload_n hx_ hb_ dX7_isKnown_1 rfl (lv_at hl 1 rfl) ?_
  refine si_const S dX7_isKnown_2 ?_
  refine sk_VP E hV (As := [.int (sI n), .int (sI 4)]) (rest := []) (kTg l_ G b_ M N t 5 (f 570) 300 (tvT f) n 4 (takn (f (404 + n))) ht (by omega) (by omega) (tvT_4 f n)) (cwV 2 S.2.2.2.2 gX7_isKnown_X8_get rfl rfl rfl (by decide +kernel) ⟨Nat.le_of_ble_eq_true rfl, Nat.le_of_ble_eq_true rfl⟩) (ci := 6) (ht).1 rfl rfl rfl hl.1 (Nat.le_of_ble_eq_true rfl) dX7_isKnown_3 (c1 := 0) (s1 := 0) ⟨⟨rfl, rfl⟩, by decide, by decide⟩ (fun H locs hV => ?_)
  refine lv_istore_n (lv' := [(3, .int (sI (takn (f (404 + n))))), (0, .ref t), (1, .int (sI n)), (2, .int (sI z))]) hx_ hb_ dX7_isKnown_6 rfl hl (by decide) rfl (fun ls hl => ?_)
  refine lv_aload_n hx_ hb_ dX7_isKnown_7 rfl (lv_at hl 1 rfl) ?_
  refine lv_iload_n hx_ hb_ dX7_isKnown_8 rfl (lv_at hl 2 rfl) ?_
  refine si_const S dX7_isKnown_9 ?_
  refine sk_VP E hV (As := [.int (sI n), .int (sI 3)]) (rest := []) (kTg l_ G b_ M N t 5 (f 570) 300 (tvT f) n 3 (f (344 + n)) ht (by omega) (by omega) (tvT_3 f n)) (cwV 2 S.2.2.2.2 gX7_isKnown_X8_get rfl rfl rfl (by decide +kernel) ⟨Nat.le_of_ble_eq_true rfl, Nat.le_of_ble_eq_true rfl⟩) (ci := 6) (ht).1 rfl rfl rfl hl.1 (Nat.le_of_ble_eq_true rfl) dX7_isKnown_10 (c1 := 0) (s1 := 0) ⟨⟨rfl, rfl⟩, by decide, by decide⟩ (fun H locs hV => ?_)
  have kn1 : 1 ≤ f (344 + n) ∧ f (344 + n) ≤ f 571 := (sOk_T hok n (by omega) (by omega)).2.2.2.1
  refine lv_iload_n hx_ hb_ dX7_isKnown_13 rfl (lv_at hl 3 rfl) ?_
  refine sb_gt (tgt := 31) S dX7_isKnown_14 (by decide) (by omega) (fun c2 => ?_) (fun c2 => ?_)
  · refine si_const S dX7_isKnown_31 ?_
    exact sr_z E hQ (Or.inl rfl) dX7_isKnown_32 ⟨Nat.le_of_ble_eq_true rfl, Nat.le_of_ble_eq_true rfl⟩ hV (⟨(bI_f (by unfold knP; omega)).symm, rfl, rfl⟩)
  · refine lv_iload_n hx_ hb_ dX7_isKnown_17 rfl (lv_at hl 0 rfl) ?_
    refine si_const S dX7_isKnown_18 ?_
    refine sb_eq (tgt := 27) S dX7_isKnown_19 (by decide) (by omega) (fun c3 => ?_) (fun c3 => ?_)
    · refine si_const S dX7_isKnown_27 ?_
      refine lv_goto (tgt := 32) hx_ hb_ dX7_isKnown_28 (by decide) ?_
      exact sr_z E hQ (Or.inr rfl) dX7_isKnown_32 ⟨Nat.le_of_ble_eq_true rfl, Nat.le_of_ble_eq_true rfl⟩ hV (⟨(bI_t (by unfold knP; omega)).symm, rfl, rfl⟩)
    · refine lv_iload_n hx_ hb_ dX7_isKnown_22 rfl (lv_at hl 0 rfl) ?_
      refine lv_iload_n hx_ hb_ dX7_isKnown_23 rfl (lv_at hl 3 rfl) ?_
      refine sb_le (tgt := 31) S dX7_isKnown_24 (by decide) (by omega) (fun c4 => ?_) (fun c4 => ?_)
      · refine si_const S dX7_isKnown_31 ?_
        exact sr_z E hQ (Or.inl rfl) dX7_isKnown_32 ⟨Nat.le_of_ble_eq_true rfl, Nat.le_of_ble_eq_true rfl⟩ hV (⟨(bI_f (by unfold knP; omega)).symm, rfl, rfl⟩)
      · refine si_const S dX7_isKnown_27 ?_
        refine lv_goto (tgt := 32) hx_ hb_ dX7_isKnown_28 (by decide) ?_
        exact sr_z E hQ (Or.inr rfl) dX7_isKnown_32 ⟨Nat.le_of_ble_eq_true rfl, Nat.le_of_ble_eq_true rfl⟩ hV (⟨(bI_t (by unfold knP; omega)).symm, rfl, rfl⟩)

abbrev rmX7_insert : Room := { frames := 1, cells := 0, slots := 0, locals := 40 }
set_option maxHeartbeats 4000000 in
set_option maxRecDepth 100000 in
theorem kX7_insert (l_ : Launch) (G : sG) (b_ : Nat) (M : sM) (N : Nat) (k : Nat) (c : Int) (F Hn : sF) (d h : Int) (f : sF) (s t i : Int) (hk0 : M k = some (sObj 5 [.ref (k + 1), .ref (k + 2), .int (sI c)])) (hk1 : M (k + 1) = some (sArr G 61 F)) (hk2 : M (k + 2) = some (sArr G 61 Hn)) (hok : sOk f) (hst : stI f s t i c F Hn) (hi : 0 ≤ i ∧ i < f 570) (hd : d = dat (f (224 + i)) ∧ h = f (284 + i) ∧ f (164 + i) = s ∧ knP f i t) : cV l_ yX7_insert wsX7_insert rmX7_insert G b_ M N [.ref k, .int (sI d), .int (sI h)] (fun M1 N1 => ∃ c9 : Int, ∃ F9 : Int → Int, ∃ H9 : Int → Int, N1 = N ∧ M1 k = some (sObj 5 [.ref (k + 1), .ref (k + 2), .int (sI c9)]) ∧ M1 (k + 1) = some (sArr G 61 F9) ∧ M1 (k + 2) = some (sArr G 61 H9) ∧ (∀ x : Nat, ¬ (x = k) → ¬ (x = k + 1) → ¬ (x = k + 2) → M1 x = M x) ∧ (stI f s t (i + 1) c9 F9 H9)) := by
  refine sE.ofV (cc := cX7_insert) (nL := 4) (ret := none) (by decide) rfl (Nat.le_of_ble_eq_true rfl) ?_
  intro p_ e_ s_ m_ args_ below_ meth_ c_ ls Q hQ E hl
  have E : sE p_ l_ e_ rmX7_insert s_ m_ args_ below_ meth_ c_ cX7_insert 4 wsX7_insert RX7 "insert" none G b_ M N := E
  have S := E.1
  have hx_ := S.1
  have hb_ := S.2.1
  have hK := E.2.2.2.2.1
  have hV := E.2.2.2.2.2.2
  have hl : lv_has ls 4 [(0, .ref k), (1, .int (sI d)), (2, .int (sI h))] := hl
  have inX7_ : ∀ w ∈ wsX70, w ∈ wsX7_insert := fun _ h => List.mem_cons_of_mem _ (List.mem_append_right _ h)
  have kn0 := sOk_N hok
  have hT := sOk_T hok i hi.1 hi.2
  have hdd : isDt d ∧ dayI d + 3652 = f (224 + i) := by rw [hd.1]; exact hT.2.1
  have hc1 := hst.1
  refine lv_aload_n hx_ hb_ dX7_insert_0 rfl (lv_at hl 0 rfl) ?_
  refine sc_get (ci := 5) (C := RX7) (T := TX7) (n := 3) S hK hV inX7_ hk0 rfl 2 (by decide) (S.2.2.2.2 _ (List.mem_of_getElem? (i := 1) rfl)) rfl rfl dX7_insert_1 ?_
  refine lv_istore_n (lv' := [(3, .int (sI c)), (0, .ref k), (1, .int (sI d)), (2, .int (sI h))]) hx_ hb_ dX7_insert_4 rfl hl (by decide) rfl (fun ls hl => ?_)
  have L5 : ∀ (fuel : Nat) (p : Int)  (H : Heap) (locs : List Loc) (ls : Array Slot), (p.toNat) < fuel → (1 ≤ p ∧ p ≤ c) → (∀ j, p ≤ j → j < c → d ≤ F j) → sV G b_ M N s_ H locs → lv_has ls 4 [(0, .ref k), (1, .int (sI d)), (2, .int (sI h)), (3, .int (sI p))] → W p_ l_ e_ rmX7_insert s_ m_ args_ below_ meth_ c_ H locs 0 0 Q (F0 m_ 5 ls []) := by
    intro fuel
    induction fuel with
    | zero => intro p H locs ls hmu; exact absurd hmu (Nat.not_lt_zero _)
    | succ fuel ih5 =>
      intro p H locs ls hmu5 hv5_0 hp  hV hl
      refine lv_iload_n hx_ hb_ dX7_insert_5 rfl (lv_at hl 3 rfl) ?_
      refine si_const S dX7_insert_6 ?_
      refine sb_le (tgt := 28) S dX7_insert_7 (by decide) (by omega) (fun c1 => ?_) (fun c1 => ?_)
      · refine lv_iload_n hx_ hb_ dX7_insert_28 rfl (lv_at hl 3 rfl) ?_
        refine lv_aload_n hx_ hb_ dX7_insert_29 rfl (lv_at hl 0 rfl) ?_
        refine sc_get (ci := 5) (C := RX7) (T := TX7) (n := 3) S hK hV inX7_ hk0 rfl 2 (by decide) (S.2.2.2.2 _ (List.mem_of_getElem? (i := 1) rfl)) rfl rfl dX7_insert_30 ?_
        refine sb_ge (tgt := 56) S dX7_insert_33 (by decide) (by omega) (fun c2 => ?_) (fun c2 => ?_)
        · refine lv_aload_n hx_ hb_ dX7_insert_56 rfl (lv_at hl 0 rfl) ?_
          refine sc_get (ci := 5) (C := RX7) (T := TX7) (n := 3) S hK hV inX7_ hk0 rfl 2 (by decide) (S.2.2.2.2 _ (List.mem_of_getElem? (i := 1) rfl)) rfl rfl dX7_insert_57 ?_
          refine lv_aload_n hx_ hb_ dX7_insert_60 rfl (lv_at hl 0 rfl) ?_
          refine sc_get (ci := 5) (C := RX7) (T := TX7) (n := 3) S hK hV inX7_ hk0 rfl 0 (by decide) (S.2.2.2.2 _ (List.mem_of_getElem? (i := 2) rfl)) rfl rfl dX7_insert_61 ?_
          refine sc_alen S hK hV 0 hk1 rfl dX7_insert_64 ?_
          rw [show ((61 : Nat) : Int) = 61 from rfl]
          refine sb_ge (tgt := 134) S dX7_insert_65 (by decide) (by omega) (fun c3 => absurd c3 (by omega)) (fun _ => ?_)
          refine lv_aload_n hx_ hb_ dX7_insert_68 rfl (lv_at hl 0 rfl) ?_
          refine sc_get (ci := 5) (C := RX7) (T := TX7) (n := 3) S hK hV inX7_ hk0 rfl 0 (by decide) (S.2.2.2.2 _ (List.mem_of_getElem? (i := 2) rfl)) rfl rfl dX7_insert_69 ?_
          refine lv_iload_n hx_ hb_ dX7_insert_72 rfl (lv_at hl 3 rfl) ?_
          refine lv_aload_n hx_ hb_ dX7_insert_73 rfl (lv_at hl 0 rfl) ?_
          refine sc_get (ci := 5) (C := RX7) (T := TX7) (n := 3) S hK hV inX7_ hk0 rfl 0 (by decide) (S.2.2.2.2 _ (List.mem_of_getElem? (i := 2) rfl)) rfl rfl dX7_insert_74 ?_
          refine lv_iload_n hx_ hb_ dX7_insert_77 rfl (lv_at hl 3 rfl) ?_
          refine si_const S dX7_insert_78 ?_
          refine si_add S dX7_insert_79 ?_
          refine lv_aload_n hx_ hb_ dX7_insert_80 rfl (lv_at hl 0 rfl) ?_
          refine sc_get (ci := 5) (C := RX7) (T := TX7) (n := 3) S hK hV inX7_ hk0 rfl 2 (by decide) (S.2.2.2.2 _ (List.mem_of_getElem? (i := 1) rfl)) rfl rfl dX7_insert_81 ?_
          refine lv_iload_n hx_ hb_ dX7_insert_84 rfl (lv_at hl 3 rfl) ?_
          refine si_sub S dX7_insert_85 ?_
          refine sc_copy S hK hV hl.1 (S.2.2.2.2 _ (List.mem_of_getElem? (i := 4) rfl)) (S.2.2.2.2 _ (List.mem_of_getElem? (i := 5) rfl)) (S.2.2.2.2 _ (List.mem_of_getElem? (i := 6) rfl)) (S.2.2.2.2 _ (List.mem_of_getElem? (i := 7) rfl)) hk1 hk1 (sp := p) (dp := p + 1) (n := c - p) (by omega) ⟨by decide, Nat.le_of_ble_eq_true rfl⟩ dX7_insert_86 (fun M4 H locs hM4 hV => ?_)
          have hc5 : M4 (k + 1) = some (sArr G 61 (icpy F F p (p + 1) (c - p))) := (congrFun hM4 (k + 1)).trans (va_up_self M (k + 1) _)
          refine lv_aload_n hx_ hb_ dX7_insert_89 rfl (lv_at hl 0 rfl) ?_
          have hc6 : M4 k = some (sObj 5 [.ref (k + 1), .ref (k + 2), .int (sI c)]) := ((congrFun hM4 k).trans (va_up_ne M _ (by omega))).trans hk0
          refine sc_get (ci := 5) (C := RX7) (T := TX7) (n := 3) S hK hV inX7_ hc6 rfl 1 (by decide) (S.2.2.2.2 _ (List.mem_of_getElem? (i := 3) rfl)) rfl rfl dX7_insert_90 ?_
          refine lv_iload_n hx_ hb_ dX7_insert_93 rfl (lv_at hl 3 rfl) ?_
          refine lv_aload_n hx_ hb_ dX7_insert_94 rfl (lv_at hl 0 rfl) ?_
          refine sc_get (ci := 5) (C := RX7) (T := TX7) (n := 3) S hK hV inX7_ hc6 rfl 1 (by decide) (S.2.2.2.2 _ (List.mem_of_getElem? (i := 3) rfl)) rfl rfl dX7_insert_95 ?_
          refine lv_iload_n hx_ hb_ dX7_insert_98 rfl (lv_at hl 3 rfl) ?_
          refine si_const S dX7_insert_99 ?_
          refine si_add S dX7_insert_100 ?_
          refine lv_aload_n hx_ hb_ dX7_insert_101 rfl (lv_at hl 0 rfl) ?_
          refine sc_get (ci := 5) (C := RX7) (T := TX7) (n := 3) S hK hV inX7_ hc6 rfl 2 (by decide) (S.2.2.2.2 _ (List.mem_of_getElem? (i := 1) rfl)) rfl rfl dX7_insert_102 ?_
          refine lv_iload_n hx_ hb_ dX7_insert_105 rfl (lv_at hl 3 rfl) ?_
          refine si_sub S dX7_insert_106 ?_
          have hc7 : M4 (k + 2) = some (sArr G 61 Hn) := ((congrFun hM4 (k + 2)).trans (va_up_ne M _ (by omega))).trans hk2
          refine sc_copy S hK hV hl.1 (S.2.2.2.2 _ (List.mem_of_getElem? (i := 4) rfl)) (S.2.2.2.2 _ (List.mem_of_getElem? (i := 5) rfl)) (S.2.2.2.2 _ (List.mem_of_getElem? (i := 6) rfl)) (S.2.2.2.2 _ (List.mem_of_getElem? (i := 7) rfl)) hc7 hc7 (sp := p) (dp := p + 1) (n := c - p) (by omega) ⟨by decide, Nat.le_of_ble_eq_true rfl⟩ dX7_insert_107 (fun M8 H locs hM8 hV => ?_)
          have hc9 : M8 (k + 2) = some (sArr G 61 (icpy Hn Hn p (p + 1) (c - p))) := (congrFun hM8 (k + 2)).trans (va_up_self M4 (k + 2) _)
          refine lv_aload_n hx_ hb_ dX7_insert_110 rfl (lv_at hl 0 rfl) ?_
          have hc10 : M8 k = some (sObj 5 [.ref (k + 1), .ref (k + 2), .int (sI c)]) := ((congrFun hM8 k).trans (va_up_ne M4 _ (by omega))).trans hc6
          refine sc_get (ci := 5) (C := RX7) (T := TX7) (n := 3) S hK hV inX7_ hc10 rfl 0 (by decide) (S.2.2.2.2 _ (List.mem_of_getElem? (i := 2) rfl)) rfl rfl dX7_insert_111 ?_
          refine lv_iload_n hx_ hb_ dX7_insert_114 rfl (lv_at hl 3 rfl) ?_
          refine lv_iload_n hx_ hb_ dX7_insert_115 rfl (lv_at hl 1 rfl) ?_
          have hc11 : M8 (k + 1) = some (sArr G 61 (icpy F F p (p + 1) (c - p))) := ((congrFun hM8 (k + 1)).trans (va_up_ne M4 _ (by omega))).trans hc5
          refine sc_iast S hK hV hc11 (by omega) dX7_insert_116 (fun M12 H locs hM12 hV => ?_)
          have hc13 : M12 (k + 1) = some (sArr G 61 (iup (icpy F F p (p + 1) (c - p)) p d)) := (congrFun hM12 (k + 1)).trans (va_up_self M8 (k + 1) _)
          refine lv_aload_n hx_ hb_ dX7_insert_117 rfl (lv_at hl 0 rfl) ?_
          have hc14 : M12 k = some (sObj 5 [.ref (k + 1), .ref (k + 2), .int (sI c)]) := ((congrFun hM12 k).trans (va_up_ne M8 _ (by omega))).trans hc10
          refine sc_get (ci := 5) (C := RX7) (T := TX7) (n := 3) S hK hV inX7_ hc14 rfl 1 (by decide) (S.2.2.2.2 _ (List.mem_of_getElem? (i := 3) rfl)) rfl rfl dX7_insert_118 ?_
          refine lv_iload_n hx_ hb_ dX7_insert_121 rfl (lv_at hl 3 rfl) ?_
          refine lv_iload_n hx_ hb_ dX7_insert_122 rfl (lv_at hl 2 rfl) ?_
          have hc15 : M12 (k + 2) = some (sArr G 61 (icpy Hn Hn p (p + 1) (c - p))) := ((congrFun hM12 (k + 2)).trans (va_up_ne M8 _ (by omega))).trans hc9
          refine sc_iast S hK hV hc15 (by omega) dX7_insert_123 (fun M16 H locs hM16 hV => ?_)
          have hc17 : M16 (k + 2) = some (sArr G 61 (iup (icpy Hn Hn p (p + 1) (c - p)) p h)) := (congrFun hM16 (k + 2)).trans (va_up_self M12 (k + 2) _)
          refine lv_aload_n hx_ hb_ dX7_insert_124 rfl (lv_at hl 0 rfl) ?_
          refine lv_dup hx_ hb_ dX7_insert_125 rfl ?_
          have hc18 : M16 k = some (sObj 5 [.ref (k + 1), .ref (k + 2), .int (sI c)]) := ((congrFun hM16 k).trans (va_up_ne M12 _ (by omega))).trans hc14
          refine sc_get (ci := 5) (C := RX7) (T := TX7) (n := 3) S hK hV inX7_ hc18 rfl 2 (by decide) (S.2.2.2.2 _ (List.mem_of_getElem? (i := 1) rfl)) rfl rfl dX7_insert_126 ?_
          refine si_const S dX7_insert_129 ?_
          refine si_add S dX7_insert_130 ?_
          refine sc_put (ci := 5) (C := RX7) (T := TX7) (n := 3) S hK hV inX7_ tyX7_ok nmX7 hc18 rfl 2 (by decide) (S.2.2.2.2 _ (List.mem_of_getElem? (i := 1) rfl)) rfl rfl rfl rfl (Nat.le_of_ble_eq_true rfl) dX7_insert_131 (fs1 := [.ref (k + 1), .ref (k + 2), .int (sI (c + 1))]) rfl (fun M19 H locs hM19 hV => ?_)
          have hc20 : M19 k = some (sObj 5 [.ref (k + 1), .ref (k + 2), .int (sI (c + 1))]) := (congrFun hM19 k).trans (va_up_self M16 k _)
          have hc21 : M19 (k + 1) = some (sArr G 61 (iup (icpy F F p (p + 1) (c - p)) p d)) := (((congrFun hM19 (k + 1)).trans (va_up_ne M16 _ (by omega))).trans ((congrFun hM16 (k + 1)).trans (va_up_ne M12 _ (by omega)))).trans hc13
          have hc22 : M19 (k + 2) = some (sArr G 61 (iup (icpy Hn Hn p (p + 1) (c - p)) p h)) := ((congrFun hM19 (k + 2)).trans (va_up_ne M16 _ (by omega))).trans hc17
          exact sr_v E hQ dX7_insert_134 ⟨Nat.le_of_ble_eq_true rfl, Nat.le_of_ble_eq_true rfl⟩ hV (⟨(c + 1), (iup (icpy F F p (p + 1) (c - p)) p d), (iup (icpy Hn Hn p (p + 1) (c - p)) p h), rfl, hc20, hc21, hc22, fun x q0 q1 q2 => (((((congrFun hM19 x).trans (va_up_ne M16 _ (by omega))).trans ((congrFun hM16 x).trans (va_up_ne M12 _ (by omega)))).trans ((congrFun hM12 x).trans (va_up_ne M8 _ (by omega)))).trans ((congrFun hM8 x).trans (va_up_ne M4 _ (by omega)))).trans ((congrFun hM4 x).trans (va_up_ne M _ (by omega))), st_i (by omega) hst ⟨hd.2.2.1, hd.2.2.2⟩ hdd hd.2.1 (by omega) (by omega) (by omega) (fun j a b => by omega)⟩)
        · refine lv_aload_n hx_ hb_ dX7_insert_36 rfl (lv_at hl 0 rfl) ?_
          refine sc_get (ci := 5) (C := RX7) (T := TX7) (n := 3) S hK hV inX7_ hk0 rfl 0 (by decide) (S.2.2.2.2 _ (List.mem_of_getElem? (i := 2) rfl)) rfl rfl dX7_insert_37 ?_
          refine lv_iload_n hx_ hb_ dX7_insert_40 rfl (lv_at hl 3 rfl) ?_
          refine sc_iald S hK hV hk1 (by omega) dX7_insert_41 ?_
          have hFq := (hst.2.1.2.1 p (by omega) (by omega))
          refine lv_iload_n hx_ hb_ dX7_insert_42 rfl (lv_at hl 1 rfl) ?_
          refine sb_ne (tgt := 56) S dX7_insert_43 (by decide) (by omega) (fun c23 => ?_) (fun c23 => ?_)
          · refine lv_aload_n hx_ hb_ dX7_insert_56 rfl (lv_at hl 0 rfl) ?_
            refine sc_get (ci := 5) (C := RX7) (T := TX7) (n := 3) S hK hV inX7_ hk0 rfl 2 (by decide) (S.2.2.2.2 _ (List.mem_of_getElem? (i := 1) rfl)) rfl rfl dX7_insert_57 ?_
            refine lv_aload_n hx_ hb_ dX7_insert_60 rfl (lv_at hl 0 rfl) ?_
            refine sc_get (ci := 5) (C := RX7) (T := TX7) (n := 3) S hK hV inX7_ hk0 rfl 0 (by decide) (S.2.2.2.2 _ (List.mem_of_getElem? (i := 2) rfl)) rfl rfl dX7_insert_61 ?_
            refine sc_alen S hK hV 0 hk1 rfl dX7_insert_64 ?_
            rw [show ((61 : Nat) : Int) = 61 from rfl]
            refine sb_ge (tgt := 134) S dX7_insert_65 (by decide) (by omega) (fun c24 => absurd c24 (by omega)) (fun _ => ?_)
            refine lv_aload_n hx_ hb_ dX7_insert_68 rfl (lv_at hl 0 rfl) ?_
            refine sc_get (ci := 5) (C := RX7) (T := TX7) (n := 3) S hK hV inX7_ hk0 rfl 0 (by decide) (S.2.2.2.2 _ (List.mem_of_getElem? (i := 2) rfl)) rfl rfl dX7_insert_69 ?_
            refine lv_iload_n hx_ hb_ dX7_insert_72 rfl (lv_at hl 3 rfl) ?_
            refine lv_aload_n hx_ hb_ dX7_insert_73 rfl (lv_at hl 0 rfl) ?_
            refine sc_get (ci := 5) (C := RX7) (T := TX7) (n := 3) S hK hV inX7_ hk0 rfl 0 (by decide) (S.2.2.2.2 _ (List.mem_of_getElem? (i := 2) rfl)) rfl rfl dX7_insert_74 ?_
            refine lv_iload_n hx_ hb_ dX7_insert_77 rfl (lv_at hl 3 rfl) ?_
            refine si_const S dX7_insert_78 ?_
            refine si_add S dX7_insert_79 ?_
            refine lv_aload_n hx_ hb_ dX7_insert_80 rfl (lv_at hl 0 rfl) ?_
            refine sc_get (ci := 5) (C := RX7) (T := TX7) (n := 3) S hK hV inX7_ hk0 rfl 2 (by decide) (S.2.2.2.2 _ (List.mem_of_getElem? (i := 1) rfl)) rfl rfl dX7_insert_81 ?_
            refine lv_iload_n hx_ hb_ dX7_insert_84 rfl (lv_at hl 3 rfl) ?_
            refine si_sub S dX7_insert_85 ?_
            refine sc_copy S hK hV hl.1 (S.2.2.2.2 _ (List.mem_of_getElem? (i := 4) rfl)) (S.2.2.2.2 _ (List.mem_of_getElem? (i := 5) rfl)) (S.2.2.2.2 _ (List.mem_of_getElem? (i := 6) rfl)) (S.2.2.2.2 _ (List.mem_of_getElem? (i := 7) rfl)) hk1 hk1 (sp := p) (dp := p + 1) (n := c - p) (by omega) ⟨by decide, Nat.le_of_ble_eq_true rfl⟩ dX7_insert_86 (fun M25 H locs hM25 hV => ?_)
            have hc26 : M25 (k + 1) = some (sArr G 61 (icpy F F p (p + 1) (c - p))) := (congrFun hM25 (k + 1)).trans (va_up_self M (k + 1) _)
            refine lv_aload_n hx_ hb_ dX7_insert_89 rfl (lv_at hl 0 rfl) ?_
            have hc27 : M25 k = some (sObj 5 [.ref (k + 1), .ref (k + 2), .int (sI c)]) := ((congrFun hM25 k).trans (va_up_ne M _ (by omega))).trans hk0
            refine sc_get (ci := 5) (C := RX7) (T := TX7) (n := 3) S hK hV inX7_ hc27 rfl 1 (by decide) (S.2.2.2.2 _ (List.mem_of_getElem? (i := 3) rfl)) rfl rfl dX7_insert_90 ?_
            refine lv_iload_n hx_ hb_ dX7_insert_93 rfl (lv_at hl 3 rfl) ?_
            refine lv_aload_n hx_ hb_ dX7_insert_94 rfl (lv_at hl 0 rfl) ?_
            refine sc_get (ci := 5) (C := RX7) (T := TX7) (n := 3) S hK hV inX7_ hc27 rfl 1 (by decide) (S.2.2.2.2 _ (List.mem_of_getElem? (i := 3) rfl)) rfl rfl dX7_insert_95 ?_
            refine lv_iload_n hx_ hb_ dX7_insert_98 rfl (lv_at hl 3 rfl) ?_
            refine si_const S dX7_insert_99 ?_
            refine si_add S dX7_insert_100 ?_
            refine lv_aload_n hx_ hb_ dX7_insert_101 rfl (lv_at hl 0 rfl) ?_
            refine sc_get (ci := 5) (C := RX7) (T := TX7) (n := 3) S hK hV inX7_ hc27 rfl 2 (by decide) (S.2.2.2.2 _ (List.mem_of_getElem? (i := 1) rfl)) rfl rfl dX7_insert_102 ?_
            refine lv_iload_n hx_ hb_ dX7_insert_105 rfl (lv_at hl 3 rfl) ?_
            refine si_sub S dX7_insert_106 ?_
            have hc28 : M25 (k + 2) = some (sArr G 61 Hn) := ((congrFun hM25 (k + 2)).trans (va_up_ne M _ (by omega))).trans hk2
            refine sc_copy S hK hV hl.1 (S.2.2.2.2 _ (List.mem_of_getElem? (i := 4) rfl)) (S.2.2.2.2 _ (List.mem_of_getElem? (i := 5) rfl)) (S.2.2.2.2 _ (List.mem_of_getElem? (i := 6) rfl)) (S.2.2.2.2 _ (List.mem_of_getElem? (i := 7) rfl)) hc28 hc28 (sp := p) (dp := p + 1) (n := c - p) (by omega) ⟨by decide, Nat.le_of_ble_eq_true rfl⟩ dX7_insert_107 (fun M29 H locs hM29 hV => ?_)
            have hc30 : M29 (k + 2) = some (sArr G 61 (icpy Hn Hn p (p + 1) (c - p))) := (congrFun hM29 (k + 2)).trans (va_up_self M25 (k + 2) _)
            refine lv_aload_n hx_ hb_ dX7_insert_110 rfl (lv_at hl 0 rfl) ?_
            have hc31 : M29 k = some (sObj 5 [.ref (k + 1), .ref (k + 2), .int (sI c)]) := ((congrFun hM29 k).trans (va_up_ne M25 _ (by omega))).trans hc27
            refine sc_get (ci := 5) (C := RX7) (T := TX7) (n := 3) S hK hV inX7_ hc31 rfl 0 (by decide) (S.2.2.2.2 _ (List.mem_of_getElem? (i := 2) rfl)) rfl rfl dX7_insert_111 ?_
            refine lv_iload_n hx_ hb_ dX7_insert_114 rfl (lv_at hl 3 rfl) ?_
            refine lv_iload_n hx_ hb_ dX7_insert_115 rfl (lv_at hl 1 rfl) ?_
            have hc32 : M29 (k + 1) = some (sArr G 61 (icpy F F p (p + 1) (c - p))) := ((congrFun hM29 (k + 1)).trans (va_up_ne M25 _ (by omega))).trans hc26
            refine sc_iast S hK hV hc32 (by omega) dX7_insert_116 (fun M33 H locs hM33 hV => ?_)
            have hc34 : M33 (k + 1) = some (sArr G 61 (iup (icpy F F p (p + 1) (c - p)) p d)) := (congrFun hM33 (k + 1)).trans (va_up_self M29 (k + 1) _)
            refine lv_aload_n hx_ hb_ dX7_insert_117 rfl (lv_at hl 0 rfl) ?_
            have hc35 : M33 k = some (sObj 5 [.ref (k + 1), .ref (k + 2), .int (sI c)]) := ((congrFun hM33 k).trans (va_up_ne M29 _ (by omega))).trans hc31
            refine sc_get (ci := 5) (C := RX7) (T := TX7) (n := 3) S hK hV inX7_ hc35 rfl 1 (by decide) (S.2.2.2.2 _ (List.mem_of_getElem? (i := 3) rfl)) rfl rfl dX7_insert_118 ?_
            refine lv_iload_n hx_ hb_ dX7_insert_121 rfl (lv_at hl 3 rfl) ?_
            refine lv_iload_n hx_ hb_ dX7_insert_122 rfl (lv_at hl 2 rfl) ?_
            have hc36 : M33 (k + 2) = some (sArr G 61 (icpy Hn Hn p (p + 1) (c - p))) := ((congrFun hM33 (k + 2)).trans (va_up_ne M29 _ (by omega))).trans hc30
            refine sc_iast S hK hV hc36 (by omega) dX7_insert_123 (fun M37 H locs hM37 hV => ?_)
            have hc38 : M37 (k + 2) = some (sArr G 61 (iup (icpy Hn Hn p (p + 1) (c - p)) p h)) := (congrFun hM37 (k + 2)).trans (va_up_self M33 (k + 2) _)
            refine lv_aload_n hx_ hb_ dX7_insert_124 rfl (lv_at hl 0 rfl) ?_
            refine lv_dup hx_ hb_ dX7_insert_125 rfl ?_
            have hc39 : M37 k = some (sObj 5 [.ref (k + 1), .ref (k + 2), .int (sI c)]) := ((congrFun hM37 k).trans (va_up_ne M33 _ (by omega))).trans hc35
            refine sc_get (ci := 5) (C := RX7) (T := TX7) (n := 3) S hK hV inX7_ hc39 rfl 2 (by decide) (S.2.2.2.2 _ (List.mem_of_getElem? (i := 1) rfl)) rfl rfl dX7_insert_126 ?_
            refine si_const S dX7_insert_129 ?_
            refine si_add S dX7_insert_130 ?_
            refine sc_put (ci := 5) (C := RX7) (T := TX7) (n := 3) S hK hV inX7_ tyX7_ok nmX7 hc39 rfl 2 (by decide) (S.2.2.2.2 _ (List.mem_of_getElem? (i := 1) rfl)) rfl rfl rfl rfl (Nat.le_of_ble_eq_true rfl) dX7_insert_131 (fs1 := [.ref (k + 1), .ref (k + 2), .int (sI (c + 1))]) rfl (fun M40 H locs hM40 hV => ?_)
            have hc41 : M40 k = some (sObj 5 [.ref (k + 1), .ref (k + 2), .int (sI (c + 1))]) := (congrFun hM40 k).trans (va_up_self M37 k _)
            have hc42 : M40 (k + 1) = some (sArr G 61 (iup (icpy F F p (p + 1) (c - p)) p d)) := (((congrFun hM40 (k + 1)).trans (va_up_ne M37 _ (by omega))).trans ((congrFun hM37 (k + 1)).trans (va_up_ne M33 _ (by omega)))).trans hc34
            have hc43 : M40 (k + 2) = some (sArr G 61 (iup (icpy Hn Hn p (p + 1) (c - p)) p h)) := ((congrFun hM40 (k + 2)).trans (va_up_ne M37 _ (by omega))).trans hc38
            exact sr_v E hQ dX7_insert_134 ⟨Nat.le_of_ble_eq_true rfl, Nat.le_of_ble_eq_true rfl⟩ hV (⟨(c + 1), (iup (icpy F F p (p + 1) (c - p)) p d), (iup (icpy Hn Hn p (p + 1) (c - p)) p h), rfl, hc41, hc42, hc43, fun x q0 q1 q2 => (((((congrFun hM40 x).trans (va_up_ne M37 _ (by omega))).trans ((congrFun hM37 x).trans (va_up_ne M33 _ (by omega)))).trans ((congrFun hM33 x).trans (va_up_ne M29 _ (by omega)))).trans ((congrFun hM29 x).trans (va_up_ne M25 _ (by omega)))).trans ((congrFun hM25 x).trans (va_up_ne M _ (by omega))), st_i (by omega) hst ⟨hd.2.2.1, hd.2.2.2⟩ hdd hd.2.1 (by omega) (by omega) (by omega) (fun j a b => by have h9 := hp j a b; by_cases e9 : j = p; (rw [e9] at h9 ⊢; omega); have := hst.2.1.2.2 p j (by omega) (by omega) b; have := hp p (Int.le_refl _) (by omega); omega)⟩)
          · refine lv_aload_n hx_ hb_ dX7_insert_46 rfl (lv_at hl 0 rfl) ?_
            refine sc_get (ci := 5) (C := RX7) (T := TX7) (n := 3) S hK hV inX7_ hk0 rfl 1 (by decide) (S.2.2.2.2 _ (List.mem_of_getElem? (i := 3) rfl)) rfl rfl dX7_insert_47 ?_
            refine lv_iload_n hx_ hb_ dX7_insert_50 rfl (lv_at hl 3 rfl) ?_
            refine lv_iload_n hx_ hb_ dX7_insert_51 rfl (lv_at hl 2 rfl) ?_
            refine sc_iast S hK hV hk2 (by omega) dX7_insert_52 (fun M44 H locs hM44 hV => ?_)
            have hc45 : M44 (k + 2) = some (sArr G 61 (iup Hn p h)) := (congrFun hM44 (k + 2)).trans (va_up_self M (k + 2) _)
            refine lv_goto (tgt := 134) hx_ hb_ dX7_insert_53 (by decide) ?_
            have hc46 : M44 k = some (sObj 5 [.ref (k + 1), .ref (k + 2), .int (sI c)]) := ((congrFun hM44 k).trans (va_up_ne M _ (by omega))).trans hk0
            have hc47 : M44 (k + 1) = some (sArr G 61 F) := ((congrFun hM44 (k + 1)).trans (va_up_ne M _ (by omega))).trans hk1
            exact sr_v E hQ dX7_insert_134 ⟨Nat.le_of_ble_eq_true rfl, Nat.le_of_ble_eq_true rfl⟩ hV (⟨c, F, (iup Hn p h), rfl, hc46, hc47, hc45, fun x q0 q1 q2 => (congrFun hM44 x).trans (va_up_ne M _ (by omega)), st_r (by omega) hst ⟨hd.2.2.1, hd.2.2.2⟩ hdd hd.2.1 (by omega) (by omega) (by omega)⟩)
      · refine lv_aload_n hx_ hb_ dX7_insert_10 rfl (lv_at hl 0 rfl) ?_
        refine sc_get (ci := 5) (C := RX7) (T := TX7) (n := 3) S hK hV inX7_ hk0 rfl 0 (by decide) (S.2.2.2.2 _ (List.mem_of_getElem? (i := 2) rfl)) rfl rfl dX7_insert_11 ?_
        refine lv_iload_n hx_ hb_ dX7_insert_14 rfl (lv_at hl 3 rfl) ?_
        refine si_const S dX7_insert_15 ?_
        refine si_sub S dX7_insert_16 ?_
        refine sc_iald S hK hV hk1 (by omega) dX7_insert_17 ?_
        have hFp := (hst.2.1.2.1 (p - 1) (by omega) (by omega))
        refine lv_iload_n hx_ hb_ dX7_insert_18 rfl (lv_at hl 1 rfl) ?_
        refine sb_lt (tgt := 28) S dX7_insert_19 (by decide) (by omega) (fun c48 => ?_) (fun c48 => ?_)
        · refine lv_iload_n hx_ hb_ dX7_insert_28 rfl (lv_at hl 3 rfl) ?_
          refine lv_aload_n hx_ hb_ dX7_insert_29 rfl (lv_at hl 0 rfl) ?_
          refine sc_get (ci := 5) (C := RX7) (T := TX7) (n := 3) S hK hV inX7_ hk0 rfl 2 (by decide) (S.2.2.2.2 _ (List.mem_of_getElem? (i := 1) rfl)) rfl rfl dX7_insert_30 ?_
          refine sb_ge (tgt := 56) S dX7_insert_33 (by decide) (by omega) (fun c49 => ?_) (fun c49 => ?_)
          · refine lv_aload_n hx_ hb_ dX7_insert_56 rfl (lv_at hl 0 rfl) ?_
            refine sc_get (ci := 5) (C := RX7) (T := TX7) (n := 3) S hK hV inX7_ hk0 rfl 2 (by decide) (S.2.2.2.2 _ (List.mem_of_getElem? (i := 1) rfl)) rfl rfl dX7_insert_57 ?_
            refine lv_aload_n hx_ hb_ dX7_insert_60 rfl (lv_at hl 0 rfl) ?_
            refine sc_get (ci := 5) (C := RX7) (T := TX7) (n := 3) S hK hV inX7_ hk0 rfl 0 (by decide) (S.2.2.2.2 _ (List.mem_of_getElem? (i := 2) rfl)) rfl rfl dX7_insert_61 ?_
            refine sc_alen S hK hV 0 hk1 rfl dX7_insert_64 ?_
            rw [show ((61 : Nat) : Int) = 61 from rfl]
            refine sb_ge (tgt := 134) S dX7_insert_65 (by decide) (by omega) (fun c50 => absurd c50 (by omega)) (fun _ => ?_)
            refine lv_aload_n hx_ hb_ dX7_insert_68 rfl (lv_at hl 0 rfl) ?_
            refine sc_get (ci := 5) (C := RX7) (T := TX7) (n := 3) S hK hV inX7_ hk0 rfl 0 (by decide) (S.2.2.2.2 _ (List.mem_of_getElem? (i := 2) rfl)) rfl rfl dX7_insert_69 ?_
            refine lv_iload_n hx_ hb_ dX7_insert_72 rfl (lv_at hl 3 rfl) ?_
            refine lv_aload_n hx_ hb_ dX7_insert_73 rfl (lv_at hl 0 rfl) ?_
            refine sc_get (ci := 5) (C := RX7) (T := TX7) (n := 3) S hK hV inX7_ hk0 rfl 0 (by decide) (S.2.2.2.2 _ (List.mem_of_getElem? (i := 2) rfl)) rfl rfl dX7_insert_74 ?_
            refine lv_iload_n hx_ hb_ dX7_insert_77 rfl (lv_at hl 3 rfl) ?_
            refine si_const S dX7_insert_78 ?_
            refine si_add S dX7_insert_79 ?_
            refine lv_aload_n hx_ hb_ dX7_insert_80 rfl (lv_at hl 0 rfl) ?_
            refine sc_get (ci := 5) (C := RX7) (T := TX7) (n := 3) S hK hV inX7_ hk0 rfl 2 (by decide) (S.2.2.2.2 _ (List.mem_of_getElem? (i := 1) rfl)) rfl rfl dX7_insert_81 ?_
            refine lv_iload_n hx_ hb_ dX7_insert_84 rfl (lv_at hl 3 rfl) ?_
            refine si_sub S dX7_insert_85 ?_
            refine sc_copy S hK hV hl.1 (S.2.2.2.2 _ (List.mem_of_getElem? (i := 4) rfl)) (S.2.2.2.2 _ (List.mem_of_getElem? (i := 5) rfl)) (S.2.2.2.2 _ (List.mem_of_getElem? (i := 6) rfl)) (S.2.2.2.2 _ (List.mem_of_getElem? (i := 7) rfl)) hk1 hk1 (sp := p) (dp := p + 1) (n := c - p) (by omega) ⟨by decide, Nat.le_of_ble_eq_true rfl⟩ dX7_insert_86 (fun M51 H locs hM51 hV => ?_)
            have hc52 : M51 (k + 1) = some (sArr G 61 (icpy F F p (p + 1) (c - p))) := (congrFun hM51 (k + 1)).trans (va_up_self M (k + 1) _)
            refine lv_aload_n hx_ hb_ dX7_insert_89 rfl (lv_at hl 0 rfl) ?_
            have hc53 : M51 k = some (sObj 5 [.ref (k + 1), .ref (k + 2), .int (sI c)]) := ((congrFun hM51 k).trans (va_up_ne M _ (by omega))).trans hk0
            refine sc_get (ci := 5) (C := RX7) (T := TX7) (n := 3) S hK hV inX7_ hc53 rfl 1 (by decide) (S.2.2.2.2 _ (List.mem_of_getElem? (i := 3) rfl)) rfl rfl dX7_insert_90 ?_
            refine lv_iload_n hx_ hb_ dX7_insert_93 rfl (lv_at hl 3 rfl) ?_
            refine lv_aload_n hx_ hb_ dX7_insert_94 rfl (lv_at hl 0 rfl) ?_
            refine sc_get (ci := 5) (C := RX7) (T := TX7) (n := 3) S hK hV inX7_ hc53 rfl 1 (by decide) (S.2.2.2.2 _ (List.mem_of_getElem? (i := 3) rfl)) rfl rfl dX7_insert_95 ?_
            refine lv_iload_n hx_ hb_ dX7_insert_98 rfl (lv_at hl 3 rfl) ?_
            refine si_const S dX7_insert_99 ?_
            refine si_add S dX7_insert_100 ?_
            refine lv_aload_n hx_ hb_ dX7_insert_101 rfl (lv_at hl 0 rfl) ?_
            refine sc_get (ci := 5) (C := RX7) (T := TX7) (n := 3) S hK hV inX7_ hc53 rfl 2 (by decide) (S.2.2.2.2 _ (List.mem_of_getElem? (i := 1) rfl)) rfl rfl dX7_insert_102 ?_
            refine lv_iload_n hx_ hb_ dX7_insert_105 rfl (lv_at hl 3 rfl) ?_
            refine si_sub S dX7_insert_106 ?_
            have hc54 : M51 (k + 2) = some (sArr G 61 Hn) := ((congrFun hM51 (k + 2)).trans (va_up_ne M _ (by omega))).trans hk2
            refine sc_copy S hK hV hl.1 (S.2.2.2.2 _ (List.mem_of_getElem? (i := 4) rfl)) (S.2.2.2.2 _ (List.mem_of_getElem? (i := 5) rfl)) (S.2.2.2.2 _ (List.mem_of_getElem? (i := 6) rfl)) (S.2.2.2.2 _ (List.mem_of_getElem? (i := 7) rfl)) hc54 hc54 (sp := p) (dp := p + 1) (n := c - p) (by omega) ⟨by decide, Nat.le_of_ble_eq_true rfl⟩ dX7_insert_107 (fun M55 H locs hM55 hV => ?_)
            have hc56 : M55 (k + 2) = some (sArr G 61 (icpy Hn Hn p (p + 1) (c - p))) := (congrFun hM55 (k + 2)).trans (va_up_self M51 (k + 2) _)
            refine lv_aload_n hx_ hb_ dX7_insert_110 rfl (lv_at hl 0 rfl) ?_
            have hc57 : M55 k = some (sObj 5 [.ref (k + 1), .ref (k + 2), .int (sI c)]) := ((congrFun hM55 k).trans (va_up_ne M51 _ (by omega))).trans hc53
            refine sc_get (ci := 5) (C := RX7) (T := TX7) (n := 3) S hK hV inX7_ hc57 rfl 0 (by decide) (S.2.2.2.2 _ (List.mem_of_getElem? (i := 2) rfl)) rfl rfl dX7_insert_111 ?_
            refine lv_iload_n hx_ hb_ dX7_insert_114 rfl (lv_at hl 3 rfl) ?_
            refine lv_iload_n hx_ hb_ dX7_insert_115 rfl (lv_at hl 1 rfl) ?_
            have hc58 : M55 (k + 1) = some (sArr G 61 (icpy F F p (p + 1) (c - p))) := ((congrFun hM55 (k + 1)).trans (va_up_ne M51 _ (by omega))).trans hc52
            refine sc_iast S hK hV hc58 (by omega) dX7_insert_116 (fun M59 H locs hM59 hV => ?_)
            have hc60 : M59 (k + 1) = some (sArr G 61 (iup (icpy F F p (p + 1) (c - p)) p d)) := (congrFun hM59 (k + 1)).trans (va_up_self M55 (k + 1) _)
            refine lv_aload_n hx_ hb_ dX7_insert_117 rfl (lv_at hl 0 rfl) ?_
            have hc61 : M59 k = some (sObj 5 [.ref (k + 1), .ref (k + 2), .int (sI c)]) := ((congrFun hM59 k).trans (va_up_ne M55 _ (by omega))).trans hc57
            refine sc_get (ci := 5) (C := RX7) (T := TX7) (n := 3) S hK hV inX7_ hc61 rfl 1 (by decide) (S.2.2.2.2 _ (List.mem_of_getElem? (i := 3) rfl)) rfl rfl dX7_insert_118 ?_
            refine lv_iload_n hx_ hb_ dX7_insert_121 rfl (lv_at hl 3 rfl) ?_
            refine lv_iload_n hx_ hb_ dX7_insert_122 rfl (lv_at hl 2 rfl) ?_
            have hc62 : M59 (k + 2) = some (sArr G 61 (icpy Hn Hn p (p + 1) (c - p))) := ((congrFun hM59 (k + 2)).trans (va_up_ne M55 _ (by omega))).trans hc56
            refine sc_iast S hK hV hc62 (by omega) dX7_insert_123 (fun M63 H locs hM63 hV => ?_)
            have hc64 : M63 (k + 2) = some (sArr G 61 (iup (icpy Hn Hn p (p + 1) (c - p)) p h)) := (congrFun hM63 (k + 2)).trans (va_up_self M59 (k + 2) _)
            refine lv_aload_n hx_ hb_ dX7_insert_124 rfl (lv_at hl 0 rfl) ?_
            refine lv_dup hx_ hb_ dX7_insert_125 rfl ?_
            have hc65 : M63 k = some (sObj 5 [.ref (k + 1), .ref (k + 2), .int (sI c)]) := ((congrFun hM63 k).trans (va_up_ne M59 _ (by omega))).trans hc61
            refine sc_get (ci := 5) (C := RX7) (T := TX7) (n := 3) S hK hV inX7_ hc65 rfl 2 (by decide) (S.2.2.2.2 _ (List.mem_of_getElem? (i := 1) rfl)) rfl rfl dX7_insert_126 ?_
            refine si_const S dX7_insert_129 ?_
            refine si_add S dX7_insert_130 ?_
            refine sc_put (ci := 5) (C := RX7) (T := TX7) (n := 3) S hK hV inX7_ tyX7_ok nmX7 hc65 rfl 2 (by decide) (S.2.2.2.2 _ (List.mem_of_getElem? (i := 1) rfl)) rfl rfl rfl rfl (Nat.le_of_ble_eq_true rfl) dX7_insert_131 (fs1 := [.ref (k + 1), .ref (k + 2), .int (sI (c + 1))]) rfl (fun M66 H locs hM66 hV => ?_)
            have hc67 : M66 k = some (sObj 5 [.ref (k + 1), .ref (k + 2), .int (sI (c + 1))]) := (congrFun hM66 k).trans (va_up_self M63 k _)
            have hc68 : M66 (k + 1) = some (sArr G 61 (iup (icpy F F p (p + 1) (c - p)) p d)) := (((congrFun hM66 (k + 1)).trans (va_up_ne M63 _ (by omega))).trans ((congrFun hM63 (k + 1)).trans (va_up_ne M59 _ (by omega)))).trans hc60
            have hc69 : M66 (k + 2) = some (sArr G 61 (iup (icpy Hn Hn p (p + 1) (c - p)) p h)) := ((congrFun hM66 (k + 2)).trans (va_up_ne M63 _ (by omega))).trans hc64
            exact sr_v E hQ dX7_insert_134 ⟨Nat.le_of_ble_eq_true rfl, Nat.le_of_ble_eq_true rfl⟩ hV (⟨(c + 1), (iup (icpy F F p (p + 1) (c - p)) p d), (iup (icpy Hn Hn p (p + 1) (c - p)) p h), rfl, hc67, hc68, hc69, fun x q0 q1 q2 => (((((congrFun hM66 x).trans (va_up_ne M63 _ (by omega))).trans ((congrFun hM63 x).trans (va_up_ne M59 _ (by omega)))).trans ((congrFun hM59 x).trans (va_up_ne M55 _ (by omega)))).trans ((congrFun hM55 x).trans (va_up_ne M51 _ (by omega)))).trans ((congrFun hM51 x).trans (va_up_ne M _ (by omega))), st_i (by omega) hst ⟨hd.2.2.1, hd.2.2.2⟩ hdd hd.2.1 (by omega) (by omega) (by omega) (fun j a b => by omega)⟩)
          · refine lv_aload_n hx_ hb_ dX7_insert_36 rfl (lv_at hl 0 rfl) ?_
            refine sc_get (ci := 5) (C := RX7) (T := TX7) (n := 3) S hK hV inX7_ hk0 rfl 0 (by decide) (S.2.2.2.2 _ (List.mem_of_getElem? (i := 2) rfl)) rfl rfl dX7_insert_37 ?_
            refine lv_iload_n hx_ hb_ dX7_insert_40 rfl (lv_at hl 3 rfl) ?_
            refine sc_iald S hK hV hk1 (by omega) dX7_insert_41 ?_
            have hFq := (hst.2.1.2.1 p (by omega) (by omega))
            refine lv_iload_n hx_ hb_ dX7_insert_42 rfl (lv_at hl 1 rfl) ?_
            refine sb_ne (tgt := 56) S dX7_insert_43 (by decide) (by omega) (fun c70 => ?_) (fun c70 => ?_)
            · refine lv_aload_n hx_ hb_ dX7_insert_56 rfl (lv_at hl 0 rfl) ?_
              refine sc_get (ci := 5) (C := RX7) (T := TX7) (n := 3) S hK hV inX7_ hk0 rfl 2 (by decide) (S.2.2.2.2 _ (List.mem_of_getElem? (i := 1) rfl)) rfl rfl dX7_insert_57 ?_
              refine lv_aload_n hx_ hb_ dX7_insert_60 rfl (lv_at hl 0 rfl) ?_
              refine sc_get (ci := 5) (C := RX7) (T := TX7) (n := 3) S hK hV inX7_ hk0 rfl 0 (by decide) (S.2.2.2.2 _ (List.mem_of_getElem? (i := 2) rfl)) rfl rfl dX7_insert_61 ?_
              refine sc_alen S hK hV 0 hk1 rfl dX7_insert_64 ?_
              rw [show ((61 : Nat) : Int) = 61 from rfl]
              refine sb_ge (tgt := 134) S dX7_insert_65 (by decide) (by omega) (fun c71 => absurd c71 (by omega)) (fun _ => ?_)
              refine lv_aload_n hx_ hb_ dX7_insert_68 rfl (lv_at hl 0 rfl) ?_
              refine sc_get (ci := 5) (C := RX7) (T := TX7) (n := 3) S hK hV inX7_ hk0 rfl 0 (by decide) (S.2.2.2.2 _ (List.mem_of_getElem? (i := 2) rfl)) rfl rfl dX7_insert_69 ?_
              refine lv_iload_n hx_ hb_ dX7_insert_72 rfl (lv_at hl 3 rfl) ?_
              refine lv_aload_n hx_ hb_ dX7_insert_73 rfl (lv_at hl 0 rfl) ?_
              refine sc_get (ci := 5) (C := RX7) (T := TX7) (n := 3) S hK hV inX7_ hk0 rfl 0 (by decide) (S.2.2.2.2 _ (List.mem_of_getElem? (i := 2) rfl)) rfl rfl dX7_insert_74 ?_
              refine lv_iload_n hx_ hb_ dX7_insert_77 rfl (lv_at hl 3 rfl) ?_
              refine si_const S dX7_insert_78 ?_
              refine si_add S dX7_insert_79 ?_
              refine lv_aload_n hx_ hb_ dX7_insert_80 rfl (lv_at hl 0 rfl) ?_
              refine sc_get (ci := 5) (C := RX7) (T := TX7) (n := 3) S hK hV inX7_ hk0 rfl 2 (by decide) (S.2.2.2.2 _ (List.mem_of_getElem? (i := 1) rfl)) rfl rfl dX7_insert_81 ?_
              refine lv_iload_n hx_ hb_ dX7_insert_84 rfl (lv_at hl 3 rfl) ?_
              refine si_sub S dX7_insert_85 ?_
              refine sc_copy S hK hV hl.1 (S.2.2.2.2 _ (List.mem_of_getElem? (i := 4) rfl)) (S.2.2.2.2 _ (List.mem_of_getElem? (i := 5) rfl)) (S.2.2.2.2 _ (List.mem_of_getElem? (i := 6) rfl)) (S.2.2.2.2 _ (List.mem_of_getElem? (i := 7) rfl)) hk1 hk1 (sp := p) (dp := p + 1) (n := c - p) (by omega) ⟨by decide, Nat.le_of_ble_eq_true rfl⟩ dX7_insert_86 (fun M72 H locs hM72 hV => ?_)
              have hc73 : M72 (k + 1) = some (sArr G 61 (icpy F F p (p + 1) (c - p))) := (congrFun hM72 (k + 1)).trans (va_up_self M (k + 1) _)
              refine lv_aload_n hx_ hb_ dX7_insert_89 rfl (lv_at hl 0 rfl) ?_
              have hc74 : M72 k = some (sObj 5 [.ref (k + 1), .ref (k + 2), .int (sI c)]) := ((congrFun hM72 k).trans (va_up_ne M _ (by omega))).trans hk0
              refine sc_get (ci := 5) (C := RX7) (T := TX7) (n := 3) S hK hV inX7_ hc74 rfl 1 (by decide) (S.2.2.2.2 _ (List.mem_of_getElem? (i := 3) rfl)) rfl rfl dX7_insert_90 ?_
              refine lv_iload_n hx_ hb_ dX7_insert_93 rfl (lv_at hl 3 rfl) ?_
              refine lv_aload_n hx_ hb_ dX7_insert_94 rfl (lv_at hl 0 rfl) ?_
              refine sc_get (ci := 5) (C := RX7) (T := TX7) (n := 3) S hK hV inX7_ hc74 rfl 1 (by decide) (S.2.2.2.2 _ (List.mem_of_getElem? (i := 3) rfl)) rfl rfl dX7_insert_95 ?_
              refine lv_iload_n hx_ hb_ dX7_insert_98 rfl (lv_at hl 3 rfl) ?_
              refine si_const S dX7_insert_99 ?_
              refine si_add S dX7_insert_100 ?_
              refine lv_aload_n hx_ hb_ dX7_insert_101 rfl (lv_at hl 0 rfl) ?_
              refine sc_get (ci := 5) (C := RX7) (T := TX7) (n := 3) S hK hV inX7_ hc74 rfl 2 (by decide) (S.2.2.2.2 _ (List.mem_of_getElem? (i := 1) rfl)) rfl rfl dX7_insert_102 ?_
              refine lv_iload_n hx_ hb_ dX7_insert_105 rfl (lv_at hl 3 rfl) ?_
              refine si_sub S dX7_insert_106 ?_
              have hc75 : M72 (k + 2) = some (sArr G 61 Hn) := ((congrFun hM72 (k + 2)).trans (va_up_ne M _ (by omega))).trans hk2
              refine sc_copy S hK hV hl.1 (S.2.2.2.2 _ (List.mem_of_getElem? (i := 4) rfl)) (S.2.2.2.2 _ (List.mem_of_getElem? (i := 5) rfl)) (S.2.2.2.2 _ (List.mem_of_getElem? (i := 6) rfl)) (S.2.2.2.2 _ (List.mem_of_getElem? (i := 7) rfl)) hc75 hc75 (sp := p) (dp := p + 1) (n := c - p) (by omega) ⟨by decide, Nat.le_of_ble_eq_true rfl⟩ dX7_insert_107 (fun M76 H locs hM76 hV => ?_)
              have hc77 : M76 (k + 2) = some (sArr G 61 (icpy Hn Hn p (p + 1) (c - p))) := (congrFun hM76 (k + 2)).trans (va_up_self M72 (k + 2) _)
              refine lv_aload_n hx_ hb_ dX7_insert_110 rfl (lv_at hl 0 rfl) ?_
              have hc78 : M76 k = some (sObj 5 [.ref (k + 1), .ref (k + 2), .int (sI c)]) := ((congrFun hM76 k).trans (va_up_ne M72 _ (by omega))).trans hc74
              refine sc_get (ci := 5) (C := RX7) (T := TX7) (n := 3) S hK hV inX7_ hc78 rfl 0 (by decide) (S.2.2.2.2 _ (List.mem_of_getElem? (i := 2) rfl)) rfl rfl dX7_insert_111 ?_
              refine lv_iload_n hx_ hb_ dX7_insert_114 rfl (lv_at hl 3 rfl) ?_
              refine lv_iload_n hx_ hb_ dX7_insert_115 rfl (lv_at hl 1 rfl) ?_
              have hc79 : M76 (k + 1) = some (sArr G 61 (icpy F F p (p + 1) (c - p))) := ((congrFun hM76 (k + 1)).trans (va_up_ne M72 _ (by omega))).trans hc73
              refine sc_iast S hK hV hc79 (by omega) dX7_insert_116 (fun M80 H locs hM80 hV => ?_)
              have hc81 : M80 (k + 1) = some (sArr G 61 (iup (icpy F F p (p + 1) (c - p)) p d)) := (congrFun hM80 (k + 1)).trans (va_up_self M76 (k + 1) _)
              refine lv_aload_n hx_ hb_ dX7_insert_117 rfl (lv_at hl 0 rfl) ?_
              have hc82 : M80 k = some (sObj 5 [.ref (k + 1), .ref (k + 2), .int (sI c)]) := ((congrFun hM80 k).trans (va_up_ne M76 _ (by omega))).trans hc78
              refine sc_get (ci := 5) (C := RX7) (T := TX7) (n := 3) S hK hV inX7_ hc82 rfl 1 (by decide) (S.2.2.2.2 _ (List.mem_of_getElem? (i := 3) rfl)) rfl rfl dX7_insert_118 ?_
              refine lv_iload_n hx_ hb_ dX7_insert_121 rfl (lv_at hl 3 rfl) ?_
              refine lv_iload_n hx_ hb_ dX7_insert_122 rfl (lv_at hl 2 rfl) ?_
              have hc83 : M80 (k + 2) = some (sArr G 61 (icpy Hn Hn p (p + 1) (c - p))) := ((congrFun hM80 (k + 2)).trans (va_up_ne M76 _ (by omega))).trans hc77
              refine sc_iast S hK hV hc83 (by omega) dX7_insert_123 (fun M84 H locs hM84 hV => ?_)
              have hc85 : M84 (k + 2) = some (sArr G 61 (iup (icpy Hn Hn p (p + 1) (c - p)) p h)) := (congrFun hM84 (k + 2)).trans (va_up_self M80 (k + 2) _)
              refine lv_aload_n hx_ hb_ dX7_insert_124 rfl (lv_at hl 0 rfl) ?_
              refine lv_dup hx_ hb_ dX7_insert_125 rfl ?_
              have hc86 : M84 k = some (sObj 5 [.ref (k + 1), .ref (k + 2), .int (sI c)]) := ((congrFun hM84 k).trans (va_up_ne M80 _ (by omega))).trans hc82
              refine sc_get (ci := 5) (C := RX7) (T := TX7) (n := 3) S hK hV inX7_ hc86 rfl 2 (by decide) (S.2.2.2.2 _ (List.mem_of_getElem? (i := 1) rfl)) rfl rfl dX7_insert_126 ?_
              refine si_const S dX7_insert_129 ?_
              refine si_add S dX7_insert_130 ?_
              refine sc_put (ci := 5) (C := RX7) (T := TX7) (n := 3) S hK hV inX7_ tyX7_ok nmX7 hc86 rfl 2 (by decide) (S.2.2.2.2 _ (List.mem_of_getElem? (i := 1) rfl)) rfl rfl rfl rfl (Nat.le_of_ble_eq_true rfl) dX7_insert_131 (fs1 := [.ref (k + 1), .ref (k + 2), .int (sI (c + 1))]) rfl (fun M87 H locs hM87 hV => ?_)
              have hc88 : M87 k = some (sObj 5 [.ref (k + 1), .ref (k + 2), .int (sI (c + 1))]) := (congrFun hM87 k).trans (va_up_self M84 k _)
              have hc89 : M87 (k + 1) = some (sArr G 61 (iup (icpy F F p (p + 1) (c - p)) p d)) := (((congrFun hM87 (k + 1)).trans (va_up_ne M84 _ (by omega))).trans ((congrFun hM84 (k + 1)).trans (va_up_ne M80 _ (by omega)))).trans hc81
              have hc90 : M87 (k + 2) = some (sArr G 61 (iup (icpy Hn Hn p (p + 1) (c - p)) p h)) := ((congrFun hM87 (k + 2)).trans (va_up_ne M84 _ (by omega))).trans hc85
              exact sr_v E hQ dX7_insert_134 ⟨Nat.le_of_ble_eq_true rfl, Nat.le_of_ble_eq_true rfl⟩ hV (⟨(c + 1), (iup (icpy F F p (p + 1) (c - p)) p d), (iup (icpy Hn Hn p (p + 1) (c - p)) p h), rfl, hc88, hc89, hc90, fun x q0 q1 q2 => (((((congrFun hM87 x).trans (va_up_ne M84 _ (by omega))).trans ((congrFun hM84 x).trans (va_up_ne M80 _ (by omega)))).trans ((congrFun hM80 x).trans (va_up_ne M76 _ (by omega)))).trans ((congrFun hM76 x).trans (va_up_ne M72 _ (by omega)))).trans ((congrFun hM72 x).trans (va_up_ne M _ (by omega))), st_i (by omega) hst ⟨hd.2.2.1, hd.2.2.2⟩ hdd hd.2.1 (by omega) (by omega) (by omega) (fun j a b => by have h9 := hp j a b; by_cases e9 : j = p; (rw [e9] at h9 ⊢; omega); have := hst.2.1.2.2 p j (by omega) (by omega) b; have := hp p (Int.le_refl _) (by omega); omega)⟩)
            · refine lv_aload_n hx_ hb_ dX7_insert_46 rfl (lv_at hl 0 rfl) ?_
              refine sc_get (ci := 5) (C := RX7) (T := TX7) (n := 3) S hK hV inX7_ hk0 rfl 1 (by decide) (S.2.2.2.2 _ (List.mem_of_getElem? (i := 3) rfl)) rfl rfl dX7_insert_47 ?_
              refine lv_iload_n hx_ hb_ dX7_insert_50 rfl (lv_at hl 3 rfl) ?_
              refine lv_iload_n hx_ hb_ dX7_insert_51 rfl (lv_at hl 2 rfl) ?_
              refine sc_iast S hK hV hk2 (by omega) dX7_insert_52 (fun M91 H locs hM91 hV => ?_)
              have hc92 : M91 (k + 2) = some (sArr G 61 (iup Hn p h)) := (congrFun hM91 (k + 2)).trans (va_up_self M (k + 2) _)
              refine lv_goto (tgt := 134) hx_ hb_ dX7_insert_53 (by decide) ?_
              have hc93 : M91 k = some (sObj 5 [.ref (k + 1), .ref (k + 2), .int (sI c)]) := ((congrFun hM91 k).trans (va_up_ne M _ (by omega))).trans hk0
              have hc94 : M91 (k + 1) = some (sArr G 61 F) := ((congrFun hM91 (k + 1)).trans (va_up_ne M _ (by omega))).trans hk1
              exact sr_v E hQ dX7_insert_134 ⟨Nat.le_of_ble_eq_true rfl, Nat.le_of_ble_eq_true rfl⟩ hV (⟨c, F, (iup Hn p h), rfl, hc93, hc94, hc92, fun x q0 q1 q2 => (congrFun hM91 x).trans (va_up_ne M _ (by omega)), st_r (by omega) hst ⟨hd.2.2.1, hd.2.2.2⟩ hdd hd.2.1 (by omega) (by omega) (by omega)⟩)
        · refine si_inc (lv' := [(3, .int (sI (p + (-1)))), (0, .ref k), (1, .int (sI d)), (2, .int (sI h))]) S dX7_insert_22 hl (k := 3) rfl (by decide) rfl (fun ls hl => ?_)
          refine lv_goto (tgt := 5) hx_ hb_ dX7_insert_25 (by decide) ?_
          exact ih5 (p + (-1)) _ _ _ (by omega) (by omega) (fun j a b => by by_cases e9 : j = p - 1; exact (by rw [e9]; omega); exact hp j (by omega) b) hV (lv_sub hl [1, 2, 3, 0] rfl)
  exact L5 _ c _ _ _ (Nat.lt_succ_self _) (by omega) (fun j a b => by omega) hV (lv_sub hl [1, 2, 3, 0] rfl)

abbrev rmX7_meltSameHands : Room := { frames := 1, cells := 0, slots := 0, locals := 40 }
set_option maxHeartbeats 4000000 in
set_option maxRecDepth 100000 in
theorem kX7_meltSameHands (l_ : Launch) (G : sG) (b_ : Nat) (M : sM) (N : Nat) (k : Nat) (c : Int) (F Hn : sF) (h : Int → Int) (hk0 : M k = some (sObj 5 [.ref (k + 1), .ref (k + 2), .int (sI c)])) (hk1 : M (k + 1) = some (sArr G 61 F)) (hk2 : M (k + 2) = some (sArr G 61 Hn)) (hr : rpS h c F Hn) : cV l_ yX7_meltSameHands wsX7_meltSameHands rmX7_meltSameHands G b_ M N [.ref k] (fun M1 N1 => ∃ c9 : Int, ∃ F9 : Int → Int, ∃ H9 : Int → Int, N1 = N ∧ M1 k = some (sObj 5 [.ref (k + 1), .ref (k + 2), .int (sI c9)]) ∧ M1 (k + 1) = some (sArr G 61 F9) ∧ M1 (k + 2) = some (sArr G 61 H9) ∧ (∀ x : Nat, ¬ (x = k) → ¬ (x = k + 1) → ¬ (x = k + 2) → M1 x = M x) ∧ (skQ h c9 F9 H9)) := by
  refine sE.ofV (cc := cX7_meltSameHands) (nL := 3) (ret := none) (by decide) rfl (Nat.le_of_ble_eq_true rfl) ?_
  intro p_ e_ s_ m_ args_ below_ meth_ c_ ls Q hQ E hl
  have E : sE p_ l_ e_ rmX7_meltSameHands s_ m_ args_ below_ meth_ c_ cX7_meltSameHands 3 wsX7_meltSameHands RX7 "meltSameHands" none G b_ M N := E
  have S := E.1
  have hx_ := S.1
  have hb_ := S.2.1
  have hK := E.2.2.2.2.1
  have hV := E.2.2.2.2.2.2
  have hl : lv_has ls 3 [(0, .ref k)] := hl
  have inX7_ : ∀ w ∈ wsX70, w ∈ wsX7_meltSameHands := fun _ h => List.mem_cons_of_mem _ (List.mem_append_right _ h)
  have hc1 := hr.1
  refine si_const S dX7_meltSameHands_0 ?_
  refine lv_istore_n (lv' := [(1, .int (sI 1)), (0, .ref k)]) hx_ hb_ dX7_meltSameHands_1 rfl hl (by decide) rfl (fun ls hl => ?_)
  refine si_const S dX7_meltSameHands_2 ?_
  refine lv_istore_n (lv' := [(2, .int (sI 1)), (1, .int (sI 1)), (0, .ref k)]) hx_ hb_ dX7_meltSameHands_3 rfl hl (by decide) rfl (fun ls hl => ?_)
  have L4 : ∀ (fuel : Nat) (l : Int) (q : Int) (F2 : Int → Int) (H2 : Int → Int) (Ml4 : sM) (H : Heap) (locs : List Loc) (ls : Array Slot), ((c - q).toNat) < fuel → (1 ≤ q ∧ q ≤ c ∧ 1 ≤ l ∧ l ≤ q) → (mlI h c F Hn q l F2 H2) → (Ml4 (k + 1) = some (sArr G 61 F2)) → (Ml4 (k + 2) = some (sArr G 61 H2)) → (∀ x : Nat, ¬ (x = k + 1) → ¬ (x = k + 2) → Ml4 x = M x) → sV G b_ Ml4 N s_ H locs → lv_has ls 3 [(0, .ref k), (1, .int (sI l)), (2, .int (sI q))] → W p_ l_ e_ rmX7_meltSameHands s_ m_ args_ below_ meth_ c_ H locs 0 0 Q (F0 m_ 4 ls []) := by
    intro fuel
    induction fuel with
    | zero => intro l q F2 H2 Ml4 H locs ls hmu; exact absurd hmu (Nat.not_lt_zero _)
    | succ fuel ih4 =>
      intro l q F2 H2 Ml4 H locs ls hmu4 hv4_0 hml hm4_0 hm4_1 hfr4 hV hl
      refine lv_iload_n hx_ hb_ dX7_meltSameHands_4 rfl (lv_at hl 2 rfl) ?_
      refine lv_aload_n hx_ hb_ dX7_meltSameHands_5 rfl (lv_at hl 0 rfl) ?_
      have hc1 : Ml4 k = some (sObj 5 [.ref (k + 1), .ref (k + 2), .int (sI c)]) := (hfr4 k (by omega) (by omega)).trans hk0
      refine sc_get (ci := 5) (C := RX7) (T := TX7) (n := 3) S hK hV inX7_ hc1 rfl 2 (by decide) (S.2.2.2.2 _ (List.mem_of_getElem? (i := 1) rfl)) rfl rfl dX7_meltSameHands_6 ?_
      refine sb_ge (tgt := 62) S dX7_meltSameHands_9 (by decide) (by omega) (fun c2 => ?_) (fun c2 => ?_)
      · refine lv_aload_n hx_ hb_ dX7_meltSameHands_62 rfl (lv_at hl 0 rfl) ?_
        refine lv_iload_n hx_ hb_ dX7_meltSameHands_63 rfl (lv_at hl 1 rfl) ?_
        refine sc_put (ci := 5) (C := RX7) (T := TX7) (n := 3) S hK hV inX7_ tyX7_ok nmX7 hc1 rfl 2 (by decide) (S.2.2.2.2 _ (List.mem_of_getElem? (i := 1) rfl)) rfl rfl rfl rfl (Nat.le_of_ble_eq_true rfl) dX7_meltSameHands_64 (fs1 := [.ref (k + 1), .ref (k + 2), .int (sI l)]) rfl (fun M3 H locs hM3 hV => ?_)
        have hc4 : M3 k = some (sObj 5 [.ref (k + 1), .ref (k + 2), .int (sI l)]) := (congrFun hM3 k).trans (va_up_self Ml4 k _)
        have hc5 : M3 (k + 1) = some (sArr G 61 F2) := ((congrFun hM3 (k + 1)).trans (va_up_ne Ml4 _ (by omega))).trans hm4_0
        have hc6 : M3 (k + 2) = some (sArr G 61 H2) := ((congrFun hM3 (k + 2)).trans (va_up_ne Ml4 _ (by omega))).trans hm4_1
        exact sr_v E hQ dX7_meltSameHands_67 ⟨Nat.le_of_ble_eq_true rfl, Nat.le_of_ble_eq_true rfl⟩ hV (⟨l, F2, H2, rfl, hc4, hc5, hc6, fun x q0 q1 q2 => ((congrFun hM3 x).trans (va_up_ne Ml4 _ (by omega))).trans (hfr4 x (by omega) (by omega)), ml_e hr hml (by omega)⟩)
      · refine lv_aload_n hx_ hb_ dX7_meltSameHands_12 rfl (lv_at hl 0 rfl) ?_
        refine sc_get (ci := 5) (C := RX7) (T := TX7) (n := 3) S hK hV inX7_ hc1 rfl 1 (by decide) (S.2.2.2.2 _ (List.mem_of_getElem? (i := 2) rfl)) rfl rfl dX7_meltSameHands_13 ?_
        refine lv_iload_n hx_ hb_ dX7_meltSameHands_16 rfl (lv_at hl 2 rfl) ?_
        refine sc_iald S hK hV hm4_1 (by omega) dX7_meltSameHands_17 ?_
        refine lv_aload_n hx_ hb_ dX7_meltSameHands_18 rfl (lv_at hl 0 rfl) ?_
        refine sc_get (ci := 5) (C := RX7) (T := TX7) (n := 3) S hK hV inX7_ hc1 rfl 1 (by decide) (S.2.2.2.2 _ (List.mem_of_getElem? (i := 2) rfl)) rfl rfl dX7_meltSameHands_19 ?_
        refine lv_iload_n hx_ hb_ dX7_meltSameHands_22 rfl (lv_at hl 1 rfl) ?_
        refine si_const S dX7_meltSameHands_23 ?_
        refine si_sub S dX7_meltSameHands_24 ?_
        refine sc_iald S hK hV hm4_1 (by omega) dX7_meltSameHands_25 ?_
        have hm1 := hml.1
        have hm5 := hml.2.2.2.2.1 (l - 1) (by omega) (by omega)
        have hm3 := hml.2.2.1 q (by omega) (by omega)
        have hrH := hr.2.2.1 q (by omega) (by omega)
        rw [← hm3.2] at hrH
        refine sb_eq (tgt := 56) S dX7_meltSameHands_26 (by decide) (by omega) (fun h26 => ?_) (fun h26 => ?_)
        · refine si_inc (lv' := [(2, .int (sI (q + 1))), (0, .ref k), (1, .int (sI l))]) S dX7_meltSameHands_56 hl (k := 2) rfl (by decide) rfl (fun ls hl => ?_)
          refine lv_goto (tgt := 4) hx_ hb_ dX7_meltSameHands_59 (by decide) ?_
          exact ih4 l (q + 1) F2 H2 Ml4 _ _ _ (by omega) (by omega) (ml_k hr hml (by omega) h26) hm4_0 hm4_1 (fun x q0 q1 => hfr4 x (by omega) (by omega)) hV (lv_sub hl [1, 2, 0] rfl)
        · refine lv_aload_n hx_ hb_ dX7_meltSameHands_29 rfl (lv_at hl 0 rfl) ?_
          refine sc_get (ci := 5) (C := RX7) (T := TX7) (n := 3) S hK hV inX7_ hc1 rfl 0 (by decide) (S.2.2.2.2 _ (List.mem_of_getElem? (i := 3) rfl)) rfl rfl dX7_meltSameHands_30 ?_
          refine lv_iload_n hx_ hb_ dX7_meltSameHands_33 rfl (lv_at hl 1 rfl) ?_
          refine lv_aload_n hx_ hb_ dX7_meltSameHands_34 rfl (lv_at hl 0 rfl) ?_
          refine sc_get (ci := 5) (C := RX7) (T := TX7) (n := 3) S hK hV inX7_ hc1 rfl 0 (by decide) (S.2.2.2.2 _ (List.mem_of_getElem? (i := 3) rfl)) rfl rfl dX7_meltSameHands_35 ?_
          refine lv_iload_n hx_ hb_ dX7_meltSameHands_38 rfl (lv_at hl 2 rfl) ?_
          refine sc_iald S hK hV hm4_0 (by omega) dX7_meltSameHands_39 ?_
          refine sc_iast S hK hV hm4_0 (by omega) dX7_meltSameHands_40 (fun M7 H locs hM7 hV => ?_)
          have hc8 : M7 (k + 1) = some (sArr G 61 (iup F2 l (F2 q))) := (congrFun hM7 (k + 1)).trans (va_up_self Ml4 (k + 1) _)
          refine lv_aload_n hx_ hb_ dX7_meltSameHands_41 rfl (lv_at hl 0 rfl) ?_
          have hc9 : M7 k = some (sObj 5 [.ref (k + 1), .ref (k + 2), .int (sI c)]) := ((congrFun hM7 k).trans (va_up_ne Ml4 _ (by omega))).trans hc1
          refine sc_get (ci := 5) (C := RX7) (T := TX7) (n := 3) S hK hV inX7_ hc9 rfl 1 (by decide) (S.2.2.2.2 _ (List.mem_of_getElem? (i := 2) rfl)) rfl rfl dX7_meltSameHands_42 ?_
          refine lv_iload_n hx_ hb_ dX7_meltSameHands_45 rfl (lv_at hl 1 rfl) ?_
          refine lv_aload_n hx_ hb_ dX7_meltSameHands_46 rfl (lv_at hl 0 rfl) ?_
          refine sc_get (ci := 5) (C := RX7) (T := TX7) (n := 3) S hK hV inX7_ hc9 rfl 1 (by decide) (S.2.2.2.2 _ (List.mem_of_getElem? (i := 2) rfl)) rfl rfl dX7_meltSameHands_47 ?_
          refine lv_iload_n hx_ hb_ dX7_meltSameHands_50 rfl (lv_at hl 2 rfl) ?_
          have hc10 : M7 (k + 2) = some (sArr G 61 H2) := ((congrFun hM7 (k + 2)).trans (va_up_ne Ml4 _ (by omega))).trans hm4_1
          refine sc_iald S hK hV hc10 (by omega) dX7_meltSameHands_51 ?_
          refine sc_iast S hK hV hc10 (by omega) dX7_meltSameHands_52 (fun M11 H locs hM11 hV => ?_)
          have hc12 : M11 (k + 2) = some (sArr G 61 (iup H2 l (H2 q))) := (congrFun hM11 (k + 2)).trans (va_up_self M7 (k + 2) _)
          refine si_inc (lv' := [(1, .int (sI (l + 1))), (0, .ref k), (2, .int (sI q))]) S dX7_meltSameHands_53 hl (k := 1) rfl (by decide) rfl (fun ls hl => ?_)
          refine si_inc (lv' := [(2, .int (sI (q + 1))), (1, .int (sI (l + 1))), (0, .ref k)]) S dX7_meltSameHands_56 hl (k := 2) rfl (by decide) rfl (fun ls hl => ?_)
          refine lv_goto (tgt := 4) hx_ hb_ dX7_meltSameHands_59 (by decide) ?_
          have hc13 : M11 (k + 1) = some (sArr G 61 (iup F2 l (F2 q))) := ((congrFun hM11 (k + 1)).trans (va_up_ne M7 _ (by omega))).trans hc8
          exact ih4 (l + 1) (q + 1) (iup F2 l (F2 q)) (iup H2 l (H2 q)) M11 _ _ _ (by omega) (by omega) (ml_n hr hml (by omega) h26) hc13 hc12 (fun x q0 q1 => (((congrFun hM11 x).trans (va_up_ne M7 _ (by omega))).trans ((congrFun hM7 x).trans (va_up_ne Ml4 _ (by omega)))).trans (hfr4 x (by omega) (by omega))) hV (lv_sub hl [2, 1, 0] rfl)
  exact L4 _ 1 1 F Hn M _ _ _ (Nat.lt_succ_self _) (by omega) (ml_0 hr) hk1 hk2 (fun x q0 q1 => rfl) hV (lv_sub hl [2, 1, 0] rfl)

abbrev rmX7_lookAt : Room := { frames := 3, cells := 0, slots := 0, locals := 86 }
set_option maxHeartbeats 4000000 in
set_option maxRecDepth 100000 in
theorem kX7_lookAt (l_ : Launch) (G : sG) (b_ : Nat) (M : sM) (N : Nat) (k a : Nat) (c : Int) (F Hn f : sF) (s t : Int) (hk0 : M k = some (sObj 5 [.ref (k + 1), .ref (k + 2), .int (sI c)])) (hk1 : M (k + 1) = some (sArr G 61 F)) (hk2 : M (k + 2) = some (sArr G 61 Hn)) (hst0 : stC G M a f) (hok : sOk f) (hr : sR s ∧ sR t) (hne : k + 3 ≤ a ∨ a + 15 ≤ k) : cV l_ yX7_lookAt wsX7_lookAt rmX7_lookAt G b_ M N [.ref k, .ref a, .int (sI s), .int (sI t)] (fun M1 N1 => ∃ c9 : Int, ∃ F9 : Int → Int, ∃ H9 : Int → Int, N1 = N ∧ M1 k = some (sObj 5 [.ref (k + 1), .ref (k + 2), .int (sI c9)]) ∧ M1 (k + 1) = some (sArr G 61 F9) ∧ M1 (k + 2) = some (sArr G 61 H9) ∧ (∀ x : Nat, ¬ (x = k) → ¬ (x = k + 1) → ¬ (x = k + 2) → M1 x = M x) ∧ (skQ (fun x => hnd f s x t) c9 F9 H9)) := by
  refine sE.ofV (cc := cX7_lookAt) (nL := 6) (ret := none) (by decide) rfl (Nat.le_of_ble_eq_true rfl) ?_
  intro p_ e_ s_ m_ args_ below_ meth_ c_ ls Q hQ E hl
  have E : sE p_ l_ e_ rmX7_lookAt s_ m_ args_ below_ meth_ c_ cX7_lookAt 6 wsX7_lookAt RX7 "lookAt" none G b_ M N := E
  have S := E.1
  have hx_ := S.1
  have hb_ := S.2.1
  have hK := E.2.2.2.2.1
  have hV := E.2.2.2.2.2.2
  have hl : lv_has ls 6 [(0, .ref k), (1, .ref a), (2, .int (sI s)), (3, .int (sI t))] := hl
  have inX6_ : ∀ w ∈ wsX60, w ∈ wsX7_lookAt := fun _ h => List.mem_cons_of_mem _ (List.mem_append_left _ (List.mem_append_left _ (List.mem_append_right _ h)))
  have inX7_ : ∀ w ∈ wsX70, w ∈ wsX7_lookAt := fun _ h => List.mem_cons_of_mem _ (List.mem_append_left _ (List.mem_append_right _ h))
  have inX8_ : ∀ w ∈ wsX80, w ∈ wsX7_lookAt := fun _ h => List.mem_cons_of_mem _ (List.mem_append_right _ h)
  have kn0 := sOk_N hok
  refine lv_aload_n hx_ hb_ dX7_lookAt_0 rfl (lv_at hl 1 rfl) ?_
  refine sc_getN (ci := 4) (C := RX6) (T := TX6) (n := 8) S hK hV inX6_ (hst0).1 rfl 4 (by decide) (E.2.2.2.2.2.1.1.2.1 _ (List.mem_of_getElem? (i := 9) rfl)) rfl rfl dX7_lookAt_1 ?_
  refine lv_astore (lv' := [(4, .ref (a + 9)), (0, .ref k), (1, .ref a), (2, .int (sI s)), (3, .int (sI t))]) hx_ hb_ dX7_lookAt_4 hl (by decide) rfl (fun ls hl => ?_)
  refine lv_aload_n hx_ hb_ dX7_lookAt_6 rfl (lv_at hl 1 rfl) ?_
  refine sc_get (ci := 5) (C := RX7) (T := TX7) (n := 3) S hK hV inX7_ hk0 rfl 0 (by decide) (S.2.2.2.2 _ (List.mem_of_getElem? (i := 1) rfl)) rfl rfl dX7_lookAt_7 ?_
  refine si_const S dX7_lookAt_10 ?_
  refine si_const S dX7_lookAt_11 ?_
  refine sc_iast S hK hV hk1 (by omega) dX7_lookAt_12 (fun M1 H locs hM1 hV => ?_)
  have hc2 : M1 (k + 1) = some (sArr G 61 (iup F 0 (-1))) := (congrFun hM1 (k + 1)).trans (va_up_self M (k + 1) _)
  refine lv_aload_n hx_ hb_ dX7_lookAt_13 rfl (lv_at hl 1 rfl) ?_
  have hc3 : M1 k = some (sObj 5 [.ref (k + 1), .ref (k + 2), .int (sI c)]) := ((congrFun hM1 k).trans (va_up_ne M _ (by omega))).trans hk0
  refine sc_get (ci := 5) (C := RX7) (T := TX7) (n := 3) S hK hV inX7_ hc3 rfl 1 (by decide) (S.2.2.2.2 _ (List.mem_of_getElem? (i := 2) rfl)) rfl rfl dX7_lookAt_14 ?_
  refine si_const S dX7_lookAt_17 ?_
  refine si_bipush S dX7_lookAt_18 (by decide) ?_
  have hc4 : M1 (k + 2) = some (sArr G 61 Hn) := ((congrFun hM1 (k + 2)).trans (va_up_ne M _ (by omega))).trans hk2
  refine sc_iast S hK hV hc4 (by omega) dX7_lookAt_20 (fun M5 H locs hM5 hV => ?_)
  have hc6 : M5 (k + 2) = some (sArr G 61 (iup Hn 0 6)) := (congrFun hM5 (k + 2)).trans (va_up_self M1 (k + 2) _)
  refine lv_aload_n hx_ hb_ dX7_lookAt_21 rfl (lv_at hl 1 rfl) ?_
  refine si_const S dX7_lookAt_22 ?_
  have hc7 : M5 k = some (sObj 5 [.ref (k + 1), .ref (k + 2), .int (sI c)]) := ((congrFun hM5 k).trans (va_up_ne M1 _ (by omega))).trans hc3
  refine sc_put (ci := 5) (C := RX7) (T := TX7) (n := 3) S hK hV inX7_ tyX7_ok nmX7 hc7 rfl 2 (by decide) (S.2.2.2.2 _ (List.mem_of_getElem? (i := 3) rfl)) rfl rfl rfl rfl (Nat.le_of_ble_eq_true rfl) dX7_lookAt_23 (fs1 := [.ref (k + 1), .ref (k + 2), .int (sI 1)]) rfl (fun M8 H locs hM8 hV => ?_)
  have hc9 : M8 k = some (sObj 5 [.ref (k + 1), .ref (k + 2), .int (sI 1)]) := (congrFun hM8 k).trans (va_up_self M5 k _)
  refine si_const S dX7_lookAt_26 ?_
  refine lv_istore (lv' := [(5, .int (sI 0)), (4, .ref (a + 9)), (0, .ref k), (1, .ref a), (2, .int (sI s)), (3, .int (sI t))]) hx_ hb_ dX7_lookAt_27 hl (by decide) rfl (fun ls hl => ?_)
  have L29 : ∀ (fuel : Nat) (i : Int) (c2 : Int) (F2 : Int → Int) (H2 : Int → Int) (Ml29 : sM) (H : Heap) (locs : List Loc) (ls : Array Slot), ((f 570 - i).toNat) < fuel → (0 ≤ i ∧ i ≤ f 570) → (stI f s t i c2 F2 H2) → (Ml29 k = some (sObj 5 [.ref (k + 1), .ref (k + 2), .int (sI c2)])) → (Ml29 (k + 1) = some (sArr G 61 F2)) → (Ml29 (k + 2) = some (sArr G 61 H2)) → (∀ x : Nat, ¬ (x = k) → ¬ (x = k + 1) → ¬ (x = k + 2) → Ml29 x = M8 x) → sV G b_ Ml29 N s_ H locs → lv_has ls 6 [(0, .ref k), (2, .int (sI s)), (3, .int (sI t)), (4, .ref (a + 9)), (5, .int (sI i))] → W p_ l_ e_ rmX7_lookAt s_ m_ args_ below_ meth_ c_ H locs 0 0 Q (F0 m_ 29 ls []) := by
    intro fuel
    induction fuel with
    | zero => intro i c2 F2 H2 Ml29 H locs ls hmu; exact absurd hmu (Nat.not_lt_zero _)
    | succ fuel ih29 =>
      intro i c2 F2 H2 Ml29 H locs ls hmu29 hv29_0 hst hm29_0 hm29_1 hm29_2 hfr29 hV hl
      have hst1 := hst.1
      refine lv_iload hx_ hb_ dX7_lookAt_29 (lv_at hl 4 rfl) ?_
      refine lv_aload hx_ hb_ dX7_lookAt_31 (lv_at hl 3 rfl) ?_
      have hc10 : stC G Ml29 a f := hst0.fr (fun x q8 q9 => (((hfr29 x (by omega) (by omega) (by omega)).trans ((congrFun hM8 x).trans (va_up_ne M5 _ (by omega)))).trans ((congrFun hM5 x).trans (va_up_ne M1 _ (by omega)))).trans ((congrFun hM1 x).trans (va_up_ne M _ (by omega))))
      refine sk_VP E hV (As := []) (rest := [.int (sI i)]) (kTs l_ G b_ Ml29 N (a + 9) 5 (f 570) 300 (tvT f) ((hc10).2.2.2.2.2.1)) (cwV 0 S.2.2.2.2 gX7_lookAt_X8_size rfl rfl rfl (by decide +kernel) ⟨Nat.le_of_ble_eq_true rfl, Nat.le_of_ble_eq_true rfl⟩) (ci := 6) ((hc10).2.2.2.2.2.1).1 rfl rfl rfl hl.1 (Nat.le_of_ble_eq_true rfl) dX7_lookAt_33 (c1 := 0) (s1 := 0) ⟨⟨rfl, rfl⟩, by decide, by decide⟩ (fun H locs hV => ?_)
      refine sb_ge (tgt := 88) S dX7_lookAt_36 (by decide) (by omega) (fun c11 => ?_) (fun c11 => ?_)
      · refine lv_aload_n hx_ hb_ dX7_lookAt_88 rfl (lv_at hl 0 rfl) ?_
        refine sk_Vv E hV (As := []) (rest := []) (kX7_meltSameHands l_ G b_ Ml29 N k c2 F2 H2 (fun x => hnd f s x t) hm29_0 hm29_1 hm29_2 (st_e (by omega) (show i = f 570 by omega) hst)) (cwV 0 S.2.2.2.2 gX7_lookAt_X7_meltSameHands rfl rfl rfl (by decide +kernel) ⟨Nat.le_of_ble_eq_true rfl, Nat.le_of_ble_eq_true rfl⟩) (ci := 5) hm29_0 rfl rfl rfl hl.1 (Nat.le_of_ble_eq_true rfl) dX7_lookAt_89 (c1 := 0) (s1 := 0) ⟨⟨rfl, rfl⟩, by decide, by decide⟩ (fun M12 N13 H locs hp14 hV => ?_)
        obtain ⟨c916, F917, H918, hN19, hc20, hc21, hc22, hf23, hsk924⟩ := hp14
        rw [hN19] at hV
        have hsk9 := hsk924
        exact sr_v E hQ dX7_lookAt_92 ⟨Nat.le_of_ble_eq_true rfl, Nat.le_of_ble_eq_true rfl⟩ hV (⟨c916, F917, H918, rfl, hc20, hc21, hc22, fun x q0 q1 q2 => ((((hf23 x (by omega) (by omega) (by omega)).trans (hfr29 x (by omega) (by omega) (by omega))).trans ((congrFun hM8 x).trans (va_up_ne M5 _ (by omega)))).trans ((congrFun hM5 x).trans (va_up_ne M1 _ (by omega)))).trans ((congrFun hM1 x).trans (va_up_ne M _ (by omega))), hsk9⟩)
      · refine lv_aload hx_ hb_ dX7_lookAt_39 (lv_at hl 3 rfl) ?_
        refine lv_iload hx_ hb_ dX7_lookAt_41 (lv_at hl 4 rfl) ?_
        refine si_const S dX7_lookAt_43 ?_
        refine sk_VP E hV (As := [.int (sI i), .int (sI 0)]) (rest := []) (kTg l_ G b_ Ml29 N (a + 9) 5 (f 570) 300 (tvT f) i 0 (f (164 + i)) ((hc10).2.2.2.2.2.1) (by omega) (by omega) (tvT_0 f i)) (cwV 2 S.2.2.2.2 gX7_lookAt_X8_get rfl rfl rfl (by decide +kernel) ⟨Nat.le_of_ble_eq_true rfl, Nat.le_of_ble_eq_true rfl⟩) (ci := 6) ((hc10).2.2.2.2.2.1).1 rfl rfl rfl hl.1 (Nat.le_of_ble_eq_true rfl) dX7_lookAt_44 (c1 := 0) (s1 := 0) ⟨⟨rfl, rfl⟩, by decide, by decide⟩ (fun H locs hV => ?_)
        have kn25 : 0 ≤ f (164 + i) ∧ f (164 + i) < f 568 := (sOk_T hok i (by omega) (by omega)).1
        refine lv_iload_n hx_ hb_ dX7_lookAt_47 rfl (lv_at hl 1 rfl) ?_
        refine sb_ne (tgt := 82) S dX7_lookAt_48 (by decide) (by omega) (fun c26 => ?_) (fun c26 => ?_)
        · refine si_inc (lv' := [(5, .int (sI (i + 1))), (0, .ref k), (2, .int (sI s)), (3, .int (sI t)), (4, .ref (a + 9))]) S dX7_lookAt_82 hl (k := 4) rfl (by decide) rfl (fun ls hl => ?_)
          refine lv_goto (tgt := 29) hx_ hb_ dX7_lookAt_85 (by decide) ?_
          exact ih29 (i + 1) c2 F2 H2 Ml29 _ _ _ (by omega) (by omega) (st_k (by omega) hst (fun q => by have := q.1; omega)) hm29_0 hm29_1 hm29_2 (fun x q0 q1 q2 => hfr29 x (by omega) (by omega) (by omega)) hV (lv_sub hl [1, 2, 3, 4, 0] rfl)
        · refine lv_aload hx_ hb_ dX7_lookAt_51 (lv_at hl 3 rfl) ?_
          refine lv_iload hx_ hb_ dX7_lookAt_53 (lv_at hl 4 rfl) ?_
          refine lv_iload_n hx_ hb_ dX7_lookAt_55 rfl (lv_at hl 2 rfl) ?_
          refine sk_SP E hV (As := [.ref (a + 9), .int (sI i), .int (sI t)]) (rest := []) (kX7_isKnown l_ G b_ Ml29 N (a + 9) f i t ((hc10).2.2.2.2.2.1) (by omega) (by omega) (by omega)) (va_cwS 3 S.2.2.2.2 gX7_lookAt_X7_isKnown rfl rfl rfl (by decide +kernel) ⟨Nat.le_of_ble_eq_true rfl, Nat.le_of_ble_eq_true rfl⟩) rfl rfl hl.1 (Nat.le_of_ble_eq_true rfl) dX7_lookAt_56 (c1 := 0) (s1 := 0) ⟨⟨rfl, rfl⟩, by decide, by decide⟩ (fun H locs hV => ?_)
          refine sq_eq (tgt := 82) S dX7_lookAt_59 (by decide) (fun h59 => ?_) (fun h59 => ?_)
          · refine si_inc (lv' := [(5, .int (sI (i + 1))), (0, .ref k), (2, .int (sI s)), (3, .int (sI t)), (4, .ref (a + 9))]) S dX7_lookAt_82 hl (k := 4) rfl (by decide) rfl (fun ls hl => ?_)
            refine lv_goto (tgt := 29) hx_ hb_ dX7_lookAt_85 (by decide) ?_
            exact ih29 (i + 1) c2 F2 H2 Ml29 _ _ _ (by omega) (by omega) (st_k (by omega) hst (fun q => h59 q.2)) hm29_0 hm29_1 hm29_2 (fun x q0 q1 q2 => hfr29 x (by omega) (by omega) (by omega)) hV (lv_sub hl [1, 2, 3, 4, 0] rfl)
          · refine lv_aload_n hx_ hb_ dX7_lookAt_62 rfl (lv_at hl 0 rfl) ?_
            refine lv_aload hx_ hb_ dX7_lookAt_63 (lv_at hl 3 rfl) ?_
            refine lv_iload hx_ hb_ dX7_lookAt_65 (lv_at hl 4 rfl) ?_
            refine si_const S dX7_lookAt_67 ?_
            refine sk_VP E hV (As := [.int (sI i), .int (sI 1)]) (rest := [.ref k]) (kTg l_ G b_ Ml29 N (a + 9) 5 (f 570) 300 (tvT f) i 1 (dat (f (224 + i))) ((hc10).2.2.2.2.2.1) (by omega) (by omega) (tvT_1 f i)) (cwV 2 S.2.2.2.2 gX7_lookAt_X8_get rfl rfl rfl (by decide +kernel) ⟨Nat.le_of_ble_eq_true rfl, Nat.le_of_ble_eq_true rfl⟩) (ci := 6) ((hc10).2.2.2.2.2.1).1 rfl rfl rfl hl.1 (Nat.le_of_ble_eq_true rfl) dX7_lookAt_68 (c1 := 0) (s1 := 0) ⟨⟨rfl, rfl⟩, by decide, by decide⟩ (fun H locs hV => ?_)
            refine lv_aload hx_ hb_ dX7_lookAt_71 (lv_at hl 3 rfl) ?_
            refine lv_iload hx_ hb_ dX7_lookAt_73 (lv_at hl 4 rfl) ?_
            refine si_const S dX7_lookAt_75 ?_
            refine sk_VP E hV (As := [.int (sI i), .int (sI 2)]) (rest := [.int (sI (dat (f (224 + i)))), .ref k]) (kTg l_ G b_ Ml29 N (a + 9) 5 (f 570) 300 (tvT f) i 2 (f (284 + i)) ((hc10).2.2.2.2.2.1) (by omega) (by omega) (tvT_2 f i)) (cwV 2 S.2.2.2.2 gX7_lookAt_X8_get rfl rfl rfl (by decide +kernel) ⟨Nat.le_of_ble_eq_true rfl, Nat.le_of_ble_eq_true rfl⟩) (ci := 6) ((hc10).2.2.2.2.2.1).1 rfl rfl rfl hl.1 (Nat.le_of_ble_eq_true rfl) dX7_lookAt_76 (c1 := 0) (s1 := 0) ⟨⟨rfl, rfl⟩, by decide, by decide⟩ (fun H locs hV => ?_)
            have kn27 : 0 ≤ f (284 + i) ∧ f (284 + i) ≤ 6 := (sOk_T hok i (by omega) (by omega)).2.2.1
            refine sk_Vv E hV (As := [.int (sI (dat (f (224 + i)))), .int (sI (f (284 + i)))]) (rest := []) (kX7_insert l_ G b_ Ml29 N k c2 F2 H2 (dat (f (224 + i))) (f (284 + i)) f s t i hm29_0 hm29_1 hm29_2 (by omega) (hst) (by omega) (⟨rfl, rfl, by omega, h59⟩)) (cwV 2 S.2.2.2.2 gX7_lookAt_X7_insert rfl rfl rfl (by decide +kernel) ⟨Nat.le_of_ble_eq_true rfl, Nat.le_of_ble_eq_true rfl⟩) (ci := 5) hm29_0 rfl rfl rfl hl.1 (Nat.le_of_ble_eq_true rfl) dX7_lookAt_79 (c1 := 0) (s1 := 0) ⟨⟨rfl, rfl⟩, by decide, by decide⟩ (fun M28 N29 H locs hp30 hV => ?_)
            obtain ⟨c932, F933, H934, hN35, hc36, hc37, hc38, hf39, hst940⟩ := hp30
            rw [hN35] at hV
            have hst9 := hst940
            refine si_inc (lv' := [(5, .int (sI (i + 1))), (0, .ref k), (2, .int (sI s)), (3, .int (sI t)), (4, .ref (a + 9))]) S dX7_lookAt_82 hl (k := 4) rfl (by decide) rfl (fun ls hl => ?_)
            refine lv_goto (tgt := 29) hx_ hb_ dX7_lookAt_85 (by decide) ?_
            exact ih29 (i + 1) c932 F933 H934 M28 _ _ _ (by omega) (by omega) (hst9) hc36 hc37 hc38 (fun x q0 q1 q2 => (hf39 x (by omega) (by omega) (by omega)).trans (hfr29 x (by omega) (by omega) (by omega))) hV (lv_sub hl [1, 2, 3, 4, 0] rfl)
  have hc41 : M8 (k + 1) = some (sArr G 61 (iup F 0 (-1))) := (((congrFun hM8 (k + 1)).trans (va_up_ne M5 _ (by omega))).trans ((congrFun hM5 (k + 1)).trans (va_up_ne M1 _ (by omega)))).trans hc2
  have hc42 : M8 (k + 2) = some (sArr G 61 (iup Hn 0 6)) := ((congrFun hM8 (k + 2)).trans (va_up_ne M5 _ (by omega))).trans hc6
  exact L29 _ 0 1 (iup F 0 (-1)) (iup Hn 0 6) M8 _ _ _ (Nat.lt_succ_self _) (by omega) (st_0 F Hn) hc9 hc41 hc42 (fun x q0 q1 q2 => rfl) hV (lv_sub hl [2, 4, 5, 1, 0] rfl)

abbrev rmX7_handAt : Room := { frames := 1, cells := 0, slots := 0, locals := 40 }
set_option maxHeartbeats 4000000 in
set_option maxRecDepth 100000 in
theorem kX7_handAt (l_ : Launch) (G : sG) (b_ : Nat) (M : sM) (N : Nat) (k : Nat) (c : Int) (F Hn h : sF) (d : Int) (hk0 : M k = some (sObj 5 [.ref (k + 1), .ref (k + 2), .int (sI c)])) (hk1 : M (k + 1) = some (sArr G 61 F)) (hk2 : M (k + 2) = some (sArr G 61 Hn)) (hsk : skQ h c F Hn) (hd : isDt d) : cP l_ yX7_handAt wsX7_handAt rmX7_handAt G b_ M N [.ref k, .int (sI d)] (h (dayI d + 3652)) := by
  refine sE.ofI (cc := cX7_handAt) (nL := 4) (ret := (some .int)) (by decide) rfl (Nat.le_of_ble_eq_true rfl) ?_
  intro p_ e_ s_ m_ args_ below_ meth_ c_ ls Q hQ E hl
  have E : sE p_ l_ e_ rmX7_handAt s_ m_ args_ below_ meth_ c_ cX7_handAt 4 wsX7_handAt RX7 "handAt" (some .int) G b_ M N := E
  have S := E.1
  have hx_ := S.1
  have hb_ := S.2.1
  have hK := E.2.2.2.2.1
  have hV := E.2.2.2.2.2.2
  have hl : lv_has ls 4 [(0, .ref k), (1, .int (sI d))] := hl
  have inX7_ : ∀ w ∈ wsX70, w ∈ wsX7_handAt := fun _ h => List.mem_cons_of_mem _ (List.mem_append_right _ h)
  have hc1 := hsk.2.1
  have hdr := dayI_r hd
  refine si_bipush S dX7_handAt_0 (by decide) ?_
  refine lv_istore_n (lv' := [(2, .int (sI 6)), (0, .ref k), (1, .int (sI d))]) hx_ hb_ dX7_handAt_2 rfl hl (by decide) rfl (fun ls hl => ?_)
  refine si_const S dX7_handAt_3 ?_
  refine lv_istore_n (lv' := [(3, .int (sI 0)), (2, .int (sI 6)), (0, .ref k), (1, .int (sI d))]) hx_ hb_ dX7_handAt_4 rfl hl (by decide) rfl (fun ls hl => ?_)
  have L5 : ∀ (fuel : Nat) (z : Int) (j : Int)  (H : Heap) (locs : List Loc) (ls : Array Slot), ((c - j).toNat) < fuel → (0 ≤ j ∧ j ≤ c) → (haQ F Hn (dayI d + 3652) j z) → sV G b_ M N s_ H locs → lv_has ls 4 [(0, .ref k), (1, .int (sI d)), (2, .int (sI z)), (3, .int (sI j))] → W p_ l_ e_ rmX7_handAt s_ m_ args_ below_ meth_ c_ H locs 0 0 Q (F0 m_ 5 ls []) := by
    intro fuel
    induction fuel with
    | zero => intro z j H locs ls hmu; exact absurd hmu (Nat.not_lt_zero _)
    | succ fuel ih5 =>
      intro z j H locs ls hmu5 hv5_0 hz  hV hl
      refine lv_iload_n hx_ hb_ dX7_handAt_5 rfl (lv_at hl 3 rfl) ?_
      refine lv_aload_n hx_ hb_ dX7_handAt_6 rfl (lv_at hl 0 rfl) ?_
      refine sc_get (ci := 5) (C := RX7) (T := TX7) (n := 3) S hK hV inX7_ hk0 rfl 2 (by decide) (S.2.2.2.2 _ (List.mem_of_getElem? (i := 1) rfl)) rfl rfl dX7_handAt_7 ?_
      refine sb_ge (tgt := 36) S dX7_handAt_10 (by decide) (by omega) (fun c1 => ?_) (fun c1 => ?_)
      · refine lv_iload_n hx_ hb_ dX7_handAt_36 rfl (lv_at hl 2 rfl) ?_
        exact sr_i E hQ dX7_handAt_37 ⟨Nat.le_of_ble_eq_true rfl, Nat.le_of_ble_eq_true rfl⟩ hV (⟨ha_e hsk (by rw [show c = j by omega]; exact hz), rfl, rfl⟩)
      · refine lv_aload_n hx_ hb_ dX7_handAt_13 rfl (lv_at hl 0 rfl) ?_
        refine sc_get (ci := 5) (C := RX7) (T := TX7) (n := 3) S hK hV inX7_ hk0 rfl 0 (by decide) (S.2.2.2.2 _ (List.mem_of_getElem? (i := 2) rfl)) rfl rfl dX7_handAt_14 ?_
        refine lv_iload_n hx_ hb_ dX7_handAt_17 rfl (lv_at hl 3 rfl) ?_
        have hFj : -1 ≤ F j ∧ F j ≤ 30000000 ∧ (1 ≤ j → (F j ≤ d ↔ dF F j ≤ dayI d + 3652)) ∧ (j = 0 → F j ≤ d ∧ dF F j ≤ dayI d + 3652) := by
          by_cases e9 : j = 0
          · rw [e9, hsk.2.2.1.1, dF_0 F (by omega)]; omega
          · have h8 := hsk.2.2.1.2.1 j (by omega) (by omega)
            have h7 := dayI_le (isDt_x h8) (isDt_x hd)
            rw [dF_1 F (by omega)]
            omega
        refine sc_iald S hK hV hk1 (by omega) dX7_handAt_18 ?_
        refine lv_iload_n hx_ hb_ dX7_handAt_19 rfl (lv_at hl 1 rfl) ?_
        refine sb_gt (tgt := 30) S dX7_handAt_20 (by decide) (by omega) (fun c2 => ?_) (fun c2 => ?_)
        · refine si_inc (lv' := [(3, .int (sI (j + 1))), (0, .ref k), (1, .int (sI d)), (2, .int (sI z))]) S dX7_handAt_30 hl (k := 3) rfl (by decide) rfl (fun ls hl => ?_)
          refine lv_goto (tgt := 5) hx_ hb_ dX7_handAt_33 (by decide) ?_
          exact ih5 z (j + 1) _ _ _ (by omega) (by omega) (ha_k (by omega) hz (by omega)) hV (lv_sub hl [1, 2, 3, 0] rfl)
        · refine lv_aload_n hx_ hb_ dX7_handAt_23 rfl (lv_at hl 0 rfl) ?_
          refine sc_get (ci := 5) (C := RX7) (T := TX7) (n := 3) S hK hV inX7_ hk0 rfl 1 (by decide) (S.2.2.2.2 _ (List.mem_of_getElem? (i := 3) rfl)) rfl rfl dX7_handAt_24 ?_
          refine lv_iload_n hx_ hb_ dX7_handAt_27 rfl (lv_at hl 3 rfl) ?_
          refine sc_iald S hK hV hk2 (by omega) dX7_handAt_28 ?_
          refine lv_istore_n (lv' := [(2, .int (sI (Hn j))), (0, .ref k), (1, .int (sI d)), (3, .int (sI j))]) hx_ hb_ dX7_handAt_29 rfl hl (by decide) rfl (fun ls hl => ?_)
          refine si_inc (lv' := [(3, .int (sI (j + 1))), (2, .int (sI (Hn j))), (0, .ref k), (1, .int (sI d))]) S dX7_handAt_30 hl (k := 3) rfl (by decide) rfl (fun ls hl => ?_)
          refine lv_goto (tgt := 5) hx_ hb_ dX7_handAt_33 (by decide) ?_
          exact ih5 (Hn j) (j + 1) _ _ _ (by omega) (by omega) (ha_n (by omega) (by omega)) hV (lv_sub hl [2, 3, 1, 0] rfl)
  exact L5 _ 6 0 _ _ _ (Nat.lt_succ_self _) (by omega) (Or.inl rfl) hV (lv_sub hl [2, 3, 1, 0] rfl)

abbrev rmX7_lastOf : Room := { frames := 5, cells := 0, slots := 0, locals := 125 }
set_option maxHeartbeats 4000000 in
set_option maxRecDepth 100000 in
theorem kX7_lastOf (l_ : Launch) (G : sG) (b_ : Nat) (M : sM) (N : Nat) (k : Nat) (c : Int) (F Hn h : sF) (q : Int) (hk0 : M k = some (sObj 5 [.ref (k + 1), .ref (k + 2), .int (sI c)])) (hk1 : M (k + 1) = some (sArr G 61 F)) (hsk : skQ h c F Hn) (hq : 0 ≤ q ∧ q < c) : cP l_ yX7_lastOf wsX7_lastOf rmX7_lastOf G b_ M N [.ref k, .int (sI q)] (if q < c - 1 then dat (dF F (q + 1) - 1) else -1) := by
  refine sE.ofI (cc := cX7_lastOf) (nL := 2) (ret := (some .int)) (by decide) rfl (Nat.le_of_ble_eq_true rfl) ?_
  intro p_ e_ s_ m_ args_ below_ meth_ c_ ls Q hQ E hl
  have E : sE p_ l_ e_ rmX7_lastOf s_ m_ args_ below_ meth_ c_ cX7_lastOf 2 wsX7_lastOf RX7 "lastOf" (some .int) G b_ M N := E
  have S := E.1
  have hx_ := S.1
  have hb_ := S.2.1
  have hK := E.2.2.2.2.1
  have hV := E.2.2.2.2.2.2
  have hl : lv_has ls 2 [(0, .ref k), (1, .int (sI q))] := hl
  have inX7_ : ∀ w ∈ wsX70, w ∈ wsX7_lastOf := fun _ h => List.mem_cons_of_mem _ (List.mem_append_right _ h)
  have hc1 := hsk.2.1
  refine lv_iload_n hx_ hb_ dX7_lastOf_0 rfl (lv_at hl 1 rfl) ?_
  refine sz_lt (tgt := 28) S dX7_lastOf_1 (by decide) (by omega) (fun c1 => absurd c1 (by omega)) (fun _ => ?_)
  refine lv_iload_n hx_ hb_ dX7_lastOf_4 rfl (lv_at hl 1 rfl) ?_
  refine lv_aload_n hx_ hb_ dX7_lastOf_5 rfl (lv_at hl 0 rfl) ?_
  refine sc_get (ci := 5) (C := RX7) (T := TX7) (n := 3) S hK hV inX7_ hk0 rfl 2 (by decide) (S.2.2.2.2 _ (List.mem_of_getElem? (i := 1) rfl)) rfl rfl dX7_lastOf_6 ?_
  refine si_const S dX7_lastOf_9 ?_
  refine si_sub S dX7_lastOf_10 ?_
  refine sb_ge (tgt := 28) S dX7_lastOf_11 (by decide) (by omega) (fun c2 => ?_) (fun c2 => ?_)
  · refine si_const S dX7_lastOf_28 ?_
    exact sr_i E hQ dX7_lastOf_29 ⟨Nat.le_of_ble_eq_true rfl, Nat.le_of_ble_eq_true rfl⟩ hV (⟨by rw [if_neg (by omega)], rfl, rfl⟩)
  · refine lv_aload_n hx_ hb_ dX7_lastOf_14 rfl (lv_at hl 0 rfl) ?_
    refine sc_get (ci := 5) (C := RX7) (T := TX7) (n := 3) S hK hV inX7_ hk0 rfl 0 (by decide) (S.2.2.2.2 _ (List.mem_of_getElem? (i := 2) rfl)) rfl rfl dX7_lastOf_15 ?_
    refine lv_iload_n hx_ hb_ dX7_lastOf_18 rfl (lv_at hl 1 rfl) ?_
    refine si_const S dX7_lastOf_19 ?_
    refine si_add S dX7_lastOf_20 ?_
    refine sc_iald S hK hV hk1 (by omega) dX7_lastOf_21 ?_
    have hdq := (dF_r hsk.2.2.1 (j := q + 1) (by omega) (by omega))
    refine sk_SP E hV (As := [.int (sI (F (q + 1)))]) (rest := []) (kX0_dateAhead l_ G b_ M N (F (q + 1)) (by omega)) (va_cwS 1 S.2.2.2.2 gX7_lastOf_X0_dateAhead rfl rfl rfl (by decide +kernel) ⟨Nat.le_of_ble_eq_true rfl, Nat.le_of_ble_eq_true rfl⟩) rfl rfl hl.1 (Nat.le_of_ble_eq_true rfl) dX7_lastOf_22 (c1 := 0) (s1 := 0) ⟨⟨rfl, rfl⟩, by decide, by decide⟩ (fun H locs hV => ?_)
    refine lv_goto (tgt := 29) hx_ hb_ dX7_lastOf_25 (by decide) ?_
    exact sr_i E hQ dX7_lastOf_29 ⟨Nat.le_of_ble_eq_true rfl, Nat.le_of_ble_eq_true rfl⟩ hV (⟨by rw [if_pos (by omega), prev_dat hdq.2.2.1, dF_1 F (show 1 ≤ q + 1 by omega)], rfl, rfl⟩)

abbrev rmX7_daysWithin : Room := { frames := 6, cells := 0, slots := 0, locals := 146 }
set_option maxHeartbeats 4000000 in
set_option maxRecDepth 100000 in
theorem kX7_daysWithin (l_ : Launch) (G : sG) (b_ : Nat) (M : sM) (N : Nat) (k : Nat) (c : Int) (F Hn h : sF) (q a b : Int) (hk0 : M k = some (sObj 5 [.ref (k + 1), .ref (k + 2), .int (sI c)])) (hk1 : M (k + 1) = some (sArr G 61 F)) (hk2 : M (k + 2) = some (sArr G 61 Hn)) (hsk : skQ h c F Hn) (hq : 0 ≤ q ∧ q < c) (hab : 0 ≤ a ∧ a < 109573 ∧ 0 ≤ b ∧ b < 109573) : cP l_ yX7_daysWithin wsX7_daysWithin rmX7_daysWithin G b_ M N [.ref k, .int (sI q), .int (sI a), .int (sI b)] (dwI F c q a b) := by
  refine sE.ofI (cc := cX7_daysWithin) (nL := 6) (ret := (some .int)) (by decide) rfl (Nat.le_of_ble_eq_true rfl) ?_
  intro p_ e_ s_ m_ args_ below_ meth_ c_ ls Q hQ E hl
  have E : sE p_ l_ e_ rmX7_daysWithin s_ m_ args_ below_ meth_ c_ cX7_daysWithin 6 wsX7_daysWithin RX7 "daysWithin" (some .int) G b_ M N := E
  have S := E.1
  have hx_ := S.1
  have hb_ := S.2.1
  have hK := E.2.2.2.2.1
  have hV := E.2.2.2.2.2.2
  have hl : lv_has ls 6 [(0, .ref k), (1, .int (sI q)), (2, .int (sI a)), (3, .int (sI b))] := hl
  have inX7_ : ∀ w ∈ wsX70, w ∈ wsX7_daysWithin := fun _ h => List.mem_cons_of_mem _ (List.mem_append_right _ h)
  have hc1 := hsk.2.1
  have hq0 : q = 0 → F q = -1 := fun e => by rw [e]; exact hsk.2.2.1.1
  have hq1 : 1 ≤ q → (3652 ≤ dF F q ∧ dF F q < 113225) ∧ isDt (F q) ∧ dF F q = dayI (F q) + 3652 := fun e => by have := dF_r hsk.2.2.1 e hq.2; exact ⟨by omega, this.2.2.1, dF_1 F e⟩
  have hq2 : q < c - 1 → (3652 ≤ dF F (q + 1) ∧ dF F (q + 1) < 113225) ∧ isDx (dat (dF F (q + 1) - 1)) ∧ dayI (dat (dF F (q + 1) - 1)) = dF F (q + 1) - 3653 := fun e => by have h9 := dF_r hsk.2.2.1 (j := q + 1) (by omega) (by omega); have h8 := prev_d h9.2.2.1; have h7 := prev_dat h9.2.2.1; have h6 := dF_1 F (show 1 ≤ q + 1 by omega); rw [← h6] at h7; rw [← h7]; exact ⟨by omega, h8.1, by omega⟩
  refine lv_aload_n hx_ hb_ dX7_daysWithin_0 rfl (lv_at hl 0 rfl) ?_
  refine lv_iload_n hx_ hb_ dX7_daysWithin_1 rfl (lv_at hl 1 rfl) ?_
  refine sk_VP E hV (As := [.int (sI q)]) (rest := []) (kX7_firstOf l_ G b_ M N k c F q hk0 hk1 (by omega)) (cwV 1 S.2.2.2.2 gX7_daysWithin_X7_firstOf rfl rfl rfl (by decide +kernel) ⟨Nat.le_of_ble_eq_true rfl, Nat.le_of_ble_eq_true rfl⟩) (ci := 5) hk0 rfl rfl rfl hl.1 (Nat.le_of_ble_eq_true rfl) dX7_daysWithin_2 (c1 := 0) (s1 := 0) ⟨⟨rfl, rfl⟩, by decide, by decide⟩ (fun H locs hV => ?_)
  have hfq : -1 ≤ F q ∧ F q ≤ 30000000 ∧ (F q = -1 ↔ q = 0) := by by_cases e9 : q = 0; (rw [hq0 e9]; omega); (have := (hq1 (by omega)).2.1; omega)
  refine si_const S dX7_daysWithin_5 ?_
  refine sb_ne (tgt := 13) S dX7_daysWithin_6 (by decide) (by omega) (fun c1 => ?_) (fun c1 => ?_)
  · refine lv_iload_n hx_ hb_ dX7_daysWithin_13 rfl (lv_at hl 2 rfl) ?_
    refine lv_aload_n hx_ hb_ dX7_daysWithin_14 rfl (lv_at hl 0 rfl) ?_
    refine lv_iload_n hx_ hb_ dX7_daysWithin_15 rfl (lv_at hl 1 rfl) ?_
    refine sk_VP E hV (As := [.int (sI q)]) (rest := [.int (sI a)]) (kX7_firstOf l_ G b_ M N k c F q hk0 hk1 (by omega)) (cwV 1 S.2.2.2.2 gX7_daysWithin_X7_firstOf rfl rfl rfl (by decide +kernel) ⟨Nat.le_of_ble_eq_true rfl, Nat.le_of_ble_eq_true rfl⟩) (ci := 5) hk0 rfl rfl rfl hl.1 (Nat.le_of_ble_eq_true rfl) dX7_daysWithin_16 (c1 := 0) (s1 := 0) ⟨⟨rfl, rfl⟩, by decide, by decide⟩ (fun H locs hV => ?_)
    have hqq := hq1 (by omega)
    refine sk_SP E hV (As := [.int (sI (F q))]) (rest := [.int (sI a)]) (kX0_dayOf l_ G b_ M N (F q) (by omega)) (va_cwS 1 S.2.2.2.2 gX7_daysWithin_X0_dayOf rfl rfl rfl (by decide +kernel) ⟨Nat.le_of_ble_eq_true rfl, Nat.le_of_ble_eq_true rfl⟩) rfl rfl hl.1 (Nat.le_of_ble_eq_true rfl) dX7_daysWithin_19 (c1 := 0) (s1 := 0) ⟨⟨rfl, rfl⟩, by decide, by decide⟩ (fun H locs hV => ?_)
    refine si_max S hl.1 (S.2.2.2.2 _ (List.mem_of_getElem? (i := 1) rfl)) (S.2.2.2.2 _ (List.mem_of_getElem? (i := 2) rfl)) (S.2.2.2.2 _ (List.mem_of_getElem? (i := 3) rfl)) (S.2.2.2.2 _ (List.mem_of_getElem? (i := 4) rfl)) ⟨by decide, Nat.le_of_ble_eq_true rfl, by decide, by decide⟩ (by omega) dX7_daysWithin_22 ?_
    refine lv_istore (lv' := [(4, .int (sI (max a (dayI (F q))))), (0, .ref k), (1, .int (sI q)), (2, .int (sI a)), (3, .int (sI b))]) hx_ hb_ dX7_daysWithin_25 hl (by decide) rfl (fun ls hl => ?_)
    refine lv_aload_n hx_ hb_ dX7_daysWithin_27 rfl (lv_at hl 1 rfl) ?_
    refine lv_iload_n hx_ hb_ dX7_daysWithin_28 rfl (lv_at hl 2 rfl) ?_
    refine sk_VP E hV (As := [.int (sI q)]) (rest := []) (kX7_lastOf l_ G b_ M N k c F Hn h q hk0 hk1 (hsk) (by omega)) (cwV 1 S.2.2.2.2 gX7_daysWithin_X7_lastOf rfl rfl rfl (by decide +kernel) ⟨Nat.le_of_ble_eq_true rfl, Nat.le_of_ble_eq_true rfl⟩) (ci := 5) hk0 rfl rfl rfl hl.1 (Nat.le_of_ble_eq_true rfl) dX7_daysWithin_29 (c1 := 0) (s1 := 0) ⟨⟨rfl, rfl⟩, by decide, by decide⟩ (fun H locs hV => ?_)
    have hlq : -1 ≤ (if q < c - 1 then dat (dF F (q + 1) - 1) else -1) ∧ (if q < c - 1 then dat (dF F (q + 1) - 1) else -1) ≤ 30000000 ∧ ((if q < c - 1 then dat (dF F (q + 1) - 1) else -1) = -1 ↔ ¬ q < c - 1) := by by_cases e9 : q < c - 1; (rw [if_pos e9]; have := (hq2 e9).2.1; unfold isDx at this; omega); (rw [if_neg e9]; omega)
    refine si_const S dX7_daysWithin_32 ?_
    refine sb_ne (tgt := 40) S dX7_daysWithin_33 (by decide) (by omega) (fun c2 => ?_) (fun c2 => ?_)
    · refine lv_iload_n hx_ hb_ dX7_daysWithin_40 rfl (lv_at hl 4 rfl) ?_
      refine lv_aload_n hx_ hb_ dX7_daysWithin_41 rfl (lv_at hl 1 rfl) ?_
      refine lv_iload_n hx_ hb_ dX7_daysWithin_42 rfl (lv_at hl 2 rfl) ?_
      refine sk_VP E hV (As := [.int (sI q)]) (rest := [.int (sI b)]) (kX7_lastOf l_ G b_ M N k c F Hn h q hk0 hk1 (hsk) (by omega)) (cwV 1 S.2.2.2.2 gX7_daysWithin_X7_lastOf rfl rfl rfl (by decide +kernel) ⟨Nat.le_of_ble_eq_true rfl, Nat.le_of_ble_eq_true rfl⟩) (ci := 5) hk0 rfl rfl rfl hl.1 (Nat.le_of_ble_eq_true rfl) dX7_daysWithin_43 (c1 := 0) (s1 := 0) ⟨⟨rfl, rfl⟩, by decide, by decide⟩ (fun H locs hV => ?_)
      have hqc : q < c - 1 := Classical.not_not.mp fun e9 => absurd (hlq.2.2.mpr e9) (by omega)
      rw [if_pos hqc]
      have hqd := hq2 hqc
      have hqx := hqd.2.1
      unfold isDx at hqx
      refine sk_SP E hV (As := [.int (sI (dat (dF F (q + 1) - 1)))]) (rest := [.int (sI b)]) (kX0_dayOf l_ G b_ M N (dat (dF F (q + 1) - 1)) (by omega)) (va_cwS 1 S.2.2.2.2 gX7_daysWithin_X0_dayOf rfl rfl rfl (by decide +kernel) ⟨Nat.le_of_ble_eq_true rfl, Nat.le_of_ble_eq_true rfl⟩) rfl rfl hl.1 (Nat.le_of_ble_eq_true rfl) dX7_daysWithin_46 (c1 := 0) (s1 := 0) ⟨⟨rfl, rfl⟩, by decide, by decide⟩ (fun H locs hV => ?_)
      refine si_min S hl.1 (S.2.2.2.2 _ (List.mem_of_getElem? (i := 5) rfl)) (S.2.2.2.2 _ (List.mem_of_getElem? (i := 6) rfl)) (S.2.2.2.2 _ (List.mem_of_getElem? (i := 3) rfl)) (S.2.2.2.2 _ (List.mem_of_getElem? (i := 7) rfl)) ⟨by decide, Nat.le_of_ble_eq_true rfl, by decide, by decide⟩ (by omega) dX7_daysWithin_49 ?_
      refine lv_istore (lv' := [(5, .int (sI (min b (dayI (dat (dF F (q + 1) - 1)))))), (4, .int (sI (max a (dayI (F q))))), (0, .ref k), (1, .int (sI q)), (2, .int (sI a)), (3, .int (sI b))]) hx_ hb_ dX7_daysWithin_52 hl (by decide) rfl (fun ls hl => ?_)
      refine si_const S dX7_daysWithin_54 ?_
      refine lv_iload hx_ hb_ dX7_daysWithin_55 (lv_at hl 0 rfl) ?_
      refine lv_iload hx_ hb_ dX7_daysWithin_57 (lv_at hl 1 rfl) ?_
      refine si_sub S dX7_daysWithin_59 ?_
      refine si_const S dX7_daysWithin_60 ?_
      refine si_add S dX7_daysWithin_61 ?_
      refine si_max S hl.1 (S.2.2.2.2 _ (List.mem_of_getElem? (i := 1) rfl)) (S.2.2.2.2 _ (List.mem_of_getElem? (i := 2) rfl)) (S.2.2.2.2 _ (List.mem_of_getElem? (i := 3) rfl)) (S.2.2.2.2 _ (List.mem_of_getElem? (i := 4) rfl)) ⟨by decide, Nat.le_of_ble_eq_true rfl, by decide, by decide⟩ (by omega) dX7_daysWithin_62 ?_
      exact sr_i E hQ dX7_daysWithin_65 ⟨Nat.le_of_ble_eq_true rfl, Nat.le_of_ble_eq_true rfl⟩ hV (⟨by unfold dwI; rw [if_pos (show q < c - 1 by omega), if_neg (show ¬ q = 0 by omega)]; all_goals (first | rfl | omega), rfl, rfl⟩)
    · refine lv_iload_n hx_ hb_ dX7_daysWithin_36 rfl (lv_at hl 4 rfl) ?_
      refine lv_goto (tgt := 52) hx_ hb_ dX7_daysWithin_37 (by decide) ?_
      refine lv_istore (lv' := [(5, .int (sI b)), (4, .int (sI (max a (dayI (F q))))), (0, .ref k), (1, .int (sI q)), (2, .int (sI a)), (3, .int (sI b))]) hx_ hb_ dX7_daysWithin_52 hl (by decide) rfl (fun ls hl => ?_)
      refine si_const S dX7_daysWithin_54 ?_
      refine lv_iload hx_ hb_ dX7_daysWithin_55 (lv_at hl 0 rfl) ?_
      refine lv_iload hx_ hb_ dX7_daysWithin_57 (lv_at hl 1 rfl) ?_
      refine si_sub S dX7_daysWithin_59 ?_
      refine si_const S dX7_daysWithin_60 ?_
      refine si_add S dX7_daysWithin_61 ?_
      refine si_max S hl.1 (S.2.2.2.2 _ (List.mem_of_getElem? (i := 1) rfl)) (S.2.2.2.2 _ (List.mem_of_getElem? (i := 2) rfl)) (S.2.2.2.2 _ (List.mem_of_getElem? (i := 3) rfl)) (S.2.2.2.2 _ (List.mem_of_getElem? (i := 4) rfl)) ⟨by decide, Nat.le_of_ble_eq_true rfl, by decide, by decide⟩ (by omega) dX7_daysWithin_62 ?_
      exact sr_i E hQ dX7_daysWithin_65 ⟨Nat.le_of_ble_eq_true rfl, Nat.le_of_ble_eq_true rfl⟩ hV (⟨by unfold dwI; rw [if_neg (show ¬ q < c - 1 by omega), if_neg (show ¬ q = 0 by omega)]; all_goals (first | rfl | omega), rfl, rfl⟩)
  · refine lv_iload_n hx_ hb_ dX7_daysWithin_9 rfl (lv_at hl 2 rfl) ?_
    refine lv_goto (tgt := 25) hx_ hb_ dX7_daysWithin_10 (by decide) ?_
    refine lv_istore (lv' := [(4, .int (sI a)), (0, .ref k), (1, .int (sI q)), (2, .int (sI a)), (3, .int (sI b))]) hx_ hb_ dX7_daysWithin_25 hl (by decide) rfl (fun ls hl => ?_)
    refine lv_aload_n hx_ hb_ dX7_daysWithin_27 rfl (lv_at hl 1 rfl) ?_
    refine lv_iload_n hx_ hb_ dX7_daysWithin_28 rfl (lv_at hl 2 rfl) ?_
    refine sk_VP E hV (As := [.int (sI q)]) (rest := []) (kX7_lastOf l_ G b_ M N k c F Hn h q hk0 hk1 (hsk) (by omega)) (cwV 1 S.2.2.2.2 gX7_daysWithin_X7_lastOf rfl rfl rfl (by decide +kernel) ⟨Nat.le_of_ble_eq_true rfl, Nat.le_of_ble_eq_true rfl⟩) (ci := 5) hk0 rfl rfl rfl hl.1 (Nat.le_of_ble_eq_true rfl) dX7_daysWithin_29 (c1 := 0) (s1 := 0) ⟨⟨rfl, rfl⟩, by decide, by decide⟩ (fun H locs hV => ?_)
    have hlq : -1 ≤ (if q < c - 1 then dat (dF F (q + 1) - 1) else -1) ∧ (if q < c - 1 then dat (dF F (q + 1) - 1) else -1) ≤ 30000000 ∧ ((if q < c - 1 then dat (dF F (q + 1) - 1) else -1) = -1 ↔ ¬ q < c - 1) := by by_cases e9 : q < c - 1; (rw [if_pos e9]; have := (hq2 e9).2.1; unfold isDx at this; omega); (rw [if_neg e9]; omega)
    refine si_const S dX7_daysWithin_32 ?_
    refine sb_ne (tgt := 40) S dX7_daysWithin_33 (by decide) (by omega) (fun c3 => ?_) (fun c3 => ?_)
    · refine lv_iload_n hx_ hb_ dX7_daysWithin_40 rfl (lv_at hl 4 rfl) ?_
      refine lv_aload_n hx_ hb_ dX7_daysWithin_41 rfl (lv_at hl 1 rfl) ?_
      refine lv_iload_n hx_ hb_ dX7_daysWithin_42 rfl (lv_at hl 2 rfl) ?_
      refine sk_VP E hV (As := [.int (sI q)]) (rest := [.int (sI b)]) (kX7_lastOf l_ G b_ M N k c F Hn h q hk0 hk1 (hsk) (by omega)) (cwV 1 S.2.2.2.2 gX7_daysWithin_X7_lastOf rfl rfl rfl (by decide +kernel) ⟨Nat.le_of_ble_eq_true rfl, Nat.le_of_ble_eq_true rfl⟩) (ci := 5) hk0 rfl rfl rfl hl.1 (Nat.le_of_ble_eq_true rfl) dX7_daysWithin_43 (c1 := 0) (s1 := 0) ⟨⟨rfl, rfl⟩, by decide, by decide⟩ (fun H locs hV => ?_)
      have hqc : q < c - 1 := Classical.not_not.mp fun e9 => absurd (hlq.2.2.mpr e9) (by omega)
      rw [if_pos hqc]
      have hqd := hq2 hqc
      have hqx := hqd.2.1
      unfold isDx at hqx
      refine sk_SP E hV (As := [.int (sI (dat (dF F (q + 1) - 1)))]) (rest := [.int (sI b)]) (kX0_dayOf l_ G b_ M N (dat (dF F (q + 1) - 1)) (by omega)) (va_cwS 1 S.2.2.2.2 gX7_daysWithin_X0_dayOf rfl rfl rfl (by decide +kernel) ⟨Nat.le_of_ble_eq_true rfl, Nat.le_of_ble_eq_true rfl⟩) rfl rfl hl.1 (Nat.le_of_ble_eq_true rfl) dX7_daysWithin_46 (c1 := 0) (s1 := 0) ⟨⟨rfl, rfl⟩, by decide, by decide⟩ (fun H locs hV => ?_)
      refine si_min S hl.1 (S.2.2.2.2 _ (List.mem_of_getElem? (i := 5) rfl)) (S.2.2.2.2 _ (List.mem_of_getElem? (i := 6) rfl)) (S.2.2.2.2 _ (List.mem_of_getElem? (i := 3) rfl)) (S.2.2.2.2 _ (List.mem_of_getElem? (i := 7) rfl)) ⟨by decide, Nat.le_of_ble_eq_true rfl, by decide, by decide⟩ (by omega) dX7_daysWithin_49 ?_
      refine lv_istore (lv' := [(5, .int (sI (min b (dayI (dat (dF F (q + 1) - 1)))))), (4, .int (sI a)), (0, .ref k), (1, .int (sI q)), (2, .int (sI a)), (3, .int (sI b))]) hx_ hb_ dX7_daysWithin_52 hl (by decide) rfl (fun ls hl => ?_)
      refine si_const S dX7_daysWithin_54 ?_
      refine lv_iload hx_ hb_ dX7_daysWithin_55 (lv_at hl 0 rfl) ?_
      refine lv_iload hx_ hb_ dX7_daysWithin_57 (lv_at hl 1 rfl) ?_
      refine si_sub S dX7_daysWithin_59 ?_
      refine si_const S dX7_daysWithin_60 ?_
      refine si_add S dX7_daysWithin_61 ?_
      refine si_max S hl.1 (S.2.2.2.2 _ (List.mem_of_getElem? (i := 1) rfl)) (S.2.2.2.2 _ (List.mem_of_getElem? (i := 2) rfl)) (S.2.2.2.2 _ (List.mem_of_getElem? (i := 3) rfl)) (S.2.2.2.2 _ (List.mem_of_getElem? (i := 4) rfl)) ⟨by decide, Nat.le_of_ble_eq_true rfl, by decide, by decide⟩ (by omega) dX7_daysWithin_62 ?_
      exact sr_i E hQ dX7_daysWithin_65 ⟨Nat.le_of_ble_eq_true rfl, Nat.le_of_ble_eq_true rfl⟩ hV (⟨by unfold dwI; rw [if_pos (show q < c - 1 by omega), if_pos (show q = 0 by omega)]; all_goals (first | rfl | omega), rfl, rfl⟩)
    · refine lv_iload_n hx_ hb_ dX7_daysWithin_36 rfl (lv_at hl 4 rfl) ?_
      refine lv_goto (tgt := 52) hx_ hb_ dX7_daysWithin_37 (by decide) ?_
      refine lv_istore (lv' := [(5, .int (sI b)), (4, .int (sI a)), (0, .ref k), (1, .int (sI q)), (2, .int (sI a)), (3, .int (sI b))]) hx_ hb_ dX7_daysWithin_52 hl (by decide) rfl (fun ls hl => ?_)
      refine si_const S dX7_daysWithin_54 ?_
      refine lv_iload hx_ hb_ dX7_daysWithin_55 (lv_at hl 0 rfl) ?_
      refine lv_iload hx_ hb_ dX7_daysWithin_57 (lv_at hl 1 rfl) ?_
      refine si_sub S dX7_daysWithin_59 ?_
      refine si_const S dX7_daysWithin_60 ?_
      refine si_add S dX7_daysWithin_61 ?_
      refine si_max S hl.1 (S.2.2.2.2 _ (List.mem_of_getElem? (i := 1) rfl)) (S.2.2.2.2 _ (List.mem_of_getElem? (i := 2) rfl)) (S.2.2.2.2 _ (List.mem_of_getElem? (i := 3) rfl)) (S.2.2.2.2 _ (List.mem_of_getElem? (i := 4) rfl)) ⟨by decide, Nat.le_of_ble_eq_true rfl, by decide, by decide⟩ (by omega) dX7_daysWithin_62 ?_
      exact sr_i E hQ dX7_daysWithin_65 ⟨Nat.le_of_ble_eq_true rfl, Nat.le_of_ble_eq_true rfl⟩ hV (⟨by unfold dwI; rw [if_neg (show ¬ q < c - 1 by omega), if_pos (show q = 0 by omega)]; all_goals (first | rfl | omega), rfl, rfl⟩)

abbrev rmX7_gaps : Room := { frames := 6, cells := 0, slots := 0, locals := 146 }
set_option maxHeartbeats 4000000 in
set_option maxRecDepth 100000 in
theorem kX7_gaps (l_ : Launch) (G : sG) (b_ : Nat) (M : sM) (N : Nat) (k : Nat) (c : Int) (F Hn h : sF) (hk0 : M k = some (sObj 5 [.ref (k + 1), .ref (k + 2), .int (sI c)])) (hk1 : M (k + 1) = some (sArr G 61 F)) (hk2 : M (k + 2) = some (sArr G 61 Hn)) (hsk : skQ h c F Hn) : cP l_ yX7_gaps wsX7_gaps rmX7_gaps G b_ M N [.ref k] 0 := by
  refine sE.ofI (cc := cX7_gaps) (nL := 3) (ret := (some .int)) (by decide) rfl (Nat.le_of_ble_eq_true rfl) ?_
  intro p_ e_ s_ m_ args_ below_ meth_ c_ ls Q hQ E hl
  have E : sE p_ l_ e_ rmX7_gaps s_ m_ args_ below_ meth_ c_ cX7_gaps 3 wsX7_gaps RX7 "gaps" (some .int) G b_ M N := E
  have S := E.1
  have hx_ := S.1
  have hb_ := S.2.1
  have hK := E.2.2.2.2.1
  have hV := E.2.2.2.2.2.2
  have hl : lv_has ls 3 [(0, .ref k)] := hl
  have inX7_ : ∀ w ∈ wsX70, w ∈ wsX7_gaps := fun _ h => List.mem_cons_of_mem _ (List.mem_append_right _ h)
  have hc1 := hsk.2.1
  refine si_const S dX7_gaps_0 ?_
  refine lv_istore_n (lv' := [(1, .int (sI 0)), (0, .ref k)]) hx_ hb_ dX7_gaps_1 rfl hl (by decide) rfl (fun ls hl => ?_)
  refine si_const S dX7_gaps_2 ?_
  refine lv_istore_n (lv' := [(2, .int (sI 1)), (1, .int (sI 0)), (0, .ref k)]) hx_ hb_ dX7_gaps_3 rfl hl (by decide) rfl (fun ls hl => ?_)
  have L4 : ∀ (fuel : Nat) (z : Int) (j : Int)  (H : Heap) (locs : List Loc) (ls : Array Slot), ((c - j).toNat) < fuel → (1 ≤ j ∧ j ≤ c ∧ z = 0) → sV G b_ M N s_ H locs → lv_has ls 3 [(0, .ref k), (1, .int (sI z)), (2, .int (sI j))] → W p_ l_ e_ rmX7_gaps s_ m_ args_ below_ meth_ c_ H locs 0 0 Q (F0 m_ 4 ls []) := by
    intro fuel
    induction fuel with
    | zero => intro z j H locs ls hmu; exact absurd hmu (Nat.not_lt_zero _)
    | succ fuel ih4 =>
      intro z j H locs ls hmu4 hv4_0  hV hl
      refine lv_iload_n hx_ hb_ dX7_gaps_4 rfl (lv_at hl 2 rfl) ?_
      refine lv_aload_n hx_ hb_ dX7_gaps_5 rfl (lv_at hl 0 rfl) ?_
      refine sc_get (ci := 5) (C := RX7) (T := TX7) (n := 3) S hK hV inX7_ hk0 rfl 2 (by decide) (S.2.2.2.2 _ (List.mem_of_getElem? (i := 1) rfl)) rfl rfl dX7_gaps_6 ?_
      refine sb_ge (tgt := 45) S dX7_gaps_9 (by decide) (by omega) (fun c1 => ?_) (fun c1 => ?_)
      · refine lv_iload_n hx_ hb_ dX7_gaps_45 rfl (lv_at hl 1 rfl) ?_
        exact sr_i E hQ dX7_gaps_46 ⟨Nat.le_of_ble_eq_true rfl, Nat.le_of_ble_eq_true rfl⟩ hV (⟨by omega, rfl, rfl⟩)
      · refine lv_aload_n hx_ hb_ dX7_gaps_12 rfl (lv_at hl 0 rfl) ?_
        refine sc_get (ci := 5) (C := RX7) (T := TX7) (n := 3) S hK hV inX7_ hk0 rfl 0 (by decide) (S.2.2.2.2 _ (List.mem_of_getElem? (i := 2) rfl)) rfl rfl dX7_gaps_13 ?_
        refine lv_iload_n hx_ hb_ dX7_gaps_16 rfl (lv_at hl 2 rfl) ?_
        refine sc_iald S hK hV hk1 (by omega) dX7_gaps_17 ?_
        have hdj := dF_r hsk.2.2.1 (j := j) (by omega) (by omega)
        have hdj1 := dF_1 F (show 1 ≤ j by omega)
        have hdj2 := prev_d hdj.2.2.1
        have hdj3 := prev_dat hdj.2.2.1
        rw [← hdj1] at hdj3
        have hdx := hdj2.1
        unfold isDx at hdx
        rw [hdj3] at hdx
        have hdd := hdj2.2
        rw [hdj3] at hdd
        refine sk_SP E hV (As := [.int (sI (F j))]) (rest := []) (kX0_dayOf l_ G b_ M N (F j) (by omega)) (va_cwS 1 S.2.2.2.2 gX7_gaps_X0_dayOf rfl rfl rfl (by decide +kernel) ⟨Nat.le_of_ble_eq_true rfl, Nat.le_of_ble_eq_true rfl⟩) rfl rfl hl.1 (Nat.le_of_ble_eq_true rfl) dX7_gaps_18 (c1 := 0) (s1 := 0) ⟨⟨rfl, rfl⟩, by decide, by decide⟩ (fun H locs hV => ?_)
        refine lv_aload_n hx_ hb_ dX7_gaps_21 rfl (lv_at hl 0 rfl) ?_
        refine lv_iload_n hx_ hb_ dX7_gaps_22 rfl (lv_at hl 2 rfl) ?_
        refine si_const S dX7_gaps_23 ?_
        refine si_sub S dX7_gaps_24 ?_
        refine sk_VP E hV (As := [.int (sI (j - 1))]) (rest := [.int (sI (dayI (F j)))]) (kX7_lastOf l_ G b_ M N k c F Hn h (j - 1) hk0 hk1 (hsk) (by omega)) (cwV 1 S.2.2.2.2 gX7_gaps_X7_lastOf rfl rfl rfl (by decide +kernel) ⟨Nat.le_of_ble_eq_true rfl, Nat.le_of_ble_eq_true rfl⟩) (ci := 5) hk0 rfl rfl rfl hl.1 (Nat.le_of_ble_eq_true rfl) dX7_gaps_25 (c1 := 0) (s1 := 0) ⟨⟨rfl, rfl⟩, by decide, by decide⟩ (fun H locs hV => ?_)
        rw [if_pos (show j - 1 < c - 1 by omega), show j - 1 + 1 = j by omega]
        refine sk_SP E hV (As := [.int (sI (dat (dF F j - 1)))]) (rest := [.int (sI (dayI (F j)))]) (kX0_dayOf l_ G b_ M N (dat (dF F j - 1)) (by omega)) (va_cwS 1 S.2.2.2.2 gX7_gaps_X0_dayOf rfl rfl rfl (by decide +kernel) ⟨Nat.le_of_ble_eq_true rfl, Nat.le_of_ble_eq_true rfl⟩) rfl rfl hl.1 (Nat.le_of_ble_eq_true rfl) dX7_gaps_28 (c1 := 0) (s1 := 0) ⟨⟨rfl, rfl⟩, by decide, by decide⟩ (fun H locs hV => ?_)
        refine si_const S dX7_gaps_31 ?_
        refine si_add S dX7_gaps_32 ?_
        refine sb_eq (tgt := 39) S dX7_gaps_33 (by decide) (by omega) (fun _ => ?_) (fun c2 => absurd c2 (by omega))
        refine si_inc (lv' := [(2, .int (sI (j + 1))), (0, .ref k), (1, .int (sI z))]) S dX7_gaps_39 hl (k := 2) rfl (by decide) rfl (fun ls hl => ?_)
        refine lv_goto (tgt := 4) hx_ hb_ dX7_gaps_42 (by decide) ?_
        exact ih4 z (j + 1) _ _ _ (by omega) (by omega) hV (lv_sub hl [1, 2, 0] rfl)
  exact L4 _ 0 1 _ _ _ (Nat.lt_succ_self _) (by omega) hV (lv_sub hl [2, 1, 0] rfl)
