/-! What holds between calls: what lies may lie, no stone has too much light. -/
def dI (f : sF) : Prop := ∀ d, 0 ≤ d → d < 4 → whyF f d = 0
theorem wf_0 {f : sF} {d : Int} : whyF f d = 0 ↔ ¬ f (150 + d) < isum (f 568) (lyT f d 1) ∧ ¬ f (154 + d) < isum (f 568) (lyT f d 2) ∧ ¬ ptP f d := by
  unfold whyF
  rcases pif_cases (f (150 + d) < isum (f 568) (lyT f d 1)) 1 (pif (f (154 + d) < isum (f 568) (lyT f d 2)) 2 (pif (ptP f d) 3 0)) with ⟨a, e⟩ | ⟨a, e⟩
  · rw [e]; exact ⟨fun h => by omega, fun h => absurd a h.1⟩
  · rw [e]
    rcases pif_cases (f (154 + d) < isum (f 568) (lyT f d 2)) 2 (pif (ptP f d) 3 0) with ⟨b, e2⟩ | ⟨b, e2⟩
    · rw [e2]; exact ⟨fun h => by omega, fun h => absurd b h.2.1⟩
    · rw [e2]
      rcases pif_cases (ptP f d) 3 0 with ⟨c, e3⟩ | ⟨c, e3⟩
      · rw [e3]; exact ⟨fun h => by omega, fun h => absurd c h.2.2⟩
      · rw [e3]; exact ⟨fun _ => ⟨a, b, c⟩, fun _ => rfl⟩
theorem wm_0 {f p : sF} {s n : Int} : whyM f p s n = 0 ↔ ¬ f (150 + p s) < f (20 + s) + isum n (wyT f p s 1) ∧ ¬ f (154 + p s) < f (30 + s) + isum n (wyT f p s 2) ∧ ¬ ∃ o, 0 ≤ o ∧ o < n ∧ wyP f p s o := by
  unfold whyM
  rcases pif_cases (f (150 + p s) < f (20 + s) + isum n (wyT f p s 1)) 1 (pif (f (154 + p s) < f (30 + s) + isum n (wyT f p s 2)) 2 (pif (∃ o, 0 ≤ o ∧ o < n ∧ wyP f p s o) 3 0)) with ⟨a, e⟩ | ⟨a, e⟩
  · rw [e]; exact ⟨fun h => by omega, fun h => absurd a h.1⟩
  · rw [e]
    rcases pif_cases (f (154 + p s) < f (30 + s) + isum n (wyT f p s 2)) 2 (pif (∃ o, 0 ≤ o ∧ o < n ∧ wyP f p s o) 3 0) with ⟨b, e2⟩ | ⟨b, e2⟩
    · rw [e2]; exact ⟨fun h => by omega, fun h => absurd b h.2.1⟩
    · rw [e2]
      rcases pif_cases (∃ o, 0 ≤ o ∧ o < n ∧ wyP f p s o) 3 0 with ⟨c, e3⟩ | ⟨c, e3⟩
      · rw [e3]; exact ⟨fun h => by omega, fun h => absurd c h.2.2⟩
      · rw [e3]; exact ⟨fun _ => ⟨a, b, c⟩, fun _ => rfl⟩
/-- a drawer's sum, and a stone's with what lies about it -/
theorem ly_wy {g f p : sF} {n s d w : Int} (hs : 0 ≤ s ∧ s < n) (hw : w = 1 ∨ w = 2) (hg : ∀ o, 0 ≤ o → o < n → g (50 + o) = p o ∧ g (20 + o) = f (20 + o) ∧ g (30 + o) = f (30 + o)) (hp : p s = d) : isum n (lyT g d w) = f (10 + 10 * w + s) + isum n (wyT f p s w) := by
  have h1 := isum_one (n := n) (g := wyT f p s w) (g' := lyT g d w) s hs (fun k a b e => by
    obtain ⟨e1, e2, e3⟩ := hg k a b
    unfold lyT wyT
    rw [e1, e2, e3, hp]
    by_cases q : p k = d
    · rw [if_pos q, if_neg (show ¬ w = 0 by omega), if_pos (show k ≠ s ∧ p k = d from ⟨e, q⟩)]
    · rw [if_neg q, if_neg (fun r => q r.2)])
  rw [h1]
  obtain ⟨e1, e2, e3⟩ := hg s hs.1 hs.2
  have h3 : wyT f p s w s = 0 := by
    unfold wyT
    rw [if_neg (fun r => r.1 rfl)]
  have h2 : lyT g d w s = f (10 + 10 * w + s) := by
    unfold lyT
    rw [e1, e2, e3, if_pos hp, if_neg (by omega)]
    rcases hw with rfl | rfl
    · rw [if_pos rfl]; rfl
    · rw [if_neg (by omega)]; rfl
  rw [h2, h3]
  omega
theorem pt_wy {g f p : sF} {s d : Int} (hok : sOk f) (g8 : g 568 = f 568) (hs : 0 ≤ s ∧ s < f 568) (hg : ∀ o, 0 ≤ o → o < f 568 → g (50 + o) = p o ∧ g (10 + o) = f (10 + o)) (hz : ∀ x, 0 ≤ x → x ≤ 5 → g (158 + x) = f (158 + x)) (hp : p s = d) (hd : d ≠ -1) (h : ∃ o, 0 ≤ o ∧ o < f 568 ∧ wyP f p s o) : ptP g d := by
  obtain ⟨o, a, b, e1, e2, e3⟩ := h
  have k1 := (sOk_S hok s hs.1 hs.2).2.1
  have k2 := (sOk_S hok o a b).2.1
  obtain ⟨u1, u2⟩ := hg s hs.1 hs.2
  obtain ⟨v1, v2⟩ := hg o a b
  rcases (show o < s ∨ s < o by omega) with q | q
  · refine ⟨s, o, ⟨a, q, by omega⟩, by rw [u1]; exact hp, ⟨fun e => e1 e.symm, by rw [u1, hp]; exact hd, by rw [u1, v1]; exact e2.symm⟩, ?_⟩
    rw [u2, v2, hz _ k1.1 k1.2]
    exact (sOk_Ps hok _ _ k1.1 (by omega) k2.1 (by omega)).mpr e3
  · refine ⟨o, s, ⟨hs.1, q, by omega⟩, by rw [v1, e2]; exact hp, ⟨e1, by rw [v1, e2, hp]; exact hd, by rw [u1, v1]; exact e2⟩, ?_⟩
    rw [u2, v2, hz _ k2.1 k2.2]
    exact e3
/-- a stone that is laid: its drawer holds as it holds the stone -/
theorem wl_e {f : sF} (hok : sOk f) (hI : dI f) {s d : Int} (hs : 0 ≤ s ∧ s < f 568) (hd : 0 ≤ d ∧ d < 4) : whyF (iup f (50 + s) d) d = whyL f s d := by
  have h0 := sOk_N hok
  have zo : ∀ x, x ≠ 50 + s → iup f (50 + s) d x = f x := fun x h => if_neg h
  have z5 : ∀ o, 0 ≤ o → o < f 568 → iup f (50 + s) d (50 + o) = pLay f s d o := fun o a b => by
    unfold pLay
    by_cases e : o = s
    · rw [e, if_pos rfl]; exact if_pos rfl
    · rw [if_neg e]; exact zo _ (by omega)
  have hp : pLay f s d s = d := if_pos rfl
  have hg : ∀ o, 0 ≤ o → o < f 568 → iup f (50 + s) d (50 + o) = pLay f s d o ∧ iup f (50 + s) d (20 + o) = f (20 + o) ∧ iup f (50 + s) d (30 + o) = f (30 + o) := fun o a b => ⟨z5 o a b, zo _ (by omega), zo _ (by omega)⟩
  have s1 := ly_wy (w := 1) hs (Or.inl rfl) hg hp
  have s2 := ly_wy (w := 2) hs (Or.inr rfl) hg hp
  have hpt : ptP (iup f (50 + s) d) d ↔ ∃ o, 0 ≤ o ∧ o < f 568 ∧ wyP f (pLay f s d) s o := by
    constructor
    · rintro ⟨x, y, ⟨a1, a2, a3⟩, a4, ⟨a5, a6, a7⟩, a8⟩
      rw [zo 568 (by omega)] at a3
      rw [zo (10 + x) (by omega), zo (10 + y) (by omega)] at a8
      have k1 := (sOk_S hok x (by omega) (by omega)).2.1
      have k2 := (sOk_S hok y (by omega) (by omega)).2.1
      rw [zo (158 + f (10 + x)) (by omega)] at a8
      by_cases e : x = s
      · refine ⟨y, a1, by omega, by omega, ?_, ?_⟩
        · rw [← z5 y a1 (by omega), hp, ← a7]; exact a4
        · rw [← e]
          exact (sOk_Ps hok _ _ k2.1 (by omega) k1.1 (by omega)).mpr a8
      · by_cases e2 : y = s
        · refine ⟨x, by omega, a3, e, ?_, ?_⟩
          · rw [← z5 x (by omega) a3, hp]; exact a4
          · rw [← e2]
            exact a8
        · rw [zo _ (by omega)] at a4 a6 a7
          rw [zo _ (by omega)] at a7
          exact absurd ⟨x, y, ⟨a1, a2, a3⟩, a4, ⟨a5, a6, a7⟩, a8⟩ (wf_0.mp (hI d hd.1 hd.2)).2.2
    · exact fun h => pt_wy hok (zo 568 (by omega)) hs (fun o a b => ⟨z5 o a b, zo _ (by omega)⟩) (fun x a b => zo _ (by omega)) hp (by omega) h
  unfold whyF whyL whyM
  rw [if_neg (by omega), zo 568 (by omega), zo (150 + d) (by omega), zo (154 + d) (by omega), s1, s2, hp, pif_c hpt]
  rfl
theorem dI_oth {f : sF} (hok : sOk f) {s d e : Int} (hs : 0 ≤ s ∧ s < f 568) (he : 0 ≤ e ∧ e < 4) (hne : e ≠ d) (h : whyF f e = 0) : whyF (iup f (50 + s) d) e = 0 := by
  have h0 := sOk_N hok
  have zo : ∀ x, x ≠ 50 + s → iup f (50 + s) d x = f x := fun x h => if_neg h
  have zs : iup f (50 + s) d (50 + s) = d := if_pos rfl
  obtain ⟨h1, h2, h3⟩ := wf_0.mp h
  have hle : ∀ w, isum (f 568) (lyT (iup f (50 + s) d) e w) ≤ isum (f 568) (lyT f e w) := fun w => isum_le fun k a b => by
    have hr := lyT_r hok e w k a b
    by_cases q : k = s
    · have : lyT (iup f (50 + s) d) e w k = 0 := by
        unfold lyT
        rw [q, zs, if_neg (fun r => hne r.symm)]
      omega
    · have : lyT (iup f (50 + s) d) e w k = lyT f e w k := by
        unfold lyT
        rw [zo (50 + k) (by omega), zo (20 + k) (by omega), zo (30 + k) (by omega)]
      omega
  refine wf_0.mpr ⟨?_, ?_, ?_⟩
  · rw [zo 568 (by omega), zo (150 + e) (by omega)]
    have := hle 1
    omega
  · rw [zo 568 (by omega), zo (154 + e) (by omega)]
    have := hle 2
    omega
  · rintro ⟨x, y, ⟨a1, a2, a3⟩, a4, ⟨a5, a6, a7⟩, a8⟩
    rw [zo 568 (by omega)] at a3
    rw [zo (10 + x) (by omega), zo (10 + y) (by omega)] at a8
    have k1 := (sOk_S hok x (by omega) (by omega)).2.1
    rw [zo (158 + f (10 + x)) (by omega)] at a8
    have q1 : x ≠ s := fun q => by rw [q, zs] at a4; omega
    have q2 : y ≠ s := fun q => by rw [q, zs] at a7; omega
    rw [zo (50 + x) (by omega)] at a4 a6 a7
    rw [zo (50 + y) (by omega)] at a7
    exact h3 ⟨x, y, ⟨a1, a2, a3⟩, a4, ⟨a5, a6, a7⟩, a8⟩
theorem dI_ly {f : sF} (hok : sOk f) (hI : dI f) {s d : Int} (hs : 0 ≤ s ∧ s < f 568) (hd : -1 ≤ d ∧ d < 4) : dI (layF f s d) := by
  unfold layF
  split
  · rename_i hw
    intro e a b
    by_cases q : e = d
    · rw [q, wl_e hok hI hs (by omega)]
      exact hw
    · exact dI_oth hok hs ⟨a, b⟩ q (hI e a b)
  · exact hI
/-- what drawers hold depends on nothing else -/
theorem dI_c {f g : sF} (hok : sOk f) (hI : dI f) (e8 : g 568 = f 568) (h1 : ∀ q, 10 ≤ q → q < 60 → g q = f q) (h2 : ∀ q, 150 ≤ q → q < 164 → g q = f q) : dI g := by
  have h0 := sOk_N hok
  intro d a b
  have e : whyF g d = whyF f d := by
    have hl : ∀ w, isum (g 568) (lyT g d w) = isum (f 568) (lyT f d w) := fun w => by
      rw [e8]
      exact isum_c fun k u v => by
        unfold lyT
        rw [h1 (50 + k) (by omega) (by omega), h1 (20 + k) (by omega) (by omega), h1 (30 + k) (by omega) (by omega)]
    have hpt : ptP g d ↔ ptP f d := by
      constructor
      · rintro ⟨x, y, ⟨a1, a2, a3⟩, a4, ⟨a5, a6, a7⟩, a8⟩
        rw [e8] at a3
        have k1 := (sOk_S hok x (by omega) (by omega)).2.1
        rw [h1 (50 + x) (by omega) (by omega)] at a4 a6 a7
        rw [h1 (50 + y) (by omega) (by omega)] at a7
        rw [h1 (10 + x) (by omega) (by omega), h1 (10 + y) (by omega) (by omega), h2 (158 + f (10 + x)) (by omega) (by omega)] at a8
        exact ⟨x, y, ⟨a1, a2, a3⟩, a4, ⟨a5, a6, a7⟩, a8⟩
      · rintro ⟨x, y, ⟨a1, a2, a3⟩, a4, ⟨a5, a6, a7⟩, a8⟩
        have k1 := (sOk_S hok x (by omega) (by omega)).2.1
        refine ⟨x, y, ⟨a1, a2, by rw [e8]; exact a3⟩, by rw [h1 (50 + x) (by omega) (by omega)]; exact a4, ⟨a5, by rw [h1 (50 + x) (by omega) (by omega)]; exact a6, by rw [h1 (50 + x) (by omega) (by omega), h1 (50 + y) (by omega) (by omega)]; exact a7⟩, ?_⟩
        rw [h1 (10 + x) (by omega) (by omega), h1 (10 + y) (by omega) (by omega), h2 (158 + f (10 + x)) (by omega) (by omega)]
        exact a8
    unfold whyF
    rw [hl, hl, h2 (150 + d) (by omega) (by omega), h2 (154 + d) (by omega) (by omega), pif_c hpt]
  rw [e]
  exact hI d a b
theorem dI_sd {f : sF} (hok : sOk f) (hI : dI f) {d z w : Int} (hd : 0 ≤ d ∧ d < 4) (hz : isum (f 568) (lyT f d 1) ≤ z) (hw : isum (f 568) (lyT f d 2) ≤ w) : dI (sdF f d z w) := by
  have h0 := sOk_N hok
  have zo : ∀ x, (x < 150 ∨ 158 ≤ x) → sdF f d z w x = f x := fun x a => by unfold sdF iup; (repeat (first | rw [if_pos (by omega)] | rw [if_neg (by omega)]))
  intro e a b
  obtain ⟨h1, h2, h3⟩ := wf_0.mp (hI e a b)
  have hl : ∀ v, isum (f 568) (lyT (sdF f d z w) e v) = isum (f 568) (lyT f e v) := fun v => isum_c fun k p q => by
    unfold lyT
    rw [zo (50 + k) (by omega), zo (20 + k) (by omega), zo (30 + k) (by omega)]
  have hpt : ptP (sdF f d z w) e → ptP f e := by
    rintro ⟨x, y, ⟨a1, a2, a3⟩, a4, ⟨a5, a6, a7⟩, a8⟩
    rw [zo 568 (by omega)] at a3
    have k1 := (sOk_S hok x (by omega) (by omega)).2.1
    rw [zo (50 + x) (by omega)] at a4 a6 a7
    rw [zo (50 + y) (by omega)] at a7
    rw [zo (10 + x) (by omega), zo (10 + y) (by omega), zo (158 + f (10 + x)) (by omega)] at a8
    exact ⟨x, y, ⟨a1, a2, a3⟩, a4, ⟨a5, a6, a7⟩, a8⟩
  refine wf_0.mpr ⟨?_, ?_, fun q => h3 (hpt q)⟩
  · rw [zo 568 (by omega), hl]
    by_cases q : e = d
    · rw [q, show sdF f d z w (150 + d) = z from by unfold sdF iup; (repeat (first | rw [if_pos (by omega)] | rw [if_neg (by omega)]))]
      omega
    · rw [show sdF f d z w (150 + e) = f (150 + e) from by unfold sdF iup; (repeat (first | rw [if_pos (by omega)] | rw [if_neg (by omega)]))]
      exact h1
  · rw [zo 568 (by omega), hl]
    by_cases q : e = d
    · rw [q, show sdF f d z w (154 + d) = w from by unfold sdF iup; (repeat (first | rw [if_pos (by omega)] | rw [if_neg (by omega)]))]
      omega
    · rw [show sdF f d z w (154 + e) = f (154 + e) from by unfold sdF iup; (repeat (first | rw [if_pos (by omega)] | rw [if_neg (by omega)]))]
      exact h2
theorem ok_pr {f : sF} {B : Prop} {p q : Int} (h : sOk f) (hp : 0 ≤ p ∧ p < 6) (hq : 0 ≤ q ∧ q < 6) : sOk (prF f B p q) := by
  have h0 := sOk_N h
  have zo : ∀ x, (x < 158 ∨ 164 ≤ x) → prF f B p q x = f x := fun x a => prF_o hp hq (by omega)
  have hv := fun i a b => prF_v (f := f) (B := B) (p := p) (q := q) (i := i) (fun i a b => sOk_P h i a b) hp hq ⟨a, b⟩
  refine ok_mk h ⟨by rw [zo 568 (by omega)]; omega, by rw [zo 569 (by omega)]; omega, by rw [zo 570 (by omega)]; omega, by rw [zo 571 (by omega)]; omega, by rw [zo 572 (by omega)]; omega, by rw [zo 573 (by omega)]; omega⟩ (zo 568 (by omega)) (by rw [zo 571 (by omega)]; omega) (Or.inl fun x a b => zo x (by omega)) (Or.inl ⟨zo 569 (by omega), fun x a b => zo x (by omega)⟩) (Or.inl fun x a b => zo x (by omega)) (Or.inr ⟨fun i a b => (hv i a b).1, fun i j a b c d => ?_⟩) (Or.inl ⟨zo 570 (by omega), fun x a b => zo x (by omega)⟩) (Or.inl ⟨zo 572 (by omega), fun x a b => zo x (by omega)⟩) (Or.inl ⟨zo 573 (by omega), fun x a b => zo x (by omega)⟩)
  rw [(hv i a b).2 j c d, (hv j c d).2 i a b]
  by_cases e : (i = p ∧ j = q) ∨ (i = q ∧ j = p)
  · rw [if_pos e, if_pos (by omega)]
  · rw [if_neg e, if_neg (by omega)]
    exact sOk_Ps h i j a b c d
theorem dI_pr {f : sF} (hok : sOk f) (hI : dI f) {B : Prop} {p q : Int} (hp : 0 ≤ p ∧ p < 6) (hq : 0 ≤ q ∧ q < 6) (hB : ¬ (B ∧ lieP f p q)) : dI (prF f B p q) := by
  have h0 := sOk_N hok
  have zo : ∀ x, (x < 158 ∨ 164 ≤ x) → prF f B p q x = f x := fun x a => prF_o hp hq (by omega)
  intro e a b
  obtain ⟨h1, h2, h3⟩ := wf_0.mp (hI e a b)
  have hl : ∀ v, isum (f 568) (lyT (prF f B p q) e v) = isum (f 568) (lyT f e v) := fun v => isum_c fun k u w => by
    unfold lyT
    rw [zo (50 + k) (by omega), zo (20 + k) (by omega), zo (30 + k) (by omega)]
  refine wf_0.mpr ⟨by rw [zo 568 (by omega), hl, zo (150 + e) (by omega)]; exact h1, by rw [zo 568 (by omega), hl, zo (154 + e) (by omega)]; exact h2, ?_⟩
  rintro ⟨x, y, ⟨a1, a2, a3⟩, a4, ⟨a5, a6, a7⟩, a8⟩
  rw [zo 568 (by omega)] at a3
  have k1 := (sOk_S hok x (by omega) (by omega)).2.1
  have k2 := (sOk_S hok y (by omega) (by omega)).2.1
  rw [zo (50 + x) (by omega)] at a4 a6 a7
  rw [zo (50 + y) (by omega)] at a7
  rw [zo (10 + x) (by omega), zo (10 + y) (by omega), (prF_v (f := f) (B := B) (p := p) (q := q) (i := f (10 + x)) (fun i a b => sOk_P hok i a b) hp hq ⟨k1.1, by omega⟩).2 _ k2.1 (by omega)] at a8
  by_cases c : (f (10 + x) = p ∧ f (10 + y) = q) ∨ (f (10 + x) = q ∧ f (10 + y) = p)
  · rw [if_pos c] at a8
    refine hB ⟨a8, ?_⟩
    rcases c with ⟨c1, c2⟩ | ⟨c1, c2⟩
    · exact ⟨x, y, ⟨by omega, a3, a1, by omega⟩, ⟨a5, a6, a7⟩, c1, c2⟩
    · exact ⟨y, x, ⟨a1, by omega, by omega, a3⟩, ⟨fun w => a5 w.symm, by rw [← a7]; exact a6, a7.symm⟩, c2, c1⟩
  · rw [if_neg c] at a8
    exact h3 ⟨x, y, ⟨a1, a2, a3⟩, a4, ⟨a5, a6, a7⟩, a8⟩
theorem dI_com {f : sF} (hok : sOk f) (hI : dI f) {c k z w v : Int} (hn : f 568 ≤ 9) : dI (comF f c k z w v) := by
  have h0 := sOk_N hok
  have zo : ∀ x, x ≠ f 568 ∧ x ≠ 10 + f 568 ∧ x ≠ 20 + f 568 ∧ x ≠ 30 + f 568 ∧ x ≠ 40 + f 568 ∧ x ≠ 50 + f 568 ∧ x ≠ 60 + f 568 ∧ x ≠ 568 → comF f c k z w v x = f x := fun x a => cm_o a
  obtain ⟨-, -, -, -, -, w6, -, w8⟩ := cm_w (c := c) (k := k) (z := z) (w := w) (v := v) (show 0 ≤ f 568 ∧ f 568 ≤ 9 by omega)
  generalize comF f c k z w v = g at zo w6 w8 ⊢
  intro e a b
  obtain ⟨h1, h2, h3⟩ := wf_0.mp (hI e a b)
  have hl : ∀ u, isum (g 568) (lyT g e u) = isum (f 568) (lyT f e u) := fun u => by
    rw [w8, isum_s _ (by omega), show lyT g e u (f 568) = 0 from by unfold lyT; rw [w6, if_neg (by omega)], Int.add_zero]
    exact isum_c fun x p q => by
      unfold lyT
      rw [zo (50 + x) (by omega), zo (20 + x) (by omega), zo (30 + x) (by omega)]
  refine wf_0.mpr ⟨by rw [hl, zo (150 + e) (by omega)]; exact h1, by rw [hl, zo (154 + e) (by omega)]; exact h2, ?_⟩
  rintro ⟨x, y, ⟨a1, a2, a3⟩, a4, ⟨a5, a6, a7⟩, a8⟩
  rw [w8] at a3
  have q1 : x ≠ f 568 := fun q => by rw [q, w6] at a4; omega
  have q2 : y ≠ f 568 := fun q => by rw [q, w6] at a7; exact a6 a7
  have k1 := (sOk_S hok x (by omega) (by omega)).2.1
  have k2 := (sOk_S hok y (by omega) (by omega)).2.1
  rw [zo (50 + x) (by omega)] at a4 a6 a7
  rw [zo (50 + y) (by omega)] at a7
  rw [zo (10 + x) (by omega), zo (10 + y) (by omega), zo (158 + f (10 + x)) (by omega)] at a8
  exact h3 ⟨x, y, ⟨a1, a2, by omega⟩, a4, ⟨a5, a6, a7⟩, a8⟩
/-- all lies as it may, told of drawers and told of stones -/
theorem dI_jn {g : sF} (hok : sOk g) : dI g ↔ ¬ jnB g := by
  have h0 := sOk_N hok
  have hg : ∀ o, 0 ≤ o → o < g 568 → g (50 + o) = drF g o ∧ g (20 + o) = g (20 + o) ∧ g (30 + o) = g (30 + o) := fun o a b => ⟨rfl, rfl, rfl⟩
  constructor
  · rintro h ⟨y, a, b, c, d⟩
    have hS := sOk_S hok y a b
    obtain ⟨h1, h2, h3⟩ := wf_0.mp (h (g (50 + y)) (by omega) (by omega))
    rw [ly_wy (g := g) (f := g) (p := drF g) (s := y) (d := g (50 + y)) ⟨a, b⟩ (Or.inl rfl) hg rfl] at h1
    rw [ly_wy (g := g) (f := g) (p := drF g) (s := y) (d := g (50 + y)) ⟨a, b⟩ (Or.inr rfl) hg rfl] at h2
    exact d (wm_0.mpr ⟨h1, h2, fun q => h3 (pt_wy hok rfl ⟨a, b⟩ (fun o _ _ => ⟨rfl, rfl⟩) (fun _ _ _ => rfl) rfl c q)⟩)
  · intro h d a b
    have hD := sOk_D hok d a b
    have hw : ∀ y, 0 ≤ y → y < g 568 → g (50 + y) = d → whyM g (drF g) y (g 568) = 0 := fun y u v e => Classical.not_not.mp fun q => h ⟨y, u, v, by omega, q⟩
    have hx : ∀ w, w = 1 ∨ w = 2 → 0 < isum (g 568) (lyT g d w) → ∃ y, 0 ≤ y ∧ y < g 568 ∧ g (50 + y) = d := fun w hw2 hp => Classical.not_not.mp fun q => by
      rw [isum_z fun k u v => by unfold lyT; rw [if_neg (fun e => q ⟨k, u, v, e⟩)]] at hp
      omega
    refine wf_0.mpr ⟨fun q => ?_, fun q => ?_, ?_⟩
    · obtain ⟨y, u, v, e⟩ := hx 1 (Or.inl rfl) (by omega)
      have h1 := (wm_0.mp (hw y u v e)).1
      rw [← e, ly_wy (g := g) (f := g) (p := drF g) (s := y) (d := g (50 + y)) ⟨u, v⟩ (Or.inl rfl) hg rfl] at q
      exact h1 q
    · obtain ⟨y, u, v, e⟩ := hx 2 (Or.inr rfl) (by omega)
      have h1 := (wm_0.mp (hw y u v e)).2.1
      rw [← e, ly_wy (g := g) (f := g) (p := drF g) (s := y) (d := g (50 + y)) ⟨u, v⟩ (Or.inr rfl) hg rfl] at q
      exact h1 q
    · rintro ⟨x, y, ⟨a1, a2, a3⟩, a4, ⟨a5, a6, a7⟩, a8⟩
      have k1 := (sOk_S hok x (by omega) (by omega)).2.1
      have k2 := (sOk_S hok y (by omega) (by omega)).2.1
      exact (wm_0.mp (hw x (by omega) a3 a4)).2.2 ⟨y, a1, by omega, by omega, a7.symm, (sOk_Ps hok _ _ k1.1 (by omega) k2.1 (by omega)).mp a8⟩
theorem dI_la {f : sF} (hok : sOk f) {B : Prop} (h : lyOk f (laB f B)) : dI (laF f B) := by
  have h0 := sOk_N hok
  have zo : ∀ x, (x < 50 ∨ 60 ≤ x) → laF f B x = f x := fun x a => by
    unfold laF
    rw [if_neg (by omega)]
  have z5 : ∀ o, 0 ≤ o → o < f 568 → laF f B (50 + o) = laB f B o := fun o a b => by
    unfold laF
    rw [if_pos (by omega)]
    congr 1
    omega
  generalize laB f B = p at h z5
  generalize laF f B = g at zo z5 ⊢
  intro d a b
  have hD := sOk_D hok d a b
  have hsum : ∀ w, w = 1 ∨ w = 2 → ∀ n : Nat, (n : Int) ≤ f 568 → isum n (lyT g d w) ≤ f (146 + 4 * w + d) := by
    intro w hw n
    induction n with
    | zero =>
      intro _
      rw [show (((0 : Nat)) : Int) = 0 from rfl, isum_0]
      rcases hw with rfl | rfl
      · exact hD.1.1
      · exact hD.2.1
    | succ n ih =>
      intro hn
      rw [show ((n + 1 : Nat) : Int) = (n : Int) + 1 by omega, isum_s _ (by omega)]
      by_cases e : p n = d
      · have hq := (wm_0.mp (h n (by omega) (by omega)).2)
        have hl : isum (n : Int) (lyT g d w) = isum (n : Int) (wyT f p n w) := isum_c fun k u v => by
          unfold lyT wyT
          rw [z5 k u (by omega), zo (20 + k) (by omega), zo (30 + k) (by omega), e]
          by_cases q : p k = d
          · rw [if_pos q, if_neg (show ¬ w = 0 by omega), if_pos (show k ≠ (n : Int) ∧ p k = d from ⟨by omega, q⟩)]
          · rw [if_neg q, if_neg (fun r => q r.2)]
        rw [hl]
        rcases hw with rfl | rfl
        · have h1 : lyT g d 1 n = f (20 + n) := by
            unfold lyT
            rw [z5 n (by omega) (by omega), if_pos e, if_neg (by omega), if_pos rfl, zo (20 + (n : Int)) (by omega)]
          rw [h1]
          have h2 := hq.1
          rw [e] at h2
          show _ ≤ f (150 + d)
          omega
        · have h1 : lyT g d 2 n = f (30 + n) := by
            unfold lyT
            rw [z5 n (by omega) (by omega), if_pos e, if_neg (by omega), if_neg (by omega), zo (30 + (n : Int)) (by omega)]
          rw [h1]
          have h2 := hq.2.1
          rw [e] at h2
          show _ ≤ f (154 + d)
          omega
      · have h1 : lyT g d w n = 0 := by
          unfold lyT
          rw [z5 n (by omega) (by omega), if_neg e]
        rw [h1]
        have := ih (by omega)
        omega
  have hs1 := hsum 1 (Or.inl rfl) (f 568).toNat (by omega)
  have hs2 := hsum 2 (Or.inr rfl) (f 568).toNat (by omega)
  rw [show (((f 568).toNat : Nat) : Int) = f 568 by omega] at hs1 hs2
  refine wf_0.mpr ⟨?_, ?_, ?_⟩
  · rw [zo 568 (by omega), zo (150 + d) (by omega)]
    have : isum (f 568) (lyT g d 1) ≤ f (150 + d) := hs1
    omega
  · rw [zo 568 (by omega), zo (154 + d) (by omega)]
    have : isum (f 568) (lyT g d 2) ≤ f (154 + d) := hs2
    omega
  · rintro ⟨x, y, ⟨a1, a2, a3⟩, a4, ⟨a5, a6, a7⟩, a8⟩
    rw [zo 568 (by omega)] at a3
    have k1 := (sOk_S hok x (by omega) (by omega)).2.1
    have k2 := (sOk_S hok y (by omega) (by omega)).2.1
    rw [z5 x (by omega) a3, z5 y a1 (by omega)] at a7
    rw [zo (10 + x) (by omega), zo (10 + y) (by omega), zo (158 + f (10 + x)) (by omega)] at a8
    exact (wm_0.mp (h x (by omega) a3).2).2.2 ⟨y, a1, a2, by omega, a7.symm, (sOk_Ps hok _ _ k1.1 (by omega) k2.1 (by omega)).mp a8⟩
/-! light -/
theorem sL_c {f g : sF} (h : sLi f) (e8 : g 568 = f 568) (e72 : g 572 = f 572) (h1 : ∀ q, 60 ≤ q → q < 70 → g q = f q) (h2 : ∀ q, 464 ≤ q → q < 544 → g q = f q) (hN : okN f) : sLi g := by
  intro s y a b c d
  have h3 : liI g s y = liI f s y := by
    unfold liI
    rw [e72]
    exact isum_c fun k u v => by
      unfold liT
      rw [h2 (464 + k) (by omega) (by omega), h2 (484 + k) (by omega) (by omega), h2 (504 + k) (by omega) (by omega), h2 (524 + k) (by omega) (by omega)]
  rw [h3, h1 (60 + s) (by omega) (by omega)]
  exact h s y a (by omega) c d
/-- a year without a day of a show has no light -/
theorem li_out {f : sF} (hok : sOk f) {s y : Int} (hy : y < 1900 ∨ 2200 ≤ y) : liI f s y = 0 := by
  unfold liI
  refine isum_z fun k a b => ?_
  have hW := sOk_W hok k a b
  have hdt := dt_y hW.2.1.1
  unfold liT
  split
  · have e : dnI (f (484 + k)) (f (504 + k)) y = 0 := by
      unfold dnI
      have h1 := nyr_1900
      have h2 := nyr_2200
      have h5 := nyr_m 1900 (dat (f (484 + k)) / 10000) (by omega)
      rcases hy with q | q
      · have h3 := nyr_m (y + 1) 1900 (by omega)
        omega
      · have h3 := nyr_m 2200 y (by omega)
        omega
    rw [e, Int.mul_zero]
  · rfl
theorem sL_sl {f : sF} (hok : sOk f) (h : sLi f) {s l : Int} (hs : 0 ≤ s ∧ s < f 568) (hl : 0 ≤ l) (hc : ∀ y, 1900 ≤ y → y < 2200 → liI f s y ≤ l) : sLi (slF f s l) := by
  have h0 := sOk_N hok
  have zo : ∀ x, x ≠ 60 + s → slF f s l x = f x := fun x a => by unfold slF iup; rw [if_neg a]
  have zs : slF f s l (60 + s) = l := by unfold slF iup; rw [if_pos rfl]
  intro t y a b c d
  rw [zo 568 (by omega)] at b
  have h3 : liI (slF f s l) t y = liI f t y := by
    unfold liI
    rw [zo 572 (by omega)]
    exact isum_c fun k u v => by
      unfold liT
      rw [zo (464 + k) (by omega), zo (484 + k) (by omega), zo (504 + k) (by omega), zo (524 + k) (by omega)]
  rw [h3]
  by_cases e : t = s
  · rw [e, zs]
    rcases (show (1900 ≤ y ∧ y < 2200) ∨ (y < 1900 ∨ 2200 ≤ y) by omega) with q | q
    · exact hc y q.1 q.2
    · rw [li_out hok q]; exact hl
  · rw [zo (60 + t) (by omega)]
    exact h t y a b c d
theorem sL_sh {f : sF} (hok : sOk f) (h : sLi f) {s x n l Y : Int} (hs : 0 ≤ s ∧ s < f 568) (hf : f 572 < 20) (hn : 1 ≤ n ∧ n ≤ 400) (hx : nyr Y + 3652 ≤ x ∧ x < nyr (Y + 1) + 3652) (hc : cbP f s Y x n l) : sLi (shF f s x n l) := by
  have h0 := sOk_N hok
  have zo : ∀ q, (q < 464 ∨ 544 ≤ q) → q ≠ 572 → shF f s x n l q = f q := fun q a b => by unfold shF iup; (repeat (first | rw [if_pos (by omega)] | rw [if_neg (by omega)]))
  have z2 : shF f s x n l 572 = f 572 + 1 := by unfold shF iup; (repeat (first | rw [if_pos (by omega)] | rw [if_neg (by omega)]))
  intro t y a b c d
  rw [zo 568 (by omega) (by omega)] at b
  rw [zo (60 + t) (by omega) (by omega)]
  have h3 : liI (shF f s x n l) t y = liI f t y + (if s = t then l * dnI x n y else 0) := by
    unfold liI
    rw [z2, isum_s _ (by omega)]
    congr 1
    · exact isum_c fun k u v => by
        unfold liT
        rw [show shF f s x n l (464 + k) = f (464 + k) from by unfold shF iup; (repeat (first | rw [if_pos (by omega)] | rw [if_neg (by omega)])), show shF f s x n l (484 + k) = f (484 + k) from by unfold shF iup; (repeat (first | rw [if_pos (by omega)] | rw [if_neg (by omega)])), show shF f s x n l (504 + k) = f (504 + k) from by unfold shF iup; (repeat (first | rw [if_pos (by omega)] | rw [if_neg (by omega)])), show shF f s x n l (524 + k) = f (524 + k) from by unfold shF iup; (repeat (first | rw [if_pos (by omega)] | rw [if_neg (by omega)]))]
    · unfold liT
      rw [show shF f s x n l (464 + f 572) = s from by unfold shF iup; (repeat (first | rw [if_pos (by omega)] | rw [if_neg (by omega)])), show shF f s x n l (484 + f 572) = x from by unfold shF iup; (repeat (first | rw [if_pos (by omega)] | rw [if_neg (by omega)])), show shF f s x n l (504 + f 572) = n from by unfold shF iup; (repeat (first | rw [if_pos (by omega)] | rw [if_neg (by omega)])), show shF f s x n l (524 + f 572) = l from by unfold shF iup; (repeat (first | rw [if_pos (by omega)] | rw [if_neg (by omega)]))]
  rw [h3]
  have hb := h t y a b c d
  by_cases e : s = t
  · rw [if_pos e]
    subst e
    rcases (show (Y ≤ y ∧ y ≤ Y + 2) ∨ y < Y ∨ Y + 2 < y by omega) with q | q | q
    · exact hc.2 y q.1 q.2
    · have e1 : dnI x n y = 0 := by
        unfold dnI
        have h5 := nyr_m (y + 1) Y (by omega)
        omega
      rw [e1, Int.mul_zero]
      omega
    · have e1 : dnI x n y = 0 := by
        unfold dnI
        have h5 := nyr_m (Y + 1) y (by omega)
        omega
      rw [e1, Int.mul_zero]
      omega
  · rw [if_neg e]
    omega
theorem sL_com {f : sF} (hok : sOk f) (h : sLi f) {c k z w v : Int} (hn : f 568 ≤ 9) : sLi (comF f c k z w v) := by
  have h0 := sOk_N hok
  have zo : ∀ x, x ≠ f 568 ∧ x ≠ 10 + f 568 ∧ x ≠ 20 + f 568 ∧ x ≠ 30 + f 568 ∧ x ≠ 40 + f 568 ∧ x ≠ 50 + f 568 ∧ x ≠ 60 + f 568 ∧ x ≠ 568 → comF f c k z w v x = f x := fun x a => cm_o a
  obtain ⟨-, -, -, -, -, -, w7, w8⟩ := cm_w (c := c) (k := k) (z := z) (w := w) (v := v) (show 0 ≤ f 568 ∧ f 568 ≤ 9 by omega)
  generalize comF f c k z w v = g at zo w7 w8 ⊢
  intro t y a b d e
  rw [w8] at b
  have h3 : liI g t y = liI f t y := by
    unfold liI
    rw [zo 572 (by omega)]
    exact isum_c fun k u v => by
      unfold liT
      rw [zo (464 + k) (by omega), zo (484 + k) (by omega), zo (504 + k) (by omega), zo (524 + k) (by omega)]
  rw [h3]
  by_cases q : t = f 568
  · rw [q, w7]
    have : liI f (f 568) y = 0 := by
      unfold liI
      exact isum_z fun k u v => by
        have hW := sOk_W hok k u v
        unfold liT
        rw [if_neg (by omega)]
    omega
  · rw [zo (60 + t) (by omega)]
    exact h t y a (by omega) d e
theorem sL_jn {C V f : sF} {c : Int} (hO : rcO 0 c C V) (hok : sOk f) (h : sLi f) (x : Int) (hx : 0 ≤ x ∧ x ≤ c) (hf : ∀ y, 0 ≤ y → y < x → ¬ jnU C V c f y) : sLi (jnS C V c f x.toNat) := by
  have key : ∀ n : Nat, (n : Int) ≤ x → sLi (jnS C V c f n) := by
    intro n
    induction n with
    | zero => intro _; exact h
    | succ n ih =>
      intro hn
      have h1 := ih (by omega)
      have h2 := ok_jn hO hok (n : Int) ⟨by omega, by omega⟩ (fun y a b => hf y a (by omega))
      have h3 := jnS_s C V c f (n : Int) (by omega)
      rw [show ((n : Int) + 1).toNat = n + 1 by omega, show ((n : Int)).toNat = n by omega] at h3
      rw [show ((n : Int)).toNat = n by omega] at h2
      rw [h3]
      have h4 := hf (n : Int) (by omega) (by omega)
      unfold jnU at h4
      rw [show ((n : Int)).toNat = n by omega] at h4
      have hN := sOk_N h2
      unfold joX
      split
      · rename_i e
        exact sL_com h2 h1 (by
          rcases Int.lt_or_le 9 (jnS C V c f n 568) with t | t
          · exact absurd ⟨e, by omega⟩ h4
          · exact t)
      · rename_i e
        have hs : 0 ≤ idx (fun q => jnS C V c f n q = C (eoI C c (n : Int))) (jnS C V c f n 568) ∧ idx (fun q => jnS C V c f n q = C (eoI C c (n : Int))) (jnS C V c f n 568) < jnS C V c f n 568 := by
          rcases idx_cases (fun q => jnS C V c f n q = C (eoI C c (n : Int))) (jnS C V c f n 568) with ⟨a, -⟩ | ⟨a, b, -, -⟩
          · exact absurd a e
          · exact ⟨a, b⟩
        generalize idx (fun q => jnS C V c f n q = C (eoI C c (n : Int))) (jnS C V c f n 568) = s at hs ⊢
        exact sL_c h1 (ra_o 4 fun x b c => by omega) (ra_o 4 fun x b c => by omega) (fun q a b => ra_o 4 fun x b c => by omega) (fun q a b => ra_o 4 fun x b c => by omega) hN
  have := key x.toNat (by omega)
  exact this
theorem cb_md {f : sF} {s Y x n l : Int} (hl : 1 ≤ l) (hn : 1 ≤ n ∧ n ≤ 400) : cbP f s Y x n l ↔ n ≤ mdI f s Y x l := by
  have mono : ∀ a b : Int, a ≤ b → cbP f s Y x b l → cbP f s Y x a l := fun a b h ⟨q1, q2⟩ => ⟨by omega, fun y u v => by
    have h1 := q2 y u v
    have h2 := Int.mul_le_mul_of_nonneg_left (dn_le (x := x) (y := y) h) (show 0 ≤ l by omega)
    omega⟩
  unfold mdI
  rcases idx_cases (fun n => ¬ cbP f s Y x (n + 1) l) 400 with ⟨a, b⟩ | ⟨a, b, c, d⟩
  · rw [a, if_pos rfl]
    exact ⟨fun _ => hn.2, fun _ => by
      have := Classical.not_not.mp (b (n - 1) (by omega) (by omega))
      rw [show n - 1 + 1 = n by omega] at this
      exact this⟩
  · rw [if_neg (by omega)]
    constructor
    · intro q
      rcases Int.lt_or_le (idx (fun n => ¬ cbP f s Y x (n + 1) l) 400) n with t | t
      · exact absurd (mono _ n (by omega) q) c
      · exact t
    · intro q
      have := Classical.not_not.mp (d (n - 1) (by omega) (by omega))
      rw [show n - 1 + 1 = n by omega] at this
      exact this
