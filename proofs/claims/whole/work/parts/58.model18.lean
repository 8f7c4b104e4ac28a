/-! Layings: every stone has a drawer that holds it. -/
def lyOk (f p : sF) : Prop := ∀ s, 0 ≤ s → s < f 568 → (0 ≤ p s ∧ p s ≤ 3) ∧ whyM f p s s = 0
noncomputable def lyO (f p : sF) : Int := isum (f 568) (ohT f p)
theorem ohT_r (f p : sF) (s : Int) : 0 ≤ ohT f p s ∧ ohT f p s ≤ 1 := by unfold ohT; split <;> omega
theorem oh_r {f : sF} (p : sF) {n : Int} (hn : 0 ≤ n) : 0 ≤ isum n (ohT f p) ∧ isum n (ohT f p) ≤ n := by
  have := isum_b (n := n) (g := ohT f p) 0 1 hn (fun k _ _ => ohT_r f p k)
  omega
theorem oh_m {f p : sF} {a n : Int} (ha : 0 ≤ a) (h : a ≤ n) : isum a (ohT f p) ≤ isum n (ohT f p) := by
  rw [show n = a + (n - a) by omega, isum_ap _ ha (by omega)]
  have := isum_b (n := n - a) (g := fun k => ohT f p (a + k)) 0 1 (by omega) (fun k _ _ => ohT_r f p _)
  omega
theorem oh_c {f p p2 : sF} {n : Int} (h : ∀ i, 0 ≤ i → i < n → p i = p2 i) : isum n (ohT f p) = isum n (ohT f p2) := isum_c fun k a b => by unfold ohT; rw [h k a b]
def lyS (f : sF) (w : Int) (p : sF) : Prop := lyOk f p ∧ lyO f p ≤ w
theorem lyOk_c {f p p2 : sF} (h : ∀ i, 0 ≤ i → i < f 568 → p i = p2 i) (hp : lyOk f p) : lyOk f p2 := fun s a b => by
  have h1 := hp s a b
  rw [h s a b, whyM_c (h s a b) (fun o c d => h o c (by omega))] at h1
  exact h1
/-- none of a kind is passed by -/
def nbP (S : sF → Prop) (G : Int → Int) (k : Int) : Prop := ∀ r2, S r2 → ¬ Bef G k r2
section NB
variable {S : sF → Prop} {G : Int → Int} {k : Int}
theorem nb_A {G3 : Int → Int} {x : Int} (h : nbP S G k) (ha : ∀ i, i ≠ k → G3 i = G i) (hS : ∀ r2, S r2 → r2 k ≤ x) (hx : x ≤ G k) : nbP S G3 (k - 1) := fun r2 hr q => by
  have q1 : Bef G (k - 1) r2 := Bef_c (fun i x y => ha i (by omega)) q
  rcases Bef_dn q1 with q2 | ⟨q2, q3⟩
  · exact h r2 hr q2
  · have := hS r2 hr
    omega
theorem nb_B {w : Int} (h : nbP S G k) (hw : w = G k + 1) (hb : ∀ r2, S r2 → (∀ i, 0 ≤ i → i < k → r2 i = G i) → r2 k = w → False) : nbP S (iup G k w) k := fun r2 hr q => by
  rcases Bef_up (by omega) q with q2 | ⟨q2, q3, q4⟩
  · exact h r2 hr q2
  · exact hb r2 hr q2 (by omega)
theorem nb_C {w v : Int} (h : nbP S G k) (hw : w = G k + 1) (hk : 0 ≤ k) (hS : ∀ r2, S r2 → v < r2 (k + 1)) : nbP S (iup (iup G k w) (k + 1) v) (k + 1) := fun r2 hr q => by
  obtain ⟨j, x, y, z, u, t⟩ := q
  by_cases e1 : j = k + 1
  · have h2 := t e1
    have h3 := hS r2 hr
    rw [e1, show iup (iup G k w) (k + 1) v (k + 1) = v from if_pos rfl] at h2
    omega
  · have h2 := u (by omega)
    have z2 : ∀ i, 0 ≤ i → i < j → r2 i = G i := fun i c d => by
      rw [z i c d]
      unfold iup
      rw [if_neg (by omega), if_neg (by omega)]
    by_cases e2 : j = k
    · rw [e2] at h2 z2
      rw [show iup (iup G k w) (k + 1) v k = w from by unfold iup; rw [if_neg (by omega), if_pos rfl]] at h2
      exact h r2 hr ⟨k, hk, Int.le_refl _, z2, fun c => by omega, fun _ => by omega⟩
    · rw [show iup (iup G k w) (k + 1) v j = G j from by unfold iup; rw [if_neg (by omega), if_neg (by omega)]] at h2
      exact h r2 hr ⟨j, x, by omega, z2, fun _ => h2, fun c => absurd c e2⟩
theorem nb_D {L w : Int} (h : nbP S G k) (hw : w = G k + 1) (hk : 0 ≤ k ∧ k + 1 = L) (r2 : Int → Int) (hr : S r2) : lexL L (iup G k w) r2 := by
  rcases lex_t L (iup G k w) r2 with q | ⟨j, x, y, z, u⟩
  · exact q
  · have z2 : ∀ i, 0 ≤ i → i < j → r2 i = G i := fun i c d => by
      rw [z i c d]
      exact if_neg (by omega)
    by_cases e2 : j = k
    · rw [e2] at u z2
      rw [show iup G k w k = w from if_pos rfl] at u
      exact absurd ⟨k, hk.1, Int.le_refl _, z2, fun c => by omega, fun _ => by omega⟩ (h r2 hr)
    · rw [show iup G k w j = G j from if_neg e2] at u
      exact absurd ⟨j, x, by omega, z2, fun _ => u, fun c => absurd c e2⟩ (h r2 hr)
end NB
/-- the best laying -/
def laP (f : sF) (B : Prop) (p : sF) : Prop := lyOk f p ∧ ∀ p2, lyOk f p2 → (B → lyO f p ≤ lyO f p2) ∧ ((B → lyO f p = lyO f p2) → lexL (f 568) p p2)
theorem laP_u {f p p2 : sF} {B : Prop} (h : laP f B p) (h2 : laP f B p2) : ∀ i, 0 ≤ i → i < f 568 → p i = p2 i := by
  have a := h.2 p2 h2.1
  have b := h2.2 p h.1
  exact lexL_a (a.2 fun q => by have := a.1 q; have := b.1 q; omega) (b.2 fun q => by have := a.1 q; have := b.1 q; omega)
noncomputable def laB (f : sF) (B : Prop) : Int → Int := @dite (Int → Int) (∃ p, laP f B p) (Classical.propDecidable _) (fun q => q.choose) (fun _ => fun _ => 0)
/-- the drawers behind it, and how many have another one -/
noncomputable def laF (f : sF) (B : Prop) : sF := fun q => if 50 ≤ q ∧ q < 50 + f 568 then laB f B (q - 50) else f q
noncomputable def laN (f : sF) (B : Prop) : Int := lyO f (laB f B)
theorem la_eq {f p : sF} {B : Prop} (h : laP f B p) : laP f B (laB f B) ∧ (∀ i, 0 ≤ i → i < f 568 → laB f B i = p i) ∧ laN f B = lyO f p := by
  have hx : ∃ p, laP f B p := ⟨p, h⟩
  have e : laB f B = hx.choose := dif_pos hx
  have h2 : laP f B (laB f B) := by rw [e]; exact hx.choose_spec
  have h3 := laP_u h2 h
  exact ⟨h2, h3, oh_c h3⟩
/-- drawers written, up to a stone -/
def puF (f p : sF) (k : Int) : sF := fun q => if 50 ≤ q ∧ q < 50 + k then p (q - 50) else f q
theorem puF_0 (f p : sF) : f = puF f p 0 := by
  funext q
  unfold puF
  rw [if_neg (by omega)]
theorem puF_s (f p : sF) (k : Int) (h : 0 ≤ k) : iup (puF f p k) (50 + k) (p k) = puF f p (k + 1) := by
  funext q
  unfold iup puF
  by_cases e : q = 50 + k
  · rw [if_pos e, if_pos (by omega), e]
    congr 1
    omega
  · rw [if_neg e]
    by_cases e2 : 50 ≤ q ∧ q < 50 + k
    · rw [if_pos e2, if_pos (by omega)]
    · rw [if_neg e2, if_neg (by omega)]
theorem puF_e {f p : sF} {B : Prop} (h : ∀ i, 0 ≤ i → i < f 568 → laB f B i = p i) : puF f p (f 568) = laF f B := by
  funext q
  unfold puF laF
  by_cases e2 : 50 ≤ q ∧ q < 50 + f 568
  · rw [if_pos e2, if_pos e2, h _ (by omega) (by omega)]
  · rw [if_neg e2, if_neg e2]

abbrev rmX11_looks : Room := { frames := 3, cells := 0, slots := 0, locals := 89 }
set_option maxHeartbeats 4000000 in
set_option maxRecDepth 100000 in
theorem kX11_looks (l_ : Launch) (G : sG) (b_ : Nat) (M : sM) (N : Nat) (m : Nat) (th ch tn ea sn nm wn : Int) (f : sF) (p : sF) (w : Int) (hm0 : M m = some (mO m th ch tn ea sn nm wn)) (hm1 : M (m + 1) = some (sArr G 574 f)) (hm8 : M (m + 8) = some (sArr G 10 p)) (hok : sOk f) (hw : 0 ≤ w ∧ w ≤ 10) : cI l_ yX11_looks wsX11_looks rmX11_looks G b_ M N [.ref m, .int (sI w)] (fun z_ M1 N1 => ∃ p9 : Int → Int, z_ = bI (∃ r2, lyS f w r2) ∧ N1 = N ∧ M1 (m + 8) = some (sArr G 10 p9) ∧ (∀ x : Nat, ¬ (x = m + 8) → M1 x = M x) ∧ ((∃ r2, lyS f w r2) → lyS f w p9 ∧ ∀ r2, lyS f w r2 → lexL (f 568) p9 r2)) := by
  refine sE.ofI (cc := cX11_looks) (nL := 3) (ret := (some .boolean)) (by decide) rfl (Nat.le_of_ble_eq_true rfl) ?_
  intro p_ e_ s_ m_ args_ below_ meth_ c_ ls Q hQ E hl
  have E : sE p_ l_ e_ rmX11_looks s_ m_ args_ below_ meth_ c_ cX11_looks 3 wsX11_looks RX11 "looks" (some .boolean) G b_ M N := E
  have S := E.1
  have hx_ := S.1
  have hb_ := S.2.1
  have hK := E.2.2.2.2.1
  have hV := E.2.2.2.2.2.2
  have hl : lv_has ls 3 [(0, .ref m), (1, .int (sI w))] := hl
  have inX11_ : ∀ w ∈ wsX110, w ∈ wsX11_looks := fun _ h => List.mem_cons_of_mem _ (List.mem_append_right _ h)
  have kn0 := sOk_N hok
  refine si_const S dX11_looks_0 ?_
  refine lv_istore_n (lv' := [(2, .int (sI 0)), (0, .ref m), (1, .int (sI w))]) hx_ hb_ dX11_looks_1 rfl hl (by decide) rfl (fun ls hl => ?_)
  refine lv_aload_n hx_ hb_ dX11_looks_2 rfl (lv_at hl 1 rfl) ?_
  refine sk_VP E hV (As := []) (rest := []) (kX11_many l_ G b_ M N m th ch tn ea sn nm wn f hm0 hm1) (cwV 0 S.2.2.2.2 gX11_looks_X11_many rfl rfl rfl (by decide +kernel) ⟨Nat.le_of_ble_eq_true rfl, Nat.le_of_ble_eq_true rfl⟩) (ci := 9) hm0 rfl rfl rfl hl.1 (Nat.le_of_ble_eq_true rfl) dX11_looks_3 (c1 := 0) (s1 := 0) ⟨⟨rfl, rfl⟩, by decide, by decide⟩ (fun H locs hV => ?_)
  refine sz_le (tgt := 16) S dX11_looks_6 (by decide) (by omega) (fun c1 => ?_) (fun c1 => ?_)
  · have L16 : ∀ (fuel : Nat) (k : Int) (g2 : Int → Int) (Ml16 : sM) (H : Heap) (locs : List Loc) (ls : Array Slot), ((if k = f 568 then 0 else lgI g2 k + 2).toNat) < fuel → (0 ≤ k ∧ k ≤ f 568) → (∀ i, 0 ≤ i → i < k → (0 ≤ g2 i ∧ g2 i ≤ 3) ∧ whyM f g2 i i = 0) → (k < f 568 → -1 ≤ g2 k ∧ g2 k ≤ 3) → (isum k (ohT f g2) ≤ w) → (k < f 568 → nbP (lyS f w) g2 k) → (k = f 568 → ∀ r2, lyS f w r2 → lexL (f 568) g2 r2) → (Ml16 (m + 8) = some (sArr G 10 g2)) → (∀ x : Nat, ¬ (x = m + 8) → Ml16 x = M x) → sV G b_ Ml16 N s_ H locs → lv_has ls 3 [(0, .ref m), (1, .int (sI w)), (2, .int (sI k))] → W p_ l_ e_ rmX11_looks s_ m_ args_ below_ meth_ c_ H locs 0 0 Q (F0 m_ 16 ls []) := by
      intro fuel
      induction fuel with
      | zero => intro k g2 Ml16 H locs ls hmu; exact absurd hmu (Nat.not_lt_zero _)
      | succ fuel ih16 =>
        intro k g2 Ml16 H locs ls hmu16 hv16_0 hpre hgk hot hno hle hm16_0 hfr16 hV hl
        refine lv_iload_n hx_ hb_ dX11_looks_16 rfl (lv_at hl 2 rfl) ?_
        refine lv_aload_n hx_ hb_ dX11_looks_17 rfl (lv_at hl 0 rfl) ?_
        have hc2 : Ml16 m = some (mO m th ch tn ea sn nm wn) := (hfr16 m (by omega)).trans hm0
        have hc3 : Ml16 (m + 1) = some (sArr G 574 f) := (hfr16 (m + 1) (by omega)).trans hm1
        refine sk_VP E hV (As := []) (rest := [.int (sI k)]) (kX11_many l_ G b_ Ml16 N m th ch tn ea sn nm wn f hc2 hc3) (cwV 0 S.2.2.2.2 gX11_looks_X11_many rfl rfl rfl (by decide +kernel) ⟨Nat.le_of_ble_eq_true rfl, Nat.le_of_ble_eq_true rfl⟩) (ci := 9) hc2 rfl rfl rfl hl.1 (Nat.le_of_ble_eq_true rfl) dX11_looks_18 (c1 := 0) (s1 := 0) ⟨⟨rfl, rfl⟩, by decide, by decide⟩ (fun H locs hV => ?_)
        refine sb_ge (tgt := 100) S dX11_looks_21 (by decide) (by omega) (fun c4 => ?_) (fun c4 => ?_)
        · refine si_const S dX11_looks_100 ?_
          have hfin : lyS f w g2 := ⟨fun s c d => hpre s c (by omega), by unfold lyO; rw [show f 568 = k by omega]; exact hot⟩
          exact sr_z E hQ (Or.inr rfl) dX11_looks_101 ⟨Nat.le_of_ble_eq_true rfl, Nat.le_of_ble_eq_true rfl⟩ hV (⟨g2, (bI_t ⟨_, hfin⟩).symm, rfl, hm16_0, fun x q0 => hfr16 x (by omega), fun _ => ⟨hfin, hle (by omega)⟩⟩)
        · refine lv_aload_n hx_ hb_ dX11_looks_24 rfl (lv_at hl 0 rfl) ?_
          refine sc_get (ci := 9) (C := RX11) (T := TX11) (n := 22) S hK hV inX11_ hc2 rfl 11 (by decide) (S.2.2.2.2 _ (List.mem_of_getElem? (i := 1) rfl)) rfl rfl dX11_looks_25 ?_
          refine lv_iload_n hx_ hb_ dX11_looks_28 rfl (lv_at hl 2 rfl) ?_
          refine lv_dup2_11 hx_ hb_ dX11_looks_29 rfl rfl ?_
          refine sc_iald S hK hV hm16_0 (by omega) dX11_looks_30 ?_
          refine si_const S dX11_looks_31 ?_
          refine si_add S dX11_looks_32 ?_
          refine sc_iast S hK hV hm16_0 (by omega) dX11_looks_33 (fun M5 H locs hM5 hV => ?_)
          have hc6 : M5 (m + 8) = some (sArr G 10 (iup g2 k ((g2 k) + 1))) := (congrFun hM5 (m + 8)).trans (va_up_self Ml16 (m + 8) _)
          have hex : ∀ i, 0 ≤ i → i < k → (iup g2 k (g2 k + 1)) i = g2 i := fun i c d => if_neg (by omega)
          have hek : (iup g2 k (g2 k + 1)) k = g2 k + 1 := if_pos rfl
          have hgk9 := hgk (by omega)
          refine lv_aload_n hx_ hb_ dX11_looks_34 rfl (lv_at hl 0 rfl) ?_
          have hc7 : M5 m = some (mO m th ch tn ea sn nm wn) := ((congrFun hM5 m).trans (va_up_ne Ml16 _ (by omega))).trans hc2
          refine sc_get (ci := 9) (C := RX11) (T := TX11) (n := 22) S hK hV inX11_ hc7 rfl 11 (by decide) (S.2.2.2.2 _ (List.mem_of_getElem? (i := 1) rfl)) rfl rfl dX11_looks_35 ?_
          refine lv_iload_n hx_ hb_ dX11_looks_38 rfl (lv_at hl 2 rfl) ?_
          refine sc_iald S hK hV hc6 (by omega) dX11_looks_39 ?_
          rw [show (iup g2 k ((g2 k) + 1)) k = g2 k + 1 from by unfold iup; (repeat (first | rw [if_pos (by omega)] | rw [if_neg (by omega)]))]
          refine si_const S dX11_looks_40 ?_
          refine sb_ne (tgt := 56) S dX11_looks_41 (by decide) (by omega) (fun c8 => ?_) (fun c8 => ?_)
          · refine lv_aload_n hx_ hb_ dX11_looks_56 rfl (lv_at hl 0 rfl) ?_
            refine lv_iload_n hx_ hb_ dX11_looks_57 rfl (lv_at hl 2 rfl) ?_
            refine lv_iload_n hx_ hb_ dX11_looks_58 rfl (lv_at hl 2 rfl) ?_
            have hc9 : M5 (m + 1) = some (sArr G 574 f) := ((congrFun hM5 (m + 1)).trans (va_up_ne Ml16 _ (by omega))).trans hc3
            refine sk_VP E hV (As := [.int (sI k), .int (sI k)]) (rest := []) (kX11_why l_ G b_ M5 N m th ch tn ea sn nm wn f (iup g2 k ((g2 k) + 1)) k k hc7 hc9 hc6 (by omega) (by omega) (by omega) (fun o c d => by rw [hex o c d]; have := (hpre o c d).1; omega) (by rw [hek]; have := hgk (by omega); omega)) (cwV 2 S.2.2.2.2 gX11_looks_X11_why rfl rfl rfl (by decide +kernel) ⟨Nat.le_of_ble_eq_true rfl, Nat.le_of_ble_eq_true rfl⟩) (ci := 9) hc7 rfl rfl rfl hl.1 (Nat.le_of_ble_eq_true rfl) dX11_looks_59 (c1 := 0) (s1 := 0) ⟨⟨rfl, rfl⟩, by decide, by decide⟩ (fun H locs hV => ?_)
            have hwr := whyM_r f (iup g2 k (g2 k + 1)) k k
            refine sz_ne (tgt := 16) S dX11_looks_62 (by decide) (by omega) (fun h62 => ?_) (fun h62 => ?_)
            · exact ih16 k (iup g2 k ((g2 k) + 1)) M5 _ _ _ (by have hm9 := lg_C (G := g2) (G3 := (iup g2 k (g2 k + 1))) (k := k) (by omega) (fun i c => if_neg c) (by rw [hek]; omega); have hl0 := lgI_n (G := g2) (k := k) (fun i c d => by by_cases e : i = k; exact (by rw [e]; omega); exact (by have := (hpre i (by omega) (by omega)).1; omega)); rw [if_neg (by omega)]; rw [if_neg (show ¬ k = f 568 by omega)] at hmu16; omega) (by omega) (fun i c d => by rw [hex i c d]; exact ⟨(hpre i c d).1, by rw [whyM_c (p2 := g2) (hex i c d) (fun o u v => hex o u (by omega))]; exact (hpre i c d).2⟩) (fun c => by rw [hek]; omega) (by rw [oh_c (p2 := g2) hex]; exact hot) (fun c => nb_B (hno (by omega)) rfl (fun r2 hr hp hk => absurd ((whyM_c (f := f) (p := (iup g2 k (g2 k + 1))) (p2 := r2) (by rw [hek, hk]) (fun o u v => by rw [hex o u v, hp o u v])).trans (hr.1 k (by omega) (by omega)).2) (by omega))) (fun c => by omega) hc6 (fun x q0 => ((congrFun hM5 x).trans (va_up_ne Ml16 _ (by omega))).trans (hfr16 x (by omega))) hV (lv_sub hl [0, 1, 2] rfl)
            · refine lv_aload_n hx_ hb_ dX11_looks_65 rfl (lv_at hl 0 rfl) ?_
              refine lv_iload_n hx_ hb_ dX11_looks_66 rfl (lv_at hl 2 rfl) ?_
              refine si_const S dX11_looks_67 ?_
              refine si_add S dX11_looks_68 ?_
              refine sk_VP E hV (As := [.int (sI (k + 1))]) (rest := []) (kX11_others l_ G b_ M5 N m th ch tn ea sn nm wn f (iup g2 k ((g2 k) + 1)) (k + 1) hc7 hc9 hc6 (by omega) (by omega) (fun o c d => by by_cases e : o = k; exact (by rw [e, hek]; omega); exact (by rw [hex o c (by omega)]; have := (hpre o c (by omega)).1; omega))) (cwV 1 S.2.2.2.2 gX11_looks_X11_others rfl rfl rfl (by decide +kernel) ⟨Nat.le_of_ble_eq_true rfl, Nat.le_of_ble_eq_true rfl⟩) (ci := 9) hc7 rfl rfl rfl hl.1 (Nat.le_of_ble_eq_true rfl) dX11_looks_69 (c1 := 0) (s1 := 0) ⟨⟨rfl, rfl⟩, by decide, by decide⟩ (fun H locs hV => ?_)
              have horr := oh_r (f := f) (iup g2 k (g2 k + 1)) (n := k + 1) (by omega)
              refine lv_iload_n hx_ hb_ dX11_looks_72 rfl (lv_at hl 1 rfl) ?_
              refine sb_le (tgt := 79) S dX11_looks_73 (by decide) (by omega) (fun c10 => ?_) (fun c10 => ?_)
              · have hpr3 : ∀ i, 0 ≤ i → i < k + 1 → (0 ≤ (iup g2 k (g2 k + 1)) i ∧ (iup g2 k (g2 k + 1)) i ≤ 3) ∧ whyM f (iup g2 k (g2 k + 1)) i i = 0 := fun i c d => by by_cases e : i = k; exact (by rw [e]; exact ⟨by rw [hek]; omega, by omega⟩); exact (by rw [hex i c (by omega)]; exact ⟨(hpre i c (by omega)).1, by rw [whyM_c (p2 := g2) (hex i c (by omega)) (fun o u v => hex o u (by omega))]; exact (hpre i c (by omega)).2⟩)
                refine si_inc (lv' := [(2, .int (sI (k + 1))), (0, .ref m), (1, .int (sI w))]) S dX11_looks_79 hl (k := 2) rfl (by decide) rfl (fun ls hl => ?_)
                refine lv_iload_n hx_ hb_ dX11_looks_82 rfl (lv_at hl 0 rfl) ?_
                refine lv_aload_n hx_ hb_ dX11_looks_83 rfl (lv_at hl 1 rfl) ?_
                refine sk_VP E hV (As := []) (rest := [.int (sI (k + 1))]) (kX11_many l_ G b_ M5 N m th ch tn ea sn nm wn f hc7 hc9) (cwV 0 S.2.2.2.2 gX11_looks_X11_many rfl rfl rfl (by decide +kernel) ⟨Nat.le_of_ble_eq_true rfl, Nat.le_of_ble_eq_true rfl⟩) (ci := 9) hc7 rfl rfl rfl hl.1 (Nat.le_of_ble_eq_true rfl) dX11_looks_84 (c1 := 0) (s1 := 0) ⟨⟨rfl, rfl⟩, by decide, by decide⟩ (fun H locs hV => ?_)
                refine sb_ge (tgt := 16) S dX11_looks_87 (by decide) (by omega) (fun c11 => ?_) (fun c11 => ?_)
                · exact ih16 (k + 1) (iup g2 k ((g2 k) + 1)) M5 _ _ _ (by have hl0 := lgI_n (G := g2) (k := k) (fun i c d => by by_cases e : i = k; exact (by rw [e]; omega); exact (by have := (hpre i (by omega) (by omega)).1; omega)); rw [if_pos (by omega)]; rw [if_neg (show ¬ k = f 568 by omega)] at hmu16; omega) (by omega) (fun i c d => hpr3 i c d) (fun c => by omega) (by omega) (fun c => by omega) (fun c r2 hr => nb_D (hno (by omega)) rfl (by omega) r2 hr) hc6 (fun x q0 => ((congrFun hM5 x).trans (va_up_ne Ml16 _ (by omega))).trans (hfr16 x (by omega))) hV (lv_sub hl [1, 2, 0] rfl)
                · refine lv_aload_n hx_ hb_ dX11_looks_90 rfl (lv_at hl 1 rfl) ?_
                  refine sc_get (ci := 9) (C := RX11) (T := TX11) (n := 22) S hK hV inX11_ hc7 rfl 11 (by decide) (S.2.2.2.2 _ (List.mem_of_getElem? (i := 1) rfl)) rfl rfl dX11_looks_91 ?_
                  refine lv_iload_n hx_ hb_ dX11_looks_94 rfl (lv_at hl 0 rfl) ?_
                  refine si_const S dX11_looks_95 ?_
                  refine sc_iast S hK hV hc6 (by omega) dX11_looks_96 (fun M12 H locs hM12 hV => ?_)
                  have hc13 : M12 (m + 8) = some (sArr G 10 (iup (iup g2 k ((g2 k) + 1)) (k + 1) (-1))) := (congrFun hM12 (m + 8)).trans (va_up_self M5 (m + 8) _)
                  refine lv_goto (tgt := 16) hx_ hb_ dX11_looks_97 (by decide) ?_
                  exact ih16 (k + 1) (iup (iup g2 k ((g2 k) + 1)) (k + 1) (-1)) M12 _ _ _ (by have hm9 := lg_B (G := g2) (G3 := (iup g2 k (g2 k + 1))) (k := k) (v := -1) (by omega) (fun i c => if_neg c) (by rw [hek]; omega) (by omega); have hl0 := lgI_n (G := g2) (k := k) (fun i c d => by by_cases e : i = k; exact (by rw [e]; omega); exact (by have := (hpre i (by omega) (by omega)).1; omega)); rw [if_neg (by omega)]; rw [if_neg (show ¬ k = f 568 by omega)] at hmu16; omega) (by omega) (fun i c d => by have e9 : iup (iup g2 k (g2 k + 1)) (k + 1) (-1) i = (iup g2 k (g2 k + 1)) i := if_neg (by omega); rw [e9]; exact ⟨(hpr3 i c d).1, by rw [whyM_c (p2 := (iup g2 k (g2 k + 1))) e9 (fun o u v => if_neg (by omega))]; exact (hpr3 i c d).2⟩) (fun c => by rw [show iup (iup g2 k (g2 k + 1)) (k + 1) (-1) (k + 1) = -1 from if_pos rfl]; omega) (by rw [oh_c (p := iup (iup g2 k (g2 k + 1)) (k + 1) (-1)) (p2 := (iup g2 k (g2 k + 1))) (fun i c d => if_neg (by omega))]; omega) (fun c => nb_C (hno (by omega)) rfl (by omega) (fun r2 hr => by have := (hr.1 (k + 1) (by omega) (by omega)).1; omega)) (fun c => by omega) hc13 (fun x q0 => (((congrFun hM12 x).trans (va_up_ne M5 _ (by omega))).trans ((congrFun hM5 x).trans (va_up_ne Ml16 _ (by omega)))).trans (hfr16 x (by omega))) hV (lv_sub hl [1, 2, 0] rfl)
              · refine lv_goto (tgt := 16) hx_ hb_ dX11_looks_76 (by decide) ?_
                exact ih16 k (iup g2 k ((g2 k) + 1)) M5 _ _ _ (by have hm9 := lg_C (G := g2) (G3 := (iup g2 k (g2 k + 1))) (k := k) (by omega) (fun i c => if_neg c) (by rw [hek]; omega); have hl0 := lgI_n (G := g2) (k := k) (fun i c d => by by_cases e : i = k; exact (by rw [e]; omega); exact (by have := (hpre i (by omega) (by omega)).1; omega)); rw [if_neg (by omega)]; rw [if_neg (show ¬ k = f 568 by omega)] at hmu16; omega) (by omega) (fun i c d => by rw [hex i c d]; exact ⟨(hpre i c d).1, by rw [whyM_c (p2 := g2) (hex i c d) (fun o u v => hex o u (by omega))]; exact (hpre i c d).2⟩) (fun c => by rw [hek]; omega) (by rw [oh_c (p2 := g2) hex]; exact hot) (fun c => nb_B (hno (by omega)) rfl (fun r2 hr hp hk => by have h9 := oh_c (f := f) (p := (iup g2 k (g2 k + 1))) (p2 := r2) (n := k + 1) (fun i u v => by by_cases e : i = k; exact (by rw [e, hek, hk]); exact (by rw [hex i u (by omega), hp i u (by omega)])); have h8 := oh_m (f := f) (p := r2) (a := k + 1) (n := f 568) (by omega) (by omega); have h7 := hr.2; unfold lyO at h7; omega)) (fun c => by omega) hc6 (fun x q0 => ((congrFun hM5 x).trans (va_up_ne Ml16 _ (by omega))).trans (hfr16 x (by omega))) hV (lv_sub hl [0, 1, 2] rfl)
          · refine lv_iload_n hx_ hb_ dX11_looks_44 rfl (lv_at hl 2 rfl) ?_
            refine sz_ne (tgt := 50) S dX11_looks_45 (by decide) (by omega) (fun c14 => ?_) (fun c14 => ?_)
            · refine si_inc (lv' := [(2, .int (sI (k + (-1)))), (0, .ref m), (1, .int (sI w))]) S dX11_looks_50 hl (k := 2) rfl (by decide) rfl (fun ls hl => ?_)
              refine lv_goto (tgt := 16) hx_ hb_ dX11_looks_53 (by decide) ?_
              exact ih16 (k + (-1)) (iup g2 k ((g2 k) + 1)) M5 _ _ _ (by have hm9 := lg_A (G := g2) (G3 := (iup g2 k (g2 k + 1))) (k := k) (by omega) (fun i c => if_neg c) (by omega); rw [show k + (-1) = k - 1 from rfl]; have hl0 := lgI_n (G := g2) (k := k) (fun i c d => by by_cases e : i = k; exact (by rw [e]; omega); exact (by have := (hpre i (by omega) (by omega)).1; omega)); rw [if_neg (by omega)]; rw [if_neg (show ¬ k = f 568 by omega)] at hmu16; omega) (by omega) (fun i c d => by rw [hex i c (by omega)]; exact ⟨(hpre i c (by omega)).1, by rw [whyM_c (p2 := g2) (hex i c (by omega)) (fun o u v => hex o u (by omega))]; exact (hpre i c (by omega)).2⟩) (fun c => by rw [hex (k + (-1)) (by omega) (by omega)]; have := (hpre (k + (-1)) (by omega) (by omega)).1; omega) (by rw [oh_c (p2 := g2) (fun i c d => hex i c (by omega))]; have := oh_m (f := f) (p := g2) (a := k + (-1)) (n := k) (by omega) (by omega); omega) (fun c => nb_A (hno (by omega)) (fun i c => if_neg c) (fun r2 hr => (hr.1 k (by omega) (by omega)).1.2) (by omega)) (fun c => by omega) hc6 (fun x q0 => ((congrFun hM5 x).trans (va_up_ne Ml16 _ (by omega))).trans (hfr16 x (by omega))) hV (lv_sub hl [1, 2, 0] rfl)
            · refine si_const S dX11_looks_48 ?_
              have hnone : ∀ r2, ¬ lyS f w r2 := fun r2 hr => hno (by omega) r2 hr ⟨0, by omega, by omega, fun i c d => by omega, fun c => by omega, fun _ => by have := (hr.1 0 (by omega) (by omega)).1; rw [show (0 : Int) = k by omega] at this ⊢; omega⟩
              exact sr_z E hQ (Or.inl rfl) dX11_looks_49 ⟨Nat.le_of_ble_eq_true rfl, Nat.le_of_ble_eq_true rfl⟩ hV (⟨(iup g2 k ((g2 k) + 1)), (bI_f (fun h => by obtain ⟨r2, hr⟩ := h; exact hnone r2 hr)).symm, rfl, hc6, fun x q0 => ((congrFun hM5 x).trans (va_up_ne Ml16 _ (by omega))).trans (hfr16 x (by omega)), fun h => by obtain ⟨r2, hr⟩ := h; exact absurd hr (hnone r2)⟩)
    exact L16 _ 0 p M _ _ _ (Nat.lt_succ_self _) (by omega) (fun i c d => by omega) (fun c => by omega) (by rw [isum_0]; omega) (fun c => by omega) (fun c r2 hr => Or.inr fun i x y => by omega) hm8 (fun x q0 => rfl) hV (lv_sub hl [1, 2, 0] rfl)
  · refine lv_aload_n hx_ hb_ dX11_looks_9 rfl (lv_at hl 1 rfl) ?_
    refine sc_get (ci := 9) (C := RX11) (T := TX11) (n := 22) S hK hV inX11_ hm0 rfl 11 (by decide) (S.2.2.2.2 _ (List.mem_of_getElem? (i := 1) rfl)) rfl rfl dX11_looks_10 ?_
    refine si_const S dX11_looks_13 ?_
    refine si_const S dX11_looks_14 ?_
    refine sc_iast S hK hV hm8 (by omega) dX11_looks_15 (fun M15 H locs hM15 hV => ?_)
    have hc16 : M15 (m + 8) = some (sArr G 10 (iup p 0 (-1))) := (congrFun hM15 (m + 8)).trans (va_up_self M (m + 8) _)
    have L16 : ∀ (fuel : Nat) (k : Int) (g2 : Int → Int) (Ml16 : sM) (H : Heap) (locs : List Loc) (ls : Array Slot), ((if k = f 568 then 0 else lgI g2 k + 2).toNat) < fuel → (0 ≤ k ∧ k ≤ f 568) → (∀ i, 0 ≤ i → i < k → (0 ≤ g2 i ∧ g2 i ≤ 3) ∧ whyM f g2 i i = 0) → (k < f 568 → -1 ≤ g2 k ∧ g2 k ≤ 3) → (isum k (ohT f g2) ≤ w) → (k < f 568 → nbP (lyS f w) g2 k) → (k = f 568 → ∀ r2, lyS f w r2 → lexL (f 568) g2 r2) → (Ml16 (m + 8) = some (sArr G 10 g2)) → (∀ x : Nat, ¬ (x = m + 8) → Ml16 x = M15 x) → sV G b_ Ml16 N s_ H locs → lv_has ls 3 [(0, .ref m), (1, .int (sI w)), (2, .int (sI k))] → W p_ l_ e_ rmX11_looks s_ m_ args_ below_ meth_ c_ H locs 0 0 Q (F0 m_ 16 ls []) := by
      intro fuel
      induction fuel with
      | zero => intro k g2 Ml16 H locs ls hmu; exact absurd hmu (Nat.not_lt_zero _)
      | succ fuel ih16 =>
        intro k g2 Ml16 H locs ls hmu16 hv16_0 hpre hgk hot hno hle hm16_0 hfr16 hV hl
        refine lv_iload_n hx_ hb_ dX11_looks_16 rfl (lv_at hl 2 rfl) ?_
        refine lv_aload_n hx_ hb_ dX11_looks_17 rfl (lv_at hl 0 rfl) ?_
        have hc17 : Ml16 m = some (mO m th ch tn ea sn nm wn) := ((hfr16 m (by omega)).trans ((congrFun hM15 m).trans (va_up_ne M _ (by omega)))).trans hm0
        have hc18 : Ml16 (m + 1) = some (sArr G 574 f) := ((hfr16 (m + 1) (by omega)).trans ((congrFun hM15 (m + 1)).trans (va_up_ne M _ (by omega)))).trans hm1
        refine sk_VP E hV (As := []) (rest := [.int (sI k)]) (kX11_many l_ G b_ Ml16 N m th ch tn ea sn nm wn f hc17 hc18) (cwV 0 S.2.2.2.2 gX11_looks_X11_many rfl rfl rfl (by decide +kernel) ⟨Nat.le_of_ble_eq_true rfl, Nat.le_of_ble_eq_true rfl⟩) (ci := 9) hc17 rfl rfl rfl hl.1 (Nat.le_of_ble_eq_true rfl) dX11_looks_18 (c1 := 0) (s1 := 0) ⟨⟨rfl, rfl⟩, by decide, by decide⟩ (fun H locs hV => ?_)
        refine sb_ge (tgt := 100) S dX11_looks_21 (by decide) (by omega) (fun c19 => ?_) (fun c19 => ?_)
        · refine si_const S dX11_looks_100 ?_
          have hfin : lyS f w g2 := ⟨fun s c d => hpre s c (by omega), by unfold lyO; rw [show f 568 = k by omega]; exact hot⟩
          exact sr_z E hQ (Or.inr rfl) dX11_looks_101 ⟨Nat.le_of_ble_eq_true rfl, Nat.le_of_ble_eq_true rfl⟩ hV (⟨g2, (bI_t ⟨_, hfin⟩).symm, rfl, hm16_0, fun x q0 => (hfr16 x (by omega)).trans ((congrFun hM15 x).trans (va_up_ne M _ (by omega))), fun _ => ⟨hfin, hle (by omega)⟩⟩)
        · refine lv_aload_n hx_ hb_ dX11_looks_24 rfl (lv_at hl 0 rfl) ?_
          refine sc_get (ci := 9) (C := RX11) (T := TX11) (n := 22) S hK hV inX11_ hc17 rfl 11 (by decide) (S.2.2.2.2 _ (List.mem_of_getElem? (i := 1) rfl)) rfl rfl dX11_looks_25 ?_
          refine lv_iload_n hx_ hb_ dX11_looks_28 rfl (lv_at hl 2 rfl) ?_
          refine lv_dup2_11 hx_ hb_ dX11_looks_29 rfl rfl ?_
          refine sc_iald S hK hV hm16_0 (by omega) dX11_looks_30 ?_
          refine si_const S dX11_looks_31 ?_
          refine si_add S dX11_looks_32 ?_
          refine sc_iast S hK hV hm16_0 (by omega) dX11_looks_33 (fun M20 H locs hM20 hV => ?_)
          have hc21 : M20 (m + 8) = some (sArr G 10 (iup g2 k ((g2 k) + 1))) := (congrFun hM20 (m + 8)).trans (va_up_self Ml16 (m + 8) _)
          have hex : ∀ i, 0 ≤ i → i < k → (iup g2 k (g2 k + 1)) i = g2 i := fun i c d => if_neg (by omega)
          have hek : (iup g2 k (g2 k + 1)) k = g2 k + 1 := if_pos rfl
          have hgk9 := hgk (by omega)
          refine lv_aload_n hx_ hb_ dX11_looks_34 rfl (lv_at hl 0 rfl) ?_
          have hc22 : M20 m = some (mO m th ch tn ea sn nm wn) := ((congrFun hM20 m).trans (va_up_ne Ml16 _ (by omega))).trans hc17
          refine sc_get (ci := 9) (C := RX11) (T := TX11) (n := 22) S hK hV inX11_ hc22 rfl 11 (by decide) (S.2.2.2.2 _ (List.mem_of_getElem? (i := 1) rfl)) rfl rfl dX11_looks_35 ?_
          refine lv_iload_n hx_ hb_ dX11_looks_38 rfl (lv_at hl 2 rfl) ?_
          refine sc_iald S hK hV hc21 (by omega) dX11_looks_39 ?_
          rw [show (iup g2 k ((g2 k) + 1)) k = g2 k + 1 from by unfold iup; (repeat (first | rw [if_pos (by omega)] | rw [if_neg (by omega)]))]
          refine si_const S dX11_looks_40 ?_
          refine sb_ne (tgt := 56) S dX11_looks_41 (by decide) (by omega) (fun c23 => ?_) (fun c23 => ?_)
          · refine lv_aload_n hx_ hb_ dX11_looks_56 rfl (lv_at hl 0 rfl) ?_
            refine lv_iload_n hx_ hb_ dX11_looks_57 rfl (lv_at hl 2 rfl) ?_
            refine lv_iload_n hx_ hb_ dX11_looks_58 rfl (lv_at hl 2 rfl) ?_
            have hc24 : M20 (m + 1) = some (sArr G 574 f) := ((congrFun hM20 (m + 1)).trans (va_up_ne Ml16 _ (by omega))).trans hc18
            refine sk_VP E hV (As := [.int (sI k), .int (sI k)]) (rest := []) (kX11_why l_ G b_ M20 N m th ch tn ea sn nm wn f (iup g2 k ((g2 k) + 1)) k k hc22 hc24 hc21 (by omega) (by omega) (by omega) (fun o c d => by rw [hex o c d]; have := (hpre o c d).1; omega) (by rw [hek]; have := hgk (by omega); omega)) (cwV 2 S.2.2.2.2 gX11_looks_X11_why rfl rfl rfl (by decide +kernel) ⟨Nat.le_of_ble_eq_true rfl, Nat.le_of_ble_eq_true rfl⟩) (ci := 9) hc22 rfl rfl rfl hl.1 (Nat.le_of_ble_eq_true rfl) dX11_looks_59 (c1 := 0) (s1 := 0) ⟨⟨rfl, rfl⟩, by decide, by decide⟩ (fun H locs hV => ?_)
            have hwr := whyM_r f (iup g2 k (g2 k + 1)) k k
            refine sz_ne (tgt := 16) S dX11_looks_62 (by decide) (by omega) (fun h62 => ?_) (fun h62 => ?_)
            · exact ih16 k (iup g2 k ((g2 k) + 1)) M20 _ _ _ (by have hm9 := lg_C (G := g2) (G3 := (iup g2 k (g2 k + 1))) (k := k) (by omega) (fun i c => if_neg c) (by rw [hek]; omega); have hl0 := lgI_n (G := g2) (k := k) (fun i c d => by by_cases e : i = k; exact (by rw [e]; omega); exact (by have := (hpre i (by omega) (by omega)).1; omega)); rw [if_neg (by omega)]; rw [if_neg (show ¬ k = f 568 by omega)] at hmu16; omega) (by omega) (fun i c d => by rw [hex i c d]; exact ⟨(hpre i c d).1, by rw [whyM_c (p2 := g2) (hex i c d) (fun o u v => hex o u (by omega))]; exact (hpre i c d).2⟩) (fun c => by rw [hek]; omega) (by rw [oh_c (p2 := g2) hex]; exact hot) (fun c => nb_B (hno (by omega)) rfl (fun r2 hr hp hk => absurd ((whyM_c (f := f) (p := (iup g2 k (g2 k + 1))) (p2 := r2) (by rw [hek, hk]) (fun o u v => by rw [hex o u v, hp o u v])).trans (hr.1 k (by omega) (by omega)).2) (by omega))) (fun c => by omega) hc21 (fun x q0 => ((congrFun hM20 x).trans (va_up_ne Ml16 _ (by omega))).trans (hfr16 x (by omega))) hV (lv_sub hl [0, 1, 2] rfl)
            · refine lv_aload_n hx_ hb_ dX11_looks_65 rfl (lv_at hl 0 rfl) ?_
              refine lv_iload_n hx_ hb_ dX11_looks_66 rfl (lv_at hl 2 rfl) ?_
              refine si_const S dX11_looks_67 ?_
              refine si_add S dX11_looks_68 ?_
              refine sk_VP E hV (As := [.int (sI (k + 1))]) (rest := []) (kX11_others l_ G b_ M20 N m th ch tn ea sn nm wn f (iup g2 k ((g2 k) + 1)) (k + 1) hc22 hc24 hc21 (by omega) (by omega) (fun o c d => by by_cases e : o = k; exact (by rw [e, hek]; omega); exact (by rw [hex o c (by omega)]; have := (hpre o c (by omega)).1; omega))) (cwV 1 S.2.2.2.2 gX11_looks_X11_others rfl rfl rfl (by decide +kernel) ⟨Nat.le_of_ble_eq_true rfl, Nat.le_of_ble_eq_true rfl⟩) (ci := 9) hc22 rfl rfl rfl hl.1 (Nat.le_of_ble_eq_true rfl) dX11_looks_69 (c1 := 0) (s1 := 0) ⟨⟨rfl, rfl⟩, by decide, by decide⟩ (fun H locs hV => ?_)
              have horr := oh_r (f := f) (iup g2 k (g2 k + 1)) (n := k + 1) (by omega)
              refine lv_iload_n hx_ hb_ dX11_looks_72 rfl (lv_at hl 1 rfl) ?_
              refine sb_le (tgt := 79) S dX11_looks_73 (by decide) (by omega) (fun c25 => ?_) (fun c25 => ?_)
              · have hpr3 : ∀ i, 0 ≤ i → i < k + 1 → (0 ≤ (iup g2 k (g2 k + 1)) i ∧ (iup g2 k (g2 k + 1)) i ≤ 3) ∧ whyM f (iup g2 k (g2 k + 1)) i i = 0 := fun i c d => by by_cases e : i = k; exact (by rw [e]; exact ⟨by rw [hek]; omega, by omega⟩); exact (by rw [hex i c (by omega)]; exact ⟨(hpre i c (by omega)).1, by rw [whyM_c (p2 := g2) (hex i c (by omega)) (fun o u v => hex o u (by omega))]; exact (hpre i c (by omega)).2⟩)
                refine si_inc (lv' := [(2, .int (sI (k + 1))), (0, .ref m), (1, .int (sI w))]) S dX11_looks_79 hl (k := 2) rfl (by decide) rfl (fun ls hl => ?_)
                refine lv_iload_n hx_ hb_ dX11_looks_82 rfl (lv_at hl 0 rfl) ?_
                refine lv_aload_n hx_ hb_ dX11_looks_83 rfl (lv_at hl 1 rfl) ?_
                refine sk_VP E hV (As := []) (rest := [.int (sI (k + 1))]) (kX11_many l_ G b_ M20 N m th ch tn ea sn nm wn f hc22 hc24) (cwV 0 S.2.2.2.2 gX11_looks_X11_many rfl rfl rfl (by decide +kernel) ⟨Nat.le_of_ble_eq_true rfl, Nat.le_of_ble_eq_true rfl⟩) (ci := 9) hc22 rfl rfl rfl hl.1 (Nat.le_of_ble_eq_true rfl) dX11_looks_84 (c1 := 0) (s1 := 0) ⟨⟨rfl, rfl⟩, by decide, by decide⟩ (fun H locs hV => ?_)
                refine sb_ge (tgt := 16) S dX11_looks_87 (by decide) (by omega) (fun c26 => ?_) (fun c26 => ?_)
                · exact ih16 (k + 1) (iup g2 k ((g2 k) + 1)) M20 _ _ _ (by have hl0 := lgI_n (G := g2) (k := k) (fun i c d => by by_cases e : i = k; exact (by rw [e]; omega); exact (by have := (hpre i (by omega) (by omega)).1; omega)); rw [if_pos (by omega)]; rw [if_neg (show ¬ k = f 568 by omega)] at hmu16; omega) (by omega) (fun i c d => hpr3 i c d) (fun c => by omega) (by omega) (fun c => by omega) (fun c r2 hr => nb_D (hno (by omega)) rfl (by omega) r2 hr) hc21 (fun x q0 => ((congrFun hM20 x).trans (va_up_ne Ml16 _ (by omega))).trans (hfr16 x (by omega))) hV (lv_sub hl [1, 2, 0] rfl)
                · refine lv_aload_n hx_ hb_ dX11_looks_90 rfl (lv_at hl 1 rfl) ?_
                  refine sc_get (ci := 9) (C := RX11) (T := TX11) (n := 22) S hK hV inX11_ hc22 rfl 11 (by decide) (S.2.2.2.2 _ (List.mem_of_getElem? (i := 1) rfl)) rfl rfl dX11_looks_91 ?_
                  refine lv_iload_n hx_ hb_ dX11_looks_94 rfl (lv_at hl 0 rfl) ?_
                  refine si_const S dX11_looks_95 ?_
                  refine sc_iast S hK hV hc21 (by omega) dX11_looks_96 (fun M27 H locs hM27 hV => ?_)
                  have hc28 : M27 (m + 8) = some (sArr G 10 (iup (iup g2 k ((g2 k) + 1)) (k + 1) (-1))) := (congrFun hM27 (m + 8)).trans (va_up_self M20 (m + 8) _)
                  refine lv_goto (tgt := 16) hx_ hb_ dX11_looks_97 (by decide) ?_
                  exact ih16 (k + 1) (iup (iup g2 k ((g2 k) + 1)) (k + 1) (-1)) M27 _ _ _ (by have hm9 := lg_B (G := g2) (G3 := (iup g2 k (g2 k + 1))) (k := k) (v := -1) (by omega) (fun i c => if_neg c) (by rw [hek]; omega) (by omega); have hl0 := lgI_n (G := g2) (k := k) (fun i c d => by by_cases e : i = k; exact (by rw [e]; omega); exact (by have := (hpre i (by omega) (by omega)).1; omega)); rw [if_neg (by omega)]; rw [if_neg (show ¬ k = f 568 by omega)] at hmu16; omega) (by omega) (fun i c d => by have e9 : iup (iup g2 k (g2 k + 1)) (k + 1) (-1) i = (iup g2 k (g2 k + 1)) i := if_neg (by omega); rw [e9]; exact ⟨(hpr3 i c d).1, by rw [whyM_c (p2 := (iup g2 k (g2 k + 1))) e9 (fun o u v => if_neg (by omega))]; exact (hpr3 i c d).2⟩) (fun c => by rw [show iup (iup g2 k (g2 k + 1)) (k + 1) (-1) (k + 1) = -1 from if_pos rfl]; omega) (by rw [oh_c (p := iup (iup g2 k (g2 k + 1)) (k + 1) (-1)) (p2 := (iup g2 k (g2 k + 1))) (fun i c d => if_neg (by omega))]; omega) (fun c => nb_C (hno (by omega)) rfl (by omega) (fun r2 hr => by have := (hr.1 (k + 1) (by omega) (by omega)).1; omega)) (fun c => by omega) hc28 (fun x q0 => (((congrFun hM27 x).trans (va_up_ne M20 _ (by omega))).trans ((congrFun hM20 x).trans (va_up_ne Ml16 _ (by omega)))).trans (hfr16 x (by omega))) hV (lv_sub hl [1, 2, 0] rfl)
              · refine lv_goto (tgt := 16) hx_ hb_ dX11_looks_76 (by decide) ?_
                exact ih16 k (iup g2 k ((g2 k) + 1)) M20 _ _ _ (by have hm9 := lg_C (G := g2) (G3 := (iup g2 k (g2 k + 1))) (k := k) (by omega) (fun i c => if_neg c) (by rw [hek]; omega); have hl0 := lgI_n (G := g2) (k := k) (fun i c d => by by_cases e : i = k; exact (by rw [e]; omega); exact (by have := (hpre i (by omega) (by omega)).1; omega)); rw [if_neg (by omega)]; rw [if_neg (show ¬ k = f 568 by omega)] at hmu16; omega) (by omega) (fun i c d => by rw [hex i c d]; exact ⟨(hpre i c d).1, by rw [whyM_c (p2 := g2) (hex i c d) (fun o u v => hex o u (by omega))]; exact (hpre i c d).2⟩) (fun c => by rw [hek]; omega) (by rw [oh_c (p2 := g2) hex]; exact hot) (fun c => nb_B (hno (by omega)) rfl (fun r2 hr hp hk => by have h9 := oh_c (f := f) (p := (iup g2 k (g2 k + 1))) (p2 := r2) (n := k + 1) (fun i u v => by by_cases e : i = k; exact (by rw [e, hek, hk]); exact (by rw [hex i u (by omega), hp i u (by omega)])); have h8 := oh_m (f := f) (p := r2) (a := k + 1) (n := f 568) (by omega) (by omega); have h7 := hr.2; unfold lyO at h7; omega)) (fun c => by omega) hc21 (fun x q0 => ((congrFun hM20 x).trans (va_up_ne Ml16 _ (by omega))).trans (hfr16 x (by omega))) hV (lv_sub hl [0, 1, 2] rfl)
          · refine lv_iload_n hx_ hb_ dX11_looks_44 rfl (lv_at hl 2 rfl) ?_
            refine sz_ne (tgt := 50) S dX11_looks_45 (by decide) (by omega) (fun c29 => ?_) (fun c29 => ?_)
            · refine si_inc (lv' := [(2, .int (sI (k + (-1)))), (0, .ref m), (1, .int (sI w))]) S dX11_looks_50 hl (k := 2) rfl (by decide) rfl (fun ls hl => ?_)
              refine lv_goto (tgt := 16) hx_ hb_ dX11_looks_53 (by decide) ?_
              exact ih16 (k + (-1)) (iup g2 k ((g2 k) + 1)) M20 _ _ _ (by have hm9 := lg_A (G := g2) (G3 := (iup g2 k (g2 k + 1))) (k := k) (by omega) (fun i c => if_neg c) (by omega); rw [show k + (-1) = k - 1 from rfl]; have hl0 := lgI_n (G := g2) (k := k) (fun i c d => by by_cases e : i = k; exact (by rw [e]; omega); exact (by have := (hpre i (by omega) (by omega)).1; omega)); rw [if_neg (by omega)]; rw [if_neg (show ¬ k = f 568 by omega)] at hmu16; omega) (by omega) (fun i c d => by rw [hex i c (by omega)]; exact ⟨(hpre i c (by omega)).1, by rw [whyM_c (p2 := g2) (hex i c (by omega)) (fun o u v => hex o u (by omega))]; exact (hpre i c (by omega)).2⟩) (fun c => by rw [hex (k + (-1)) (by omega) (by omega)]; have := (hpre (k + (-1)) (by omega) (by omega)).1; omega) (by rw [oh_c (p2 := g2) (fun i c d => hex i c (by omega))]; have := oh_m (f := f) (p := g2) (a := k + (-1)) (n := k) (by omega) (by omega); omega) (fun c => nb_A (hno (by omega)) (fun i c => if_neg c) (fun r2 hr => (hr.1 k (by omega) (by omega)).1.2) (by omega)) (fun c => by omega) hc21 (fun x q0 => ((congrFun hM20 x).trans (va_up_ne Ml16 _ (by omega))).trans (hfr16 x (by omega))) hV (lv_sub hl [1, 2, 0] rfl)
            · refine si_const S dX11_looks_48 ?_
              have hnone : ∀ r2, ¬ lyS f w r2 := fun r2 hr => hno (by omega) r2 hr ⟨0, by omega, by omega, fun i c d => by omega, fun c => by omega, fun _ => by have := (hr.1 0 (by omega) (by omega)).1; rw [show (0 : Int) = k by omega] at this ⊢; omega⟩
              exact sr_z E hQ (Or.inl rfl) dX11_looks_49 ⟨Nat.le_of_ble_eq_true rfl, Nat.le_of_ble_eq_true rfl⟩ hV (⟨(iup g2 k ((g2 k) + 1)), (bI_f (fun h => by obtain ⟨r2, hr⟩ := h; exact hnone r2 hr)).symm, rfl, hc21, fun x q0 => (((congrFun hM20 x).trans (va_up_ne Ml16 _ (by omega))).trans (hfr16 x (by omega))).trans ((congrFun hM15 x).trans (va_up_ne M _ (by omega))), fun h => by obtain ⟨r2, hr⟩ := h; exact absurd hr (hnone r2)⟩)
    exact L16 _ 0 (iup p 0 (-1)) M15 _ _ _ (Nat.lt_succ_self _) (by omega) (fun i c d => by omega) (fun c => by rw [show iup p 0 (-1) 0 = -1 from if_pos rfl]; omega) (by rw [isum_0]; omega) (fun c r2 hr q => by obtain ⟨j, x, y, z, u, t⟩ := q; have h1 := t (by omega); have h2 := (hr.1 0 (by omega) (by omega)).1; rw [show j = 0 by omega, show iup p 0 (-1) 0 = -1 from if_pos rfl] at h1; omega) (fun c r2 hr => Or.inr fun i x y => by omega) hc16 (fun x q0 => rfl) hV (lv_sub hl [1, 2, 0] rfl)

abbrev rmX11_layAll : Room := { frames := 4, cells := 0, slots := 0, locals := 111 }
set_option maxHeartbeats 4000000 in
set_option maxRecDepth 100000 in
theorem kX11_layAll (l_ : Launch) (G : sG) (b_ : Nat) (M : sM) (N : Nat) (m : Nat) (th ch tn ea sn nm wn : Int) (f : sF) (fs : Int → sF) (p : sF) (B : Prop) (hm0 : M m = some (mO m th ch tn ea sn nm wn)) (hm1 : M (m + 1) = some (sArr G 574 f)) (hsv : svC G M (m + 2) ch fs) (hm8 : M (m + 8) = some (sArr G 10 p)) (hok : sOk f) (hch : 0 ≤ ch ∧ ch ≤ 15) : cI l_ yX11_layAll wsX11_layAll rmX11_layAll G b_ M N [.ref m, .int (sI (bI B))] (fun z_ M1 N1 => ∃ p9 : Int → Int, N1 = N ∧ M1 (m + 8) = some (sArr G 10 p9) ∧ svC G M1 (m + 2) (chn ch) (fsn ch fs f) ∧ (∀ x : Nat, ¬ (x = m) → ¬ (x = m + 1) → ¬ (x = m + 2) → ¬ (x = m + 8) → M1 x = M x) ∧ (((¬ ∃ p, laP f B p) ∧ z_ = -1 ∧ M1 m = some (mO m 0 (chn ch) tn ea sn nm wn) ∧ M1 (m + 1) = some (sArr G 574 f)) ∨ ((∃ p, laP f B p) ∧ z_ = laN f B ∧ M1 m = some (mO m 0 (chn ch) tn ea sn nm wn) ∧ M1 (m + 1) = some (sArr G 574 (laF f B))))) := by
  refine sE.ofI (cc := cX11_layAll) (nL := 5) (ret := (some .int)) (by decide) rfl (Nat.le_of_ble_eq_true rfl) ?_
  intro p_ e_ s_ m_ args_ below_ meth_ c_ ls Q hQ E hl
  have E : sE p_ l_ e_ rmX11_layAll s_ m_ args_ below_ meth_ c_ cX11_layAll 5 wsX11_layAll RX11 "layAll" (some .int) G b_ M N := E
  have S := E.1
  have hx_ := S.1
  have hb_ := S.2.1
  have hK := E.2.2.2.2.1
  have hV := E.2.2.2.2.2.2
  have hl : lv_has ls 5 [(0, .ref m), (1, .int (sI (bI B)))] := hl
  have inX11_ : ∀ w ∈ wsX110, w ∈ wsX11_layAll := fun _ h => List.mem_cons_of_mem _ (List.mem_append_right _ h)
  have kn0 := sOk_N hok
  refine lv_aload_n hx_ hb_ dX11_layAll_0 rfl (lv_at hl 0 rfl) ?_
  refine si_const S dX11_layAll_1 ?_
  refine sc_put (ci := 9) (C := RX11) (T := TX11) (n := 22) S hK hV inX11_ tyX11_ok nmX11 hm0 rfl 0 (by decide) (S.2.2.2.2 _ (List.mem_of_getElem? (i := 1) rfl)) rfl rfl rfl rfl (Nat.le_of_ble_eq_true rfl) dX11_layAll_2 (fs1 := [.int (sI 0), .ref (m + 1), .ref (m + 2), .int (sI ch), .ref (m + 3), .int (sI tn), .int (sI ea), .ref (m + 4), .ref (m + 5), .ref (m + 6), .ref (m + 7), .ref (m + 8), .ref (m + 9), .int (sI sn), .ref (m + 10), .ref (m + 11), .ref (m + 12), .ref (m + 13), .int (sI nm), .ref (m + 14), .ref (m + 15), .int (sI wn)]) rfl (fun M1 H locs hM1 hV => ?_)
  have hc2 : M1 m = some (mO m 0 ch tn ea sn nm wn) := (congrFun hM1 m).trans (va_up_self M m _)
  refine lv_aload_n hx_ hb_ dX11_layAll_5 rfl (lv_at hl 0 rfl) ?_
  have hc3 : M1 (m + 1) = some (sArr G 574 f) := ((congrFun hM1 (m + 1)).trans (va_up_ne M _ (by omega))).trans hm1
  have hc4 : svC G M1 (m + 2) ch fs := hsv.fr (fun x q8 q9 => (congrFun hM1 x).trans (va_up_ne M _ (by omega)))
  refine sk_Vv E hV (As := []) (rest := []) (kX11_keeps l_ G b_ M1 N m 0 ch tn ea sn nm wn f fs hc2 hc3 hc4 (by omega)) (cwV 0 S.2.2.2.2 gX11_layAll_X11_keeps rfl rfl rfl (by decide +kernel) ⟨Nat.le_of_ble_eq_true rfl, Nat.le_of_ble_eq_true rfl⟩) (ci := 9) hc2 rfl rfl rfl hl.1 (Nat.le_of_ble_eq_true rfl) dX11_layAll_6 (c1 := 0) (s1 := 0) ⟨⟨rfl, rfl⟩, by decide, by decide⟩ (fun M5 N6 H locs hp7 hV => ?_)
  obtain ⟨hN9, hc10, hc11, hf12⟩ := hp7
  rw [hN9] at hV
  refine lv_iload_n hx_ hb_ dX11_layAll_9 rfl (lv_at hl 1 rfl) ?_
  refine sq_eq (tgt := 17) S dX11_layAll_10 (by decide) (fun h10 => ?_) (fun h10 => ?_)
  · refine si_bipush S dX11_layAll_17 (by decide) ?_
    refine lv_istore_n (lv' := [(2, .int (sI 10)), (0, .ref m), (1, .int (sI (bI B)))]) hx_ hb_ dX11_layAll_19 rfl hl (by decide) rfl (fun ls hl => ?_)
    have L20 : ∀ (fuel : Nat) (q : Int) (g2 : Int → Int) (Ml20 : sM) (H : Heap) (locs : List Loc) (ls : Array Slot), ((11 - q).toNat) < fuel → (0 ≤ q ∧ q ≤ 11) → (¬ B → q = 10 ∨ (q = 11 ∧ ∀ r2, ¬ lyS f 10 r2)) → (B → ∀ x, 0 ≤ x → x < q → ∀ r2, ¬ lyS f x r2) → (Ml20 (m + 8) = some (sArr G 10 g2)) → (∀ x : Nat, ¬ (x = m + 8) → Ml20 x = M5 x) → sV G b_ Ml20 N s_ H locs → lv_has ls 5 [(0, .ref m), (2, .int (sI q))] → W p_ l_ e_ rmX11_layAll s_ m_ args_ below_ meth_ c_ H locs 0 0 Q (F0 m_ 20 ls []) := by
      intro fuel
      induction fuel with
      | zero => intro q g2 Ml20 H locs ls hmu; exact absurd hmu (Nat.not_lt_zero _)
      | succ fuel ih20 =>
        intro q g2 Ml20 H locs ls hmu20 hqr hqB hqn hm20_0 hfr20 hV hl
        refine lv_iload_n hx_ hb_ dX11_layAll_20 rfl (lv_at hl 1 rfl) ?_
        refine si_bipush S dX11_layAll_21 (by decide) ?_
        refine sb_gt (tgt := 40) S dX11_layAll_23 (by decide) (by omega) (fun c13 => ?_) (fun c13 => ?_)
        · refine lv_iload_n hx_ hb_ dX11_layAll_40 rfl (lv_at hl 1 rfl) ?_
          refine si_bipush S dX11_layAll_41 (by decide) ?_
          refine sb_le (tgt := 48) S dX11_layAll_43 (by decide) (by omega) (fun c14 => absurd c14 (by omega)) (fun _ => ?_)
          refine si_const S dX11_layAll_46 ?_
          have hnn : ∀ p, ¬ laP f B p := fun p hp => by
            have hor := oh_r (f := f) p (n := f 568) (by omega)
            by_cases cB : B
            · exact hqn cB (lyO f p) hor.1 (by show isum (f 568) (ohT f p) < q; omega) p ⟨hp.1, Int.le_refl _⟩
            · rcases hqB cB with e | e
              · omega
              · exact e.2 p ⟨hp.1, by show isum (f 568) (ohT f p) ≤ 10; omega⟩
          have hc15 : svC G Ml20 (m + 2) (chn ch) (fsn ch fs f) := hc11.fr (fun x q8 q9 => hfr20 x (by omega))
          have hc16 : Ml20 m = some (mO m 0 (chn ch) tn ea sn nm wn) := (hfr20 m (by omega)).trans hc10
          have hc17 : Ml20 (m + 1) = some (sArr G 574 f) := ((hfr20 (m + 1) (by omega)).trans (hf12 (m + 1) (by omega) (by omega))).trans hc3
          exact sr_i E hQ dX11_layAll_47 ⟨Nat.le_of_ble_eq_true rfl, Nat.le_of_ble_eq_true rfl⟩ hV (⟨g2, rfl, hm20_0, hc15, fun x q0 q1 q2 q3 => ((hfr20 x (by omega)).trans (hf12 x (by omega) (by omega))).trans ((congrFun hM1 x).trans (va_up_ne M _ (by omega))), Or.inl ⟨(fun h => by obtain ⟨p, hp⟩ := h; exact hnn p hp), rfl, hc16, hc17⟩⟩)
        · refine lv_aload_n hx_ hb_ dX11_layAll_26 rfl (lv_at hl 0 rfl) ?_
          refine lv_iload_n hx_ hb_ dX11_layAll_27 rfl (lv_at hl 1 rfl) ?_
          have hc18 : Ml20 m = some (mO m 0 (chn ch) tn ea sn nm wn) := (hfr20 m (by omega)).trans hc10
          have hc19 : Ml20 (m + 1) = some (sArr G 574 f) := ((hfr20 (m + 1) (by omega)).trans (hf12 (m + 1) (by omega) (by omega))).trans hc3
          refine sk_Vi E hV (As := [.int (sI q)]) (rest := []) (kX11_looks l_ G b_ Ml20 N m 0 (chn ch) tn ea sn nm wn f g2 q hc18 hc19 hm20_0 (by omega) (by omega)) (cwV 1 S.2.2.2.2 gX11_layAll_X11_looks rfl rfl rfl (by decide +kernel) ⟨Nat.le_of_ble_eq_true rfl, Nat.le_of_ble_eq_true rfl⟩) (ci := 9) hc18 rfl rfl rfl hl.1 (Nat.le_of_ble_eq_true rfl) dX11_layAll_28 (c1 := 0) (s1 := 0) ⟨⟨rfl, rfl⟩, by decide, by decide⟩ (fun z23 M20 N21 H locs hp22 hV => ?_)
          obtain ⟨p924, ez25, hN26, hc27, hf28, hp929⟩ := hp22
          rw [hN26] at hV
          rw [ez25]
          have hp9 := hp929
          refine sq_ne (tgt := 40) S dX11_layAll_31 (by decide) (fun h31 => ?_) (fun h31 => ?_)
          · refine lv_iload_n hx_ hb_ dX11_layAll_40 rfl (lv_at hl 1 rfl) ?_
            refine si_bipush S dX11_layAll_41 (by decide) ?_
            refine sb_le (tgt := 48) S dX11_layAll_43 (by decide) (by omega) (fun _ => ?_) (fun c30 => absurd c30 (by omega))
            have hsp := hp9 h31
            have hlaP : laP f B p924 := ⟨hsp.1.1, fun p2 h2 => by
              have hor := oh_r (f := f) p2 (n := f 568) (by omega)
              refine ⟨fun c => ?_, fun c => ?_⟩
              · rcases Int.lt_or_le (lyO f p2) q with t | t
                · exact absurd ⟨h2, Int.le_refl _⟩ (hqn c (lyO f p2) hor.1 t p2)
                · have := hsp.1.2; omega
              · by_cases cB : B
                · exact hsp.2 p2 ⟨h2, by rw [← c cB]; exact hsp.1.2⟩
                · exact hsp.2 p2 ⟨h2, by rcases hqB cB with e | e; (rw [e]; show isum (f 568) (ohT f p2) ≤ 10; omega); omega⟩⟩
            have hlae := la_eq hlaP
            refine lv_aload_n hx_ hb_ dX11_layAll_48 rfl (lv_at hl 0 rfl) ?_
            refine lv_aload_n hx_ hb_ dX11_layAll_49 rfl (lv_at hl 0 rfl) ?_
            have hc31 : M20 m = some (mO m 0 (chn ch) tn ea sn nm wn) := (hf28 m (by omega)).trans hc18
            have hc32 : M20 (m + 1) = some (sArr G 574 f) := (hf28 (m + 1) (by omega)).trans hc19
            refine sk_VP E hV (As := []) (rest := [.ref m]) (kX11_many l_ G b_ M20 N m 0 (chn ch) tn ea sn nm wn f hc31 hc32) (cwV 0 S.2.2.2.2 gX11_layAll_X11_many rfl rfl rfl (by decide +kernel) ⟨Nat.le_of_ble_eq_true rfl, Nat.le_of_ble_eq_true rfl⟩) (ci := 9) hc31 rfl rfl rfl hl.1 (Nat.le_of_ble_eq_true rfl) dX11_layAll_50 (c1 := 0) (s1 := 0) ⟨⟨rfl, rfl⟩, by decide, by decide⟩ (fun H locs hV => ?_)
            refine sk_VP E hV (As := [.int (sI (f 568))]) (rest := []) (kX11_others l_ G b_ M20 N m 0 (chn ch) tn ea sn nm wn f p924 (f 568) hc31 hc32 hc27 (by omega) (by omega) (fun o c d => by have := (hsp.1.1 o c d).1; omega)) (cwV 1 S.2.2.2.2 gX11_layAll_X11_others rfl rfl rfl (by decide +kernel) ⟨Nat.le_of_ble_eq_true rfl, Nat.le_of_ble_eq_true rfl⟩) (ci := 9) hc31 rfl rfl rfl hl.1 (Nat.le_of_ble_eq_true rfl) dX11_layAll_53 (c1 := 0) (s1 := 0) ⟨⟨rfl, rfl⟩, by decide, by decide⟩ (fun H locs hV => ?_)
            refine lv_istore_n (lv' := [(3, .int (sI (isum (f 568) (ohT f p924)))), (0, .ref m), (2, .int (sI q))]) hx_ hb_ dX11_layAll_56 rfl hl (by decide) rfl (fun ls hl => ?_)
            refine si_const S dX11_layAll_57 ?_
            refine lv_istore (lv' := [(4, .int (sI 0)), (3, .int (sI (isum (f 568) (ohT f p924)))), (0, .ref m), (2, .int (sI q))]) hx_ hb_ dX11_layAll_58 hl (by decide) rfl (fun ls hl => ?_)
            have L60 : ∀ (fuel : Nat) (i : Int) (f2 : Int → Int) (Ml60 : sM) (H : Heap) (locs : List Loc) (ls : Array Slot), ((f 568 - i).toNat) < fuel → (0 ≤ i ∧ i ≤ f 568) → (f2 = puF f p924 i) → (Ml60 (m + 1) = some (sArr G 574 f2)) → (∀ x : Nat, ¬ (x = m + 1) → Ml60 x = M20 x) → sV G b_ Ml60 N s_ H locs → lv_has ls 5 [(0, .ref m), (3, .int (sI (isum (f 568) (ohT f p924)))), (4, .int (sI i))] → W p_ l_ e_ rmX11_layAll s_ m_ args_ below_ meth_ c_ H locs 0 0 Q (F0 m_ 60 ls []) := by
              intro fuel
              induction fuel with
              | zero => intro i f2 Ml60 H locs ls hmu; exact absurd hmu (Nat.not_lt_zero _)
              | succ fuel ih60 =>
                intro i f2 Ml60 H locs ls hmu60 hv60_0 hf2 hm60_0 hfr60 hV hl
                have e568 : f2 568 = f 568 := by rw [hf2]; unfold puF; rw [if_neg (by omega)]
                refine lv_iload hx_ hb_ dX11_layAll_60 (lv_at hl 2 rfl) ?_
                refine lv_aload_n hx_ hb_ dX11_layAll_62 rfl (lv_at hl 0 rfl) ?_
                have hc33 : Ml60 m = some (mO m 0 (chn ch) tn ea sn nm wn) := (hfr60 m (by omega)).trans hc31
                refine sk_VP E hV (As := []) (rest := [.int (sI i)]) (kX11_many l_ G b_ Ml60 N m 0 (chn ch) tn ea sn nm wn f2 hc33 hm60_0) (cwV 0 S.2.2.2.2 gX11_layAll_X11_many rfl rfl rfl (by decide +kernel) ⟨Nat.le_of_ble_eq_true rfl, Nat.le_of_ble_eq_true rfl⟩) (ci := 9) hc33 rfl rfl rfl hl.1 (Nat.le_of_ble_eq_true rfl) dX11_layAll_63 (c1 := 0) (s1 := 0) ⟨⟨rfl, rfl⟩, by decide, by decide⟩ (fun H locs hV => ?_)
                refine sb_ge (tgt := 92) S dX11_layAll_66 (by decide) (by omega) (fun c34 => ?_) (fun c34 => ?_)
                · refine lv_iload_n hx_ hb_ dX11_layAll_92 rfl (lv_at hl 1 rfl) ?_
                  have hc35 : Ml60 (m + 8) = some (sArr G 10 p924) := (hfr60 (m + 8) (by omega)).trans hc27
                  have hc36 : svC G Ml60 (m + 2) (chn ch) (fsn ch fs f) := hc11.fr (fun x q8 q9 => ((hfr60 x (by omega)).trans (hf28 x (by omega))).trans (hfr20 x (by omega)))
                  exact sr_i E hQ dX11_layAll_93 ⟨Nat.le_of_ble_eq_true rfl, Nat.le_of_ble_eq_true rfl⟩ hV (⟨p924, rfl, hc35, hc36, fun x q0 q1 q2 q3 => ((((hfr60 x (by omega)).trans (hf28 x (by omega))).trans (hfr20 x (by omega))).trans (hf12 x (by omega) (by omega))).trans ((congrFun hM1 x).trans (va_up_ne M _ (by omega))), Or.inr (⟨(⟨_, hlaP⟩), hlae.2.2.symm, hc33, by rw [hf2, show i = f 568 by omega, puF_e hlae.2.1] at hm60_0; exact hm60_0⟩)⟩)
                · refine lv_aload_n hx_ hb_ dX11_layAll_69 rfl (lv_at hl 0 rfl) ?_
                  refine sc_get (ci := 9) (C := RX11) (T := TX11) (n := 22) S hK hV inX11_ hc33 rfl 1 (by decide) (S.2.2.2.2 _ (List.mem_of_getElem? (i := 2) rfl)) rfl rfl dX11_layAll_70 ?_
                  refine si_bipush S dX11_layAll_73 (by decide) ?_
                  refine lv_iload hx_ hb_ dX11_layAll_75 (lv_at hl 2 rfl) ?_
                  refine si_add S dX11_layAll_77 ?_
                  refine lv_aload_n hx_ hb_ dX11_layAll_78 rfl (lv_at hl 0 rfl) ?_
                  refine sc_get (ci := 9) (C := RX11) (T := TX11) (n := 22) S hK hV inX11_ hc33 rfl 11 (by decide) (S.2.2.2.2 _ (List.mem_of_getElem? (i := 3) rfl)) rfl rfl dX11_layAll_79 ?_
                  refine lv_iload hx_ hb_ dX11_layAll_82 (lv_at hl 2 rfl) ?_
                  have hc37 : Ml60 (m + 8) = some (sArr G 10 p924) := (hfr60 (m + 8) (by omega)).trans hc27
                  refine sc_iald S hK hV hc37 (by omega) dX11_layAll_84 ?_
                  refine sc_iast S hK hV hm60_0 (by omega) dX11_layAll_85 (fun M38 H locs hM38 hV => ?_)
                  have hc39 : M38 (m + 1) = some (sArr G 574 (iup f2 (50 + i) (p924 i))) := (congrFun hM38 (m + 1)).trans (va_up_self Ml60 (m + 1) _)
                  refine si_inc (lv' := [(4, .int (sI (i + 1))), (0, .ref m), (3, .int (sI (isum (f 568) (ohT f p924))))]) S dX11_layAll_86 hl (k := 2) rfl (by decide) rfl (fun ls hl => ?_)
                  refine lv_goto (tgt := 60) hx_ hb_ dX11_layAll_89 (by decide) ?_
                  exact ih60 (i + 1) (iup f2 (50 + i) (p924 i)) M38 _ _ _ (by omega) (by omega) (by rw [hf2, puF_s _ _ _ (by omega)]) hc39 (fun x q0 => ((congrFun hM38 x).trans (va_up_ne Ml60 _ (by omega))).trans (hfr60 x (by omega))) hV (lv_sub hl [1, 2, 0] rfl)
            exact L60 _ 0 f M20 _ _ _ (Nat.lt_succ_self _) (by omega) (puF_0 _ _) hc32 (fun x q0 => rfl) hV (lv_sub hl [2, 1, 0] rfl)
          · refine si_inc (lv' := [(2, .int (sI (q + 1))), (0, .ref m)]) S dX11_layAll_34 hl (k := 1) rfl (by decide) rfl (fun ls hl => ?_)
            refine lv_goto (tgt := 20) hx_ hb_ dX11_layAll_37 (by decide) ?_
            exact ih20 (q + 1) p924 M20 _ _ _ (by omega) (by omega) (fun c => Or.inr (by rcases hqB c with e | e; exact ⟨by omega, fun r2 hr => h31 ⟨r2, by rw [e]; exact hr⟩⟩; omega)) (fun c x y z r2 hr => by by_cases e : x = q; exact h31 ⟨r2, by rw [← e]; exact hr⟩; exact hqn c x y (by omega) r2 hr) hc27 (fun x q0 => (hf28 x (by omega)).trans (hfr20 x (by omega))) hV (lv_sub hl [1, 0] rfl)
    have hc40 : M5 (m + 8) = some (sArr G 10 p) := ((hf12 (m + 8) (by omega) (by omega)).trans ((congrFun hM1 (m + 8)).trans (va_up_ne M _ (by omega)))).trans hm8
    exact L20 _ 10 p M5 _ _ _ (Nat.lt_succ_self _) (by omega) (fun _ => Or.inl rfl) (fun c => absurd c h10) hc40 (fun x q0 => rfl) hV (lv_sub hl [1, 0] rfl)
  · refine si_const S dX11_layAll_13 ?_
    refine lv_goto (tgt := 19) hx_ hb_ dX11_layAll_14 (by decide) ?_
    refine lv_istore_n (lv' := [(2, .int (sI 0)), (0, .ref m), (1, .int (sI (bI B)))]) hx_ hb_ dX11_layAll_19 rfl hl (by decide) rfl (fun ls hl => ?_)
    have L20 : ∀ (fuel : Nat) (q : Int) (g2 : Int → Int) (Ml20 : sM) (H : Heap) (locs : List Loc) (ls : Array Slot), ((11 - q).toNat) < fuel → (0 ≤ q ∧ q ≤ 11) → (¬ B → q = 10 ∨ (q = 11 ∧ ∀ r2, ¬ lyS f 10 r2)) → (B → ∀ x, 0 ≤ x → x < q → ∀ r2, ¬ lyS f x r2) → (Ml20 (m + 8) = some (sArr G 10 g2)) → (∀ x : Nat, ¬ (x = m + 8) → Ml20 x = M5 x) → sV G b_ Ml20 N s_ H locs → lv_has ls 5 [(0, .ref m), (2, .int (sI q))] → W p_ l_ e_ rmX11_layAll s_ m_ args_ below_ meth_ c_ H locs 0 0 Q (F0 m_ 20 ls []) := by
      intro fuel
      induction fuel with
      | zero => intro q g2 Ml20 H locs ls hmu; exact absurd hmu (Nat.not_lt_zero _)
      | succ fuel ih20 =>
        intro q g2 Ml20 H locs ls hmu20 hqr hqB hqn hm20_0 hfr20 hV hl
        refine lv_iload_n hx_ hb_ dX11_layAll_20 rfl (lv_at hl 1 rfl) ?_
        refine si_bipush S dX11_layAll_21 (by decide) ?_
        refine sb_gt (tgt := 40) S dX11_layAll_23 (by decide) (by omega) (fun c41 => ?_) (fun c41 => ?_)
        · refine lv_iload_n hx_ hb_ dX11_layAll_40 rfl (lv_at hl 1 rfl) ?_
          refine si_bipush S dX11_layAll_41 (by decide) ?_
          refine sb_le (tgt := 48) S dX11_layAll_43 (by decide) (by omega) (fun c42 => absurd c42 (by omega)) (fun _ => ?_)
          refine si_const S dX11_layAll_46 ?_
          have hnn : ∀ p, ¬ laP f B p := fun p hp => by
            have hor := oh_r (f := f) p (n := f 568) (by omega)
            by_cases cB : B
            · exact hqn cB (lyO f p) hor.1 (by show isum (f 568) (ohT f p) < q; omega) p ⟨hp.1, Int.le_refl _⟩
            · rcases hqB cB with e | e
              · omega
              · exact e.2 p ⟨hp.1, by show isum (f 568) (ohT f p) ≤ 10; omega⟩
          have hc43 : svC G Ml20 (m + 2) (chn ch) (fsn ch fs f) := hc11.fr (fun x q8 q9 => hfr20 x (by omega))
          have hc44 : Ml20 m = some (mO m 0 (chn ch) tn ea sn nm wn) := (hfr20 m (by omega)).trans hc10
          have hc45 : Ml20 (m + 1) = some (sArr G 574 f) := ((hfr20 (m + 1) (by omega)).trans (hf12 (m + 1) (by omega) (by omega))).trans hc3
          exact sr_i E hQ dX11_layAll_47 ⟨Nat.le_of_ble_eq_true rfl, Nat.le_of_ble_eq_true rfl⟩ hV (⟨g2, rfl, hm20_0, hc43, fun x q0 q1 q2 q3 => ((hfr20 x (by omega)).trans (hf12 x (by omega) (by omega))).trans ((congrFun hM1 x).trans (va_up_ne M _ (by omega))), Or.inl ⟨(fun h => by obtain ⟨p, hp⟩ := h; exact hnn p hp), rfl, hc44, hc45⟩⟩)
        · refine lv_aload_n hx_ hb_ dX11_layAll_26 rfl (lv_at hl 0 rfl) ?_
          refine lv_iload_n hx_ hb_ dX11_layAll_27 rfl (lv_at hl 1 rfl) ?_
          have hc46 : Ml20 m = some (mO m 0 (chn ch) tn ea sn nm wn) := (hfr20 m (by omega)).trans hc10
          have hc47 : Ml20 (m + 1) = some (sArr G 574 f) := ((hfr20 (m + 1) (by omega)).trans (hf12 (m + 1) (by omega) (by omega))).trans hc3
          refine sk_Vi E hV (As := [.int (sI q)]) (rest := []) (kX11_looks l_ G b_ Ml20 N m 0 (chn ch) tn ea sn nm wn f g2 q hc46 hc47 hm20_0 (by omega) (by omega)) (cwV 1 S.2.2.2.2 gX11_layAll_X11_looks rfl rfl rfl (by decide +kernel) ⟨Nat.le_of_ble_eq_true rfl, Nat.le_of_ble_eq_true rfl⟩) (ci := 9) hc46 rfl rfl rfl hl.1 (Nat.le_of_ble_eq_true rfl) dX11_layAll_28 (c1 := 0) (s1 := 0) ⟨⟨rfl, rfl⟩, by decide, by decide⟩ (fun z51 M48 N49 H locs hp50 hV => ?_)
          obtain ⟨p952, ez53, hN54, hc55, hf56, hp957⟩ := hp50
          rw [hN54] at hV
          rw [ez53]
          have hp9 := hp957
          refine sq_ne (tgt := 40) S dX11_layAll_31 (by decide) (fun h31 => ?_) (fun h31 => ?_)
          · refine lv_iload_n hx_ hb_ dX11_layAll_40 rfl (lv_at hl 1 rfl) ?_
            refine si_bipush S dX11_layAll_41 (by decide) ?_
            refine sb_le (tgt := 48) S dX11_layAll_43 (by decide) (by omega) (fun _ => ?_) (fun c58 => absurd c58 (by omega))
            have hsp := hp9 h31
            have hlaP : laP f B p952 := ⟨hsp.1.1, fun p2 h2 => by
              have hor := oh_r (f := f) p2 (n := f 568) (by omega)
              refine ⟨fun c => ?_, fun c => ?_⟩
              · rcases Int.lt_or_le (lyO f p2) q with t | t
                · exact absurd ⟨h2, Int.le_refl _⟩ (hqn c (lyO f p2) hor.1 t p2)
                · have := hsp.1.2; omega
              · by_cases cB : B
                · exact hsp.2 p2 ⟨h2, by rw [← c cB]; exact hsp.1.2⟩
                · exact hsp.2 p2 ⟨h2, by rcases hqB cB with e | e; (rw [e]; show isum (f 568) (ohT f p2) ≤ 10; omega); omega⟩⟩
            have hlae := la_eq hlaP
            refine lv_aload_n hx_ hb_ dX11_layAll_48 rfl (lv_at hl 0 rfl) ?_
            refine lv_aload_n hx_ hb_ dX11_layAll_49 rfl (lv_at hl 0 rfl) ?_
            have hc59 : M48 m = some (mO m 0 (chn ch) tn ea sn nm wn) := (hf56 m (by omega)).trans hc46
            have hc60 : M48 (m + 1) = some (sArr G 574 f) := (hf56 (m + 1) (by omega)).trans hc47
            refine sk_VP E hV (As := []) (rest := [.ref m]) (kX11_many l_ G b_ M48 N m 0 (chn ch) tn ea sn nm wn f hc59 hc60) (cwV 0 S.2.2.2.2 gX11_layAll_X11_many rfl rfl rfl (by decide +kernel) ⟨Nat.le_of_ble_eq_true rfl, Nat.le_of_ble_eq_true rfl⟩) (ci := 9) hc59 rfl rfl rfl hl.1 (Nat.le_of_ble_eq_true rfl) dX11_layAll_50 (c1 := 0) (s1 := 0) ⟨⟨rfl, rfl⟩, by decide, by decide⟩ (fun H locs hV => ?_)
            refine sk_VP E hV (As := [.int (sI (f 568))]) (rest := []) (kX11_others l_ G b_ M48 N m 0 (chn ch) tn ea sn nm wn f p952 (f 568) hc59 hc60 hc55 (by omega) (by omega) (fun o c d => by have := (hsp.1.1 o c d).1; omega)) (cwV 1 S.2.2.2.2 gX11_layAll_X11_others rfl rfl rfl (by decide +kernel) ⟨Nat.le_of_ble_eq_true rfl, Nat.le_of_ble_eq_true rfl⟩) (ci := 9) hc59 rfl rfl rfl hl.1 (Nat.le_of_ble_eq_true rfl) dX11_layAll_53 (c1 := 0) (s1 := 0) ⟨⟨rfl, rfl⟩, by decide, by decide⟩ (fun H locs hV => ?_)
            refine lv_istore_n (lv' := [(3, .int (sI (isum (f 568) (ohT f p952)))), (0, .ref m), (2, .int (sI q))]) hx_ hb_ dX11_layAll_56 rfl hl (by decide) rfl (fun ls hl => ?_)
            refine si_const S dX11_layAll_57 ?_
            refine lv_istore (lv' := [(4, .int (sI 0)), (3, .int (sI (isum (f 568) (ohT f p952)))), (0, .ref m), (2, .int (sI q))]) hx_ hb_ dX11_layAll_58 hl (by decide) rfl (fun ls hl => ?_)
            have L60 : ∀ (fuel : Nat) (i : Int) (f2 : Int → Int) (Ml60 : sM) (H : Heap) (locs : List Loc) (ls : Array Slot), ((f 568 - i).toNat) < fuel → (0 ≤ i ∧ i ≤ f 568) → (f2 = puF f p952 i) → (Ml60 (m + 1) = some (sArr G 574 f2)) → (∀ x : Nat, ¬ (x = m + 1) → Ml60 x = M48 x) → sV G b_ Ml60 N s_ H locs → lv_has ls 5 [(0, .ref m), (3, .int (sI (isum (f 568) (ohT f p952)))), (4, .int (sI i))] → W p_ l_ e_ rmX11_layAll s_ m_ args_ below_ meth_ c_ H locs 0 0 Q (F0 m_ 60 ls []) := by
              intro fuel
              induction fuel with
              | zero => intro i f2 Ml60 H locs ls hmu; exact absurd hmu (Nat.not_lt_zero _)
              | succ fuel ih60 =>
                intro i f2 Ml60 H locs ls hmu60 hv60_0 hf2 hm60_0 hfr60 hV hl
                have e568 : f2 568 = f 568 := by rw [hf2]; unfold puF; rw [if_neg (by omega)]
                refine lv_iload hx_ hb_ dX11_layAll_60 (lv_at hl 2 rfl) ?_
                refine lv_aload_n hx_ hb_ dX11_layAll_62 rfl (lv_at hl 0 rfl) ?_
                have hc61 : Ml60 m = some (mO m 0 (chn ch) tn ea sn nm wn) := (hfr60 m (by omega)).trans hc59
                refine sk_VP E hV (As := []) (rest := [.int (sI i)]) (kX11_many l_ G b_ Ml60 N m 0 (chn ch) tn ea sn nm wn f2 hc61 hm60_0) (cwV 0 S.2.2.2.2 gX11_layAll_X11_many rfl rfl rfl (by decide +kernel) ⟨Nat.le_of_ble_eq_true rfl, Nat.le_of_ble_eq_true rfl⟩) (ci := 9) hc61 rfl rfl rfl hl.1 (Nat.le_of_ble_eq_true rfl) dX11_layAll_63 (c1 := 0) (s1 := 0) ⟨⟨rfl, rfl⟩, by decide, by decide⟩ (fun H locs hV => ?_)
                refine sb_ge (tgt := 92) S dX11_layAll_66 (by decide) (by omega) (fun c62 => ?_) (fun c62 => ?_)
                · refine lv_iload_n hx_ hb_ dX11_layAll_92 rfl (lv_at hl 1 rfl) ?_
                  have hc63 : Ml60 (m + 8) = some (sArr G 10 p952) := (hfr60 (m + 8) (by omega)).trans hc55
                  have hc64 : svC G Ml60 (m + 2) (chn ch) (fsn ch fs f) := hc11.fr (fun x q8 q9 => ((hfr60 x (by omega)).trans (hf56 x (by omega))).trans (hfr20 x (by omega)))
                  exact sr_i E hQ dX11_layAll_93 ⟨Nat.le_of_ble_eq_true rfl, Nat.le_of_ble_eq_true rfl⟩ hV (⟨p952, rfl, hc63, hc64, fun x q0 q1 q2 q3 => ((((hfr60 x (by omega)).trans (hf56 x (by omega))).trans (hfr20 x (by omega))).trans (hf12 x (by omega) (by omega))).trans ((congrFun hM1 x).trans (va_up_ne M _ (by omega))), Or.inr (⟨(⟨_, hlaP⟩), hlae.2.2.symm, hc61, by rw [hf2, show i = f 568 by omega, puF_e hlae.2.1] at hm60_0; exact hm60_0⟩)⟩)
                · refine lv_aload_n hx_ hb_ dX11_layAll_69 rfl (lv_at hl 0 rfl) ?_
                  refine sc_get (ci := 9) (C := RX11) (T := TX11) (n := 22) S hK hV inX11_ hc61 rfl 1 (by decide) (S.2.2.2.2 _ (List.mem_of_getElem? (i := 2) rfl)) rfl rfl dX11_layAll_70 ?_
                  refine si_bipush S dX11_layAll_73 (by decide) ?_
                  refine lv_iload hx_ hb_ dX11_layAll_75 (lv_at hl 2 rfl) ?_
                  refine si_add S dX11_layAll_77 ?_
                  refine lv_aload_n hx_ hb_ dX11_layAll_78 rfl (lv_at hl 0 rfl) ?_
                  refine sc_get (ci := 9) (C := RX11) (T := TX11) (n := 22) S hK hV inX11_ hc61 rfl 11 (by decide) (S.2.2.2.2 _ (List.mem_of_getElem? (i := 3) rfl)) rfl rfl dX11_layAll_79 ?_
                  refine lv_iload hx_ hb_ dX11_layAll_82 (lv_at hl 2 rfl) ?_
                  have hc65 : Ml60 (m + 8) = some (sArr G 10 p952) := (hfr60 (m + 8) (by omega)).trans hc55
                  refine sc_iald S hK hV hc65 (by omega) dX11_layAll_84 ?_
                  refine sc_iast S hK hV hm60_0 (by omega) dX11_layAll_85 (fun M66 H locs hM66 hV => ?_)
                  have hc67 : M66 (m + 1) = some (sArr G 574 (iup f2 (50 + i) (p952 i))) := (congrFun hM66 (m + 1)).trans (va_up_self Ml60 (m + 1) _)
                  refine si_inc (lv' := [(4, .int (sI (i + 1))), (0, .ref m), (3, .int (sI (isum (f 568) (ohT f p952))))]) S dX11_layAll_86 hl (k := 2) rfl (by decide) rfl (fun ls hl => ?_)
                  refine lv_goto (tgt := 60) hx_ hb_ dX11_layAll_89 (by decide) ?_
                  exact ih60 (i + 1) (iup f2 (50 + i) (p952 i)) M66 _ _ _ (by omega) (by omega) (by rw [hf2, puF_s _ _ _ (by omega)]) hc67 (fun x q0 => ((congrFun hM66 x).trans (va_up_ne Ml60 _ (by omega))).trans (hfr60 x (by omega))) hV (lv_sub hl [1, 2, 0] rfl)
            exact L60 _ 0 f M48 _ _ _ (Nat.lt_succ_self _) (by omega) (puF_0 _ _) hc60 (fun x q0 => rfl) hV (lv_sub hl [2, 1, 0] rfl)
          · refine si_inc (lv' := [(2, .int (sI (q + 1))), (0, .ref m)]) S dX11_layAll_34 hl (k := 1) rfl (by decide) rfl (fun ls hl => ?_)
            refine lv_goto (tgt := 20) hx_ hb_ dX11_layAll_37 (by decide) ?_
            exact ih20 (q + 1) p952 M48 _ _ _ (by omega) (by omega) (fun c => Or.inr (by rcases hqB c with e | e; exact ⟨by omega, fun r2 hr => h31 ⟨r2, by rw [e]; exact hr⟩⟩; omega)) (fun c x y z r2 hr => by by_cases e : x = q; exact h31 ⟨r2, by rw [← e]; exact hr⟩; exact hqn c x y (by omega) r2 hr) hc55 (fun x q0 => (hf56 x (by omega)).trans (hfr20 x (by omega))) hV (lv_sub hl [1, 0] rfl)
    have hc68 : M5 (m + 8) = some (sArr G 10 p) := ((hf12 (m + 8) (by omega) (by omega)).trans ((congrFun hM1 (m + 8)).trans (va_up_ne M _ (by omega)))).trans hm8
    exact L20 _ 0 p M5 _ _ _ (Nat.lt_succ_self _) (by omega) (fun c => absurd h10 c) (fun c x y z => by omega) hc68 (fun x q0 => rfl) hV (lv_sub hl [1, 0] rfl)
