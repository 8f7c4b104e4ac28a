theorem Bef_c {G G2 g : Int → Int} {k : Int} (h : ∀ i, 0 ≤ i → i ≤ k → G i = G2 i) (q : Bef G k g) : Bef G2 k g := by
  obtain ⟨j, a, b, c, d, e⟩ := q
  have hj := h j a b
  exact ⟨j, a, b, fun i u w => by rw [← h i u (by omega)]; exact c i u w, fun r => by rw [← hj]; exact d r, fun r => by rw [← hj]; exact e r⟩
def BefS (G : Int → Int) (k : Int) (g : Int → Int) : Prop := ∃ j, 0 ≤ j ∧ j ≤ k ∧ (∀ i, 0 ≤ i → i < j → g i = G i) ∧ g j < G j
theorem Bef_nx {G g : Int → Int} {k : Int} (hg : 0 ≤ g (k + 1)) (h : Bef (iup G (k + 1) (-1)) (k + 1) g) : BefS G k g := by
  obtain ⟨j, a, b, c, d, e⟩ := h
  by_cases q : j = k + 1
  · have e1 := e q
    rw [q, show iup G (k + 1) (-1) (k + 1) = -1 from if_pos rfl] at e1
    omega
  · have d1 := d (by omega)
    rw [show iup G (k + 1) (-1) j = G j from if_neg q] at d1
    exact ⟨j, a, by omega, fun i u w => by rw [c i u w]; exact if_neg (by omega), d1⟩
/-- g2 with v at place k, what lies between is of no use -/
def skP (f G : Int → Int) (k v : Int) : Prop := ∀ w, G k < w → w < v → ¬ cgP f (iup G k w) k
theorem sk_no {f G g : Int → Int} {k v : Int} (hs : skP f G k v) (hk : 0 ≤ k ∧ k < f 573) (hg : allG f g) (hp : ∀ i, 0 ≤ i → i < k → g i = G i) (h1 : G k < g k) (h2 : g k < v) : False :=
  hs (g k) h1 h2 ((cgP_c (G := g) (fun i a b => by
    unfold iup
    by_cases e : i = k
    · rw [if_pos e, e]
    · rw [if_neg e]; exact hp i a (by omega)) hk.1).mp (hg k hk.1 hk.2).2)
def exP (G : Int → Int) (k : Int) (g : Int → Int) : Prop := k < 0 ∨ Bef G k g
theorem ex_A {f G G3 g : Int → Int} {k : Int} (hs : skP f G k (G3 k)) (hk : 0 ≤ k ∧ k < f 573) (ha : ∀ i, i ≠ k → G3 i = G i) (hv : 8 < G3 k) (hg : allG f g) (h : exP G3 (k - 1) g) : exP G k g := by
  have hgk := (hg k hk.1 hk.2).1
  by_cases q : k = 0
  · refine Or.inr ?_
    by_cases r : g k ≤ G k
    · exact ⟨k, hk.1, Int.le_refl _, fun i a b => by omega, fun s => by omega, fun _ => r⟩
    · exact absurd (sk_no hs hk hg (fun i a b => by omega) (by omega) (by omega)) id
  · have h1 : Bef G (k - 1) g := Bef_c (fun i a b => ha i (by omega)) (h.resolve_left (by omega))
    rcases Bef_dn h1 with h2 | ⟨h2, h3⟩
    · exact Or.inr h2
    · exact absurd (sk_no hs hk hg h2 h3 (by omega)) id
theorem ex_AR {G G3 B : Int → Int} {k : Int} (hk : 0 ≤ k) (ha : ∀ i, i ≠ k → G3 i = G i) (h : exP G k B) : exP G3 (k - 1) B := by
  by_cases q : k = 0
  · exact Or.inl (by omega)
  · obtain ⟨j, a, b, c, d, e⟩ := h.resolve_left (by omega)
    refine Or.inr ?_
    by_cases r : j = k
    · refine ⟨k - 1, by omega, Int.le_refl _, fun i u w => by rw [ha i (by omega)]; exact c i u (by omega), fun s => by omega, fun _ => ?_⟩
      rw [ha (k - 1) (by omega), c (k - 1) (by omega) (by omega)]
      exact Int.le_refl _
    · have d1 := d (by omega)
      refine ⟨j, a, by omega, fun i u w => by rw [ha i (by omega)]; exact c i u w, fun _ => by rw [ha j (by omega)]; exact d1, fun _ => by rw [ha j (by omega)]; omega⟩
theorem ex_B {f G G3 g : Int → Int} {k : Int} (hs : skP f G k (G3 k)) (hk : 0 ≤ k ∧ k + 1 < f 573) (ha : ∀ i, i ≠ k → G3 i = G i) (hg : allG f g) (h : exP (iup G3 (k + 1) (-1)) (k + 1) g) : exP G k g := by
  obtain ⟨j, a, b, c, d⟩ := Bef_nx (hg (k + 1) (by omega) hk.2).1.1 (h.resolve_left (by omega))
  refine Or.inr ?_
  by_cases q : j = k
  · subst q
    have c2 : ∀ i, 0 ≤ i → i < j → g i = G i := fun i u w => by rw [c i u w]; exact ha i (by omega)
    by_cases r : g j ≤ G j
    · exact ⟨j, a, Int.le_refl _, c2, fun s => by omega, fun _ => r⟩
    · exact absurd (sk_no hs ⟨a, by omega⟩ hg c2 (by omega) d) id
  · rw [ha j q] at d
    exact ⟨j, a, b, fun i u w => by rw [c i u w]; exact ha i (by omega), fun _ => d, fun s => absurd s q⟩
theorem ex_BR {G G3 B : Int → Int} {k : Int} (hk : 0 ≤ k) (ha : ∀ i, i ≠ k → G3 i = G i) (hv : G k < G3 k) (h : exP G k B) : exP (iup G3 (k + 1) (-1)) (k + 1) B := by
  obtain ⟨j, a, b, c, d, e⟩ := h.resolve_left (by omega)
  have hp : ∀ i, 0 ≤ i → i < j → B i = iup G3 (k + 1) (-1) i := fun i u w => by
    rw [c i u w, ← ha i (by omega)]
    exact (if_neg (by omega)).symm
  have ej : iup G3 (k + 1) (-1) j = G3 j := if_neg (by omega)
  refine Or.inr ⟨j, a, by omega, hp, fun _ => ?_, fun s => by omega⟩
  rw [ej]
  by_cases q : j = k
  · have := e q; rw [q]; rw [q] at this; omega
  · rw [ha j q]; exact d (by omega)
theorem ex_C {f G G3 g : Int → Int} {k : Int} (hs : skP f G k (G3 k)) (hk : 0 ≤ k ∧ k < f 573) (ha : ∀ i, i ≠ k → G3 i = G i) (hv : G k < G3 k) (hg : allG f g) (h : exP G3 k g) : exP G k g ∨ ∀ i, 0 ≤ i → i ≤ k → g i = G3 i := by
  obtain ⟨j, a, b, c, d, e⟩ := h.resolve_left (by omega)
  by_cases q : j = k
  · subst q
    have e1 := e rfl
    have c2 : ∀ i, 0 ≤ i → i < j → g i = G i := fun i u w => by rw [c i u w]; exact ha i (by omega)
    by_cases r : g j ≤ G j
    · exact Or.inl (Or.inr ⟨j, a, Int.le_refl _, c2, fun s => by omega, fun _ => r⟩)
    · by_cases t : g j = G3 j
      · exact Or.inr fun i u w => by
          by_cases s : i = j
          · rw [s]; exact t
          · exact c i u (by omega)
      · exact absurd (sk_no hs ⟨a, hk.2⟩ hg c2 (by omega) (by omega)) id
  · have d1 := d (by omega)
    rw [ha j q] at d1
    exact Or.inl (Or.inr ⟨j, a, b, fun i u w => by rw [c i u w]; exact ha i (by omega), fun _ => d1, fun s => absurd s q⟩)
theorem ex_CR {G G3 B : Int → Int} {k : Int} (hk : 0 ≤ k) (ha : ∀ i, i ≠ k → G3 i = G i) (hv : G k < G3 k) (h : exP G k B) : exP G3 k B := by
  obtain ⟨j, a, b, c, d, e⟩ := h.resolve_left (by omega)
  refine Or.inr ⟨j, a, b, fun i u w => by rw [c i u w]; exact (ha i (by omega)).symm, fun s => by rw [ha j (by omega)]; exact d s, fun s => ?_⟩
  have := e s
  rw [s]; rw [s] at this; omega
theorem lf_A {G G3 : Int → Int} {k : Int} (hk : 0 ≤ k) (ha : ∀ i, i ≠ k → G3 i = G i) (h8 : G k ≤ 8) : lfI G3 (k - 1) < lfI G k := by
  have h1 := lfI_s (G := G) hk
  have h2 := lfI_c (G := G3) (G2 := G) (k := k - 1) (fun i a b => ha i (by omega))
  have h3 := mul_lt (a := 0) (b := 9 - G k) (w := pw11 k) (by omega) (pw11_p k)
  have h4 := pw11_p k
  omega
theorem lf_C {G G3 : Int → Int} {k : Int} (hk : 0 ≤ k) (ha : ∀ i, i ≠ k → G3 i = G i) (h8 : G k < G3 k) : lfI G3 k < lfI G k := by
  have h1 := lfI_s (G := G) hk
  have h1b := lfI_s (G := G3) hk
  have h2 := lfI_c (G := G3) (G2 := G) (k := k - 1) (fun i a b => ha i (by omega))
  have h3 := mul_lt (a := 9 - G3 k) (b := 9 - G k) (w := pw11 k) (by omega) (pw11_p k)
  have h4 := pw11_p k
  omega
theorem lf_B {G G3 : Int → Int} {k : Int} (hk : 0 ≤ k ∧ k < 8) (ha : ∀ i, i ≠ k → G3 i = G i) (h8 : G k < G3 k) : lfI (iup G3 (k + 1) (-1)) (k + 1) < lfI G k := by
  have h1 := lfI_s (G := G) hk.1
  have h1b := lfI_s (G := iup G3 (k + 1) (-1)) (k := k + 1) (by omega)
  have h1c := lfI_s (G := iup G3 (k + 1) (-1)) (k := k) hk.1
  have h2 := lfI_c (G := iup G3 (k + 1) (-1)) (G2 := G) (k := k - 1) (fun i a b => by rw [show iup G3 (k + 1) (-1) i = G3 i from if_neg (by omega)]; exact ha i (by omega))
  rw [show k + 1 - 1 = k by omega, show iup G3 (k + 1) (-1) (k + 1) = -1 from if_pos rfl] at h1b
  rw [show iup G3 (k + 1) (-1) k = G3 k from if_neg (by omega)] at h1c
  have h3 := mul_lt (a := 9 - G3 k) (b := 9 - G k) (w := pw11 k) (by omega) (pw11_p k)
  have h4 := pw11_s hk
  have h5 := pw11_p (k + 1)
  rw [show (9 - -1 : Int) = 10 by omega] at h1b
  omega
theorem allG_c {f g g2 : Int → Int} (h : ∀ i, 0 ≤ i → i < f 573 → g i = g2 i) (hg : allG f g) : allG f g2 := fun o a b => by
  have h1 := hg o a b
  rw [h o a b] at h1
  exact ⟨h1.1, (cgP_c (fun i u w => h i u (by omega)) a).mp h1.2⟩
theorem plI_c {f g g2 : Int → Int} (h : ∀ i, 0 ≤ i → i < f 573 → g i = g2 i) : plI f g = plI f g2 := by
  have h1 : isum (f 573) (pgT g) = isum (f 573) (pgT g2) := isum_c fun k a b => by unfold pgT; rw [h k a b]
  unfold plI
  rw [h1]
  apply pif_c
  constructor
  · intro q x a b
    rw [← h x a b, q x a b]
    exact ⟨fun ⟨r, u, v, w⟩ => ⟨r, u, v, by rw [← h r u v]; exact w⟩, fun ⟨r, u, v, w⟩ => ⟨r, u, v, by rw [h r u v]; exact w⟩⟩
  · intro q x a b
    rw [h x a b, q x a b]
    exact ⟨fun ⟨r, u, v, w⟩ => ⟨r, u, v, by rw [h r u v]; exact w⟩, fun ⟨r, u, v, w⟩ => ⟨r, u, v, by rw [← h r u v]; exact w⟩⟩
theorem plI_r {f : sF} (h8 : 0 ≤ f 573) (g : Int → Int) : -1 ≤ plI f g ∧ plI f g ≤ f 573 := by
  have h1 := isum_b (n := f 573) (g := pgT g) 0 1 h8 (fun k _ _ => by unfold pgT; split <;> omega)
  unfold plI
  rcases pif_cases (prmP f g) (isum (f 573) (pgT g)) (-1) with ⟨-, e⟩ | ⟨-, e⟩ <;> rw [e] <;> omega
/-- what is known of the best as long as some are not tried -/
def ptI (f : sF) (m : Int) (B G : Int → Int) (k : Int) : Prop := -1 ≤ m ∧ (0 ≤ m → allG f B ∧ plI f B = m ∧ exP G k B) ∧ ∀ g, allG f g → exP G k g → plI f g ≤ m ∧ (plI f g = m → 0 ≤ m → lexL (f 573) B g)
theorem pt_0 {f G B : sF} (h : 1 ≤ f 573) : ptI f (-1) B (iup G 0 (-1)) 0 := by
  refine ⟨by omega, fun q => by omega, fun g hg he => ?_⟩
  obtain ⟨j, a, b, c, d, e⟩ := he.resolve_left (by omega)
  have e1 := e (by omega)
  rw [show j = 0 by omega, show iup G 0 (-1) 0 = -1 from if_pos rfl] at e1
  have := (hg 0 (by omega) (by omega)).1
  omega
theorem pt_A {f G G3 B : sF} {m k : Int} (h : ptI f m B G k) (hs : skP f G k (G3 k)) (hk : 0 ≤ k ∧ k < f 573) (ha : ∀ i, i ≠ k → G3 i = G i) (hv : 8 < G3 k) : ptI f m B G3 (k - 1) :=
  ⟨h.1, fun q => ⟨(h.2.1 q).1, (h.2.1 q).2.1, ex_AR hk.1 ha (h.2.1 q).2.2⟩, fun g hg he => h.2.2 g hg (ex_A hs hk ha hv hg he)⟩
theorem pt_B {f G G3 B : sF} {m k : Int} (h : ptI f m B G k) (hs : skP f G k (G3 k)) (hk : 0 ≤ k ∧ k + 1 < f 573) (ha : ∀ i, i ≠ k → G3 i = G i) (hv : G k < G3 k) : ptI f m B (iup G3 (k + 1) (-1)) (k + 1) :=
  ⟨h.1, fun q => ⟨(h.2.1 q).1, (h.2.1 q).2.1, ex_BR hk.1 ha hv (h.2.1 q).2.2⟩, fun g hg he => h.2.2 g hg (ex_B hs hk ha hg he)⟩
theorem pt_C {f G G3 B : sF} {m k : Int} (h : ptI f m B G k) (hs : skP f G k (G3 k)) (hk : 0 ≤ k ∧ k + 1 = f 573) (ha : ∀ i, i ≠ k → G3 i = G i) (hv : G k < G3 k) (hm : plI f G3 ≤ m) : ptI f m B G3 k := by
  refine ⟨h.1, fun q => ⟨(h.2.1 q).1, (h.2.1 q).2.1, ex_CR hk.1 ha hv (h.2.1 q).2.2⟩, fun g hg he => ?_⟩
  rcases ex_C hs ⟨hk.1, by omega⟩ ha hv hg he with q | q
  · exact h.2.2 g hg q
  · have e := plI_c (f := f) (g := g) (g2 := G3) (fun i a b => q i a (by omega))
    refine ⟨by rw [e]; exact hm, fun _ r => ?_⟩
    have h1 := ex_CR hk.1 ha hv (h.2.1 r).2.2
    have h2 := Bef_lx (n := f 573) (by rw [show f 573 - 1 = k by omega]; exact h1.resolve_left (by omega)) (by omega)
    rcases h2 with ⟨j, a, b, c, d⟩ | h2
    · exact Or.inl ⟨j, a, b, fun i u w => by rw [c i u w]; exact (q i u (by omega)).symm, by rw [q j a (by omega)]; exact d⟩
    · exact Or.inr fun i u w => by rw [h2 i u w]; exact (q i u (by omega)).symm
theorem pt_D {f G G3 B B3 : sF} {m k : Int} (h : ptI f m B G k) (hs : skP f G k (G3 k)) (hk : 0 ≤ k ∧ k + 1 = f 573) (ha : ∀ i, i ≠ k → G3 i = G i) (hv : G k < G3 k) (hm : m < plI f G3) (hg3 : allG f G3) (hb : ∀ i, 0 ≤ i → i < f 573 → B3 i = G3 i) : ptI f (plI f G3) B3 G3 k := by
  have h0 := h.1
  refine ⟨by omega, fun _ => ⟨allG_c (fun i a b => (hb i a b).symm) hg3, plI_c hb, Or.inr ⟨k, hk.1, Int.le_refl _, fun i a b => hb i a (by omega), fun s => by omega, fun _ => by rw [hb k hk.1 (by omega)]; exact Int.le_refl _⟩⟩, fun g hg he => ?_⟩
  rcases ex_C hs ⟨hk.1, by omega⟩ ha hv hg he with q | q
  · have := (h.2.2 g hg q).1
    exact ⟨by omega, fun r => by omega⟩
  · have e := plI_c (f := f) (g := g) (g2 := G3) (fun i a b => q i a (by omega))
    exact ⟨by omega, fun _ _ => Or.inr fun i u w => by rw [hb i u w]; exact (q i u (by omega)).symm⟩
theorem pt_E {f G B : sF} {m k : Int} (h : ptI f m B G k) (hk : k < 0) (h8 : 0 ≤ f 573 ∧ f 573 ≤ 8) : optP f m B := by
  have a8 : allG f (fun _ => 8) := fun o a b => ⟨⟨by show (0 : Int) ≤ 8; omega, by show (8 : Int) ≤ 8; omega⟩, Or.inl rfl⟩
  have hp8 : prmP f (fun _ => 8) := fun x a b => ⟨fun q => absurd rfl q, fun ⟨q, c, d, e⟩ => by have e2 : (8 : Int) = x := e; omega⟩
  have p8 : plI f (fun _ => 8) = 0 := by
    unfold plI
    rw [pif_t hp8]
    have hz : ∀ k, 0 ≤ k → k < f 573 → pgT (fun _ => 8) k = (fun _ : Int => (0 : Int)) k := fun k _ _ => if_neg (fun q => q rfl)
    rw [isum_c hz]
    have := isum_b (n := f 573) (g := fun _ => 0) 0 0 h8.1 (fun _ _ _ => ⟨Int.le_refl _, Int.le_refl _⟩)
    omega
  have h1 := (h.2.2 _ a8 (Or.inl hk)).1
  have hm : 0 ≤ m := by omega
  have h2 := h.2.1 hm
  exact ⟨h2.1, h2.2.1, hm, fun g hg => ⟨(h.2.2 g hg (Or.inl hk)).1, fun e => (h.2.2 g hg (Or.inl hk)).2 e hm⟩⟩
theorem opt_0 {f B : sF} (h : f 573 = 0) : optP f 0 B := by
  have e : ∀ g, plI f g = 0 := fun g => by
    have hp : prmP f g := fun x a b => by omega
    unfold plI
    rw [pif_t hp, h]
    rfl
  exact ⟨fun o a b => by omega, e B, by omega, fun g _ => ⟨by rw [e g]; omega, fun _ => Or.inr fun i a b => by omega⟩⟩

abbrev rmX11_findsPlan : Room := { frames := 3, cells := 0, slots := 0, locals := 85 }
set_option maxHeartbeats 4000000 in
set_option maxRecDepth 100000 in
theorem kX11_findsPlan (l_ : Launch) (G : sG) (b_ : Nat) (M : sM) (N : Nat) (m : Nat) (th ch tn ea sn nm wn : Int) (f : sF) (gt bs : sF) (hm0 : M m = some (mO m th ch tn ea sn nm wn)) (hm1 : M (m + 1) = some (sArr G 574 f)) (hm10 : M (m + 10) = some (sArr G 8 gt)) (hm11 : M (m + 11) = some (sArr G 8 bs)) (hok : sOk f) : cI l_ yX11_findsPlan wsX11_findsPlan rmX11_findsPlan G b_ M N [.ref m] (fun z_ M1 N1 => ∃ b9 : Int → Int, ∃ g9 : Int → Int, N1 = N ∧ M1 (m + 10) = some (sArr G 8 g9) ∧ M1 (m + 11) = some (sArr G 8 b9) ∧ (∀ x : Nat, ¬ (x = m + 10) → ¬ (x = m + 11) → M1 x = M x) ∧ (optP f z_ b9)) := by
  refine sE.ofI (cc := cX11_findsPlan) (nL := 5) (ret := (some .int)) (by decide) rfl (Nat.le_of_ble_eq_true rfl) ?_
  intro p_ e_ s_ m_ args_ below_ meth_ c_ ls Q hQ E hl
  have E : sE p_ l_ e_ rmX11_findsPlan s_ m_ args_ below_ meth_ c_ cX11_findsPlan 5 wsX11_findsPlan RX11 "findsPlan" (some .int) G b_ M N := E
  have S := E.1
  have hx_ := S.1
  have hb_ := S.2.1
  have hK := E.2.2.2.2.1
  have hV := E.2.2.2.2.2.2
  have hl : lv_has ls 5 [(0, .ref m)] := hl
  have inX11_ : ∀ w ∈ wsX110, w ∈ wsX11_findsPlan := fun _ h => List.mem_cons_of_mem _ (List.mem_append_right _ h)
  have kn0 := sOk_N hok
  refine si_const S dX11_findsPlan_0 ?_
  refine lv_istore_n (lv' := [(1, .int (sI (-1))), (0, .ref m)]) hx_ hb_ dX11_findsPlan_1 rfl hl (by decide) rfl (fun ls hl => ?_)
  refine si_const S dX11_findsPlan_2 ?_
  refine lv_istore_n (lv' := [(2, .int (sI 0)), (1, .int (sI (-1))), (0, .ref m)]) hx_ hb_ dX11_findsPlan_3 rfl hl (by decide) rfl (fun ls hl => ?_)
  refine lv_aload_n hx_ hb_ dX11_findsPlan_4 rfl (lv_at hl 2 rfl) ?_
  refine sc_get (ci := 9) (C := RX11) (T := TX11) (n := 22) S hK hV inX11_ hm0 rfl 14 (by decide) (S.2.2.2.2 _ (List.mem_of_getElem? (i := 1) rfl)) rfl rfl dX11_findsPlan_5 ?_
  refine si_const S dX11_findsPlan_8 ?_
  refine si_const S dX11_findsPlan_9 ?_
  refine sc_iast S hK hV hm10 (by omega) dX11_findsPlan_10 (fun M1 H locs hM1 hV => ?_)
  have hc2 : M1 (m + 10) = some (sArr G 8 (iup gt 0 (-1))) := (congrFun hM1 (m + 10)).trans (va_up_self M (m + 10) _)
  refine lv_aload_n hx_ hb_ dX11_findsPlan_11 rfl (lv_at hl 2 rfl) ?_
  have hc3 : M1 m = some (mO m th ch tn ea sn nm wn) := ((congrFun hM1 m).trans (va_up_ne M _ (by omega))).trans hm0
  refine sc_get (ci := 9) (C := RX11) (T := TX11) (n := 22) S hK hV inX11_ hc3 rfl 1 (by decide) (S.2.2.2.2 _ (List.mem_of_getElem? (i := 2) rfl)) rfl rfl dX11_findsPlan_12 ?_
  refine si_sipush S dX11_findsPlan_15 (by decide) ?_
  have hc4 : M1 (m + 1) = some (sArr G 574 f) := ((congrFun hM1 (m + 1)).trans (va_up_ne M _ (by omega))).trans hm1
  refine sc_iald S hK hV hc4 (by omega) dX11_findsPlan_18 ?_
  refine sz_ne (tgt := 24) S dX11_findsPlan_19 (by decide) (by omega) (fun c5 => ?_) (fun c5 => ?_)
  · have L24 : ∀ (fuel : Nat) (q : Int) (k : Int) (g2 : Int → Int) (b2 : Int → Int) (Ml24 : sM) (H : Heap) (locs : List Loc) (ls : Array Slot), ((if k < 0 then 0 else lfI g2 k + 1).toNat) < fuel → (-1 ≤ k ∧ k < f 573 ∧ -1 ≤ q ∧ q ≤ f 573) → (∀ i, 0 ≤ i → i < k → (0 ≤ g2 i ∧ g2 i ≤ 8) ∧ cgP f g2 i) → (0 ≤ k → -1 ≤ g2 k ∧ g2 k ≤ 8) → (ptI f q b2 g2 k) → (Ml24 (m + 10) = some (sArr G 8 g2)) → (Ml24 (m + 11) = some (sArr G 8 b2)) → (∀ x : Nat, ¬ (x = m + 10) → ¬ (x = m + 11) → Ml24 x = M1 x) → sV G b_ Ml24 N s_ H locs → lv_has ls 5 [(0, .ref m), (1, .int (sI q)), (2, .int (sI k))] → W p_ l_ e_ rmX11_findsPlan s_ m_ args_ below_ meth_ c_ H locs 0 0 Q (F0 m_ 24 ls []) := by
      intro fuel
      induction fuel with
      | zero => intro q k g2 b2 Ml24 H locs ls hmu; exact absurd hmu (Nat.not_lt_zero _)
      | succ fuel ih24 =>
        intro q k g2 b2 Ml24 H locs ls hmu24 hv24_0 hpre hgk hpt hm24_0 hm24_1 hfr24 hV hl
        refine lv_iload_n hx_ hb_ dX11_findsPlan_24 rfl (lv_at hl 2 rfl) ?_
        refine sz_lt (tgt := 168) S dX11_findsPlan_25 (by decide) (by omega) (fun c6 => ?_) (fun c6 => ?_)
        · refine lv_iload_n hx_ hb_ dX11_findsPlan_168 rfl (lv_at hl 1 rfl) ?_
          exact sr_i E hQ dX11_findsPlan_169 ⟨Nat.le_of_ble_eq_true rfl, Nat.le_of_ble_eq_true rfl⟩ hV (⟨b2, g2, rfl, hm24_0, hm24_1, fun x q0 q1 => (hfr24 x (by omega) (by omega)).trans ((congrFun hM1 x).trans (va_up_ne M _ (by omega))), pt_E hpt (by omega) (by omega)⟩)
        · refine lv_aload_n hx_ hb_ dX11_findsPlan_28 rfl (lv_at hl 0 rfl) ?_
          have hc7 : Ml24 m = some (mO m th ch tn ea sn nm wn) := (hfr24 m (by omega) (by omega)).trans hc3
          refine sc_get (ci := 9) (C := RX11) (T := TX11) (n := 22) S hK hV inX11_ hc7 rfl 14 (by decide) (S.2.2.2.2 _ (List.mem_of_getElem? (i := 1) rfl)) rfl rfl dX11_findsPlan_29 ?_
          refine lv_iload_n hx_ hb_ dX11_findsPlan_32 rfl (lv_at hl 2 rfl) ?_
          refine lv_dup2_11 hx_ hb_ dX11_findsPlan_33 rfl rfl ?_
          refine sc_iald S hK hV hm24_0 (by omega) dX11_findsPlan_34 ?_
          refine si_const S dX11_findsPlan_35 ?_
          refine si_add S dX11_findsPlan_36 ?_
          refine sc_iast S hK hV hm24_0 (by omega) dX11_findsPlan_37 (fun M8 H locs hM8 hV => ?_)
          have hc9 : M8 (m + 10) = some (sArr G 8 (iup g2 k ((g2 k) + 1))) := (congrFun hM8 (m + 10)).trans (va_up_self Ml24 (m + 10) _)
          have L38 : ∀ (fuel : Nat)  (g3 : Int → Int) (Ml38 : sM) (H : Heap) (locs : List Loc) (ls : Array Slot), ((10 - g3 k).toNat) < fuel → (∀ i, i ≠ k → g3 i = g2 i) → (g2 k < g3 k ∧ g3 k ≤ 9) → (skP f g2 k (g3 k)) → (Ml38 (m + 10) = some (sArr G 8 g3)) → (∀ x : Nat, ¬ (x = m + 10) → Ml38 x = M8 x) → sV G b_ Ml38 N s_ H locs → lv_has ls 5 [(0, .ref m), (1, .int (sI q)), (2, .int (sI k))] → W p_ l_ e_ rmX11_findsPlan s_ m_ args_ below_ meth_ c_ H locs 0 0 Q (F0 m_ 38 ls []) := by
            intro fuel
            induction fuel with
            | zero => intro g3 Ml38 H locs ls hmu; exact absurd hmu (Nat.not_lt_zero _)
            | succ fuel ih38 =>
              intro g3 Ml38 H locs ls hmu38 ha3 hv3 hsk hm38_0 hfr38 hV hl
              refine lv_aload_n hx_ hb_ dX11_findsPlan_38 rfl (lv_at hl 0 rfl) ?_
              have hc10 : Ml38 m = some (mO m th ch tn ea sn nm wn) := ((hfr38 m (by omega)).trans ((congrFun hM8 m).trans (va_up_ne Ml24 _ (by omega)))).trans hc7
              refine sc_get (ci := 9) (C := RX11) (T := TX11) (n := 22) S hK hV inX11_ hc10 rfl 14 (by decide) (S.2.2.2.2 _ (List.mem_of_getElem? (i := 1) rfl)) rfl rfl dX11_findsPlan_39 ?_
              refine lv_iload_n hx_ hb_ dX11_findsPlan_42 rfl (lv_at hl 2 rfl) ?_
              refine sc_iald S hK hV hm38_0 (by omega) dX11_findsPlan_43 ?_
              refine si_bipush S dX11_findsPlan_44 (by decide) ?_
              refine sb_gt (tgt := 70) S dX11_findsPlan_46 (by decide) (by omega) (fun c11 => ?_) (fun c11 => ?_)
              · refine lv_aload_n hx_ hb_ dX11_findsPlan_70 rfl (lv_at hl 0 rfl) ?_
                refine sc_get (ci := 9) (C := RX11) (T := TX11) (n := 22) S hK hV inX11_ hc10 rfl 14 (by decide) (S.2.2.2.2 _ (List.mem_of_getElem? (i := 1) rfl)) rfl rfl dX11_findsPlan_71 ?_
                refine lv_iload_n hx_ hb_ dX11_findsPlan_74 rfl (lv_at hl 2 rfl) ?_
                refine sc_iald S hK hV hm38_0 (by omega) dX11_findsPlan_75 ?_
                refine si_bipush S dX11_findsPlan_76 (by decide) ?_
                refine sb_le (tgt := 87) S dX11_findsPlan_78 (by decide) (by omega) (fun c12 => absurd c12 (by omega)) (fun _ => ?_)
                refine si_inc (lv' := [(2, .int (sI (k + (-1)))), (0, .ref m), (1, .int (sI q))]) S dX11_findsPlan_81 hl (k := 2) rfl (by decide) rfl (fun ls hl => ?_)
                refine lv_goto (tgt := 24) hx_ hb_ dX11_findsPlan_84 (by decide) ?_
                have hc13 : Ml38 (m + 11) = some (sArr G 8 b2) := ((hfr38 (m + 11) (by omega)).trans ((congrFun hM8 (m + 11)).trans (va_up_ne Ml24 _ (by omega)))).trans hm24_1
                exact ih24 q (k + (-1)) g3 b2 Ml38 _ _ _ (by have hm9 := lf_A (G := g2) (G3 := g3) (k := k) (by omega) ha3 (by omega); rw [show k + (-1) = k - 1 from rfl]; rw [if_neg (show ¬ k < 0 by omega)] at hmu24; have hl0 := lfI_n (G := g2) (k := k) (fun i a b => by by_cases e : i = k; exact (by rw [e]; omega); exact (hpre i a (by omega)).1.2); split <;> omega) (by omega) (fun i a b => by rw [ha3 i (by omega)]; exact ⟨(hpre i a (by omega)).1, (cgP_c (fun i2 u v => (ha3 i2 (by omega)).symm) a).mp (hpre i a (by omega)).2⟩) (fun r => by rw [ha3 (k + (-1)) (by omega)]; have := (hpre (k + (-1)) r (by omega)).1; omega) (pt_A hpt hsk ⟨by omega, by omega⟩ ha3 (by omega)) hm38_0 hc13 (fun x q0 q1 => ((hfr38 x (by omega)).trans ((congrFun hM8 x).trans (va_up_ne Ml24 _ (by omega)))).trans (hfr24 x (by omega) (by omega))) hV (lv_sub hl [1, 2, 0] rfl)
              · refine lv_aload_n hx_ hb_ dX11_findsPlan_49 rfl (lv_at hl 0 rfl) ?_
                refine lv_iload_n hx_ hb_ dX11_findsPlan_50 rfl (lv_at hl 2 rfl) ?_
                have hc14 : Ml38 (m + 1) = some (sArr G 574 f) := (((hfr38 (m + 1) (by omega)).trans ((congrFun hM8 (m + 1)).trans (va_up_ne Ml24 _ (by omega)))).trans (hfr24 (m + 1) (by omega) (by omega))).trans hc4
                refine sk_VP E hV (As := [.int (sI k)]) (rest := []) (kX11_canGet l_ G b_ Ml38 N m th ch tn ea sn nm wn f g3 k hc10 hc14 hm38_0 (by omega) (by omega) (fun i a b => by by_cases e : i = k; exact (by rw [e]; omega); exact (by rw [ha3 i e]; exact (hpre i a (by omega)).1))) (cwV 1 S.2.2.2.2 gX11_findsPlan_X11_canGet rfl rfl rfl (by decide +kernel) ⟨Nat.le_of_ble_eq_true rfl, Nat.le_of_ble_eq_true rfl⟩) (ci := 9) hc10 rfl rfl rfl hl.1 (Nat.le_of_ble_eq_true rfl) dX11_findsPlan_51 (c1 := 0) (s1 := 0) ⟨⟨rfl, rfl⟩, by decide, by decide⟩ (fun H locs hV => ?_)
                refine sq_ne (tgt := 70) S dX11_findsPlan_54 (by decide) (fun h54 => ?_) (fun h54 => ?_)
                · refine lv_aload_n hx_ hb_ dX11_findsPlan_70 rfl (lv_at hl 0 rfl) ?_
                  refine sc_get (ci := 9) (C := RX11) (T := TX11) (n := 22) S hK hV inX11_ hc10 rfl 14 (by decide) (S.2.2.2.2 _ (List.mem_of_getElem? (i := 1) rfl)) rfl rfl dX11_findsPlan_71 ?_
                  refine lv_iload_n hx_ hb_ dX11_findsPlan_74 rfl (lv_at hl 2 rfl) ?_
                  refine sc_iald S hK hV hm38_0 (by omega) dX11_findsPlan_75 ?_
                  refine si_bipush S dX11_findsPlan_76 (by decide) ?_
                  refine sb_le (tgt := 87) S dX11_findsPlan_78 (by decide) (by omega) (fun _ => ?_) (fun c15 => absurd c15 (by omega))
                  have hall : ∀ i, 0 ≤ i → i ≤ k → (0 ≤ g3 i ∧ g3 i ≤ 8) ∧ cgP f g3 i := fun i a b => by by_cases e : i = k; exact (by rw [e]; exact ⟨by omega, h54⟩); exact (by rw [ha3 i e]; exact ⟨(hpre i a (by omega)).1, (cgP_c (fun i2 u v => (ha3 i2 (by omega)).symm) a).mp (hpre i a (by omega)).2⟩)
                  refine lv_iload_n hx_ hb_ dX11_findsPlan_87 rfl (lv_at hl 2 rfl) ?_
                  refine lv_aload_n hx_ hb_ dX11_findsPlan_88 rfl (lv_at hl 0 rfl) ?_
                  refine sc_get (ci := 9) (C := RX11) (T := TX11) (n := 22) S hK hV inX11_ hc10 rfl 1 (by decide) (S.2.2.2.2 _ (List.mem_of_getElem? (i := 2) rfl)) rfl rfl dX11_findsPlan_89 ?_
                  refine si_sipush S dX11_findsPlan_92 (by decide) ?_
                  refine sc_iald S hK hV hc14 (by omega) dX11_findsPlan_95 ?_
                  refine si_const S dX11_findsPlan_96 ?_
                  refine si_sub S dX11_findsPlan_97 ?_
                  refine sb_ge (tgt := 114) S dX11_findsPlan_98 (by decide) (by omega) (fun c16 => ?_) (fun c16 => ?_)
                  · refine lv_aload_n hx_ hb_ dX11_findsPlan_114 rfl (lv_at hl 0 rfl) ?_
                    have hallG : allG f g3 := fun o a b => hall o a (by omega)
                    have hpr := plI_r (f := f) (by omega) g3
                    refine sk_VP E hV (As := []) (rest := []) (kX11_planned l_ G b_ Ml38 N m th ch tn ea sn nm wn f g3 hc10 hc14 hm38_0 (by omega) (hallG)) (cwV 0 S.2.2.2.2 gX11_findsPlan_X11_planned rfl rfl rfl (by decide +kernel) ⟨Nat.le_of_ble_eq_true rfl, Nat.le_of_ble_eq_true rfl⟩) (ci := 9) hc10 rfl rfl rfl hl.1 (Nat.le_of_ble_eq_true rfl) dX11_findsPlan_115 (c1 := 0) (s1 := 0) ⟨⟨rfl, rfl⟩, by decide, by decide⟩ (fun H locs hV => ?_)
                    refine lv_istore_n (lv' := [(3, .int (sI (plI f g3))), (0, .ref m), (1, .int (sI q)), (2, .int (sI k))]) hx_ hb_ dX11_findsPlan_118 rfl hl (by decide) rfl (fun ls hl => ?_)
                    refine lv_iload_n hx_ hb_ dX11_findsPlan_119 rfl (lv_at hl 0 rfl) ?_
                    refine lv_iload_n hx_ hb_ dX11_findsPlan_120 rfl (lv_at hl 2 rfl) ?_
                    refine sb_gt (tgt := 127) S dX11_findsPlan_121 (by decide) (by omega) (fun c17 => ?_) (fun c17 => ?_)
                    · refine lv_iload_n hx_ hb_ dX11_findsPlan_127 rfl (lv_at hl 0 rfl) ?_
                      refine lv_istore_n (lv' := [(1, .int (sI (plI f g3))), (3, .int (sI (plI f g3))), (0, .ref m), (2, .int (sI k))]) hx_ hb_ dX11_findsPlan_128 rfl hl (by decide) rfl (fun ls hl => ?_)
                      refine si_const S dX11_findsPlan_129 ?_
                      refine lv_istore (lv' := [(4, .int (sI 0)), (1, .int (sI (plI f g3))), (3, .int (sI (plI f g3))), (0, .ref m), (2, .int (sI k))]) hx_ hb_ dX11_findsPlan_130 hl (by decide) rfl (fun ls hl => ?_)
                      have L132 : ∀ (fuel : Nat) (i : Int) (b3 : Int → Int) (Ml132 : sM) (H : Heap) (locs : List Loc) (ls : Array Slot), ((f 573 - i).toNat) < fuel → (0 ≤ i ∧ i ≤ f 573) → (∀ j, 0 ≤ j → j < i → b3 j = g3 j) → (Ml132 (m + 11) = some (sArr G 8 b3)) → (∀ x : Nat, ¬ (x = m + 11) → Ml132 x = Ml38 x) → sV G b_ Ml132 N s_ H locs → lv_has ls 5 [(0, .ref m), (1, .int (sI (plI f g3))), (2, .int (sI k)), (4, .int (sI i))] → W p_ l_ e_ rmX11_findsPlan s_ m_ args_ below_ meth_ c_ H locs 0 0 Q (F0 m_ 132 ls []) := by
                        intro fuel
                        induction fuel with
                        | zero => intro i b3 Ml132 H locs ls hmu; exact absurd hmu (Nat.not_lt_zero _)
                        | succ fuel ih132 =>
                          intro i b3 Ml132 H locs ls hmu132 hv132_0 hcp hm132_0 hfr132 hV hl
                          refine lv_iload hx_ hb_ dX11_findsPlan_132 (lv_at hl 3 rfl) ?_
                          refine lv_aload_n hx_ hb_ dX11_findsPlan_134 rfl (lv_at hl 0 rfl) ?_
                          have hc18 : Ml132 m = some (mO m th ch tn ea sn nm wn) := (hfr132 m (by omega)).trans hc10
                          refine sc_get (ci := 9) (C := RX11) (T := TX11) (n := 22) S hK hV inX11_ hc18 rfl 1 (by decide) (S.2.2.2.2 _ (List.mem_of_getElem? (i := 2) rfl)) rfl rfl dX11_findsPlan_135 ?_
                          refine si_sipush S dX11_findsPlan_138 (by decide) ?_
                          have hc19 : Ml132 (m + 1) = some (sArr G 574 f) := (hfr132 (m + 1) (by omega)).trans hc14
                          refine sc_iald S hK hV hc19 (by omega) dX11_findsPlan_141 ?_
                          refine sb_ge (tgt := 165) S dX11_findsPlan_142 (by decide) (by omega) (fun c20 => ?_) (fun c20 => ?_)
                          · refine lv_goto (tgt := 24) hx_ hb_ dX11_findsPlan_165 (by decide) ?_
                            have hc21 : Ml132 (m + 10) = some (sArr G 8 g3) := (hfr132 (m + 10) (by omega)).trans hm38_0
                            exact ih24 (plI f g3) k g3 b3 Ml132 _ _ _ (by have hm9 := lf_C (G := g2) (G3 := g3) (k := k) (by omega) ha3 (by omega); rw [if_neg (show ¬ k < 0 by omega)] at hmu24; have hl0 := lfI_n (G := g2) (k := k) (fun i a b => by by_cases e : i = k; exact (by rw [e]; omega); exact (hpre i a (by omega)).1.2); split <;> omega) (by omega) (fun i a b => hall i a (by omega)) (fun r => by omega) (pt_D hpt hsk ⟨by omega, by omega⟩ ha3 (by omega) (by omega) hallG (fun i a b => hcp i a (by omega))) hc21 hm132_0 (fun x q0 q1 => (((hfr132 x (by omega)).trans (hfr38 x (by omega))).trans ((congrFun hM8 x).trans (va_up_ne Ml24 _ (by omega)))).trans (hfr24 x (by omega) (by omega))) hV (lv_sub hl [0, 1, 2] rfl)
                          · refine lv_aload_n hx_ hb_ dX11_findsPlan_145 rfl (lv_at hl 0 rfl) ?_
                            refine sc_get (ci := 9) (C := RX11) (T := TX11) (n := 22) S hK hV inX11_ hc18 rfl 15 (by decide) (S.2.2.2.2 _ (List.mem_of_getElem? (i := 3) rfl)) rfl rfl dX11_findsPlan_146 ?_
                            refine lv_iload hx_ hb_ dX11_findsPlan_149 (lv_at hl 3 rfl) ?_
                            refine lv_aload_n hx_ hb_ dX11_findsPlan_151 rfl (lv_at hl 0 rfl) ?_
                            refine sc_get (ci := 9) (C := RX11) (T := TX11) (n := 22) S hK hV inX11_ hc18 rfl 14 (by decide) (S.2.2.2.2 _ (List.mem_of_getElem? (i := 1) rfl)) rfl rfl dX11_findsPlan_152 ?_
                            refine lv_iload hx_ hb_ dX11_findsPlan_155 (lv_at hl 3 rfl) ?_
                            have hc22 : Ml132 (m + 10) = some (sArr G 8 g3) := (hfr132 (m + 10) (by omega)).trans hm38_0
                            refine sc_iald S hK hV hc22 (by omega) dX11_findsPlan_157 ?_
                            refine sc_iast S hK hV hm132_0 (by omega) dX11_findsPlan_158 (fun M23 H locs hM23 hV => ?_)
                            have hc24 : M23 (m + 11) = some (sArr G 8 (iup b3 i (g3 i))) := (congrFun hM23 (m + 11)).trans (va_up_self Ml132 (m + 11) _)
                            refine si_inc (lv' := [(4, .int (sI (i + 1))), (0, .ref m), (1, .int (sI (plI f g3))), (2, .int (sI k))]) S dX11_findsPlan_159 hl (k := 3) rfl (by decide) rfl (fun ls hl => ?_)
                            refine lv_goto (tgt := 132) hx_ hb_ dX11_findsPlan_162 (by decide) ?_
                            exact ih132 (i + 1) (iup b3 i (g3 i)) M23 _ _ _ (by omega) (by omega) (fun j a b => by unfold iup; by_cases e : j = i; exact (by rw [if_pos e, e]); exact (by rw [if_neg e]; exact hcp j a (by omega))) hc24 (fun x q0 => ((congrFun hM23 x).trans (va_up_ne Ml132 _ (by omega))).trans (hfr132 x (by omega))) hV (lv_sub hl [1, 2, 3, 0] rfl)
                      have hc25 : Ml38 (m + 11) = some (sArr G 8 b2) := ((hfr38 (m + 11) (by omega)).trans ((congrFun hM8 (m + 11)).trans (va_up_ne Ml24 _ (by omega)))).trans hm24_1
                      exact L132 _ 0 b2 Ml38 _ _ _ (Nat.lt_succ_self _) (by omega) (fun j a b => by omega) hc25 (fun x q0 => rfl) hV (lv_sub hl [3, 1, 4, 0] rfl)
                    · refine lv_goto (tgt := 24) hx_ hb_ dX11_findsPlan_124 (by decide) ?_
                      have hc26 : Ml38 (m + 11) = some (sArr G 8 b2) := ((hfr38 (m + 11) (by omega)).trans ((congrFun hM8 (m + 11)).trans (va_up_ne Ml24 _ (by omega)))).trans hm24_1
                      exact ih24 q k g3 b2 Ml38 _ _ _ (by have hm9 := lf_C (G := g2) (G3 := g3) (k := k) (by omega) ha3 (by omega); rw [if_neg (show ¬ k < 0 by omega)] at hmu24; have hl0 := lfI_n (G := g2) (k := k) (fun i a b => by by_cases e : i = k; exact (by rw [e]; omega); exact (hpre i a (by omega)).1.2); split <;> omega) (by omega) (fun i a b => hall i a (by omega)) (fun r => by omega) (pt_C hpt hsk ⟨by omega, by omega⟩ ha3 (by omega) (by omega)) hm38_0 hc26 (fun x q0 q1 => ((hfr38 x (by omega)).trans ((congrFun hM8 x).trans (va_up_ne Ml24 _ (by omega)))).trans (hfr24 x (by omega) (by omega))) hV (lv_sub hl [1, 2, 3] rfl)
                  · refine si_inc (lv' := [(2, .int (sI (k + 1))), (0, .ref m), (1, .int (sI q))]) S dX11_findsPlan_101 hl (k := 2) rfl (by decide) rfl (fun ls hl => ?_)
                    refine lv_aload_n hx_ hb_ dX11_findsPlan_104 rfl (lv_at hl 1 rfl) ?_
                    refine sc_get (ci := 9) (C := RX11) (T := TX11) (n := 22) S hK hV inX11_ hc10 rfl 14 (by decide) (S.2.2.2.2 _ (List.mem_of_getElem? (i := 1) rfl)) rfl rfl dX11_findsPlan_105 ?_
                    refine lv_iload_n hx_ hb_ dX11_findsPlan_108 rfl (lv_at hl 0 rfl) ?_
                    refine si_const S dX11_findsPlan_109 ?_
                    refine sc_iast S hK hV hm38_0 (by omega) dX11_findsPlan_110 (fun M27 H locs hM27 hV => ?_)
                    have hc28 : M27 (m + 10) = some (sArr G 8 (iup g3 (k + 1) (-1))) := (congrFun hM27 (m + 10)).trans (va_up_self Ml38 (m + 10) _)
                    refine lv_goto (tgt := 24) hx_ hb_ dX11_findsPlan_111 (by decide) ?_
                    have hc29 : M27 (m + 11) = some (sArr G 8 b2) := ((((congrFun hM27 (m + 11)).trans (va_up_ne Ml38 _ (by omega))).trans (hfr38 (m + 11) (by omega))).trans ((congrFun hM8 (m + 11)).trans (va_up_ne Ml24 _ (by omega)))).trans hm24_1
                    exact ih24 q (k + 1) (iup g3 (k + 1) (-1)) b2 M27 _ _ _ (by have hm9 := lf_B (G := g2) (G3 := g3) (k := k) (by omega) ha3 (by omega); rw [if_neg (show ¬ k < 0 by omega)] at hmu24; have hl0 := lfI_n (G := g2) (k := k) (fun i a b => by by_cases e : i = k; exact (by rw [e]; omega); exact (hpre i a (by omega)).1.2); split <;> omega) (by omega) (fun i a b => by rw [show iup g3 (k + 1) (-1) i = g3 i from if_neg (by omega)]; have hq := hall i a (by omega); exact ⟨hq.1, (cgP_c (fun i2 u v => (if_neg (by omega)).symm) a).mp hq.2⟩) (fun r => by rw [show iup g3 (k + 1) (-1) (k + 1) = -1 from if_pos rfl]; omega) (pt_B hpt hsk ⟨by omega, by omega⟩ ha3 (by omega)) hc28 hc29 (fun x q0 q1 => ((((congrFun hM27 x).trans (va_up_ne Ml38 _ (by omega))).trans (hfr38 x (by omega))).trans ((congrFun hM8 x).trans (va_up_ne Ml24 _ (by omega)))).trans (hfr24 x (by omega) (by omega))) hV (lv_sub hl [1, 2, 0] rfl)
                · refine lv_aload_n hx_ hb_ dX11_findsPlan_57 rfl (lv_at hl 0 rfl) ?_
                  refine sc_get (ci := 9) (C := RX11) (T := TX11) (n := 22) S hK hV inX11_ hc10 rfl 14 (by decide) (S.2.2.2.2 _ (List.mem_of_getElem? (i := 1) rfl)) rfl rfl dX11_findsPlan_58 ?_
                  refine lv_iload_n hx_ hb_ dX11_findsPlan_61 rfl (lv_at hl 2 rfl) ?_
                  refine lv_dup2_11 hx_ hb_ dX11_findsPlan_62 rfl rfl ?_
                  refine sc_iald S hK hV hm38_0 (by omega) dX11_findsPlan_63 ?_
                  refine si_const S dX11_findsPlan_64 ?_
                  refine si_add S dX11_findsPlan_65 ?_
                  refine sc_iast S hK hV hm38_0 (by omega) dX11_findsPlan_66 (fun M30 H locs hM30 hV => ?_)
                  have hc31 : M30 (m + 10) = some (sArr G 8 (iup g3 k ((g3 k) + 1))) := (congrFun hM30 (m + 10)).trans (va_up_self Ml38 (m + 10) _)
                  refine lv_goto (tgt := 38) hx_ hb_ dX11_findsPlan_67 (by decide) ?_
                  exact ih38 (iup g3 k ((g3 k) + 1)) M30 _ _ _ (by rw [show iup g3 k (g3 k + 1) k = g3 k + 1 from if_pos rfl]; omega) (fun i a => by rw [show iup g3 k (g3 k + 1) i = g3 i from if_neg a]; exact ha3 i a) (by rw [show iup g3 k (g3 k + 1) k = g3 k + 1 from if_pos rfl]; omega) (by rw [show iup g3 k (g3 k + 1) k = g3 k + 1 from if_pos rfl]; exact fun w a b => by by_cases e : w = g3 k; exact (fun h => h54 ((cgP_c (G := iup g2 k w) (fun i u v => by unfold iup; by_cases r : i = k; exact (by rw [if_pos r, r]; exact e); exact (by rw [if_neg r]; exact (ha3 i r).symm)) (by omega)).mp h)); exact hsk w a (by omega)) hc31 (fun x q0 => ((congrFun hM30 x).trans (va_up_ne Ml38 _ (by omega))).trans (hfr38 x (by omega))) hV (lv_sub hl [0, 1, 2] rfl)
          exact L38 _ (iup g2 k ((g2 k) + 1)) M8 _ _ _ (Nat.lt_succ_self _) (fun i a => if_neg a) (by rw [show iup g2 k (g2 k + 1) k = g2 k + 1 from if_pos rfl]; omega) (by rw [show iup g2 k (g2 k + 1) k = g2 k + 1 from if_pos rfl]; exact fun w a b => by omega) hc9 (fun x q0 => rfl) hV (lv_sub hl [0, 1, 2] rfl)
    have hc32 : M1 (m + 11) = some (sArr G 8 bs) := ((congrFun hM1 (m + 11)).trans (va_up_ne M _ (by omega))).trans hm11
    exact L24 _ (-1) 0 (iup gt 0 (-1)) bs M1 _ _ _ (Nat.lt_succ_self _) (by omega) (fun i a b => by omega) (fun _ => by rw [show iup gt 0 (-1) 0 = -1 from if_pos rfl]; omega) (pt_0 (by omega)) hc2 hc32 (fun x q0 q1 => rfl) hV (lv_sub hl [2, 1, 0] rfl)
  · refine si_const S dX11_findsPlan_22 ?_
    have hc33 : M1 (m + 11) = some (sArr G 8 bs) := ((congrFun hM1 (m + 11)).trans (va_up_ne M _ (by omega))).trans hm11
    exact sr_i E hQ dX11_findsPlan_23 ⟨Nat.le_of_ble_eq_true rfl, Nat.le_of_ble_eq_true rfl⟩ hV (⟨bs, (iup gt 0 (-1)), rfl, hc2, hc33, fun x q0 q1 => (congrFun hM1 x).trans (va_up_ne M _ (by omega)), opt_0 (by omega)⟩)
