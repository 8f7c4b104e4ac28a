/-! The ways behind each set, and what they give each stone and each pair. -/
/-- what the sets behind v, and at v the stones before s, give -/
def coV (v s a u : Int) : Prop := v < u ∨ (u = v ∧ a < s)
noncomputable def paF (f : sF) (K : Int → Prop) (a v s : Int) : Int := isum (p2 (f 568)) (fun u => pif (coV v s a u) (pif (K u) (edF f u a) 0) 0)
section PF
variable {f : sF} {K : Int → Prop} {a v s : Int}
theorem paF_s (hv : 0 ≤ v ∧ v < p2 (f 568)) : paF f K a v (s + 1) = paF f K a v s + pif (a = s ∧ K v) (edF f v s) 0 := by
  unfold paF
  have h := isum_one (n := p2 (f 568)) (g := fun u => pif (coV v s a u) (pif (K u) (edF f u a) 0) 0) (g' := fun u => pif (coV v (s + 1) a u) (pif (K u) (edF f u a) 0) 0) v hv (fun u b c d => by
    show pif (coV v (s + 1) a u) (pif (K u) (edF f u a) 0) 0 = pif (coV v s a u) (pif (K u) (edF f u a) 0) 0
    exact pif_c (by unfold coV; omega))
  rw [h]
  show _ + (pif (coV v (s + 1) a v) (pif (K v) (edF f v a) 0) 0 - pif (coV v s a v) (pif (K v) (edF f v a) 0) 0) = _
  by_cases e : a = s
  · rw [pif_t (show coV v (s + 1) a v from Or.inr ⟨rfl, by omega⟩), pif_f (show ¬ coV v s a v by unfold coV; omega), pif_c (show (a = s ∧ K v) ↔ K v from ⟨fun q => q.2, fun q => ⟨e, q⟩⟩), e]
    omega
  · rw [pif_f (P := a = s ∧ K v) (fun q => e q.1), pif_c (show coV v (s + 1) a v ↔ coV v s a v by unfold coV; omega)]
    omega
theorem paF_z (ha : 0 ≤ a) (h : ∀ s, edF f v s = 0) : paF f K a v s = paF f K a (v - 1) 0 := isum_c fun u b c => by
  show pif (coV v s a u) (pif (K u) (edF f u a) 0) 0 = pif (coV (v - 1) 0 a u) (pif (K u) (edF f u a) 0) 0
  by_cases e : u = v
  · have h1 : pif (K v) (0 : Int) 0 = 0 := by rcases pif_cases (K v) 0 0 with ⟨-, e2⟩ | ⟨-, e2⟩ <;> exact e2
    rw [e, h a, h1]
    rcases pif_cases (coV v s a v) 0 0 with ⟨-, e2⟩ | ⟨-, e2⟩ <;> rw [e2] <;> rcases pif_cases (coV (v - 1) 0 a v) 0 0 with ⟨-, e3⟩ | ⟨-, e3⟩ <;> rw [e3]
  · exact pif_c (by unfold coV; omega)
theorem paF_n (ha : 0 ≤ a) (h : a < s) : paF f K a v s = paF f K a (v - 1) 0 := isum_c fun u b c => pif_c (by unfold coV; omega)
theorem paF_0 (hn : 0 ≤ f 568 ∧ f 568 ≤ 29) (ha : 0 ≤ a ∧ a < f 568) : paF f K a (p2 (f 568) - 2) 0 = 0 := isum_z fun u b c => by
  show pif (coV (p2 (f 568) - 2) 0 a u) (pif (K u) (edF f u a) 0) 0 = 0
  by_cases e : u = p2 (f 568) - 1
  · rw [edF_f (fun q => q.1 (by rw [e]; exact (tb_full hn ha.1).mpr ha.2))]
    rcases pif_cases (K u) 0 0 with ⟨-, e2⟩ | ⟨-, e2⟩ <;> rw [e2] <;> rcases pif_cases (coV (p2 (f 568) - 2) 0 a u) 0 0 with ⟨-, e3⟩ | ⟨-, e3⟩ <;> rw [e3]
  · exact pif_f (by unfold coV; omega)
theorem paF_e : paF f K a (-1) 0 = isum (p2 (f 568)) (fun u => pif (K u) (edF f u a) 0) := isum_c fun u b c => pif_t (Or.inl (by omega))
end PF
theorem ed_r {f : sF} (hn : 0 ≤ f 568 ∧ f 568 ≤ 10) {u s : Int} (hu : 0 ≤ u ∧ u < p2 (f 568)) (hs : 0 ≤ s ∧ s < f 568) : 0 ≤ edF f u s ∧ edF f u s ≤ 3628800 := by
  have h := eg_p hn nxS_n (wyC_R f hn) (rsC_R f hn) s hs (fun x => x = u)
  have h2 := tot_r hn (ctC f hn)
  rw [isum_pick (fun x => pif (x = u) (edg (nxS f) (wyC f) (rsC f) x s) 0) hu (fun k a b c => pif_f c)] at h
  have h3 : pif (u = u) (edg (nxS f) (wyC f) (rsC f) u s) 0 = edF f u s := pif_t rfl
  rw [h3] at h
  exact ⟨h.1, Int.le_trans h.2 h2.2⟩
theorem ed_0 {f : sF} {u : Int} (h : wyC f u = 0) (s : Int) : edF f u s = 0 := by
  unfold edF edg
  rw [h, Int.zero_mul]
  rcases pif_cases (nxS f u s) 0 0 with ⟨-, e⟩ | ⟨-, e⟩ <;> exact e
/-- the ways behind, as far as they are counted -/
def beI (f : sF) (v : Int) (B : sF) : Prop := (∀ u, v < u → 0 ≤ u → u < p2 (f 568) → 0 < wyC f u ∨ u = p2 (f 568) - 1 → B u = rsC f u) ∧ ∀ u, 0 ≤ u → u ≤ v → B u = 0
def beJ (f : sF) (v s : Int) (B : sF) : Prop := (∀ u, v < u → 0 ≤ u → u < p2 (f 568) → 0 < wyC f u ∨ u = p2 (f 568) - 1 → B u = rsC f u) ∧ (∀ u, 0 ≤ u → u < v → B u = 0) ∧ B v = isum s (fun t => pif (nxS f v t) (rsC f (v + p2 t)) 0)
theorem beJ_0 {f B : sF} {v : Int} (hv : 0 ≤ v) (h : beI f v B) : beJ f v 0 B := ⟨h.1, fun u a b => h.2 u a (by omega), by rw [isum_0]; exact h.2 v hv (by omega)⟩
theorem beJ_f {f B : sF} {v s : Int} (hs : 0 ≤ s) (hq : ¬ nxS f v s) (h : beJ f v s B) : beJ f v (s + 1) B := ⟨h.1, h.2.1, by
  rw [isum_s _ hs, h.2.2]
  show _ = _ + pif (nxS f v s) (rsC f (v + p2 s)) 0
  rw [pif_f hq]; omega⟩
theorem beJ_t {f B : sF} {v s x : Int} (hs : 0 ≤ s) (hq : nxS f v s) (hx : x = rsC f (v + p2 s)) (h : beJ f v s B) : beJ f v (s + 1) (iup B v (B v + x)) := ⟨fun u a b c d => by rw [show iup B v (B v + x) u = B u from if_neg (by omega)]; exact h.1 u a b c d, fun u a b => by rw [show iup B v (B v + x) u = B u from if_neg (by omega)]; exact h.2.1 u a b, by
  rw [show iup B v (B v + x) v = B v + x from if_pos rfl, isum_s _ hs, h.2.2, hx]
  show _ = _ + pif (nxS f v s) (rsC f (v + p2 s)) 0
  rw [pif_t hq]⟩
theorem beI_n {f B : sF} {v s : Int} (hn : 0 ≤ f 568 ∧ f 568 ≤ 10) (hv : 0 ≤ v ∧ v < p2 (f 568) - 1) (hs : s = f 568) (h : beJ f v s B) : beI f (v - 1) B := ⟨fun u a b c d => by
  by_cases e : u = v
  · rw [e, h.2.2, hs]
    exact ((rsC_R f hn).2 v hv.1 hv.2).symm
  · exact h.1 u (by omega) b c d, fun u a b => h.2.1 u a (by omega)⟩
theorem beI_z {f B : sF} {v : Int} (hv : 0 ≤ v ∧ v < p2 (f 568) - 1) (h0 : wyC f v = 0) (h : beJ f v 0 B) : beI f (v - 1) B := ⟨fun u a b c d => by
  by_cases e : u = v
  · rw [e] at d; omega
  · exact h.1 u (by omega) b c d, fun u a b => h.2.1 u a (by omega)⟩
theorem beI_0 {f B : sF} (hn : 0 ≤ f 568 ∧ f 568 ≤ 10) (hB : ∀ u, 0 ≤ u → u < p2 (f 568) → B u = 0) : beI f (p2 (f 568) - 1 - 1) (iup B (p2 (f 568) - 1) 1) := ⟨fun u a b c d => by
  rw [show u = p2 (f 568) - 1 by omega, (rsC_R f hn).1]
  exact if_pos rfl, fun u a b => by rw [show iup B (p2 (f 568) - 1) 1 u = B u from if_neg (by omega)]; exact hB u a (by omega)⟩
def raI (f : sF) (v s : Int) (A : sF) : Prop := ∀ a r, 0 ≤ a → a < f 568 → 0 ≤ r → r < 10 → A (a * 10 + r) = paF f (fun u => pcI u = r) a v s
def prI2 (f : sF) (v s : Int) (A : sF) : Prop := ∀ b a, 0 ≤ b → b < f 568 → 0 ≤ a → a < f 568 → A (b * 10 + a) = paF f (fun u => tb u b) a v s
/-- the counts as they stand at the end -/
def rkA (f A : sF) : Prop := ∀ a r, 0 ≤ a → a < f 568 → 0 ≤ r → r < 10 → A (a * 10 + r) = rkI f a r
def abA (f A : sF) : Prop := ∀ b a, 0 ≤ b → b < f 568 → 0 ≤ a → a < f 568 → a ≠ b → A (b * 10 + a) = abI f b a
theorem ab_fl {f : sF} (hn : 0 ≤ f 568 ∧ f 568 ≤ 10) {a b : Int} (ha : 0 ≤ a ∧ a < f 568) (hb : 0 ≤ b ∧ b < f 568) (hab : a ≠ b) : isum (p2 (f 568)) (fun u => pif (tb u a) (edF f u b) 0) = abI f a b := by
  have h := flow (n := f 568) (by omega) nxS_n (wyC_R f hn) (rsC_R f hn) (fun u => tb u a ∧ ¬ tb u b) (fun q => tb_0 a q.1)
  have hp := p2_29 (n := f 568) (by omega)
  rw [pif_f (P := tb (p2 (f 568) - 1) a ∧ ¬ tb (p2 (f 568) - 1) b) (fun q => q.2 ((tb_full (by omega) hb.1).mpr hb.2)), Int.add_zero, ← isum_swap (n := p2 (f 568)) (m := f 568) (fun u s => pif (tb (u + p2 s) a ∧ ¬ tb (u + p2 s) b) (edg (nxS f) (wyC f) (rsC f) u s) 0), ← isum_swap (n := p2 (f 568)) (m := f 568) (fun u s => pif (tb u a ∧ ¬ tb u b) (edg (nxS f) (wyC f) (rsC f) u s) 0)] at h
  have key : isum (p2 (f 568)) (fun u => isum (f 568) (fun s => pif (tb (u + p2 s) a ∧ ¬ tb (u + p2 s) b) (edF f u s) 0)) = isum (p2 (f 568)) (fun u => isum (f 568) (fun s => pif (tb u a ∧ ¬ tb u b) (edF f u s) 0)) + (abI f a b - isum (p2 (f 568)) (fun u => pif (tb u a) (edF f u b) 0)) := by
    unfold abI
    rw [← isum_sub, ← isum_add]
    refine isum_c fun u u1 u2 => ?_
    show isum (f 568) (fun s => pif (tb (u + p2 s) a ∧ ¬ tb (u + p2 s) b) (edF f u s) 0) = isum (f 568) (fun s => pif (tb u a ∧ ¬ tb u b) (edF f u s) 0) + (abT f a b u - pif (tb u a) (edF f u b) 0)
    have t : ∀ s, 0 ≤ s → s < f 568 → s ≠ a → s ≠ b → pif (tb (u + p2 s) a ∧ ¬ tb (u + p2 s) b) (edF f u s) 0 = pif (tb u a ∧ ¬ tb u b) (edF f u s) 0 := fun s s1 s2 s3 s4 => by
      by_cases q : nxS f u s
      · exact pif_c (by rw [tb_add (by omega) (by omega) ha.1 q.1, tb_add (by omega) (by omega) hb.1 q.1]; exact ⟨fun w => ⟨w.1.elim id (fun e => absurd e.symm s3), fun e => w.2 (Or.inl e)⟩, fun w => ⟨Or.inl w.1, fun e => e.elim w.2 (fun e => absurd e.symm s4)⟩⟩)
      · rw [edF_f q]
        rcases pif_cases (tb (u + p2 s) a ∧ ¬ tb (u + p2 s) b) 0 0 with ⟨-, e2⟩ | ⟨-, e2⟩ <;> rw [e2] <;> rcases pif_cases (tb u a ∧ ¬ tb u b) 0 0 with ⟨-, e3⟩ | ⟨-, e3⟩ <;> rw [e3]
    have o1 := isum_one (n := f 568) (g := fun s => pif (tb u a ∧ ¬ tb u b) (edF f u s) 0) (g' := fun s => if s = b then pif (tb u a ∧ ¬ tb u b) (edF f u s) 0 else pif (tb (u + p2 s) a ∧ ¬ tb (u + p2 s) b) (edF f u s) 0) a ha (fun s s1 s2 s3 => by
      show (if s = b then pif (tb u a ∧ ¬ tb u b) (edF f u s) 0 else pif (tb (u + p2 s) a ∧ ¬ tb (u + p2 s) b) (edF f u s) 0) = _
      by_cases e : s = b
      · rw [if_pos e]
      · rw [if_neg e]; exact t s s1 s2 s3 e)
    have o2 := isum_one (n := f 568) (g := fun s => if s = b then pif (tb u a ∧ ¬ tb u b) (edF f u s) 0 else pif (tb (u + p2 s) a ∧ ¬ tb (u + p2 s) b) (edF f u s) 0) (g' := fun s => pif (tb (u + p2 s) a ∧ ¬ tb (u + p2 s) b) (edF f u s) 0) b hb (fun s s1 s2 s3 => (if_neg s3).symm)
    rw [o2, o1]
    show _ + ((if a = b then _ else pif (tb (u + p2 a) a ∧ ¬ tb (u + p2 a) b) (edF f u a) 0) - pif (tb u a ∧ ¬ tb u b) (edF f u a) 0) + (pif (tb (u + p2 b) a ∧ ¬ tb (u + p2 b) b) (edF f u b) 0 - (if b = b then pif (tb u a ∧ ¬ tb u b) (edF f u b) 0 else _)) = _
    rw [if_neg hab, if_pos rfl]
    have e1 : pif (tb (u + p2 a) a ∧ ¬ tb (u + p2 a) b) (edF f u a) 0 - pif (tb u a ∧ ¬ tb u b) (edF f u a) 0 = abT f a b u := by
      unfold abT
      by_cases q : nxS f u a
      · rw [pif_f (P := tb u a ∧ ¬ tb u b) (fun w => q.1 w.1), Int.sub_zero]
        exact pif_c (by rw [tb_add (by omega) (by omega) ha.1 q.1, tb_add (by omega) (by omega) hb.1 q.1]; exact ⟨fun w e => w.2 (Or.inl e), fun w => ⟨Or.inr rfl, fun e => e.elim w (fun e => hab e.symm)⟩⟩)
      · rw [edF_f q]
        rcases pif_cases (tb (u + p2 a) a ∧ ¬ tb (u + p2 a) b) 0 0 with ⟨-, e2⟩ | ⟨-, e2⟩ <;> rw [e2] <;> rcases pif_cases (tb u a ∧ ¬ tb u b) 0 0 with ⟨-, e3⟩ | ⟨-, e3⟩ <;> rw [e3] <;> rcases pif_cases (¬ tb u b) 0 0 with ⟨-, e4⟩ | ⟨-, e4⟩ <;> rw [e4] <;> rfl
    have e2 : pif (tb (u + p2 b) a ∧ ¬ tb (u + p2 b) b) (edF f u b) 0 - pif (tb u a ∧ ¬ tb u b) (edF f u b) 0 = 0 - pif (tb u a) (edF f u b) 0 := by
      by_cases q : nxS f u b
      · rw [pif_f (P := tb (u + p2 b) a ∧ ¬ tb (u + p2 b) b) (fun w => w.2 ((tb_add (by omega) (by omega) hb.1 q.1).mpr (Or.inr rfl))), pif_c (show (tb u a ∧ ¬ tb u b) ↔ tb u a from ⟨fun w => w.1, fun w => ⟨w, q.1⟩⟩)]
      · rw [edF_f q]
        rcases pif_cases (tb (u + p2 b) a ∧ ¬ tb (u + p2 b) b) 0 0 with ⟨-, e2⟩ | ⟨-, e2⟩ <;> rw [e2] <;> rcases pif_cases (tb u a ∧ ¬ tb u b) 0 0 with ⟨-, e3⟩ | ⟨-, e3⟩ <;> rw [e3] <;> rcases pif_cases (tb u a) 0 0 with ⟨-, e4⟩ | ⟨-, e4⟩ <;> rw [e4]
    omega
  unfold edF at key
  unfold edF
  omega

abbrev rmX5_addPairs : Room := { frames := 1, cells := 0, slots := 0, locals := 40 }
set_option maxHeartbeats 4000000 in
set_option maxRecDepth 100000 in
theorem kX5_addPairs (l_ : Launch) (G : sG) (b_ : Nat) (M : sM) (N : Nat) (o : Nat) (L : Int) (Pa f : sF) (v s w : Int) (ho0 : M o = some (sObj 3 [.ref (o + 1), .ref (o + 2), .ref (o + 3), .ref (o + 4), .ref (o + 5), .ref (o + 6), .ref (o + 7), .ref (o + 8), .ref (o + 9), .int (sI L), .int (sI (f 568))])) (ho7 : M (o + 7) = some (sArr G 100 Pa)) (hok : sOk f) (hv : 0 ≤ v ∧ v < p2 (f 568)) (hs : 0 ≤ s ∧ s < f 568) (hw : 0 ≤ w ∧ w ≤ 3628800) : cV l_ yX5_addPairs wsX5_addPairs rmX5_addPairs G b_ M N [.ref o, .int (sI v), .int (sI s), .int (sI w)] (fun M1 N1 => ∃ P9 : Int → Int, N1 = N ∧ M1 (o + 7) = some (sArr G 100 P9) ∧ (∀ x : Nat, ¬ (x = o + 7) → M1 x = M x) ∧ (∀ b a, 0 ≤ b → b < f 568 → 0 ≤ a → a < f 568 → P9 (b * 10 + a) = Pa (b * 10 + a) + pif (a = s ∧ tb v b) w 0)) := by
  refine sE.ofV (cc := cX5_addPairs) (nL := 5) (ret := none) (by decide) rfl (Nat.le_of_ble_eq_true rfl) ?_
  intro p_ e_ s_ m_ args_ below_ meth_ c_ ls Q hQ E hl
  have E : sE p_ l_ e_ rmX5_addPairs s_ m_ args_ below_ meth_ c_ cX5_addPairs 5 wsX5_addPairs RX5 "addPairs" none G b_ M N := E
  have S := E.1
  have hx_ := S.1
  have hb_ := S.2.1
  have hK := E.2.2.2.2.1
  have hV := E.2.2.2.2.2.2
  have hl : lv_has ls 5 [(0, .ref o), (1, .int (sI v)), (2, .int (sI s)), (3, .int (sI w))] := hl
  have inX5_ : ∀ w ∈ wsX50, w ∈ wsX5_addPairs := fun _ h => List.mem_cons_of_mem _ (List.mem_append_right _ h)
  have kn0 := sOk_N hok
  have hp1 := p2_p (f 568)
  have hp2 := p2_10 (n := f 568) (by omega)
  refine si_const S dX5_addPairs_0 ?_
  refine lv_istore (lv' := [(4, .int (sI 0)), (0, .ref o), (1, .int (sI v)), (2, .int (sI s)), (3, .int (sI w))]) hx_ hb_ dX5_addPairs_1 hl (by decide) rfl (fun ls hl => ?_)
  have L3 : ∀ (fuel : Nat) (k : Int) (P2 : Int → Int) (Ml3 : sM) (H : Heap) (locs : List Loc) (ls : Array Slot), ((f 568 - k).toNat) < fuel → (0 ≤ k ∧ k ≤ f 568) → (∀ b a, 0 ≤ b → b < f 568 → 0 ≤ a → a < f 568 → P2 (b * 10 + a) = Pa (b * 10 + a) + pif (a = s ∧ b < k ∧ tb v b) w 0) → (Ml3 (o + 7) = some (sArr G 100 P2)) → (∀ x : Nat, ¬ (x = o + 7) → Ml3 x = M x) → sV G b_ Ml3 N s_ H locs → lv_has ls 5 [(0, .ref o), (1, .int (sI v)), (2, .int (sI s)), (3, .int (sI w)), (4, .int (sI k))] → W p_ l_ e_ rmX5_addPairs s_ m_ args_ below_ meth_ c_ H locs 0 0 Q (F0 m_ 3 ls []) := by
    intro fuel
    induction fuel with
    | zero => intro k P2 Ml3 H locs ls hmu; exact absurd hmu (Nat.not_lt_zero _)
    | succ fuel ih3 =>
      intro k P2 Ml3 H locs ls hmu3 hv3_0 hP2 hm3_0 hfr3 hV hl
      refine lv_iload hx_ hb_ dX5_addPairs_3 (lv_at hl 4 rfl) ?_
      refine lv_aload_n hx_ hb_ dX5_addPairs_5 rfl (lv_at hl 0 rfl) ?_
      have hc1 : Ml3 o = some (sObj 3 [.ref (o + 1), .ref (o + 2), .ref (o + 3), .ref (o + 4), .ref (o + 5), .ref (o + 6), .ref (o + 7), .ref (o + 8), .ref (o + 9), .int (sI L), .int (sI (f 568))]) := (hfr3 o (by omega)).trans ho0
      refine sc_get (ci := 3) (C := RX5) (T := TX5) (n := 11) S hK hV inX5_ hc1 rfl 10 (by decide) (S.2.2.2.2 _ (List.mem_of_getElem? (i := 1) rfl)) rfl rfl dX5_addPairs_6 ?_
      refine sb_ge (tgt := 43) S dX5_addPairs_9 (by decide) (by omega) (fun c2 => ?_) (fun c2 => ?_)
      · exact sr_v E hQ dX5_addPairs_43 ⟨Nat.le_of_ble_eq_true rfl, Nat.le_of_ble_eq_true rfl⟩ hV (⟨P2, rfl, hm3_0, fun x q0 => hfr3 x (by omega), fun b a b1 b2 a1 a2 => by rw [hP2 b a b1 b2 a1 a2]; congr 1; exact pif_c ⟨fun q => ⟨q.1, q.2.2⟩, fun q => ⟨q.1, by omega, q.2⟩⟩⟩)
      · refine lv_iload_n hx_ hb_ dX5_addPairs_12 rfl (lv_at hl 1 rfl) ?_
        refine lv_iload hx_ hb_ dX5_addPairs_13 (lv_at hl 4 rfl) ?_
        refine si_shr S dX5_addPairs_15 ?_
        refine si_const S dX5_addPairs_16 ?_
        refine si_and S dX5_addPairs_17 ?_
        rw [ibit (m := v) (k := k) (by omega) (by omega)]
        refine sq_eq (tgt := 37) S dX5_addPairs_18 (by decide) (fun h18 => ?_) (fun h18 => ?_)
        · refine si_inc (lv' := [(4, .int (sI (k + 1))), (0, .ref o), (1, .int (sI v)), (2, .int (sI s)), (3, .int (sI w))]) S dX5_addPairs_37 hl (k := 4) rfl (by decide) rfl (fun ls hl => ?_)
          refine lv_goto (tgt := 3) hx_ hb_ dX5_addPairs_40 (by decide) ?_
          exact ih3 (k + 1) P2 Ml3 _ _ _ (by omega) (by omega) (fun b a b1 b2 a1 a2 => by rw [hP2 b a b1 b2 a1 a2]; congr 1; exact pif_c ⟨fun q => ⟨q.1, by omega, q.2.2⟩, fun q => ⟨q.1, by have := q.2.1; by_cases e : b = k; exact absurd (by rw [← e]; exact q.2.2) h18; omega, q.2.2⟩⟩) hm3_0 (fun x q0 => hfr3 x (by omega)) hV (lv_sub hl [1, 2, 3, 4, 0] rfl)
        · refine lv_aload_n hx_ hb_ dX5_addPairs_21 rfl (lv_at hl 0 rfl) ?_
          refine sc_get (ci := 3) (C := RX5) (T := TX5) (n := 11) S hK hV inX5_ hc1 rfl 6 (by decide) (S.2.2.2.2 _ (List.mem_of_getElem? (i := 2) rfl)) rfl rfl dX5_addPairs_22 ?_
          refine lv_iload hx_ hb_ dX5_addPairs_25 (lv_at hl 4 rfl) ?_
          refine si_bipush S dX5_addPairs_27 (by decide) ?_
          refine si_mul S dX5_addPairs_29 ?_
          refine lv_iload_n hx_ hb_ dX5_addPairs_30 rfl (lv_at hl 2 rfl) ?_
          refine si_add S dX5_addPairs_31 ?_
          refine lv_dup2_11 hx_ hb_ dX5_addPairs_32 rfl rfl ?_
          refine sc_iald S hK hV hm3_0 (by omega) dX5_addPairs_33 ?_
          refine lv_iload_n hx_ hb_ dX5_addPairs_34 rfl (lv_at hl 3 rfl) ?_
          refine si_add S dX5_addPairs_35 ?_
          refine sc_iast S hK hV hm3_0 (by omega) dX5_addPairs_36 (fun M3 H locs hM3 hV => ?_)
          have hc4 : M3 (o + 7) = some (sArr G 100 (iup P2 ((k * 10) + s) ((P2 ((k * 10) + s)) + w))) := (congrFun hM3 (o + 7)).trans (va_up_self Ml3 (o + 7) _)
          refine si_inc (lv' := [(4, .int (sI (k + 1))), (0, .ref o), (1, .int (sI v)), (2, .int (sI s)), (3, .int (sI w))]) S dX5_addPairs_37 hl (k := 4) rfl (by decide) rfl (fun ls hl => ?_)
          refine lv_goto (tgt := 3) hx_ hb_ dX5_addPairs_40 (by decide) ?_
          exact ih3 (k + 1) (iup P2 ((k * 10) + s) ((P2 ((k * 10) + s)) + w)) M3 _ _ _ (by omega) (by omega) (fun b a b1 b2 a1 a2 => by unfold iup; by_cases e : b * 10 + a = k * 10 + s; (rw [if_pos e, ← e, hP2 b a b1 b2 a1 a2, pif_f (fun q => by omega), pif_t ⟨by omega, by omega, by rw [show b = k by omega]; exact h18⟩]; omega); (rw [if_neg e, hP2 b a b1 b2 a1 a2]; congr 1; exact pif_c ⟨fun q => ⟨q.1, by omega, q.2.2⟩, fun q => ⟨q.1, by omega, q.2.2⟩⟩)) hc4 (fun x q0 => ((congrFun hM3 x).trans (va_up_ne Ml3 _ (by omega))).trans (hfr3 x (by omega))) hV (lv_sub hl [1, 2, 3, 4, 0] rfl)
  exact L3 _ 0 Pa M _ _ _ (Nat.lt_succ_self _) (by omega) (fun b a b1 b2 a1 a2 => by rw [pif_f (fun q => by omega)]; omega) ho7 (fun x q0 => rfl) hV (lv_sub hl [1, 2, 3, 4, 0] rfl)

abbrev rmX5_addWays : Room := { frames := 2, cells := 0, slots := 0, locals := 64 }
set_option maxHeartbeats 4000000 in
set_option maxRecDepth 100000 in
theorem kX5_addWays (l_ : Launch) (G : sG) (b_ : Nat) (M : sM) (N : Nat) (o : Nat) (L : Int) (At Pa f : sF) (v s w : Int) (ho0 : M o = some (sObj 3 [.ref (o + 1), .ref (o + 2), .ref (o + 3), .ref (o + 4), .ref (o + 5), .ref (o + 6), .ref (o + 7), .ref (o + 8), .ref (o + 9), .int (sI L), .int (sI (f 568))])) (ho6 : M (o + 6) = some (sArr G 100 At)) (ho7 : M (o + 7) = some (sArr G 100 Pa)) (hok : sOk f) (hv : 0 ≤ v ∧ v < p2 (f 568)) (hs : 0 ≤ s ∧ s < f 568) (hw : 0 ≤ w ∧ w ≤ 3628800) (hvs : ¬ tb v s) : cV l_ yX5_addWays wsX5_addWays rmX5_addWays G b_ M N [.ref o, .int (sI v), .int (sI s), .int (sI w)] (fun M1 N1 => ∃ A9 : Int → Int, ∃ P9 : Int → Int, N1 = N ∧ M1 (o + 6) = some (sArr G 100 A9) ∧ M1 (o + 7) = some (sArr G 100 P9) ∧ (∀ x : Nat, ¬ (x = o + 6) → ¬ (x = o + 7) → M1 x = M x) ∧ (∀ a r, 0 ≤ a → a < f 568 → 0 ≤ r → r < 10 → A9 (a * 10 + r) = At (a * 10 + r) + pif (a = s ∧ pcI v = r) w 0) ∧ (∀ b a, 0 ≤ b → b < f 568 → 0 ≤ a → a < f 568 → P9 (b * 10 + a) = Pa (b * 10 + a) + pif (a = s ∧ tb v b) w 0)) := by
  refine sE.ofV (cc := cX5_addWays) (nL := 4) (ret := none) (by decide) rfl (Nat.le_of_ble_eq_true rfl) ?_
  intro p_ e_ s_ m_ args_ below_ meth_ c_ ls Q hQ E hl
  have E : sE p_ l_ e_ rmX5_addWays s_ m_ args_ below_ meth_ c_ cX5_addWays 4 wsX5_addWays RX5 "addWays" none G b_ M N := E
  have S := E.1
  have hx_ := S.1
  have hb_ := S.2.1
  have hK := E.2.2.2.2.1
  have hV := E.2.2.2.2.2.2
  have hl : lv_has ls 4 [(0, .ref o), (1, .int (sI v)), (2, .int (sI s)), (3, .int (sI w))] := hl
  have inX5_ : ∀ w ∈ wsX50, w ∈ wsX5_addWays := fun _ h => List.mem_cons_of_mem _ (List.mem_append_right _ h)
  have kn0 := sOk_N hok
  have hp1 := p2_p (f 568)
  have hp2 := p2_10 (n := f 568) (by omega)
  have hpc := (pc_le (n := f 568) (u := v) (by omega) hv)
  have hpc2 : 0 ≤ pcI v ∧ pcI v ≤ 9 := by have h1 := nx_lt (n := f 568) hv hs (by omega) hvs; have h2 := pc_add (u := v) (s := s) (by omega) (by omega) hvs; have h4 := p2_p s; have h3 := (pc_le (n := f 568) (u := v + p2 s) (by omega) ⟨by omega, h1⟩).2; have h5 := hpc.1; have h6 := isum_n (n := f 568) (g := fun k => bI (tb v k)) (fun k _ _ => by have h8 : 0 ≤ bI (tb v k) ∧ bI (tb v k) ≤ 1 := bI_r; exact h8.1); omega
  refine lv_iload_n hx_ hb_ dX5_addWays_0 rfl (lv_at hl 3 rfl) ?_
  refine sz_le (tgt := 29) S dX5_addWays_1 (by decide) (by omega) (fun c1 => ?_) (fun c1 => ?_)
  · exact sr_v E hQ dX5_addWays_29 ⟨Nat.le_of_ble_eq_true rfl, Nat.le_of_ble_eq_true rfl⟩ hV (⟨At, Pa, rfl, ho6, ho7, fun x q0 q1 => rfl, fun a r a1 a2 r1 r2 => by rw [show w = 0 by omega]; rcases pif_cases (a = s ∧ pcI v = r) 0 0 with ⟨-, e⟩ | ⟨-, e⟩ <;> rw [e] <;> omega, fun b a b1 b2 a1 a2 => by rw [show w = 0 by omega]; rcases pif_cases (a = s ∧ tb v b) 0 0 with ⟨-, e⟩ | ⟨-, e⟩ <;> rw [e] <;> omega⟩)
  · refine lv_aload_n hx_ hb_ dX5_addWays_4 rfl (lv_at hl 0 rfl) ?_
    refine sc_get (ci := 3) (C := RX5) (T := TX5) (n := 11) S hK hV inX5_ ho0 rfl 5 (by decide) (S.2.2.2.2 _ (List.mem_of_getElem? (i := 1) rfl)) rfl rfl dX5_addWays_5 ?_
    refine lv_iload_n hx_ hb_ dX5_addWays_8 rfl (lv_at hl 2 rfl) ?_
    refine si_bipush S dX5_addWays_9 (by decide) ?_
    refine si_mul S dX5_addWays_11 ?_
    refine lv_iload_n hx_ hb_ dX5_addWays_12 rfl (lv_at hl 1 rfl) ?_
    refine sk_SP E hV (As := [.int (sI v)]) (rest := [.int (sI (s * 10)), .ref (o + 6)]) (kJ6_bitCount_0f7a4 l_ G b_ M N v (by omega)) (va_cwS 1 S.2.2.2.2 gX5_addWays_J6_bitCount_0f7a4 rfl rfl rfl (by decide +kernel) ⟨Nat.le_of_ble_eq_true rfl, Nat.le_of_ble_eq_true rfl⟩) rfl rfl hl.1 (Nat.le_of_ble_eq_true rfl) dX5_addWays_13 (c1 := 0) (s1 := 0) ⟨⟨rfl, rfl⟩, by decide, by decide⟩ (fun H locs hV => ?_)
    refine si_add S dX5_addWays_16 ?_
    refine lv_dup2_11 hx_ hb_ dX5_addWays_17 rfl rfl ?_
    refine sc_iald S hK hV ho6 (by omega) dX5_addWays_18 ?_
    refine lv_iload_n hx_ hb_ dX5_addWays_19 rfl (lv_at hl 3 rfl) ?_
    refine si_add S dX5_addWays_20 ?_
    refine sc_iast S hK hV ho6 (by omega) dX5_addWays_21 (fun M2 H locs hM2 hV => ?_)
    have hc3 : M2 (o + 6) = some (sArr G 100 (iup At ((s * 10) + (pcI v)) ((At ((s * 10) + (pcI v))) + w))) := (congrFun hM2 (o + 6)).trans (va_up_self M (o + 6) _)
    refine lv_aload_n hx_ hb_ dX5_addWays_22 rfl (lv_at hl 0 rfl) ?_
    refine lv_iload_n hx_ hb_ dX5_addWays_23 rfl (lv_at hl 1 rfl) ?_
    refine lv_iload_n hx_ hb_ dX5_addWays_24 rfl (lv_at hl 2 rfl) ?_
    refine lv_iload_n hx_ hb_ dX5_addWays_25 rfl (lv_at hl 3 rfl) ?_
    have hc4 : M2 o = some (sObj 3 [.ref (o + 1), .ref (o + 2), .ref (o + 3), .ref (o + 4), .ref (o + 5), .ref (o + 6), .ref (o + 7), .ref (o + 8), .ref (o + 9), .int (sI L), .int (sI (f 568))]) := ((congrFun hM2 o).trans (va_up_ne M _ (by omega))).trans ho0
    have hc5 : M2 (o + 7) = some (sArr G 100 Pa) := ((congrFun hM2 (o + 7)).trans (va_up_ne M _ (by omega))).trans ho7
    refine sk_Vv E hV (As := [.int (sI v), .int (sI s), .int (sI w)]) (rest := []) (kX5_addPairs l_ G b_ M2 N o L Pa f v s w hc4 hc5 (by omega) (by omega) (by omega) (by omega)) (cwV 3 S.2.2.2.2 gX5_addWays_X5_addPairs rfl rfl rfl (by decide +kernel) ⟨Nat.le_of_ble_eq_true rfl, Nat.le_of_ble_eq_true rfl⟩) (ci := 3) hc4 rfl rfl rfl hl.1 (Nat.le_of_ble_eq_true rfl) dX5_addWays_26 (c1 := 0) (s1 := 0) ⟨⟨rfl, rfl⟩, by decide, by decide⟩ (fun M6 N7 H locs hp8 hV => ?_)
    obtain ⟨P910, hN11, hc12, hf13, hP914⟩ := hp8
    rw [hN11] at hV
    have hc15 : M6 (o + 6) = some (sArr G 100 (iup At ((s * 10) + (pcI v)) ((At ((s * 10) + (pcI v))) + w))) := (hf13 (o + 6) (by omega)).trans hc3
    exact sr_v E hQ dX5_addWays_29 ⟨Nat.le_of_ble_eq_true rfl, Nat.le_of_ble_eq_true rfl⟩ hV (⟨(iup At ((s * 10) + (pcI v)) ((At ((s * 10) + (pcI v))) + w)), P910, rfl, hc15, hc12, fun x q0 q1 => (hf13 x (by omega)).trans ((congrFun hM2 x).trans (va_up_ne M _ (by omega))), fun a r a1 a2 r1 r2 => by unfold iup; by_cases e : a * 10 + r = s * 10 + pcI v; (rw [if_pos e, ← e, pif_t (by omega)]); (rw [if_neg e, pif_f (by omega)]; omega), hP914⟩)

abbrev rmX5_countWaysBehind : Room := { frames := 3, cells := 0, slots := 0, locals := 87 }
set_option maxHeartbeats 4000000 in
set_option maxRecDepth 100000 in
theorem kX5_countWaysBehind (l_ : Launch) (G : sG) (b_ : Nat) (M : sM) (N : Nat) (o : Nat) (L : Int) (Ha Ah Be At Pa f : sF) (ho0 : M o = some (sObj 3 [.ref (o + 1), .ref (o + 2), .ref (o + 3), .ref (o + 4), .ref (o + 5), .ref (o + 6), .ref (o + 7), .ref (o + 8), .ref (o + 9), .int (sI L), .int (sI (f 568))])) (ho3 : M (o + 3) = some (sArr G 10 Ha)) (ho4 : M (o + 4) = some (sArr G 1024 Ah)) (ho5 : M (o + 5) = some (sArr G 1024 Be)) (ho6 : M (o + 6) = some (sArr G 100 At)) (ho7 : M (o + 7) = some (sArr G 100 Pa)) (hok : sOk f) (hH : haP f Ha) (hAh : ∀ u, 0 ≤ u → u < p2 (f 568) → Ah u = wyC f u) : cV l_ yX5_countWaysBehind wsX5_countWaysBehind rmX5_countWaysBehind G b_ M N [.ref o] (fun M1 N1 => ∃ B9 : Int → Int, ∃ A9 : Int → Int, ∃ P9 : Int → Int, N1 = N ∧ M1 (o + 5) = some (sArr G 1024 B9) ∧ M1 (o + 6) = some (sArr G 100 A9) ∧ M1 (o + 7) = some (sArr G 100 P9) ∧ (∀ x : Nat, ¬ (x = o + 5) → ¬ (x = o + 6) → ¬ (x = o + 7) → M1 x = M x) ∧ (rkA f A9) ∧ (abA f P9)) := by
  refine sE.ofV (cc := cX5_countWaysBehind) (nL := 5) (ret := none) (by decide) rfl (Nat.le_of_ble_eq_true rfl) ?_
  intro p_ e_ s_ m_ args_ below_ meth_ c_ ls Q hQ E hl
  have E : sE p_ l_ e_ rmX5_countWaysBehind s_ m_ args_ below_ meth_ c_ cX5_countWaysBehind 5 wsX5_countWaysBehind RX5 "countWaysBehind" none G b_ M N := E
  have S := E.1
  have hx_ := S.1
  have hb_ := S.2.1
  have hK := E.2.2.2.2.1
  have hV := E.2.2.2.2.2.2
  have hl : lv_has ls 5 [(0, .ref o)] := hl
  have inX5_ : ∀ w ∈ wsX50, w ∈ wsX5_countWaysBehind := fun _ h => List.mem_cons_of_mem _ (List.mem_append_right _ h)
  have kn0 := sOk_N hok
  have hp1 := p2_p (f 568)
  have hp2 := p2_10 (n := f 568) (by omega)
  refine lv_aload_n hx_ hb_ dX5_countWaysBehind_0 rfl (lv_at hl 0 rfl) ?_
  refine sc_get (ci := 3) (C := RX5) (T := TX5) (n := 11) S hK hV inX5_ ho0 rfl 4 (by decide) (S.2.2.2.2 _ (List.mem_of_getElem? (i := 1) rfl)) rfl rfl dX5_countWaysBehind_1 ?_
  refine si_const S dX5_countWaysBehind_4 ?_
  refine sk_Sv E hV (As := [.ref (o + 5), .int (sI 0)]) (rest := []) (kJ7_fill_53178 l_ G b_ M N (o + 5) 1024 Be 0 ho5 (by omega)) (va_cwS 2 S.2.2.2.2 gX5_countWaysBehind_J7_fill_53178 rfl rfl rfl (by decide +kernel) ⟨Nat.le_of_ble_eq_true rfl, Nat.le_of_ble_eq_true rfl⟩) rfl rfl hl.1 (Nat.le_of_ble_eq_true rfl) dX5_countWaysBehind_5 (c1 := 0) (s1 := 0) ⟨⟨rfl, rfl⟩, by decide, by decide⟩ (fun M1 N2 H locs hp3 hV => ?_)
  obtain ⟨hN5, hc6, hf7⟩ := hp3
  rw [hN5] at hV
  refine lv_aload_n hx_ hb_ dX5_countWaysBehind_8 rfl (lv_at hl 0 rfl) ?_
  have hc8 : M1 o = some (sObj 3 [.ref (o + 1), .ref (o + 2), .ref (o + 3), .ref (o + 4), .ref (o + 5), .ref (o + 6), .ref (o + 7), .ref (o + 8), .ref (o + 9), .int (sI L), .int (sI (f 568))]) := (hf7 o (by omega)).trans ho0
  refine sc_get (ci := 3) (C := RX5) (T := TX5) (n := 11) S hK hV inX5_ hc8 rfl 5 (by decide) (S.2.2.2.2 _ (List.mem_of_getElem? (i := 2) rfl)) rfl rfl dX5_countWaysBehind_9 ?_
  refine si_const S dX5_countWaysBehind_12 ?_
  have hc9 : M1 (o + 6) = some (sArr G 100 At) := (hf7 (o + 6) (by omega)).trans ho6
  refine sk_Sv E hV (As := [.ref (o + 6), .int (sI 0)]) (rest := []) (kJ7_fill_53178 l_ G b_ M1 N (o + 6) 100 At 0 hc9 (by omega)) (va_cwS 2 S.2.2.2.2 gX5_countWaysBehind_J7_fill_53178 rfl rfl rfl (by decide +kernel) ⟨Nat.le_of_ble_eq_true rfl, Nat.le_of_ble_eq_true rfl⟩) rfl rfl hl.1 (Nat.le_of_ble_eq_true rfl) dX5_countWaysBehind_13 (c1 := 0) (s1 := 0) ⟨⟨rfl, rfl⟩, by decide, by decide⟩ (fun M10 N11 H locs hp12 hV => ?_)
  obtain ⟨hN14, hc15, hf16⟩ := hp12
  rw [hN14] at hV
  refine lv_aload_n hx_ hb_ dX5_countWaysBehind_16 rfl (lv_at hl 0 rfl) ?_
  have hc17 : M10 o = some (sObj 3 [.ref (o + 1), .ref (o + 2), .ref (o + 3), .ref (o + 4), .ref (o + 5), .ref (o + 6), .ref (o + 7), .ref (o + 8), .ref (o + 9), .int (sI L), .int (sI (f 568))]) := (hf16 o (by omega)).trans hc8
  refine sc_get (ci := 3) (C := RX5) (T := TX5) (n := 11) S hK hV inX5_ hc17 rfl 6 (by decide) (S.2.2.2.2 _ (List.mem_of_getElem? (i := 3) rfl)) rfl rfl dX5_countWaysBehind_17 ?_
  refine si_const S dX5_countWaysBehind_20 ?_
  have hc18 : M10 (o + 7) = some (sArr G 100 Pa) := ((hf16 (o + 7) (by omega)).trans (hf7 (o + 7) (by omega))).trans ho7
  refine sk_Sv E hV (As := [.ref (o + 7), .int (sI 0)]) (rest := []) (kJ7_fill_53178 l_ G b_ M10 N (o + 7) 100 Pa 0 hc18 (by omega)) (va_cwS 2 S.2.2.2.2 gX5_countWaysBehind_J7_fill_53178 rfl rfl rfl (by decide +kernel) ⟨Nat.le_of_ble_eq_true rfl, Nat.le_of_ble_eq_true rfl⟩) rfl rfl hl.1 (Nat.le_of_ble_eq_true rfl) dX5_countWaysBehind_21 (c1 := 0) (s1 := 0) ⟨⟨rfl, rfl⟩, by decide, by decide⟩ (fun M19 N20 H locs hp21 hV => ?_)
  obtain ⟨hN23, hc24, hf25⟩ := hp21
  rw [hN23] at hV
  refine lv_aload_n hx_ hb_ dX5_countWaysBehind_24 rfl (lv_at hl 0 rfl) ?_
  have hc26 : M19 o = some (sObj 3 [.ref (o + 1), .ref (o + 2), .ref (o + 3), .ref (o + 4), .ref (o + 5), .ref (o + 6), .ref (o + 7), .ref (o + 8), .ref (o + 9), .int (sI L), .int (sI (f 568))]) := (hf25 o (by omega)).trans hc17
  refine sk_VP E hV (As := []) (rest := []) (kX5_fullSet l_ G b_ M19 N o L (f 568) hc26 (by omega)) (cwV 0 S.2.2.2.2 gX5_countWaysBehind_X5_fullSet rfl rfl rfl (by decide +kernel) ⟨Nat.le_of_ble_eq_true rfl, Nat.le_of_ble_eq_true rfl⟩) (ci := 3) hc26 rfl rfl rfl hl.1 (Nat.le_of_ble_eq_true rfl) dX5_countWaysBehind_25 (c1 := 0) (s1 := 0) ⟨⟨rfl, rfl⟩, by decide, by decide⟩ (fun H locs hV => ?_)
  refine lv_istore_n (lv' := [(1, .int (sI (p2 (f 568) - 1))), (0, .ref o)]) hx_ hb_ dX5_countWaysBehind_28 rfl hl (by decide) rfl (fun ls hl => ?_)
  refine lv_aload_n hx_ hb_ dX5_countWaysBehind_29 rfl (lv_at hl 1 rfl) ?_
  refine sc_get (ci := 3) (C := RX5) (T := TX5) (n := 11) S hK hV inX5_ hc26 rfl 4 (by decide) (S.2.2.2.2 _ (List.mem_of_getElem? (i := 1) rfl)) rfl rfl dX5_countWaysBehind_30 ?_
  refine lv_iload_n hx_ hb_ dX5_countWaysBehind_33 rfl (lv_at hl 0 rfl) ?_
  refine si_const S dX5_countWaysBehind_34 ?_
  have hc27 : M19 (o + 5) = some (sArr G 1024 (cpK Be (fun _ => 0) 1024)) := ((hf25 (o + 5) (by omega)).trans (hf16 (o + 5) (by omega))).trans hc6
  refine sc_iast S hK hV hc27 (by omega) dX5_countWaysBehind_35 (fun M28 H locs hM28 hV => ?_)
  have hc29 : M28 (o + 5) = some (sArr G 1024 (iup (cpK Be (fun _ => 0) 1024) (p2 (f 568) - 1) 1)) := (congrFun hM28 (o + 5)).trans (va_up_self M19 (o + 5) _)
  refine lv_iload_n hx_ hb_ dX5_countWaysBehind_36 rfl (lv_at hl 0 rfl) ?_
  refine si_const S dX5_countWaysBehind_37 ?_
  refine si_sub S dX5_countWaysBehind_38 ?_
  refine lv_istore_n (lv' := [(2, .int (sI ((p2 (f 568) - 1) - 1))), (1, .int (sI (p2 (f 568) - 1))), (0, .ref o)]) hx_ hb_ dX5_countWaysBehind_39 rfl hl (by decide) rfl (fun ls hl => ?_)
  have L40 : ∀ (fuel : Nat) (v : Int) (B2 : Int → Int) (A2 : Int → Int) (P2 : Int → Int) (Ml40 : sM) (H : Heap) (locs : List Loc) (ls : Array Slot), ((v + 1).toNat) < fuel → (-1 ≤ v ∧ v < p2 (f 568) - 1) → (beI f v B2) → (raI f v 0 A2) → (prI2 f v 0 P2) → (Ml40 (o + 5) = some (sArr G 1024 B2)) → (Ml40 (o + 6) = some (sArr G 100 A2)) → (Ml40 (o + 7) = some (sArr G 100 P2)) → (∀ x : Nat, ¬ (x = o + 5) → ¬ (x = o + 6) → ¬ (x = o + 7) → Ml40 x = M28 x) → sV G b_ Ml40 N s_ H locs → lv_has ls 5 [(0, .ref o), (2, .int (sI v))] → W p_ l_ e_ rmX5_countWaysBehind s_ m_ args_ below_ meth_ c_ H locs 0 0 Q (F0 m_ 40 ls []) := by
    intro fuel
    induction fuel with
    | zero => intro v B2 A2 P2 Ml40 H locs ls hmu; exact absurd hmu (Nat.not_lt_zero _)
    | succ fuel ih40 =>
      intro v B2 A2 P2 Ml40 H locs ls hmu40 hv40_0 hB2 hA2 hP2 hm40_0 hm40_1 hm40_2 hfr40 hV hl
      refine lv_iload_n hx_ hb_ dX5_countWaysBehind_40 rfl (lv_at hl 1 rfl) ?_
      refine sz_lt (tgt := 127) S dX5_countWaysBehind_41 (by decide) (by omega) (fun c30 => ?_) (fun c30 => ?_)
      · exact sr_v E hQ dX5_countWaysBehind_127 ⟨Nat.le_of_ble_eq_true rfl, Nat.le_of_ble_eq_true rfl⟩ hV (⟨B2, A2, P2, rfl, hm40_0, hm40_1, hm40_2, fun x q0 q1 q2 => ((((hfr40 x (by omega) (by omega) (by omega)).trans ((congrFun hM28 x).trans (va_up_ne M19 _ (by omega)))).trans (hf25 x (by omega))).trans (hf16 x (by omega))).trans (hf7 x (by omega)), fun a r a1 a2 r1 r2 => by rw [hA2 a r a1 a2 r1 r2, show v = -1 by omega, paF_e]; rfl, fun b a b1 b2 a1 a2 ab => by rw [hP2 b a b1 b2 a1 a2, show v = -1 by omega, paF_e]; exact ab_fl (by omega) ⟨b1, b2⟩ ⟨a1, a2⟩ (fun e => ab e.symm)⟩)
      · refine si_const S dX5_countWaysBehind_44 ?_
        refine lv_istore_n (lv' := [(3, .int (sI 0)), (0, .ref o), (2, .int (sI v))]) hx_ hb_ dX5_countWaysBehind_45 rfl hl (by decide) rfl (fun ls hl => ?_)
        have L46 : ∀ (fuel : Nat) (s : Int) (B3 : Int → Int) (A3 : Int → Int) (P3 : Int → Int) (Ml46 : sM) (H : Heap) (locs : List Loc) (ls : Array Slot), ((f 568 - s).toNat) < fuel → (0 ≤ s ∧ s ≤ f 568) → (beJ f v s B3) → (wyC f v = 0 → s = 0) → (raI f v s A3) → (prI2 f v s P3) → (Ml46 (o + 5) = some (sArr G 1024 B3)) → (Ml46 (o + 6) = some (sArr G 100 A3)) → (Ml46 (o + 7) = some (sArr G 100 P3)) → (∀ x : Nat, ¬ (x = o + 5) → ¬ (x = o + 6) → ¬ (x = o + 7) → Ml46 x = Ml40 x) → sV G b_ Ml46 N s_ H locs → lv_has ls 5 [(0, .ref o), (2, .int (sI v)), (3, .int (sI s))] → W p_ l_ e_ rmX5_countWaysBehind s_ m_ args_ below_ meth_ c_ H locs 0 0 Q (F0 m_ 46 ls []) := by
          intro fuel
          induction fuel with
          | zero => intro s B3 A3 P3 Ml46 H locs ls hmu; exact absurd hmu (Nat.not_lt_zero _)
          | succ fuel ih46 =>
            intro s B3 A3 P3 Ml46 H locs ls hmu46 hv46_0 hB3 hs0 hA3 hP3 hm46_0 hm46_1 hm46_2 hfr46 hV hl
            have hwv := hAh v (by omega) (by omega)
            have hwr := wyW_r (by omega) (wyC_R f (by omega)) v (by omega) (by omega)
            have hB3z : wyC f v = 0 → beJ f v 0 B3 := fun q => by have e := hs0 q; rw [e] at hB3; exact hB3
            refine lv_aload_n hx_ hb_ dX5_countWaysBehind_46 rfl (lv_at hl 0 rfl) ?_
            have hc31 : Ml46 o = some (sObj 3 [.ref (o + 1), .ref (o + 2), .ref (o + 3), .ref (o + 4), .ref (o + 5), .ref (o + 6), .ref (o + 7), .ref (o + 8), .ref (o + 9), .int (sI L), .int (sI (f 568))]) := (((hfr46 o (by omega) (by omega) (by omega)).trans (hfr40 o (by omega) (by omega) (by omega))).trans ((congrFun hM28 o).trans (va_up_ne M19 _ (by omega)))).trans hc26
            refine sc_get (ci := 3) (C := RX5) (T := TX5) (n := 11) S hK hV inX5_ hc31 rfl 3 (by decide) (S.2.2.2.2 _ (List.mem_of_getElem? (i := 4) rfl)) rfl rfl dX5_countWaysBehind_47 ?_
            refine lv_iload_n hx_ hb_ dX5_countWaysBehind_50 rfl (lv_at hl 1 rfl) ?_
            have hc32 : Ml46 (o + 4) = some (sArr G 1024 Ah) := ((((((hfr46 (o + 4) (by omega) (by omega) (by omega)).trans (hfr40 (o + 4) (by omega) (by omega) (by omega))).trans ((congrFun hM28 (o + 4)).trans (va_up_ne M19 _ (by omega)))).trans (hf25 (o + 4) (by omega))).trans (hf16 (o + 4) (by omega))).trans (hf7 (o + 4) (by omega))).trans ho4
            refine sc_iald S hK hV hc32 (by omega) dX5_countWaysBehind_51 ?_
            refine sz_le (tgt := 121) S dX5_countWaysBehind_52 (by decide) (by omega) (fun c33 => ?_) (fun c33 => ?_)
            · refine si_inc (lv' := [(2, .int (sI (v + (-1)))), (0, .ref o), (3, .int (sI s))]) S dX5_countWaysBehind_121 hl (k := 1) rfl (by decide) rfl (fun ls hl => ?_)
              refine lv_goto (tgt := 40) hx_ hb_ dX5_countWaysBehind_124 (by decide) ?_
              exact ih40 (v + (-1)) B3 A3 P3 Ml46 _ _ _ (by omega) (by omega) (beI_z (by omega) (by have := hAh v (by omega) (by omega); omega) (hB3z (by have := hAh v (by omega) (by omega); omega))) (fun a r a1 a2 r1 r2 => by rw [hA3 a r a1 a2 r1 r2]; exact paF_z a1 (ed_0 (by have := hAh v (by omega) (by omega); omega))) (fun b a b1 b2 a1 a2 => by rw [hP3 b a b1 b2 a1 a2]; exact paF_z a1 (ed_0 (by have := hAh v (by omega) (by omega); omega))) hm46_0 hm46_1 hm46_2 (fun x q0 q1 q2 => (hfr46 x (by omega) (by omega) (by omega)).trans (hfr40 x (by omega) (by omega) (by omega))) hV (lv_sub hl [1, 0] rfl)
            · refine lv_iload_n hx_ hb_ dX5_countWaysBehind_55 rfl (lv_at hl 2 rfl) ?_
              refine lv_aload_n hx_ hb_ dX5_countWaysBehind_56 rfl (lv_at hl 0 rfl) ?_
              refine sc_get (ci := 3) (C := RX5) (T := TX5) (n := 11) S hK hV inX5_ hc31 rfl 10 (by decide) (S.2.2.2.2 _ (List.mem_of_getElem? (i := 5) rfl)) rfl rfl dX5_countWaysBehind_57 ?_
              refine sb_ge (tgt := 121) S dX5_countWaysBehind_60 (by decide) (by omega) (fun c34 => ?_) (fun c34 => ?_)
              · refine si_inc (lv' := [(2, .int (sI (v + (-1)))), (0, .ref o), (3, .int (sI s))]) S dX5_countWaysBehind_121 hl (k := 1) rfl (by decide) rfl (fun ls hl => ?_)
                refine lv_goto (tgt := 40) hx_ hb_ dX5_countWaysBehind_124 (by decide) ?_
                exact ih40 (v + (-1)) B3 A3 P3 Ml46 _ _ _ (by omega) (by omega) (beI_n (by omega) (by omega) (by omega) hB3) (fun a r a1 a2 r1 r2 => by rw [hA3 a r a1 a2 r1 r2]; exact paF_n a1 (by omega)) (fun b a b1 b2 a1 a2 => by rw [hP3 b a b1 b2 a1 a2]; exact paF_n a1 (by omega)) hm46_0 hm46_1 hm46_2 (fun x q0 q1 q2 => (hfr46 x (by omega) (by omega) (by omega)).trans (hfr40 x (by omega) (by omega) (by omega))) hV (lv_sub hl [1, 0] rfl)
              · refine lv_aload_n hx_ hb_ dX5_countWaysBehind_63 rfl (lv_at hl 0 rfl) ?_
                refine lv_iload_n hx_ hb_ dX5_countWaysBehind_64 rfl (lv_at hl 2 rfl) ?_
                refine lv_iload_n hx_ hb_ dX5_countWaysBehind_65 rfl (lv_at hl 1 rfl) ?_
                have hc35 : Ml46 (o + 3) = some (sArr G 10 Ha) := ((((((hfr46 (o + 3) (by omega) (by omega) (by omega)).trans (hfr40 (o + 3) (by omega) (by omega) (by omega))).trans ((congrFun hM28 (o + 3)).trans (va_up_ne M19 _ (by omega)))).trans (hf25 (o + 3) (by omega))).trans (hf16 (o + 3) (by omega))).trans (hf7 (o + 3) (by omega))).trans ho3
                refine sk_VP E hV (As := [.int (sI s), .int (sI v)]) (rest := []) (kX5_canBeNext l_ G b_ Ml46 N o L Ha f s v hc31 hc35 (by omega) (hH) (by omega) (by omega)) (cwV 2 S.2.2.2.2 gX5_countWaysBehind_X5_canBeNext rfl rfl rfl (by decide +kernel) ⟨Nat.le_of_ble_eq_true rfl, Nat.le_of_ble_eq_true rfl⟩) (ci := 3) hc31 rfl rfl rfl hl.1 (Nat.le_of_ble_eq_true rfl) dX5_countWaysBehind_66 (c1 := 0) (s1 := 0) ⟨⟨rfl, rfl⟩, by decide, by decide⟩ (fun H locs hV => ?_)
                refine sq_eq (tgt := 115) S dX5_countWaysBehind_69 (by decide) (fun h69 => ?_) (fun h69 => ?_)
                · refine si_inc (lv' := [(3, .int (sI (s + 1))), (0, .ref o), (2, .int (sI v))]) S dX5_countWaysBehind_115 hl (k := 2) rfl (by decide) rfl (fun ls hl => ?_)
                  refine lv_goto (tgt := 46) hx_ hb_ dX5_countWaysBehind_118 (by decide) ?_
                  exact ih46 (s + 1) B3 A3 P3 Ml46 _ _ _ (by omega) (by omega) (beJ_f (by omega) h69 hB3) (fun q => absurd q (by have := hAh v (by omega) (by omega); omega)) (fun a r a1 a2 r1 r2 => by rw [hA3 a r a1 a2 r1 r2, paF_s (by omega), edF_f h69]; rcases pif_cases (a = s ∧ pcI v = r) 0 0 with ⟨-, e⟩ | ⟨-, e⟩ <;> rw [e] <;> omega) (fun b a b1 b2 a1 a2 => by rw [hP3 b a b1 b2 a1 a2, paF_s (by omega), edF_f h69]; rcases pif_cases (a = s ∧ tb v b) 0 0 with ⟨-, e⟩ | ⟨-, e⟩ <;> rw [e] <;> omega) hm46_0 hm46_1 hm46_2 (fun x q0 q1 q2 => hfr46 x (by omega) (by omega) (by omega)) hV (lv_sub hl [1, 2, 0] rfl)
                · have hnx := nx_lt (n := f 568) (v := v) (s := s) (by omega) (by omega) (by omega) h69.1
                  have hps := p2_p s
                  have hgo := wy_go (by omega) (by omega) (by omega) h69 (by omega)
                  have her := ed_r (f := f) (by omega) (u := v) (s := s) (by omega) (by omega)
                  refine lv_iload_n hx_ hb_ dX5_countWaysBehind_72 rfl (lv_at hl 1 rfl) ?_
                  refine si_const S dX5_countWaysBehind_73 ?_
                  refine lv_iload_n hx_ hb_ dX5_countWaysBehind_74 rfl (lv_at hl 2 rfl) ?_
                  refine si_shl S dX5_countWaysBehind_75 ?_
                  refine si_or S dX5_countWaysBehind_76 ?_
                  rw [ior_p2 (by omega) (by omega) h69.1]
                  refine lv_istore (lv' := [(4, .int (sI (v + p2 s))), (0, .ref o), (2, .int (sI v)), (3, .int (sI s))]) hx_ hb_ dX5_countWaysBehind_77 hl (by decide) rfl (fun ls hl => ?_)
                  refine lv_aload_n hx_ hb_ dX5_countWaysBehind_79 rfl (lv_at hl 1 rfl) ?_
                  refine sc_get (ci := 3) (C := RX5) (T := TX5) (n := 11) S hK hV inX5_ hc31 rfl 4 (by decide) (S.2.2.2.2 _ (List.mem_of_getElem? (i := 1) rfl)) rfl rfl dX5_countWaysBehind_80 ?_
                  refine lv_iload_n hx_ hb_ dX5_countWaysBehind_83 rfl (lv_at hl 2 rfl) ?_
                  refine lv_dup2_11 hx_ hb_ dX5_countWaysBehind_84 rfl rfl ?_
                  refine sc_iald S hK hV hm46_0 (by omega) dX5_countWaysBehind_85 ?_
                  refine lv_aload_n hx_ hb_ dX5_countWaysBehind_86 rfl (lv_at hl 1 rfl) ?_
                  refine sc_get (ci := 3) (C := RX5) (T := TX5) (n := 11) S hK hV inX5_ hc31 rfl 4 (by decide) (S.2.2.2.2 _ (List.mem_of_getElem? (i := 1) rfl)) rfl rfl dX5_countWaysBehind_87 ?_
                  refine lv_iload hx_ hb_ dX5_countWaysBehind_90 (lv_at hl 0 rfl) ?_
                  refine sc_iald S hK hV hm46_0 (by omega) dX5_countWaysBehind_92 ?_
                  refine si_add S dX5_countWaysBehind_93 ?_
                  refine sc_iast S hK hV hm46_0 (by omega) dX5_countWaysBehind_94 (fun M36 H locs hM36 hV => ?_)
                  have hc37 : M36 (o + 5) = some (sArr G 1024 (iup B3 v ((B3 v) + (B3 (v + p2 s))))) := (congrFun hM36 (o + 5)).trans (va_up_self Ml46 (o + 5) _)
                  refine lv_aload_n hx_ hb_ dX5_countWaysBehind_95 rfl (lv_at hl 1 rfl) ?_
                  refine lv_iload_n hx_ hb_ dX5_countWaysBehind_96 rfl (lv_at hl 2 rfl) ?_
                  refine lv_iload_n hx_ hb_ dX5_countWaysBehind_97 rfl (lv_at hl 3 rfl) ?_
                  refine lv_aload_n hx_ hb_ dX5_countWaysBehind_98 rfl (lv_at hl 1 rfl) ?_
                  have hc38 : M36 o = some (sObj 3 [.ref (o + 1), .ref (o + 2), .ref (o + 3), .ref (o + 4), .ref (o + 5), .ref (o + 6), .ref (o + 7), .ref (o + 8), .ref (o + 9), .int (sI L), .int (sI (f 568))]) := ((congrFun hM36 o).trans (va_up_ne Ml46 _ (by omega))).trans hc31
                  refine sc_get (ci := 3) (C := RX5) (T := TX5) (n := 11) S hK hV inX5_ hc38 rfl 3 (by decide) (S.2.2.2.2 _ (List.mem_of_getElem? (i := 4) rfl)) rfl rfl dX5_countWaysBehind_99 ?_
                  refine lv_iload_n hx_ hb_ dX5_countWaysBehind_102 rfl (lv_at hl 2 rfl) ?_
                  have hc39 : M36 (o + 4) = some (sArr G 1024 Ah) := ((congrFun hM36 (o + 4)).trans (va_up_ne Ml46 _ (by omega))).trans hc32
                  refine sc_iald S hK hV hc39 (by omega) dX5_countWaysBehind_103 ?_
                  refine lv_aload_n hx_ hb_ dX5_countWaysBehind_104 rfl (lv_at hl 1 rfl) ?_
                  refine sc_get (ci := 3) (C := RX5) (T := TX5) (n := 11) S hK hV inX5_ hc38 rfl 4 (by decide) (S.2.2.2.2 _ (List.mem_of_getElem? (i := 1) rfl)) rfl rfl dX5_countWaysBehind_105 ?_
                  refine lv_iload hx_ hb_ dX5_countWaysBehind_108 (lv_at hl 0 rfl) ?_
                  refine sc_iald S hK hV hc37 (by omega) dX5_countWaysBehind_110 ?_
                  refine si_mul S dX5_countWaysBehind_111 ?_
                  rw [show Ah v * iup B3 v (B3 v + B3 (v + p2 s)) (v + p2 s) = edF f v s by rw [show iup B3 v (B3 v + B3 (v + p2 s)) (v + p2 s) = B3 (v + p2 s) from if_neg (by omega), hB3.1 _ (by omega) (by omega) (by omega) (Or.inl hgo), hwv]; unfold edF edg; rw [pif_t h69]]
                  have hc40 : M36 (o + 6) = some (sArr G 100 A3) := ((congrFun hM36 (o + 6)).trans (va_up_ne Ml46 _ (by omega))).trans hm46_1
                  have hc41 : M36 (o + 7) = some (sArr G 100 P3) := ((congrFun hM36 (o + 7)).trans (va_up_ne Ml46 _ (by omega))).trans hm46_2
                  refine sk_Vv E hV (As := [.int (sI v), .int (sI s), .int (sI (edF f v s))]) (rest := []) (kX5_addWays l_ G b_ M36 N o L A3 P3 f v s (edF f v s) hc38 hc40 hc41 (by omega) (by omega) (by omega) (her) (h69.1)) (cwV 3 S.2.2.2.2 gX5_countWaysBehind_X5_addWays rfl rfl rfl (by decide +kernel) ⟨Nat.le_of_ble_eq_true rfl, Nat.le_of_ble_eq_true rfl⟩) (ci := 3) hc38 rfl rfl rfl hl.1 (Nat.le_of_ble_eq_true rfl) dX5_countWaysBehind_112 (c1 := 0) (s1 := 0) ⟨⟨rfl, rfl⟩, by decide, by decide⟩ (fun M42 N43 H locs hp44 hV => ?_)
                  obtain ⟨A946, P947, hN48, hc49, hc50, hf51, hA952, hP953⟩ := hp44
                  rw [hN48] at hV
                  refine si_inc (lv' := [(3, .int (sI (s + 1))), (4, .int (sI (v + p2 s))), (0, .ref o), (2, .int (sI v))]) S dX5_countWaysBehind_115 hl (k := 3) rfl (by decide) rfl (fun ls hl => ?_)
                  refine lv_goto (tgt := 46) hx_ hb_ dX5_countWaysBehind_118 (by decide) ?_
                  have hc54 : M42 (o + 5) = some (sArr G 1024 (iup B3 v ((B3 v) + (B3 (v + p2 s))))) := (hf51 (o + 5) (by omega) (by omega)).trans hc37
                  exact ih46 (s + 1) (iup B3 v ((B3 v) + (B3 (v + p2 s)))) A946 P947 M42 _ _ _ (by omega) (by omega) (beJ_t (by omega) h69 (hB3.1 _ (by omega) (by omega) (by omega) (Or.inl hgo)) hB3) (fun q => absurd q (by have := hAh v (by omega) (by omega); omega)) (fun a r a1 a2 r1 r2 => by rw [hA952 a r a1 a2 r1 r2, hA3 a r a1 a2 r1 r2, paF_s (by omega)]) (fun b a b1 b2 a1 a2 => by rw [hP953 b a b1 b2 a1 a2, hP3 b a b1 b2 a1 a2, paF_s (by omega)]) hc54 hc49 hc50 (fun x q0 q1 q2 => ((hf51 x (by omega) (by omega)).trans ((congrFun hM36 x).trans (va_up_ne Ml46 _ (by omega)))).trans (hfr46 x (by omega) (by omega) (by omega))) hV (lv_sub hl [2, 3, 0] rfl)
        exact L46 _ 0 B2 A2 P2 Ml40 _ _ _ (Nat.lt_succ_self _) (by omega) (beJ_0 (by omega) hB2) (fun _ => rfl) (hA2) (hP2) hm40_0 hm40_1 hm40_2 (fun x q0 q1 q2 => rfl) hV (lv_sub hl [1, 2, 0] rfl)
  have hc55 : M28 (o + 6) = some (sArr G 100 (cpK At (fun _ => 0) 100)) := (((congrFun hM28 (o + 6)).trans (va_up_ne M19 _ (by omega))).trans (hf25 (o + 6) (by omega))).trans hc15
  have hc56 : M28 (o + 7) = some (sArr G 100 (cpK Pa (fun _ => 0) 100)) := ((congrFun hM28 (o + 7)).trans (va_up_ne M19 _ (by omega))).trans hc24
  exact L40 _ ((p2 (f 568) - 1) - 1) (iup (cpK Be (fun _ => 0) 1024) (p2 (f 568) - 1) 1) (cpK At (fun _ => 0) 100) (cpK Pa (fun _ => 0) 100) M28 _ _ _ (Nat.lt_succ_self _) (by omega) (beI_0 (by omega) (fun q a b => by show cpK Be (fun _ => 0) (1024 : Nat) q = 0; unfold cpK; rw [if_pos (by omega)])) (fun a r a1 a2 r1 r2 => by rw [show p2 (f 568) - 1 - 1 = p2 (f 568) - 2 by omega, paF_0 (by omega) (by omega)]; show cpK At (fun _ => 0) 100 _ = 0; unfold cpK; rw [if_pos (by omega)]) (fun b a b1 b2 a1 a2 => by rw [show p2 (f 568) - 1 - 1 = p2 (f 568) - 2 by omega, paF_0 (by omega) (by omega)]; show cpK Pa (fun _ => 0) 100 _ = 0; unfold cpK; rw [if_pos (by omega)]) hc29 hc55 hc56 (fun x q0 q1 q2 => rfl) hV (lv_sub hl [2, 0] rfl)
