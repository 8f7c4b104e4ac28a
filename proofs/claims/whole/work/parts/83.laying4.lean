/-! The best laying of all. -/
theorem why_0 {f p : sF} {s : Int} (hok : sOk f) (hs : 0 ≤ s ∧ s < f 568) : whyM f p s s = 0 ↔ fitC f (p s) (fun o => p o = p s) s := by
  have hSs := sOk_S hok s hs.1 hs.2
  have e1 : isum s (wyT f p s 1) = fsI f 20 (fun o => p o = p s) s := isum_c fun o a b => by
    show (if o ≠ s ∧ p o = p s then (if (1 : Int) = 1 then f (20 + o) else f (30 + o)) else 0) = pif (p o = p s) (f (20 + o)) 0
    by_cases q : p o = p s
    · rw [if_pos ⟨by omega, q⟩, if_pos rfl, pif_t q]
    · rw [if_neg (fun w => q w.2), pif_f q]
  have e2 : isum s (wyT f p s 2) = fsI f 30 (fun o => p o = p s) s := isum_c fun o a b => by
    show (if o ≠ s ∧ p o = p s then (if (2 : Int) = 1 then f (20 + o) else f (30 + o)) else 0) = pif (p o = p s) (f (30 + o)) 0
    by_cases q : p o = p s
    · rw [if_pos ⟨by omega, q⟩, if_neg (by omega), pif_t q]
    · rw [if_neg (fun w => q w.2), pif_f q]
  have e3 : (∃ o, 0 ≤ o ∧ o < s ∧ wyP f p s o) ↔ ¬ ∀ o, 0 ≤ o → o < s → p o = p s → ¬ dpK f o s := by
    constructor
    · rintro ⟨o, a, b, c, d, e⟩ h
      have hSo := sOk_S hok o a (by omega)
      exact h o a b d ((sOk_Ps hok _ _ (by omega) (by omega) (by omega) (by omega)).mp e)
    · intro h
      refine Classical.not_not.mp fun q => h fun o a b c d => q ⟨o, a, b, by omega, c, ?_⟩
      have hSo := sOk_S hok o a (by omega)
      exact (sOk_Ps hok _ _ (by omega) (by omega) (by omega) (by omega)).mp d
  unfold whyM fitC
  rw [e1, e2]
  by_cases q1 : f (150 + p s) < f (20 + s) + fsI f 20 (fun o => p o = p s) s
  · rw [pif_t q1]
    exact ⟨fun h => by omega, fun h => by have := h.1; omega⟩
  · rw [pif_f q1]
    by_cases q2 : f (154 + p s) < f (30 + s) + fsI f 30 (fun o => p o = p s) s
    · rw [pif_t q2]
      exact ⟨fun h => by omega, fun h => by have := h.2.1; omega⟩
    · rw [pif_f q2]
      by_cases q3 : ∃ o, 0 ≤ o ∧ o < s ∧ wyP f p s o
      · rw [pif_t q3]
        exact ⟨fun h => by omega, fun h => absurd h.2.2 (e3.mp q3)⟩
      · rw [pif_f q3]
        exact ⟨fun _ => ⟨by omega, by omega, Classical.not_not.mp fun w => q3 (e3.mpr w)⟩, fun _ => rfl⟩
theorem va_ok {f p : sF} (hok : sOk f) : vaP f 3 (p2 (f 568) - 1) p ↔ lyOk f p := by
  have hn := (sOk_N hok).1
  have ht : ∀ o, 0 ≤ o → o < f 568 → tb (p2 (f 568) - 1) o := fun o a b => (tb_full (by omega) a).mpr b
  constructor
  · rintro ⟨h1, h2⟩ s a b
    have h3 := h1 s a b (ht s a b)
    refine ⟨h3, (why_0 hok ⟨a, b⟩).mpr (fit_c (fun o x y => ?_) (h2 (p s) h3.1 h3.2 s a b ⟨ht s a b, rfl⟩))⟩
    exact ⟨fun w => w.2, fun w => ⟨ht o x (by omega), w⟩⟩
  · intro h
    refine ⟨fun s a b _ => (h s a b).1, fun e a b s s1 s2 s3 => ?_⟩
    have h4 := (why_0 hok ⟨s1, s2⟩).mp (h s s1 s2).2
    rw [s3.2] at h4
    exact fit_c (fun o x y => ⟨fun w => ⟨ht o x (by omega), w⟩, fun w => w.2⟩) h4
def tlI (n : Int) (p : sF) (j : Int) : Int := isum (n - j) (fun k => p (j + k) * w4 (j + k))
theorem tl_s {n j : Int} {p : sF} (h : j < n) : tlI n p j = p j * w4 j + tlI n p (j + 1) := by
  unfold tlI
  rw [show n - j = 1 + (n - (j + 1)) by omega, isum_ap _ (by omega) (by omega)]
  have h1 := isum_s (n := 0) (fun k => p (j + k) * w4 (j + k)) (by omega)
  rw [isum_0] at h1
  have h1 : isum 1 (fun k => p (j + k) * w4 (j + k)) = 0 + p (j + 0) * w4 (j + 0) := h1
  rw [h1, Int.add_zero, Int.zero_add]
  congr 1
  exact isum_c fun k _ _ => by
    show p (j + (1 + k)) * w4 (j + (1 + k)) = p (j + 1 + k) * w4 (j + 1 + k)
    rw [show j + (1 + k) = j + 1 + k by omega]
theorem tl_b {n : Int} {p : sF} (hn : 0 ≤ n ∧ n ≤ 10) (hp : ∀ s, 0 ≤ s → s < n → 0 ≤ p s ∧ p s ≤ 3) : ∀ m : Nat, ∀ j, 0 ≤ j → j ≤ 9 → n - j ≤ (m : Int) → 0 ≤ tlI n p (j + 1) ∧ tlI n p (j + 1) < w4 j := by
  have h0 : ∀ j, n ≤ j → tlI n p j = 0 := fun j a => by
    unfold tlI
    by_cases e : n = j
    · rw [e, Int.sub_self]; exact isum_0 _
    · exact isum_neg _ (by omega)
  intro m
  induction m with
  | zero =>
    intro j a b c
    have := w4_p j
    rw [h0 (j + 1) (by omega)]; omega
  | succ m ih =>
    intro j a b c
    have h1 := w4_p j
    by_cases e : n ≤ j + 1
    · rw [h0 (j + 1) e]; omega
    · have h2 := ih (j + 1) (by omega) (by omega) (by omega)
      have h3 := w4_s (s := j) (by omega)
      have h4 := hp (j + 1) (by omega) (by omega)
      have h5 : 0 ≤ p (j + 1) * w4 (j + 1) := Int.mul_nonneg h4.1 (by have := w4_p (j + 1); omega)
      have h6 : p (j + 1) * w4 (j + 1) ≤ 3 * w4 (j + 1) := Int.mul_le_mul_of_nonneg_right h4.2 (by have := w4_p (j + 1); omega)
      rw [tl_s (by omega)]
      omega
def dgI (n : Int) (p : sF) : Int := isum n (fun s => p s * w4 s)
theorem dg_sp {n j : Int} {p : sF} (hj : 0 ≤ j ∧ j < n) : dgI n p = isum j (fun s => p s * w4 s) + p j * w4 j + tlI n p (j + 1) := by
  unfold dgI
  have h := isum_ap (a := j) (b := n - j) (fun s => p s * w4 s) hj.1 (by omega)
  rw [show j + (n - j) = n by omega] at h
  have h2 := tl_s (n := n) (j := j) (p := p) hj.2
  have h3 : isum (n - j) (fun k => (fun s => p s * w4 s) (j + k)) = tlI n p j := rfl
  rw [h, h3, h2]
  omega
theorem dg_lt {n j : Int} {p q : sF} (hn : 0 ≤ n ∧ n ≤ 10) (hp : ∀ s, 0 ≤ s → s < n → 0 ≤ p s ∧ p s ≤ 3) (hq : ∀ s, 0 ≤ s → s < n → 0 ≤ q s ∧ q s ≤ 3) (hj : 0 ≤ j ∧ j < n) (he : ∀ i, 0 ≤ i → i < j → q i = p i) (hl : q j < p j) : dgI n q < dgI n p := by
  have e : isum j (fun s => q s * w4 s) = isum j (fun s => p s * w4 s) := isum_c fun i a b => by
    show q i * w4 i = p i * w4 i
    rw [he i a b]
  have h1 := tl_b hn hp 10 j hj.1 (by omega) (by omega)
  have h2 := tl_b hn hq 10 j hj.1 (by omega) (by omega)
  have h3 : (q j + 1) * w4 j ≤ p j * w4 j := Int.mul_le_mul_of_nonneg_right (by omega) (by have := w4_p j; omega)
  rw [Int.add_mul, Int.one_mul] at h3
  rw [dg_sp hj, dg_sp (p := p) hj, e]
  omega
theorem dg_r {n : Int} {p : sF} (hn : 0 ≤ n ∧ n ≤ 10) (hp : ∀ s, 0 ≤ s → s < n → 0 ≤ p s ∧ p s ≤ 3) : 0 ≤ dgI n p ∧ dgI n p < 1048576 := by
  by_cases e : n = 0
  · rw [e]; unfold dgI; rw [isum_0]; omega
  · have h1 := tl_b hn hp 10 0 (by omega) (by omega) (by omega)
    have h4 := hp 0 (by omega) (by omega)
    have h7 := w4_b (s := 0) (by omega)
    have h8 := w4_p 0
    have h5 : 0 ≤ p 0 * w4 0 := Int.mul_nonneg h4.1 (by omega)
    have h6 : p 0 * w4 0 ≤ 3 * w4 0 := Int.mul_le_mul_of_nonneg_right h4.2 (by omega)
    rw [dg_sp (j := 0) (by omega), isum_0]
    omega
theorem w4_dvd {s k : Int} (h : 0 ≤ s ∧ s < k ∧ k ≤ 9) : 4 * w4 k ∣ w4 s := by
  have h1 : 4 ^ ((9 - k).toNat + 1) ∣ 4 ^ (9 - s).toNat := Nat.pow_dvd_pow 4 (by omega)
  obtain ⟨c, hc⟩ := h1
  refine ⟨(c : Int), ?_⟩
  unfold w4
  rw [hc, Nat.pow_succ, Int.natCast_mul, Int.natCast_mul, Int.mul_comm (((4 ^ (9 - k).toNat : Nat)) : Int)]
  rfl
theorem w4_dvd2 {k : Int} (h : 0 ≤ k ∧ k ≤ 9) : 4 * w4 k ∣ 1048576 := by
  have h1 : 4 ^ ((9 - k).toNat + 1) ∣ 4 ^ 10 := Nat.pow_dvd_pow 4 (by omega)
  obtain ⟨c, hc⟩ := h1
  refine ⟨(c : Int), ?_⟩
  have h2 : (1048576 : Int) = ((4 ^ 10 : Nat) : Int) := rfl
  unfold w4
  rw [h2, hc, Nat.pow_succ, Int.natCast_mul, Int.natCast_mul, Int.mul_comm (((4 ^ (9 - k).toNat : Nat)) : Int)]
  rfl
theorem isum_dvd {n c : Int} {g : Int → Int} (h : ∀ k, 0 ≤ k → k < n → c ∣ g k) : c ∣ isum n g := by
  by_cases hn : 0 ≤ n
  · have key : ∀ m : Nat, (m : Int) ≤ n → c ∣ isum (m : Int) g := by
      intro m
      induction m with
      | zero => intro _; exact ⟨0, by rw [show ((0 : Nat) : Int) = 0 from rfl, isum_0, Int.mul_zero]⟩
      | succ m ih =>
        intro hm
        rw [show ((m + 1 : Nat) : Int) = (m : Int) + 1 by omega, isum_s _ (by omega)]
        exact Int.dvd_add (ih (by omega)) (h _ (by omega) (by omega))
    have := key n.toNat (by omega)
    rw [show ((n.toNat : Nat) : Int) = n by omega] at this
    exact this
  · exact ⟨0, by rw [isum_neg _ (by omega), Int.mul_zero]⟩
theorem dg_d {n k K : Int} {p : sF} (hn : 0 ≤ n ∧ n ≤ 10) (hp : ∀ s, 0 ≤ s → s < n → 0 ≤ p s ∧ p s ≤ 3) (hk : 0 ≤ k ∧ k < n) : (1048576 * K + dgI n p) / w4 k % 4 = p k := by
  have h1 := tl_b hn hp 10 k hk.1 (by omega) (by omega)
  have h2 := hp k hk.1 hk.2
  obtain ⟨x, hx⟩ := isum_dvd (n := k) (c := 4 * w4 k) (g := fun s => p s * w4 s) (fun s a b => Int.dvd_trans (w4_dvd ⟨a, b, by omega⟩) ⟨p s, Int.mul_comm _ _⟩)
  obtain ⟨y, hy⟩ := w4_dvd2 (k := k) (by omega)
  have h3 : 1048576 * K + dgI n p = tlI n p (k + 1) + w4 k * (4 * (y * K + x) + p k) := by
    rw [dg_sp hk, hx, hy, Int.mul_add, Int.mul_comm (p k) (w4 k)]
    have e1 : 4 * w4 k * y * K = w4 k * (4 * (y * K)) := by
      rw [Int.mul_comm 4 (w4 k), Int.mul_assoc, Int.mul_assoc]
    have e2 : 4 * w4 k * x = w4 k * (4 * x) := by rw [Int.mul_comm 4 (w4 k), Int.mul_assoc]
    rw [Int.mul_add, Int.mul_add, e1, e2]
    omega
  have h4 := w4_p k
  rw [h3, Int.add_mul_ediv_left _ _ (by omega), Int.ediv_eq_zero_of_lt h1.1 h1.2]
  omega
theorem co_dg {f p : sF} {B : Prop} (hn : 0 ≤ f 568 ∧ f 568 ≤ 10) : coS f B (p2 (f 568) - 1) p = 1048576 * pif B (lyO f p) 0 + dgI (f 568) p := by
  have h1 : coS f B (p2 (f 568) - 1) p = isum (f 568) (fun s => 1048576 * pif B (ohT f p s) 0 + p s * w4 s) := isum_c fun s a b => by
    show pif (tb (p2 (f 568) - 1) s) (pcD f B s (p s)) 0 = 1048576 * pif B (ohT f p s) 0 + p s * w4 s
    rw [pif_t ((tb_full (by omega) a).mpr b)]
    unfold pcD mvI ohT
    by_cases q : B
    · rw [pif_t q]
      by_cases w : f (50 + s) ≠ -1 ∧ f (50 + s) ≠ p s
      · rw [if_pos w, pif_t ⟨q, w⟩]; omega
      · rw [if_neg w, pif_f (fun r => w r.2)]; omega
    · rw [pif_f q, pif_f (fun r => q r.1)]; omega
  rw [h1, isum_add (fun s => 1048576 * pif B (ohT f p s) 0) (fun s => p s * w4 s)]
  show isum (f 568) (fun s => 1048576 * pif B (ohT f p s) 0) + dgI (f 568) p = _
  rw [← isum_mull, pif_mulr_isum]
  rfl
/-- what the price of the best one tells -/
theorem la_fin {f : sF} {B : Prop} {v : Int} (hok : sOk f) (h : beP f B 3 (p2 (f 568) - 1) v) : (v < 268435456 ↔ ∃ p, laP f B p) ∧ ((∃ p, laP f B p) → ∀ s, 0 ≤ s → s < f 568 → v / w4 s % 4 = laB f B s) := by
  have hn := (sOk_N hok).1
  have key : v < 268435456 → ∃ p, laP f B p ∧ v = coS f B (p2 (f 568) - 1) p := fun hv => by
    rcases h.1 with ⟨p, h1, h2⟩ | h1
    · have h3 := (va_ok hok).mp h1
      refine ⟨p, ⟨h3, fun q hq => ?_⟩, h2⟩
      have h4 := h.2 q ((va_ok hok).mpr hq)
      have hp3 : ∀ s, 0 ≤ s → s < f 568 → 0 ≤ p s ∧ p s ≤ 3 := fun s a b => (h3 s a b).1
      have hq3 : ∀ s, 0 ≤ s → s < f 568 → 0 ≤ q s ∧ q s ≤ 3 := fun s a b => (hq s a b).1
      have h5 := dg_r hn hp3
      have h6 := dg_r hn hq3
      rw [h2, co_dg hn, co_dg hn] at h4
      refine ⟨fun hB => ?_, fun hB => ?_⟩
      · rw [pif_t hB, pif_t hB] at h4; omega
      · have h7 : dgI (f 568) p ≤ dgI (f 568) q := by
          by_cases b : B
          · rw [pif_t b, pif_t b, hB b] at h4; omega
          · rw [pif_f b, pif_f b] at h4; omega
        rcases lex_t (f 568) p q with w | ⟨j, j1, j2, j3, j4⟩
        · exact w
        · have := dg_lt hn hp3 hq3 ⟨j1, j2⟩ j3 j4
          omega
    · omega
  constructor
  · refine ⟨fun hv => ?_, fun ⟨p, hp⟩ => ?_⟩
    · obtain ⟨p, hp, _⟩ := key hv; exact ⟨p, hp⟩
    · have h1 := h.2 p ((va_ok hok).mpr hp.1)
      have h2 := co_r (B := B) (u := p2 (f 568) - 1) (p := p) hn (fun s a b _ => (hp.1 s a b).1)
      omega
  · rintro ⟨p, hp⟩ s a b
    have h1 := h.2 p ((va_ok hok).mpr hp.1)
    have h2 := co_r (B := B) (u := p2 (f 568) - 1) (p := p) hn (fun s a b _ => (hp.1 s a b).1)
    obtain ⟨q, hq, e⟩ := key (by omega)
    rw [(la_eq hq).2.1 s a b, e, co_dg hn]
    exact dg_d hn (fun s a b => (hq.1 s a b).1) ⟨a, b⟩
def bdP (f : sF) (B : Prop) (d v : Int) (B0 B2 : sF) : Prop := (∀ x, v < x → x < p2 (f 568) → beP f B d x (B2 x)) ∧ ∀ x, 0 ≤ x → x ≤ v → B2 x = B0 x
theorem bd_s {f B0 B2 : sF} {B : Prop} {d v m : Int} (h : bdP f B d v B0 B2) (hm : beP f B d v m) : bdP f B d (v - 1) B0 (iup B2 v m) := ⟨fun x a b => by
  unfold iup
  by_cases e : x = v
  · rw [if_pos e, e]; exact hm
  · rw [if_neg e]; exact h.1 x (by omega) b, fun x a b => by rw [show iup B2 v m x = B2 x from if_neg (by omega)]; exact h.2 x a (by omega)⟩

abbrev rmX3_addDrawer : Room := { frames := 1, cells := 0, slots := 0, locals := 40 }
set_option maxHeartbeats 4000000 in
set_option maxRecDepth 100000 in
theorem kX3_addDrawer (l_ : Launch) (G : sG) (b_ : Nat) (M : sM) (N : Nat) (y : Nat) (co : Int) (He Bs f : sF) (d l : Int) (B : Prop) (hy0 : M y = some (sObj 2 [.ref (y + 1), .ref (y + 2), .ref (y + 3), .ref (y + 4), .ref (y + 5), .int (sI (f 568)), .int (sI co)])) (hy3 : M (y + 3) = some (sArr G 1024 He)) (hy4 : M (y + 4) = some (sArr G 1024 Bs)) (hok : sOk f) (hd : 1 ≤ d ∧ d ≤ 3) (hl : 0 ≤ l ∧ l < p2 (f 568)) (hHe : hlB f B d (p2 (f 568)) He) (hBs : beA f B (d - 1) Bs) : cV l_ yX3_addDrawer wsX3_addDrawer rmX3_addDrawer G b_ M N [.ref y, .int (sI l)] (fun M1 N1 => ∃ B9 : Int → Int, N1 = N ∧ M1 (y + 4) = some (sArr G 1024 B9) ∧ (∀ x : Nat, ¬ (x = y + 4) → M1 x = M x) ∧ (∀ x, l ≤ x → x < p2 (f 568) → beP f B d x (B9 x))) := by
  refine sE.ofV (cc := cX3_addDrawer) (nL := 7) (ret := none) (by decide) rfl (Nat.le_of_ble_eq_true rfl) ?_
  intro p_ e_ s_ m_ args_ below_ meth_ c_ ls Q hQ E hl
  have E : sE p_ l_ e_ rmX3_addDrawer s_ m_ args_ below_ meth_ c_ cX3_addDrawer 7 wsX3_addDrawer RX3 "addDrawer" none G b_ M N := E
  have S := E.1
  have hx_ := S.1
  have hb_ := S.2.1
  have hK := E.2.2.2.2.1
  have hV := E.2.2.2.2.2.2
  have hl : lv_has ls 7 [(0, .ref y), (1, .int (sI l))] := hl
  have inX3_ : ∀ w ∈ wsX30, w ∈ wsX3_addDrawer := fun _ h => List.mem_cons_of_mem _ (List.mem_append_right _ h)
  have kn0 := sOk_N hok
  have hp1 := p2_p (f 568)
  have hp2 := p2_10 (n := f 568) (by omega)
  refine si_const S dX3_addDrawer_0 ?_
  refine lv_aload_n hx_ hb_ dX3_addDrawer_1 rfl (lv_at hl 0 rfl) ?_
  refine sc_get (ci := 2) (C := RX3) (T := TX3) (n := 7) S hK hV inX3_ hy0 rfl 5 (by decide) (S.2.2.2.2 _ (List.mem_of_getElem? (i := 1) rfl)) rfl rfl dX3_addDrawer_2 ?_
  refine si_shl S dX3_addDrawer_5 ?_
  rw [ishl_p2 (k := f 568) (by omega)]
  refine si_const S dX3_addDrawer_6 ?_
  refine si_sub S dX3_addDrawer_7 ?_
  refine lv_istore_n (lv' := [(2, .int (sI ((p2 (f 568)) - 1))), (0, .ref y), (1, .int (sI l))]) hx_ hb_ dX3_addDrawer_8 rfl hl (by decide) rfl (fun ls hl => ?_)
  refine lv_iload_n hx_ hb_ dX3_addDrawer_9 rfl (lv_at hl 0 rfl) ?_
  refine lv_istore_n (lv' := [(3, .int (sI ((p2 (f 568)) - 1))), (2, .int (sI ((p2 (f 568)) - 1))), (0, .ref y), (1, .int (sI l))]) hx_ hb_ dX3_addDrawer_10 rfl hl (by decide) rfl (fun ls hl => ?_)
  have L11 : ∀ (fuel : Nat) (v : Int) (B2 : Int → Int) (Ml11 : sM) (H : Heap) (locs : List Loc) (ls : Array Slot), ((v + 1).toNat) < fuel → (l - 1 ≤ v ∧ v < p2 (f 568)) → (bdP f B d v Bs B2) → (Ml11 (y + 4) = some (sArr G 1024 B2)) → (∀ x : Nat, ¬ (x = y + 4) → Ml11 x = M x) → sV G b_ Ml11 N s_ H locs → lv_has ls 7 [(0, .ref y), (1, .int (sI l)), (3, .int (sI v))] → W p_ l_ e_ rmX3_addDrawer s_ m_ args_ below_ meth_ c_ H locs 0 0 Q (F0 m_ 11 ls []) := by
    intro fuel
    induction fuel with
    | zero => intro v B2 Ml11 H locs ls hmu; exact absurd hmu (Nat.not_lt_zero _)
    | succ fuel ih11 =>
      intro v B2 Ml11 H locs ls hmu11 hv11_0 hB hm11_0 hfr11 hV hl
      refine lv_iload_n hx_ hb_ dX3_addDrawer_11 rfl (lv_at hl 2 rfl) ?_
      refine lv_iload_n hx_ hb_ dX3_addDrawer_12 rfl (lv_at hl 1 rfl) ?_
      refine sb_lt (tgt := 87) S dX3_addDrawer_13 (by decide) (by omega) (fun c1 => ?_) (fun c1 => ?_)
      · exact sr_v E hQ dX3_addDrawer_87 ⟨Nat.le_of_ble_eq_true rfl, Nat.le_of_ble_eq_true rfl⟩ hV (⟨B2, rfl, hm11_0, fun x q0 => hfr11 x (by omega), fun x a b => hB.1 x (by omega) b⟩)
      · refine lv_aload_n hx_ hb_ dX3_addDrawer_16 rfl (lv_at hl 0 rfl) ?_
        have hc2 : Ml11 y = some (sObj 2 [.ref (y + 1), .ref (y + 2), .ref (y + 3), .ref (y + 4), .ref (y + 5), .int (sI (f 568)), .int (sI co)]) := (hfr11 y (by omega)).trans hy0
        refine sc_get (ci := 2) (C := RX3) (T := TX3) (n := 7) S hK hV inX3_ hc2 rfl 3 (by decide) (S.2.2.2.2 _ (List.mem_of_getElem? (i := 2) rfl)) rfl rfl dX3_addDrawer_17 ?_
        refine lv_iload_n hx_ hb_ dX3_addDrawer_20 rfl (lv_at hl 2 rfl) ?_
        refine sc_iald S hK hV hm11_0 (by omega) dX3_addDrawer_21 ?_
        refine lv_istore (lv' := [(4, .int (sI (B2 v))), (0, .ref y), (1, .int (sI l)), (3, .int (sI v))]) hx_ hb_ dX3_addDrawer_22 hl (by decide) rfl (fun ls hl => ?_)
        have hBv := be_r (by omega) (by omega) (hBs v (by omega) (by omega))
        rw [← hB.2 v (by omega) (by omega)] at hBv
        refine lv_iload_n hx_ hb_ dX3_addDrawer_24 rfl (lv_at hl 3 rfl) ?_
        refine lv_istore (lv' := [(5, .int (sI v)), (4, .int (sI (B2 v))), (0, .ref y), (1, .int (sI l)), (3, .int (sI v))]) hx_ hb_ dX3_addDrawer_25 hl (by decide) rfl (fun ls hl => ?_)
        have L27 : ∀ (fuel : Nat) (m : Int) (q : Int)  (H : Heap) (locs : List Loc) (ls : Array Slot), (q.toNat) < fuel → (0 ≤ q ∧ q ≤ v ∧ 0 ≤ m ∧ m ≤ 268435456) → (∀ s, 0 ≤ s → tb q s → tb v s) → (lsP f B d v q m) → sV G b_ Ml11 N s_ H locs → lv_has ls 7 [(0, .ref y), (1, .int (sI l)), (3, .int (sI v)), (4, .int (sI m)), (5, .int (sI q))] → W p_ l_ e_ rmX3_addDrawer s_ m_ args_ below_ meth_ c_ H locs 0 0 Q (F0 m_ 27 ls []) := by
          intro fuel
          induction fuel with
          | zero => intro m q H locs ls hmu; exact absurd hmu (Nat.not_lt_zero _)
          | succ fuel ih27 =>
            intro m q H locs ls hmu27 hv27_0 hq hm  hV hl
            refine lv_iload hx_ hb_ dX3_addDrawer_27 (lv_at hl 4 rfl) ?_
            refine sz_le (tgt := 73) S dX3_addDrawer_29 (by decide) (by omega) (fun c3 => ?_) (fun c3 => ?_)
            · refine lv_aload_n hx_ hb_ dX3_addDrawer_73 rfl (lv_at hl 0 rfl) ?_
              refine sc_get (ci := 2) (C := RX3) (T := TX3) (n := 7) S hK hV inX3_ hc2 rfl 3 (by decide) (S.2.2.2.2 _ (List.mem_of_getElem? (i := 2) rfl)) rfl rfl dX3_addDrawer_74 ?_
              refine lv_iload_n hx_ hb_ dX3_addDrawer_77 rfl (lv_at hl 2 rfl) ?_
              refine lv_iload hx_ hb_ dX3_addDrawer_78 (lv_at hl 3 rfl) ?_
              refine sc_iast S hK hV hm11_0 (by omega) dX3_addDrawer_80 (fun M4 H locs hM4 hV => ?_)
              have hc5 : M4 (y + 4) = some (sArr G 1024 (iup B2 v m)) := (congrFun hM4 (y + 4)).trans (va_up_self Ml11 (y + 4) _)
              refine si_inc (lv' := [(3, .int (sI (v + (-1)))), (0, .ref y), (1, .int (sI l)), (4, .int (sI m)), (5, .int (sI q))]) S dX3_addDrawer_81 hl (k := 2) rfl (by decide) rfl (fun ls hl => ?_)
              refine lv_goto (tgt := 11) hx_ hb_ dX3_addDrawer_84 (by decide) ?_
              exact ih11 (v + (-1)) (iup B2 v m) M4 _ _ _ (by omega) (by omega) (bd_s hB (ls_e (by omega) ⟨by omega, by omega⟩ (by omega) hm)) hc5 (fun x q0 => ((congrFun hM4 x).trans (va_up_ne Ml11 _ (by omega))).trans (hfr11 x (by omega))) hV (lv_sub hl [1, 2, 0] rfl)
            · refine lv_aload_n hx_ hb_ dX3_addDrawer_32 rfl (lv_at hl 0 rfl) ?_
              refine sc_get (ci := 2) (C := RX3) (T := TX3) (n := 7) S hK hV inX3_ hc2 rfl 2 (by decide) (S.2.2.2.2 _ (List.mem_of_getElem? (i := 3) rfl)) rfl rfl dX3_addDrawer_33 ?_
              refine lv_iload hx_ hb_ dX3_addDrawer_36 (lv_at hl 4 rfl) ?_
              have hc6 : Ml11 (y + 3) = some (sArr G 1024 He) := (hfr11 (y + 3) (by omega)).trans hy3
              refine sc_iald S hK hV hc6 (by omega) dX3_addDrawer_38 ?_
              refine lv_aload_n hx_ hb_ dX3_addDrawer_39 rfl (lv_at hl 0 rfl) ?_
              refine sc_get (ci := 2) (C := RX3) (T := TX3) (n := 7) S hK hV inX3_ hc2 rfl 3 (by decide) (S.2.2.2.2 _ (List.mem_of_getElem? (i := 2) rfl)) rfl rfl dX3_addDrawer_40 ?_
              refine lv_iload_n hx_ hb_ dX3_addDrawer_43 rfl (lv_at hl 2 rfl) ?_
              refine lv_iload hx_ hb_ dX3_addDrawer_44 (lv_at hl 4 rfl) ?_
              refine si_xor S dX3_addDrawer_46 ?_
              have hxt : ∀ s, 0 ≤ s → (tb (ixor v q) s ↔ tb v s ∧ ¬ tb q s) := fun s a => tb_xor (by omega) (by omega) (hq s a)
              have hxr := ixor_r31 (a := v) (b := q) (by omega) (by omega)
              have hxv : ixor v q ≤ v := sub_n hxr (by omega) (fun s a w => ((hxt s a).mp w).1)
              have hh := hHe q (by omega) (by omega)
              have hy := hBs (ixor v q) (by omega) (by omega)
              have hhr := hl_r (by omega) (by omega) hh
              have hyr := be_r (by omega) (by omega) hy
              refine sc_iald S hK hV hm11_0 (by omega) dX3_addDrawer_47 ?_
              rw [hB.2 (ixor v q) (by omega) (by omega)]
              refine si_add S dX3_addDrawer_48 ?_
              refine lv_istore (lv' := [(6, .int (sI ((He q) + (Bs (ixor v q))))), (0, .ref y), (1, .int (sI l)), (3, .int (sI v)), (4, .int (sI m)), (5, .int (sI q))]) hx_ hb_ dX3_addDrawer_49 hl (by decide) rfl (fun ls hl => ?_)
              refine lv_iload hx_ hb_ dX3_addDrawer_51 (lv_at hl 0 rfl) ?_
              refine lv_iload hx_ hb_ dX3_addDrawer_53 (lv_at hl 4 rfl) ?_
              refine sb_ge (tgt := 62) S dX3_addDrawer_55 (by decide) (by omega) (fun c7 => ?_) (fun c7 => ?_)
              · refine lv_iload hx_ hb_ dX3_addDrawer_62 (lv_at hl 5 rfl) ?_
                refine si_const S dX3_addDrawer_64 ?_
                refine si_sub S dX3_addDrawer_65 ?_
                refine lv_iload_n hx_ hb_ dX3_addDrawer_66 rfl (lv_at hl 3 rfl) ?_
                refine si_and S dX3_addDrawer_67 ?_
                have hq2t : ∀ s, 0 ≤ s → (tb (iand (q - 1) v) s ↔ tb (q - 1) s ∧ tb v s) := fun s a => tb_and (by omega) (by omega)
                have hq2r := iand_r31 (a := q - 1) (b := v) (by omega) (by omega)
                have hq2l : iand (q - 1) v ≤ q - 1 := sub_n hq2r.1 (by omega) (fun s a w => ((hq2t s a).mp w).1)
                refine lv_istore (lv' := [(5, .int (sI (iand (q - 1) v))), (6, .int (sI ((He q) + (Bs (ixor v q))))), (0, .ref y), (1, .int (sI l)), (3, .int (sI v)), (4, .int (sI m))]) hx_ hb_ dX3_addDrawer_68 hl (by decide) rfl (fun ls hl => ?_)
                refine lv_goto (tgt := 27) hx_ hb_ dX3_addDrawer_70 (by decide) ?_
                exact ih27 m (iand (q - 1) v) _ _ _ (by omega) (by omega) (fun s a w => ((hq2t s a).mp w).2) (ls_s hd (by omega) ⟨by omega, by omega⟩ ⟨by omega, by omega⟩ hq hxt hh hy (by rw [if_neg (by omega)]) ⟨by omega, by omega⟩ (by omega) ⟨hq2r.1, hq2t⟩ hm) hV (lv_sub hl [2, 3, 4, 5, 0] rfl)
              · refine lv_iload hx_ hb_ dX3_addDrawer_58 (lv_at hl 0 rfl) ?_
                refine lv_istore (lv' := [(4, .int (sI ((He q) + (Bs (ixor v q))))), (6, .int (sI ((He q) + (Bs (ixor v q))))), (0, .ref y), (1, .int (sI l)), (3, .int (sI v)), (5, .int (sI q))]) hx_ hb_ dX3_addDrawer_60 hl (by decide) rfl (fun ls hl => ?_)
                refine lv_iload hx_ hb_ dX3_addDrawer_62 (lv_at hl 5 rfl) ?_
                refine si_const S dX3_addDrawer_64 ?_
                refine si_sub S dX3_addDrawer_65 ?_
                refine lv_iload_n hx_ hb_ dX3_addDrawer_66 rfl (lv_at hl 4 rfl) ?_
                refine si_and S dX3_addDrawer_67 ?_
                have hq2t : ∀ s, 0 ≤ s → (tb (iand (q - 1) v) s ↔ tb (q - 1) s ∧ tb v s) := fun s a => tb_and (by omega) (by omega)
                have hq2r := iand_r31 (a := q - 1) (b := v) (by omega) (by omega)
                have hq2l : iand (q - 1) v ≤ q - 1 := sub_n hq2r.1 (by omega) (fun s a w => ((hq2t s a).mp w).1)
                refine lv_istore (lv' := [(5, .int (sI (iand (q - 1) v))), (4, .int (sI ((He q) + (Bs (ixor v q))))), (6, .int (sI ((He q) + (Bs (ixor v q))))), (0, .ref y), (1, .int (sI l)), (3, .int (sI v))]) hx_ hb_ dX3_addDrawer_68 hl (by decide) rfl (fun ls hl => ?_)
                refine lv_goto (tgt := 27) hx_ hb_ dX3_addDrawer_70 (by decide) ?_
                exact ih27 ((He q) + (Bs (ixor v q))) (iand (q - 1) v) _ _ _ (by omega) (by omega) (fun s a w => ((hq2t s a).mp w).2) (ls_s hd (by omega) ⟨by omega, by omega⟩ ⟨by omega, by omega⟩ hq hxt hh hy (by rw [if_pos (by omega)]) ⟨by omega, by omega⟩ (by omega) ⟨hq2r.1, hq2t⟩ hm) hV (lv_sub hl [3, 4, 5, 1, 0] rfl)
        exact L27 _ (B2 v) v _ _ _ (Nat.lt_succ_self _) (by omega) (fun s _ w => w) (ls_0 (by omega) (by rw [hB.2 v (by omega) (by omega)]; exact hBs v (by omega) (by omega))) hV (lv_sub hl [2, 3, 4, 1, 0] rfl)
  exact L11 _ ((p2 (f 568)) - 1) Bs M _ _ _ (Nat.lt_succ_self _) (by omega) (⟨fun x a b => by omega, fun x a b => rfl⟩) hy4 (fun x q0 => rfl) hV (lv_sub hl [2, 3, 0] rfl)

abbrev rmX3_isFound : Room := { frames := 5, cells := 0, slots := 0, locals := 136 }
set_option maxHeartbeats 4000000 in
set_option maxRecDepth 100000 in
theorem kX3_isFound (l_ : Launch) (G : sG) (b_ : Nat) (M : sM) (N : Nat) (y a : Nat) (c co : Int) (Sz Wt He Bs Pr f : sF) (B : Prop) (hy0 : M y = some (sObj 2 [.ref (y + 1), .ref (y + 2), .ref (y + 3), .ref (y + 4), .ref (y + 5), .int (sI c), .int (sI co)])) (hy1 : M (y + 1) = some (sArr G 1024 Sz)) (hy2 : M (y + 2) = some (sArr G 1024 Wt)) (hy3 : M (y + 3) = some (sArr G 1024 He)) (hy4 : M (y + 4) = some (sArr G 1024 Bs)) (hy5 : M (y + 5) = some (sArr G 10 Pr)) (hst : stC G M a f) (hok : sOk f) (hne : y + 6 ≤ a ∨ a + 15 ≤ y) : cI l_ yX3_isFound wsX3_isFound rmX3_isFound G b_ M N [.ref y, .ref a, .int (sI (bI B))] (fun z_ M1 N1 => ∃ C9 : Int, ∃ Z9 : Int → Int, ∃ W9 : Int → Int, ∃ H9 : Int → Int, ∃ B9 : Int → Int, ∃ P9 : Int → Int, z_ = bI (∃ p, laP f B p) ∧ N1 = N ∧ M1 y = some (sObj 2 [.ref (y + 1), .ref (y + 2), .ref (y + 3), .ref (y + 4), .ref (y + 5), .int (sI (f 568)), .int (sI C9)]) ∧ M1 (y + 1) = some (sArr G 1024 Z9) ∧ M1 (y + 2) = some (sArr G 1024 W9) ∧ M1 (y + 3) = some (sArr G 1024 H9) ∧ M1 (y + 4) = some (sArr G 1024 B9) ∧ M1 (y + 5) = some (sArr G 10 P9) ∧ (∀ x : Nat, ¬ (x = y) → ¬ (x = y + 1) → ¬ (x = y + 2) → ¬ (x = y + 3) → ¬ (x = y + 4) → ¬ (x = y + 5) → M1 x = M x) ∧ (0 ≤ C9 ∧ C9 ≤ 268435456) ∧ ((∃ p, laP f B p) → ∀ s, 0 ≤ s → s < f 568 → C9 / w4 s % 4 = laB f B s)) := by
  refine sE.ofI (cc := cX3_isFound) (nL := 5) (ret := (some .boolean)) (by decide) rfl (Nat.le_of_ble_eq_true rfl) ?_
  intro p_ e_ s_ m_ args_ below_ meth_ c_ ls Q hQ E hl
  have E : sE p_ l_ e_ rmX3_isFound s_ m_ args_ below_ meth_ c_ cX3_isFound 5 wsX3_isFound RX3 "isFound" (some .boolean) G b_ M N := E
  have S := E.1
  have hx_ := S.1
  have hb_ := S.2.1
  have hK := E.2.2.2.2.1
  have hV := E.2.2.2.2.2.2
  have hl : lv_has ls 5 [(0, .ref y), (1, .ref a), (2, .int (sI (bI B)))] := hl
  have inX6_ : ∀ w ∈ wsX60, w ∈ wsX3_isFound := fun _ h => List.mem_cons_of_mem _ (List.mem_append_left _ (List.mem_append_left _ (List.mem_append_right _ h)))
  have inX3_ : ∀ w ∈ wsX30, w ∈ wsX3_isFound := fun _ h => List.mem_cons_of_mem _ (List.mem_append_left _ (List.mem_append_right _ h))
  have inX8_ : ∀ w ∈ wsX80, w ∈ wsX3_isFound := fun _ h => List.mem_cons_of_mem _ (List.mem_append_right _ h)
  have kn0 := sOk_N hok
  have hp1 := p2_p (f 568)
  have hp2 := p2_10 (n := f 568) (by omega)
  refine lv_aload_n hx_ hb_ dX3_isFound_0 rfl (lv_at hl 0 rfl) ?_
  refine lv_aload_n hx_ hb_ dX3_isFound_1 rfl (lv_at hl 1 rfl) ?_
  refine sc_getN (ci := 4) (C := RX6) (T := TX6) (n := 8) S hK hV inX6_ (hst).1 rfl 0 (by decide) (E.2.2.2.2.2.1.1.2.1 _ (List.mem_of_getElem? (i := 1) rfl)) rfl rfl dX3_isFound_2 ?_
  refine sk_VP E hV (As := []) (rest := [.ref y]) (kTs l_ G b_ M N (a + 1) 7 (f 568) 70 (tvS f) ((hst).2.1)) (cwV 0 S.2.2.2.2 gX3_isFound_X8_size rfl rfl rfl (by decide +kernel) ⟨Nat.le_of_ble_eq_true rfl, Nat.le_of_ble_eq_true rfl⟩) (ci := 6) ((hst).2.1).1 rfl rfl rfl hl.1 (Nat.le_of_ble_eq_true rfl) dX3_isFound_5 (c1 := 0) (s1 := 0) ⟨⟨rfl, rfl⟩, by decide, by decide⟩ (fun H locs hV => ?_)
  refine si_bipush S dX3_isFound_8 (by decide) ?_
  refine si_min S hl.1 (S.2.2.2.2 _ (List.mem_of_getElem? (i := 1) rfl)) (S.2.2.2.2 _ (List.mem_of_getElem? (i := 2) rfl)) (S.2.2.2.2 _ (List.mem_of_getElem? (i := 3) rfl)) (S.2.2.2.2 _ (List.mem_of_getElem? (i := 4) rfl)) ⟨by decide, Nat.le_of_ble_eq_true rfl, by decide, by decide⟩ (by omega) dX3_isFound_10 ?_
  rw [show min (f 568) 10 = f 568 by omega]
  refine sc_put (ci := 2) (C := RX3) (T := TX3) (n := 7) S hK hV inX3_ tyX3_ok nmX3 hy0 rfl 5 (by decide) (S.2.2.2.2 _ (List.mem_of_getElem? (i := 5) rfl)) rfl rfl rfl rfl (Nat.le_of_ble_eq_true rfl) dX3_isFound_13 (fs1 := [.ref (y + 1), .ref (y + 2), .ref (y + 3), .ref (y + 4), .ref (y + 5), .int (sI (f 568)), .int (sI co)]) rfl (fun M1 H locs hM1 hV => ?_)
  have hc2 : M1 y = some (sObj 2 [.ref (y + 1), .ref (y + 2), .ref (y + 3), .ref (y + 4), .ref (y + 5), .int (sI (f 568)), .int (sI co)]) := (congrFun hM1 y).trans (va_up_self M y _)
  refine si_const S dX3_isFound_16 ?_
  refine lv_aload_n hx_ hb_ dX3_isFound_17 rfl (lv_at hl 0 rfl) ?_
  refine sc_get (ci := 2) (C := RX3) (T := TX3) (n := 7) S hK hV inX3_ hc2 rfl 5 (by decide) (S.2.2.2.2 _ (List.mem_of_getElem? (i := 5) rfl)) rfl rfl dX3_isFound_18 ?_
  refine si_shl S dX3_isFound_21 ?_
  rw [ishl_p2 (k := f 568) (by omega)]
  refine si_const S dX3_isFound_22 ?_
  refine si_sub S dX3_isFound_23 ?_
  refine lv_istore_n (lv' := [(3, .int (sI ((p2 (f 568)) - 1))), (0, .ref y), (1, .ref a), (2, .int (sI (bI B)))]) hx_ hb_ dX3_isFound_24 rfl hl (by decide) rfl (fun ls hl => ?_)
  refine lv_aload_n hx_ hb_ dX3_isFound_25 rfl (lv_at hl 1 rfl) ?_
  refine lv_aload_n hx_ hb_ dX3_isFound_26 rfl (lv_at hl 2 rfl) ?_
  have hc3 : M1 (y + 1) = some (sArr G 1024 Sz) := ((congrFun hM1 (y + 1)).trans (va_up_ne M _ (by omega))).trans hy1
  have hc4 : M1 (y + 2) = some (sArr G 1024 Wt) := ((congrFun hM1 (y + 2)).trans (va_up_ne M _ (by omega))).trans hy2
  have hc5 : stC G M1 a f := hst.fr (fun x q8 q9 => (congrFun hM1 x).trans (va_up_ne M _ (by omega)))
  refine sk_Vv E hV (As := [.ref a]) (rest := []) (kX3_sumSets l_ G b_ M1 N y a co Sz Wt f hc2 hc3 hc4 hc5 (by omega) (by omega)) (cwV 1 S.2.2.2.2 gX3_isFound_X3_sumSets rfl rfl rfl (by decide +kernel) ⟨Nat.le_of_ble_eq_true rfl, Nat.le_of_ble_eq_true rfl⟩) (ci := 2) hc2 rfl rfl rfl hl.1 (Nat.le_of_ble_eq_true rfl) dX3_isFound_27 (c1 := 0) (s1 := 0) ⟨⟨rfl, rfl⟩, by decide, by decide⟩ (fun M6 N7 H locs hp8 hV => ?_)
  obtain ⟨Z910, W911, hN12, hc13, hc14, hf15, hZ916, hW917⟩ := hp8
  rw [hN12] at hV
  refine si_const S dX3_isFound_30 ?_
  refine lv_istore (lv' := [(4, .int (sI 0)), (3, .int (sI ((p2 (f 568)) - 1))), (0, .ref y), (1, .ref a), (2, .int (sI (bI B)))]) hx_ hb_ dX3_isFound_31 hl (by decide) rfl (fun ls hl => ?_)
  have L33 : ∀ (fuel : Nat) (d : Int) (H2 : Int → Int) (B2 : Int → Int) (P2 : Int → Int) (Ml33 : sM) (H : Heap) (locs : List Loc) (ls : Array Slot), ((4 - d).toNat) < fuel → (0 ≤ d ∧ d ≤ 4) → ((1 ≤ d → d ≤ 3 → beA f B (d - 1) B2) ∧ (d = 4 → beP f B 3 (p2 (f 568) - 1) (B2 (p2 (f 568) - 1)))) → (Ml33 (y + 3) = some (sArr G 1024 H2)) → (Ml33 (y + 4) = some (sArr G 1024 B2)) → (Ml33 (y + 5) = some (sArr G 10 P2)) → (∀ x : Nat, ¬ (x = y + 3) → ¬ (x = y + 4) → ¬ (x = y + 5) → Ml33 x = M6 x) → sV G b_ Ml33 N s_ H locs → lv_has ls 5 [(0, .ref y), (1, .ref a), (2, .int (sI (bI B))), (3, .int (sI ((p2 (f 568)) - 1))), (4, .int (sI d))] → W p_ l_ e_ rmX3_isFound s_ m_ args_ below_ meth_ c_ H locs 0 0 Q (F0 m_ 33 ls []) := by
    intro fuel
    induction fuel with
    | zero => intro d H2 B2 P2 Ml33 H locs ls hmu; exact absurd hmu (Nat.not_lt_zero _)
    | succ fuel ih33 =>
      intro d H2 B2 P2 Ml33 H locs ls hmu33 hv33_0 hI hm33_0 hm33_1 hm33_2 hfr33 hV hl
      refine lv_iload hx_ hb_ dX3_isFound_33 (lv_at hl 4 rfl) ?_
      refine si_const S dX3_isFound_35 ?_
      refine sb_ge (tgt := 105) S dX3_isFound_36 (by decide) (by omega) (fun c18 => ?_) (fun c18 => ?_)
      · refine lv_aload_n hx_ hb_ dX3_isFound_105 rfl (lv_at hl 0 rfl) ?_
        refine lv_aload_n hx_ hb_ dX3_isFound_106 rfl (lv_at hl 0 rfl) ?_
        have hc19 : Ml33 y = some (sObj 2 [.ref (y + 1), .ref (y + 2), .ref (y + 3), .ref (y + 4), .ref (y + 5), .int (sI (f 568)), .int (sI co)]) := ((hfr33 y (by omega) (by omega) (by omega)).trans (hf15 y (by omega) (by omega))).trans hc2
        refine sc_get (ci := 2) (C := RX3) (T := TX3) (n := 7) S hK hV inX3_ hc19 rfl 3 (by decide) (S.2.2.2.2 _ (List.mem_of_getElem? (i := 7) rfl)) rfl rfl dX3_isFound_107 ?_
        refine lv_iload_n hx_ hb_ dX3_isFound_110 rfl (lv_at hl 3 rfl) ?_
        refine sc_iald S hK hV hm33_1 (by omega) dX3_isFound_111 ?_
        have hbe := hI.2 (by omega)
        have hbr := be_r (by omega) (by omega) hbe
        have hlf := la_fin hok hbe
        refine sc_put (ci := 2) (C := RX3) (T := TX3) (n := 7) S hK hV inX3_ tyX3_ok nmX3 hc19 rfl 6 (by decide) (S.2.2.2.2 _ (List.mem_of_getElem? (i := 12) rfl)) rfl rfl rfl rfl (Nat.le_of_ble_eq_true rfl) dX3_isFound_112 (fs1 := [.ref (y + 1), .ref (y + 2), .ref (y + 3), .ref (y + 4), .ref (y + 5), .int (sI (f 568)), .int (sI (B2 ((p2 (f 568)) - 1)))]) rfl (fun M20 H locs hM20 hV => ?_)
        have hc21 : M20 y = some (sObj 2 [.ref (y + 1), .ref (y + 2), .ref (y + 3), .ref (y + 4), .ref (y + 5), .int (sI (f 568)), .int (sI (B2 ((p2 (f 568)) - 1)))]) := (congrFun hM20 y).trans (va_up_self Ml33 y _)
        refine lv_aload_n hx_ hb_ dX3_isFound_115 rfl (lv_at hl 0 rfl) ?_
        refine sc_get (ci := 2) (C := RX3) (T := TX3) (n := 7) S hK hV inX3_ hc21 rfl 6 (by decide) (S.2.2.2.2 _ (List.mem_of_getElem? (i := 12) rfl)) rfl rfl dX3_isFound_116 ?_
        refine si_ldc S (268435456) (S.2.2.2.2 _ (List.mem_of_getElem? (i := 13) rfl)) (by decide) dX3_isFound_119 ?_
        refine sb_ge (tgt := 128) S dX3_isFound_121 (by decide) (by omega) (fun c22 => ?_) (fun c22 => ?_)
        · refine si_const S dX3_isFound_128 ?_
          have hc23 : M20 (y + 1) = some (sArr G 1024 Z910) := (((congrFun hM20 (y + 1)).trans (va_up_ne Ml33 _ (by omega))).trans (hfr33 (y + 1) (by omega) (by omega) (by omega))).trans hc13
          have hc24 : M20 (y + 2) = some (sArr G 1024 W911) := (((congrFun hM20 (y + 2)).trans (va_up_ne Ml33 _ (by omega))).trans (hfr33 (y + 2) (by omega) (by omega) (by omega))).trans hc14
          have hc25 : M20 (y + 3) = some (sArr G 1024 H2) := ((congrFun hM20 (y + 3)).trans (va_up_ne Ml33 _ (by omega))).trans hm33_0
          have hc26 : M20 (y + 4) = some (sArr G 1024 B2) := ((congrFun hM20 (y + 4)).trans (va_up_ne Ml33 _ (by omega))).trans hm33_1
          have hc27 : M20 (y + 5) = some (sArr G 10 P2) := ((congrFun hM20 (y + 5)).trans (va_up_ne Ml33 _ (by omega))).trans hm33_2
          exact sr_z E hQ (Or.inl rfl) dX3_isFound_129 ⟨Nat.le_of_ble_eq_true rfl, Nat.le_of_ble_eq_true rfl⟩ hV (⟨(B2 ((p2 (f 568)) - 1)), Z910, W911, H2, B2, P2, (bI_f (fun q => by have := hlf.1.mpr q; omega)).symm, rfl, hc21, hc23, hc24, hc25, hc26, hc27, fun x q0 q1 q2 q3 q4 q5 => ((((congrFun hM20 x).trans (va_up_ne Ml33 _ (by omega))).trans (hfr33 x (by omega) (by omega) (by omega))).trans (hf15 x (by omega) (by omega))).trans ((congrFun hM1 x).trans (va_up_ne M _ (by omega))), by omega, hlf.2⟩)
        · refine si_const S dX3_isFound_124 ?_
          refine lv_goto (tgt := 129) hx_ hb_ dX3_isFound_125 (by decide) ?_
          have hc28 : M20 (y + 1) = some (sArr G 1024 Z910) := (((congrFun hM20 (y + 1)).trans (va_up_ne Ml33 _ (by omega))).trans (hfr33 (y + 1) (by omega) (by omega) (by omega))).trans hc13
          have hc29 : M20 (y + 2) = some (sArr G 1024 W911) := (((congrFun hM20 (y + 2)).trans (va_up_ne Ml33 _ (by omega))).trans (hfr33 (y + 2) (by omega) (by omega) (by omega))).trans hc14
          have hc30 : M20 (y + 3) = some (sArr G 1024 H2) := ((congrFun hM20 (y + 3)).trans (va_up_ne Ml33 _ (by omega))).trans hm33_0
          have hc31 : M20 (y + 4) = some (sArr G 1024 B2) := ((congrFun hM20 (y + 4)).trans (va_up_ne Ml33 _ (by omega))).trans hm33_1
          have hc32 : M20 (y + 5) = some (sArr G 10 P2) := ((congrFun hM20 (y + 5)).trans (va_up_ne Ml33 _ (by omega))).trans hm33_2
          exact sr_z E hQ (Or.inr rfl) dX3_isFound_129 ⟨Nat.le_of_ble_eq_true rfl, Nat.le_of_ble_eq_true rfl⟩ hV (⟨(B2 ((p2 (f 568)) - 1)), Z910, W911, H2, B2, P2, (bI_t (hlf.1.mp (by omega))).symm, rfl, hc21, hc28, hc29, hc30, hc31, hc32, fun x q0 q1 q2 q3 q4 q5 => ((((congrFun hM20 x).trans (va_up_ne Ml33 _ (by omega))).trans (hfr33 x (by omega) (by omega) (by omega))).trans (hf15 x (by omega) (by omega))).trans ((congrFun hM1 x).trans (va_up_ne M _ (by omega))), by omega, hlf.2⟩)
      · refine lv_aload_n hx_ hb_ dX3_isFound_39 rfl (lv_at hl 0 rfl) ?_
        refine lv_aload_n hx_ hb_ dX3_isFound_40 rfl (lv_at hl 1 rfl) ?_
        have hc33 : stC G Ml33 a f := hc5.fr (fun x q8 q9 => (hfr33 x (by omega) (by omega) (by omega)).trans (hf15 x (by omega) (by omega)))
        refine sc_getN (ci := 4) (C := RX6) (T := TX6) (n := 8) S hK hV inX6_ (hc33).1 rfl 0 (by decide) (E.2.2.2.2.2.1.1.2.1 _ (List.mem_of_getElem? (i := 1) rfl)) rfl rfl dX3_isFound_41 ?_
        refine lv_iload hx_ hb_ dX3_isFound_44 (lv_at hl 4 rfl) ?_
        refine lv_iload_n hx_ hb_ dX3_isFound_46 rfl (lv_at hl 2 rfl) ?_
        have hc34 : Ml33 y = some (sObj 2 [.ref (y + 1), .ref (y + 2), .ref (y + 3), .ref (y + 4), .ref (y + 5), .int (sI (f 568)), .int (sI co)]) := ((hfr33 y (by omega) (by omega) (by omega)).trans (hf15 y (by omega) (by omega))).trans hc2
        refine sk_Vv E hV (As := [.ref (a + 1), .int (sI d), .int (sI (bI B))]) (rest := []) (kX3_setPrices l_ G b_ Ml33 N y (a + 1) co P2 f d B hc34 hm33_2 ((hc33).2.1) (by omega) (by omega) (by omega)) (cwV 3 S.2.2.2.2 gX3_isFound_X3_setPrices rfl rfl rfl (by decide +kernel) ⟨Nat.le_of_ble_eq_true rfl, Nat.le_of_ble_eq_true rfl⟩) (ci := 2) hc34 rfl rfl rfl hl.1 (Nat.le_of_ble_eq_true rfl) dX3_isFound_47 (c1 := 0) (s1 := 0) ⟨⟨rfl, rfl⟩, by decide, by decide⟩ (fun M35 N36 H locs hp37 hV => ?_)
        obtain ⟨P939, hN40, hc41, hf42, hP943⟩ := hp37
        rw [hN40] at hV
        refine lv_aload_n hx_ hb_ dX3_isFound_50 rfl (lv_at hl 0 rfl) ?_
        refine lv_aload_n hx_ hb_ dX3_isFound_51 rfl (lv_at hl 1 rfl) ?_
        have hc44 : stC G M35 a f := hc33.fr (fun x q8 q9 => hf42 x (by omega))
        refine sc_getN (ci := 4) (C := RX6) (T := TX6) (n := 8) S hK hV inX6_ (hc44).1 rfl 2 (by decide) (E.2.2.2.2.2.1.1.2.1 _ (List.mem_of_getElem? (i := 7) rfl)) rfl rfl dX3_isFound_52 ?_
        refine lv_iload hx_ hb_ dX3_isFound_55 (lv_at hl 4 rfl) ?_
        have hc45 : M35 y = some (sObj 2 [.ref (y + 1), .ref (y + 2), .ref (y + 3), .ref (y + 4), .ref (y + 5), .int (sI (f 568)), .int (sI co)]) := (hf42 y (by omega)).trans hc34
        have hc46 : M35 (y + 1) = some (sArr G 1024 Z910) := ((hf42 (y + 1) (by omega)).trans (hfr33 (y + 1) (by omega) (by omega) (by omega))).trans hc13
        have hc47 : M35 (y + 2) = some (sArr G 1024 W911) := ((hf42 (y + 2) (by omega)).trans (hfr33 (y + 2) (by omega) (by omega) (by omega))).trans hc14
        have hc48 : M35 (y + 3) = some (sArr G 1024 H2) := (hf42 (y + 3) (by omega)).trans hm33_0
        refine sk_Vv E hV (As := [.ref (a + 5), .int (sI d)]) (rest := []) (kX3_priceSets l_ G b_ M35 N y (a + 5) co Z910 W911 H2 P939 f d B hc45 hc46 hc47 hc48 hc41 ((hc44).2.2.2.1) (by omega) (by omega) (by omega) (by assumption) (by assumption) (by assumption)) (cwV 2 S.2.2.2.2 gX3_isFound_X3_priceSets rfl rfl rfl (by decide +kernel) ⟨Nat.le_of_ble_eq_true rfl, Nat.le_of_ble_eq_true rfl⟩) (ci := 2) hc45 rfl rfl rfl hl.1 (Nat.le_of_ble_eq_true rfl) dX3_isFound_57 (c1 := 0) (s1 := 0) ⟨⟨rfl, rfl⟩, by decide, by decide⟩ (fun M49 N50 H locs hp51 hV => ?_)
        obtain ⟨H953, hN54, hc55, hf56, hH957⟩ := hp51
        rw [hN54] at hV
        refine lv_iload hx_ hb_ dX3_isFound_60 (lv_at hl 4 rfl) ?_
        refine sz_ne (tgt := 84) S dX3_isFound_62 (by decide) (by omega) (fun c58 => ?_) (fun c58 => ?_)
        · refine lv_aload_n hx_ hb_ dX3_isFound_84 rfl (lv_at hl 0 rfl) ?_
          refine lv_iload hx_ hb_ dX3_isFound_85 (lv_at hl 4 rfl) ?_
          refine si_const S dX3_isFound_87 ?_
          refine sb_ne (tgt := 95) S dX3_isFound_88 (by decide) (by omega) (fun c59 => ?_) (fun c59 => ?_)
          · refine si_const S dX3_isFound_95 ?_
            have hc60 : M49 y = some (sObj 2 [.ref (y + 1), .ref (y + 2), .ref (y + 3), .ref (y + 4), .ref (y + 5), .int (sI (f 568)), .int (sI co)]) := (hf56 y (by omega)).trans hc45
            have hc61 : M49 (y + 4) = some (sArr G 1024 B2) := ((hf56 (y + 4) (by omega)).trans (hf42 (y + 4) (by omega))).trans hm33_1
            refine sk_Vv E hV (As := [.int (sI 0)]) (rest := []) (kX3_addDrawer l_ G b_ M49 N y co H953 B2 f d 0 B hc60 hc55 hc61 (by omega) (by omega) (by omega) (by assumption) (hI.1 (by omega) (by omega))) (cwV 1 S.2.2.2.2 gX3_isFound_X3_addDrawer rfl rfl rfl (by decide +kernel) ⟨Nat.le_of_ble_eq_true rfl, Nat.le_of_ble_eq_true rfl⟩) (ci := 2) hc60 rfl rfl rfl hl.1 (Nat.le_of_ble_eq_true rfl) dX3_isFound_96 (c1 := 0) (s1 := 0) ⟨⟨rfl, rfl⟩, by decide, by decide⟩ (fun M62 N63 H locs hp64 hV => ?_)
            obtain ⟨B966, hN67, hc68, hf69, hB970⟩ := hp64
            rw [hN67] at hV
            refine si_inc (lv' := [(4, .int (sI (d + 1))), (0, .ref y), (1, .ref a), (2, .int (sI (bI B))), (3, .int (sI ((p2 (f 568)) - 1)))]) S dX3_isFound_99 hl (k := 4) rfl (by decide) rfl (fun ls hl => ?_)
            refine lv_goto (tgt := 33) hx_ hb_ dX3_isFound_102 (by decide) ?_
            have hc71 : M62 (y + 3) = some (sArr G 1024 H953) := (hf69 (y + 3) (by omega)).trans hc55
            have hc72 : M62 (y + 5) = some (sArr G 10 P939) := ((hf69 (y + 5) (by omega)).trans (hf56 (y + 5) (by omega))).trans hc41
            exact ih33 (d + 1) H953 B966 P939 M62 _ _ _ (by omega) (by omega) (⟨fun _ _ x a b => by rw [show d + 1 - 1 = d by omega]; exact hB970 x a b, fun _ => by omega⟩) hc71 hc68 hc72 (fun x q0 q1 q2 => (((hf69 x (by omega)).trans (hf56 x (by omega))).trans (hf42 x (by omega))).trans (hfr33 x (by omega) (by omega) (by omega))) hV (lv_sub hl [1, 2, 3, 4, 0] rfl)
          · refine lv_iload_n hx_ hb_ dX3_isFound_91 rfl (lv_at hl 3 rfl) ?_
            refine lv_goto (tgt := 96) hx_ hb_ dX3_isFound_92 (by decide) ?_
            have hc73 : M49 y = some (sObj 2 [.ref (y + 1), .ref (y + 2), .ref (y + 3), .ref (y + 4), .ref (y + 5), .int (sI (f 568)), .int (sI co)]) := (hf56 y (by omega)).trans hc45
            have hc74 : M49 (y + 4) = some (sArr G 1024 B2) := ((hf56 (y + 4) (by omega)).trans (hf42 (y + 4) (by omega))).trans hm33_1
            refine sk_Vv E hV (As := [.int (sI ((p2 (f 568)) - 1))]) (rest := []) (kX3_addDrawer l_ G b_ M49 N y co H953 B2 f d ((p2 (f 568)) - 1) B hc73 hc55 hc74 (by omega) (by omega) (by omega) (by assumption) (hI.1 (by omega) (by omega))) (cwV 1 S.2.2.2.2 gX3_isFound_X3_addDrawer rfl rfl rfl (by decide +kernel) ⟨Nat.le_of_ble_eq_true rfl, Nat.le_of_ble_eq_true rfl⟩) (ci := 2) hc73 rfl rfl rfl hl.1 (Nat.le_of_ble_eq_true rfl) dX3_isFound_96 (c1 := 0) (s1 := 0) ⟨⟨rfl, rfl⟩, by decide, by decide⟩ (fun M75 N76 H locs hp77 hV => ?_)
            obtain ⟨B979, hN80, hc81, hf82, hB983⟩ := hp77
            rw [hN80] at hV
            refine si_inc (lv' := [(4, .int (sI (d + 1))), (0, .ref y), (1, .ref a), (2, .int (sI (bI B))), (3, .int (sI ((p2 (f 568)) - 1)))]) S dX3_isFound_99 hl (k := 4) rfl (by decide) rfl (fun ls hl => ?_)
            refine lv_goto (tgt := 33) hx_ hb_ dX3_isFound_102 (by decide) ?_
            have hc84 : M75 (y + 3) = some (sArr G 1024 H953) := (hf82 (y + 3) (by omega)).trans hc55
            have hc85 : M75 (y + 5) = some (sArr G 10 P939) := ((hf82 (y + 5) (by omega)).trans (hf56 (y + 5) (by omega))).trans hc41
            exact ih33 (d + 1) H953 B979 P939 M75 _ _ _ (by omega) (by omega) (⟨fun _ _ => by omega, fun _ => by have h9 := hB983 (p2 (f 568) - 1) (by omega) (by omega); rw [show d = 3 by omega] at h9; exact h9⟩) hc84 hc81 hc85 (fun x q0 q1 q2 => (((hf82 x (by omega)).trans (hf56 x (by omega))).trans (hf42 x (by omega))).trans (hfr33 x (by omega) (by omega) (by omega))) hV (lv_sub hl [1, 2, 3, 4, 0] rfl)
        · refine lv_aload_n hx_ hb_ dX3_isFound_65 rfl (lv_at hl 0 rfl) ?_
          have hc86 : M49 y = some (sObj 2 [.ref (y + 1), .ref (y + 2), .ref (y + 3), .ref (y + 4), .ref (y + 5), .int (sI (f 568)), .int (sI co)]) := (hf56 y (by omega)).trans hc45
          refine sc_get (ci := 2) (C := RX3) (T := TX3) (n := 7) S hK hV inX3_ hc86 rfl 2 (by decide) (S.2.2.2.2 _ (List.mem_of_getElem? (i := 6) rfl)) rfl rfl dX3_isFound_66 ?_
          refine si_const S dX3_isFound_69 ?_
          refine lv_aload_n hx_ hb_ dX3_isFound_70 rfl (lv_at hl 0 rfl) ?_
          refine sc_get (ci := 2) (C := RX3) (T := TX3) (n := 7) S hK hV inX3_ hc86 rfl 3 (by decide) (S.2.2.2.2 _ (List.mem_of_getElem? (i := 7) rfl)) rfl rfl dX3_isFound_71 ?_
          refine si_const S dX3_isFound_74 ?_
          refine lv_iload_n hx_ hb_ dX3_isFound_75 rfl (lv_at hl 3 rfl) ?_
          refine si_const S dX3_isFound_76 ?_
          refine si_add S dX3_isFound_77 ?_
          have hc87 : M49 (y + 4) = some (sArr G 1024 B2) := ((hf56 (y + 4) (by omega)).trans (hf42 (y + 4) (by omega))).trans hm33_1
          refine sc_copy S hK hV hl.1 (S.2.2.2.2 _ (List.mem_of_getElem? (i := 8) rfl)) (S.2.2.2.2 _ (List.mem_of_getElem? (i := 9) rfl)) (S.2.2.2.2 _ (List.mem_of_getElem? (i := 10) rfl)) (S.2.2.2.2 _ (List.mem_of_getElem? (i := 11) rfl)) hc55 hc87 (sp := 0) (dp := 0) (n := ((p2 (f 568)) - 1) + 1) (by omega) ⟨by decide, Nat.le_of_ble_eq_true rfl⟩ dX3_isFound_78 (fun M88 H locs hM88 hV => ?_)
          have hc89 : M88 (y + 4) = some (sArr G 1024 (icpy H953 B2 0 0 (((p2 (f 568)) - 1) + 1))) := (congrFun hM88 (y + 4)).trans (va_up_self M49 (y + 4) _)
          refine lv_goto (tgt := 99) hx_ hb_ dX3_isFound_81 (by decide) ?_
          refine si_inc (lv' := [(4, .int (sI (d + 1))), (0, .ref y), (1, .ref a), (2, .int (sI (bI B))), (3, .int (sI ((p2 (f 568)) - 1)))]) S dX3_isFound_99 hl (k := 4) rfl (by decide) rfl (fun ls hl => ?_)
          refine lv_goto (tgt := 33) hx_ hb_ dX3_isFound_102 (by decide) ?_
          have hc90 : M88 (y + 3) = some (sArr G 1024 H953) := ((congrFun hM88 (y + 3)).trans (va_up_ne M49 _ (by omega))).trans hc55
          have hc91 : M88 (y + 5) = some (sArr G 10 P939) := (((congrFun hM88 (y + 5)).trans (va_up_ne M49 _ (by omega))).trans (hf56 (y + 5) (by omega))).trans hc41
          exact ih33 (d + 1) H953 (icpy H953 B2 0 0 (((p2 (f 568)) - 1) + 1)) P939 M88 _ _ _ (by omega) (by omega) (⟨fun _ _ x a b => by rw [show icpy H953 B2 0 0 (p2 (f 568) - 1 + 1) x = H953 x by unfold icpy; rw [if_pos (by omega)]; congr 1; omega, show d + 1 - 1 = 0 by omega]; exact be_0 (f := f) (by omega) (by have h9 := hH957 x a b; rw [show d = 0 by omega] at h9; exact h9), fun _ => by omega⟩) hc90 hc89 hc91 (fun x q0 q1 q2 => ((((congrFun hM88 x).trans (va_up_ne M49 _ (by omega))).trans (hf56 x (by omega))).trans (hf42 x (by omega))).trans (hfr33 x (by omega) (by omega) (by omega))) hV (lv_sub hl [1, 2, 3, 4, 0] rfl)
  have hc92 : M6 (y + 3) = some (sArr G 1024 He) := ((hf15 (y + 3) (by omega) (by omega)).trans ((congrFun hM1 (y + 3)).trans (va_up_ne M _ (by omega)))).trans hy3
  have hc93 : M6 (y + 4) = some (sArr G 1024 Bs) := ((hf15 (y + 4) (by omega) (by omega)).trans ((congrFun hM1 (y + 4)).trans (va_up_ne M _ (by omega)))).trans hy4
  have hc94 : M6 (y + 5) = some (sArr G 10 Pr) := ((hf15 (y + 5) (by omega) (by omega)).trans ((congrFun hM1 (y + 5)).trans (va_up_ne M _ (by omega)))).trans hy5
  exact L33 _ 0 He Bs Pr M6 _ _ _ (Nat.lt_succ_self _) (by omega) (⟨fun _ _ => by omega, fun _ => by omega⟩) hc92 hc93 hc94 (fun x q0 q1 q2 => rfl) hV (lv_sub hl [2, 3, 4, 1, 0] rfl)
