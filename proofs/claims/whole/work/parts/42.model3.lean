def cpK (f g : sF) (k : Int) : sF := fun q => if 0 ≤ q ∧ q < k then g q else f q
theorem cpK_0 (f g : sF) : cpK f g 0 = f := by
  funext q
  unfold cpK
  rw [if_neg (by omega)]
theorem cpK_s (f g : sF) (k : Int) (h : 0 ≤ k) : iup (cpK f g k) k (g k) = cpK f g (k + 1) := by
  funext q
  unfold iup cpK
  by_cases e : q = k
  · rw [if_pos e, if_pos (by omega), e]
  · rw [if_neg e]
    by_cases e2 : 0 ≤ q ∧ q < k
    · rw [if_pos e2, if_pos (by omega)]
    · rw [if_neg e2, if_neg (by omega)]
theorem sv_keep {sv bs s3 : Int → Int} {fs : Int → sF} {f : sF} {ch c : Int} (hch : 0 ≤ ch ∧ ch ≤ 15) (h2 : ∀ i k, 0 ≤ i → i < ch → 0 ≤ k → k < 574 → sv (574 * i + k) = fs i k)
    (hA : (ch = 15 ∧ c = 14 ∧ ∀ q, 0 ≤ q → q < 8036 → bs q = sv (q + 574)) ∨ (ch ≠ 15 ∧ c = ch ∧ bs = sv)) (hB : ∀ q, 0 ≤ q → q < 574 → s3 (574 * c + q) = f q) (hC : ∀ q, 0 ≤ q → q < 574 * c → s3 q = bs q) : ∀ i k, 0 ≤ i → i < chn ch → 0 ≤ k → k < 574 → s3 (574 * i + k) = fsn ch fs f i k := by
  intro i k a b d e
  rcases hA with ⟨e1, e2, e3⟩ | ⟨e1, e2, e3⟩
  · unfold chn at b
    rw [if_pos e1] at b
    unfold fsn
    rw [if_pos e1]
    show _ = (if i = 14 then f else fs (i + 1)) k
    by_cases q : i = 14
    · rw [if_pos q, ← hB k d e, q, e2]
    · rw [if_neg q, hC _ (by omega) (by omega), e3 _ (by omega) (by omega), ← h2 (i + 1) k (by omega) (by omega) d e]
      congr 1
      omega
  · unfold chn at b
    rw [if_neg e1] at b
    unfold fsn
    rw [if_neg e1]
    show _ = (if i = ch then f else fs i) k
    by_cases q : i = ch
    · rw [if_pos q, ← hB k d e, q, e2]
    · rw [if_neg q, hC _ (by omega) (by omega), e3, h2 i k a (by omega) d e]
/-- a scratch told; one taken back -/
def scF (f : sF) (p q : Int) : sF := iup (iup (iup f (70 + f 569) p) (110 + f 569) q) 569 (f 569 + 1)
def usK (f : sF) (a k : Int) : sF := fun q => if 70 + a ≤ q ∧ q < 70 + k then f (q + 1) else if 110 + a ≤ q ∧ q < 110 + k then f (q + 1) else if q = 569 then f 569 - 1 else f q
theorem usK_0 (f : sF) (a : Int) : iup f 569 (f 569 - 1) = usK f a a := by
  funext q
  unfold iup usK
  rw [if_neg (show ¬ (70 + a ≤ q ∧ q < 70 + a) by omega), if_neg (show ¬ (110 + a ≤ q ∧ q < 110 + a) by omega)]
theorem usK_v (f : sF) (a k : Int) (h : 0 ≤ a ∧ a ≤ k ∧ k < 39) : usK f a k (70 + k + 1) = f (70 + k + 1) ∧ usK f a k (110 + k + 1) = f (110 + k + 1) ∧ usK f a k 569 = f 569 - 1 := by
  unfold usK
  refine ⟨?_, ?_, ?_⟩ <;> (repeat (first | rw [if_pos (by omega)] | rw [if_neg (by omega)]))
theorem usK_s (f : sF) (a k : Int) (h : 0 ≤ a ∧ a ≤ k ∧ k < 39) : iup (iup (usK f a k) (70 + k) (f (70 + k + 1))) (110 + k) (f (110 + k + 1)) = usK f a (k + 1) := by
  funext q
  unfold iup usK
  by_cases e : q = 110 + k
  · subst e; (repeat (first | rw [if_pos (by omega)] | rw [if_neg (by omega)]))
  · by_cases e2 : q = 70 + k
    · subst e2; (repeat (first | rw [if_pos (by omega)] | rw [if_neg (by omega)]))
    · rw [if_neg e, if_neg e2]
      by_cases e3 : 70 + a ≤ q ∧ q < 70 + k
      · (repeat (first | rw [if_pos (by omega)] | rw [if_neg (by omega)]))
      · by_cases e4 : 110 + a ≤ q ∧ q < 110 + k
        · (repeat (first | rw [if_pos (by omega)] | rw [if_neg (by omega)]))
        · by_cases e5 : q = 569
          · subst e5; (repeat (first | rw [if_pos (by omega)] | rw [if_neg (by omega)]))
          · (repeat (first | rw [if_pos (by omega)] | rw [if_neg (by omega)]))
def usF (f : sF) (a : Int) : sF := usK f a (f 569 - 1)
/-- what a drawer holds -/
def sdF (f : sF) (d z w : Int) : sF := iup (iup f (150 + d) z) (154 + d) w

abbrev rmX11_keeps : Room := { frames := 1, cells := 0, slots := 0, locals := 40 }
set_option maxHeartbeats 4000000 in
set_option maxRecDepth 100000 in
theorem kX11_keeps (l_ : Launch) (G : sG) (b_ : Nat) (M : sM) (N : Nat) (m : Nat) (th ch tn ea sn nm wn : Int) (f : sF) (fs : Int → sF) (hm0 : M m = some (mO m th ch tn ea sn nm wn)) (hm1 : M (m + 1) = some (sArr G 574 f)) (hsv : svC G M (m + 2) ch fs) (hch : 0 ≤ ch ∧ ch ≤ 15) : cV l_ yX11_keeps wsX11_keeps rmX11_keeps G b_ M N [.ref m] (fun M1 N1 => N1 = N ∧ M1 m = some (mO m th (chn ch) tn ea sn nm wn) ∧ svC G M1 (m + 2) (chn ch) (fsn ch fs f) ∧ (∀ x : Nat, ¬ (x = m) → ¬ (x = m + 2) → M1 x = M x)) := by
  refine sE.ofV (cc := cX11_keeps) (nL := 2) (ret := none) (by decide) rfl (Nat.le_of_ble_eq_true rfl) ?_
  intro p_ e_ s_ m_ args_ below_ meth_ c_ ls Q hQ E hl
  have E : sE p_ l_ e_ rmX11_keeps s_ m_ args_ below_ meth_ c_ cX11_keeps 2 wsX11_keeps RX11 "keeps" none G b_ M N := E
  have S := E.1
  have hx_ := S.1
  have hb_ := S.2.1
  have hK := E.2.2.2.2.1
  have hV := E.2.2.2.2.2.2
  have hl : lv_has ls 2 [(0, .ref m)] := hl
  have inX11_ : ∀ w ∈ wsX110, w ∈ wsX11_keeps := fun _ h => List.mem_cons_of_mem _ (List.mem_append_right _ h)
  obtain ⟨sv, hs1, hs2⟩ := hsv
  refine lv_aload_n hx_ hb_ dX11_keeps_0 rfl (lv_at hl 0 rfl) ?_
  refine sc_get (ci := 9) (C := RX11) (T := TX11) (n := 22) S hK hV inX11_ hm0 rfl 3 (by decide) (S.2.2.2.2 _ (List.mem_of_getElem? (i := 1) rfl)) rfl rfl dX11_keeps_1 ?_
  refine si_bipush S dX11_keeps_4 (by decide) ?_
  refine sb_ne (tgt := 55) S dX11_keeps_6 (by decide) (by omega) (fun c1 => ?_) (fun c1 => ?_)
  · refine si_const S dX11_keeps_55 ?_
    refine lv_istore_n (lv' := [(1, .int (sI 0)), (0, .ref m)]) hx_ hb_ dX11_keeps_56 rfl hl (by decide) rfl (fun ls hl => ?_)
    have L57 : ∀ (fuel : Nat) (k : Int) (s3 : Int → Int) (Ml57 : sM) (H : Heap) (locs : List Loc) (ls : Array Slot), ((574 - k).toNat) < fuel → (0 ≤ k ∧ k ≤ 574) → (∀ q, 0 ≤ q → q < k → s3 (574 * ch + q) = f q) → (∀ q, 0 ≤ q → q < 574 * ch → s3 q = sv q) → (Ml57 (m + 2) = some (sArr G 8610 s3)) → (∀ x : Nat, ¬ (x = m + 2) → Ml57 x = M x) → sV G b_ Ml57 N s_ H locs → lv_has ls 2 [(0, .ref m), (1, .int (sI k))] → W p_ l_ e_ rmX11_keeps s_ m_ args_ below_ meth_ c_ H locs 0 0 Q (F0 m_ 57 ls []) := by
      intro fuel
      induction fuel with
      | zero => intro k s3 Ml57 H locs ls hmu; exact absurd hmu (Nat.not_lt_zero _)
      | succ fuel ih57 =>
        intro k s3 Ml57 H locs ls hmu57 hv57_0 hB hC hm57_0 hfr57 hV hl
        refine lv_iload_n hx_ hb_ dX11_keeps_57 rfl (lv_at hl 1 rfl) ?_
        refine si_sipush S dX11_keeps_58 (by decide) ?_
        refine sb_ge (tgt := 91) S dX11_keeps_61 (by decide) (by omega) (fun c2 => ?_) (fun c2 => ?_)
        · refine lv_aload_n hx_ hb_ dX11_keeps_91 rfl (lv_at hl 0 rfl) ?_
          refine lv_dup hx_ hb_ dX11_keeps_92 rfl ?_
          have hc3 : Ml57 m = some (mO m th ch tn ea sn nm wn) := (hfr57 m (by omega)).trans hm0
          refine sc_get (ci := 9) (C := RX11) (T := TX11) (n := 22) S hK hV inX11_ hc3 rfl 3 (by decide) (S.2.2.2.2 _ (List.mem_of_getElem? (i := 1) rfl)) rfl rfl dX11_keeps_93 ?_
          refine si_const S dX11_keeps_96 ?_
          refine si_add S dX11_keeps_97 ?_
          refine sc_put (ci := 9) (C := RX11) (T := TX11) (n := 22) S hK hV inX11_ tyX11_ok nmX11 hc3 rfl 3 (by decide) (S.2.2.2.2 _ (List.mem_of_getElem? (i := 1) rfl)) rfl rfl rfl rfl (Nat.le_of_ble_eq_true rfl) dX11_keeps_98 (fs1 := [.int (sI th), .ref (m + 1), .ref (m + 2), .int (sI (ch + 1)), .ref (m + 3), .int (sI tn), .int (sI ea), .ref (m + 4), .ref (m + 5), .ref (m + 6), .ref (m + 7), .ref (m + 8), .ref (m + 9), .int (sI sn), .ref (m + 10), .ref (m + 11), .ref (m + 12), .ref (m + 13), .int (sI nm), .ref (m + 14), .ref (m + 15), .int (sI wn)]) rfl (fun M4 H locs hM4 hV => ?_)
          have hc5 : M4 m = some (mO m th (ch + 1) tn ea sn nm wn) := (congrFun hM4 m).trans (va_up_self Ml57 m _)
          have hc6 : M4 (m + 2) = some (sArr G 8610 s3) := ((congrFun hM4 (m + 2)).trans (va_up_ne Ml57 _ (by omega))).trans hm57_0
          exact sr_v E hQ dX11_keeps_101 ⟨Nat.le_of_ble_eq_true rfl, Nat.le_of_ble_eq_true rfl⟩ hV (⟨rfl, by rw [show chn ch = ch + 1 by unfold chn; rw [if_neg (by omega)]]; exact hc5, ⟨_, hc6, sv_keep hch hs2 (Or.inr ⟨by omega, rfl, rfl⟩) (fun q h1 h2 => hB q h1 (by omega)) hC⟩, fun x q0 q1 => ((congrFun hM4 x).trans (va_up_ne Ml57 _ (by omega))).trans (hfr57 x (by omega))⟩)
        · refine lv_aload_n hx_ hb_ dX11_keeps_64 rfl (lv_at hl 0 rfl) ?_
          have hc7 : Ml57 m = some (mO m th ch tn ea sn nm wn) := (hfr57 m (by omega)).trans hm0
          refine sc_get (ci := 9) (C := RX11) (T := TX11) (n := 22) S hK hV inX11_ hc7 rfl 2 (by decide) (S.2.2.2.2 _ (List.mem_of_getElem? (i := 2) rfl)) rfl rfl dX11_keeps_65 ?_
          refine si_sipush S dX11_keeps_68 (by decide) ?_
          refine lv_aload_n hx_ hb_ dX11_keeps_71 rfl (lv_at hl 0 rfl) ?_
          refine sc_get (ci := 9) (C := RX11) (T := TX11) (n := 22) S hK hV inX11_ hc7 rfl 3 (by decide) (S.2.2.2.2 _ (List.mem_of_getElem? (i := 1) rfl)) rfl rfl dX11_keeps_72 ?_
          refine si_mul S dX11_keeps_75 ?_
          refine lv_iload_n hx_ hb_ dX11_keeps_76 rfl (lv_at hl 1 rfl) ?_
          refine si_add S dX11_keeps_77 ?_
          refine lv_aload_n hx_ hb_ dX11_keeps_78 rfl (lv_at hl 0 rfl) ?_
          refine sc_get (ci := 9) (C := RX11) (T := TX11) (n := 22) S hK hV inX11_ hc7 rfl 1 (by decide) (S.2.2.2.2 _ (List.mem_of_getElem? (i := 3) rfl)) rfl rfl dX11_keeps_79 ?_
          refine lv_iload_n hx_ hb_ dX11_keeps_82 rfl (lv_at hl 1 rfl) ?_
          have hc8 : Ml57 (m + 1) = some (sArr G 574 f) := (hfr57 (m + 1) (by omega)).trans hm1
          refine sc_iald S hK hV hc8 (by omega) dX11_keeps_83 ?_
          refine sc_iast S hK hV hm57_0 (by omega) dX11_keeps_84 (fun M9 H locs hM9 hV => ?_)
          have hc10 : M9 (m + 2) = some (sArr G 8610 (iup s3 ((574 * ch) + k) (f k))) := (congrFun hM9 (m + 2)).trans (va_up_self Ml57 (m + 2) _)
          refine si_inc (lv' := [(1, .int (sI (k + 1))), (0, .ref m)]) S dX11_keeps_85 hl (k := 1) rfl (by decide) rfl (fun ls hl => ?_)
          refine lv_goto (tgt := 57) hx_ hb_ dX11_keeps_88 (by decide) ?_
          exact ih57 (k + 1) (iup s3 ((574 * ch) + k) (f k)) M9 _ _ _ (by omega) (by omega) (fun q h1 h2 => by unfold iup; by_cases e : q = k; exact (by rw [if_pos (by omega), e]); exact (by rw [if_neg (by omega)]; exact hB q h1 (by omega))) (fun q h1 h2 => by unfold iup; rw [if_neg (by omega)]; exact hC q h1 h2) hc10 (fun x q0 => ((congrFun hM9 x).trans (va_up_ne Ml57 _ (by omega))).trans (hfr57 x (by omega))) hV (lv_sub hl [1, 0] rfl)
    exact L57 _ 0 sv M _ _ _ (Nat.lt_succ_self _) (by omega) (fun q h1 h2 => by omega) (fun q h1 h2 => rfl) hs1 (fun x q0 => rfl) hV (lv_sub hl [1, 0] rfl)
  · refine lv_aload_n hx_ hb_ dX11_keeps_9 rfl (lv_at hl 0 rfl) ?_
    refine lv_dup hx_ hb_ dX11_keeps_10 rfl ?_
    refine sc_get (ci := 9) (C := RX11) (T := TX11) (n := 22) S hK hV inX11_ hm0 rfl 3 (by decide) (S.2.2.2.2 _ (List.mem_of_getElem? (i := 1) rfl)) rfl rfl dX11_keeps_11 ?_
    refine si_const S dX11_keeps_14 ?_
    refine si_sub S dX11_keeps_15 ?_
    refine sc_put (ci := 9) (C := RX11) (T := TX11) (n := 22) S hK hV inX11_ tyX11_ok nmX11 hm0 rfl 3 (by decide) (S.2.2.2.2 _ (List.mem_of_getElem? (i := 1) rfl)) rfl rfl rfl rfl (Nat.le_of_ble_eq_true rfl) dX11_keeps_16 (fs1 := [.int (sI th), .ref (m + 1), .ref (m + 2), .int (sI (ch - 1)), .ref (m + 3), .int (sI tn), .int (sI ea), .ref (m + 4), .ref (m + 5), .ref (m + 6), .ref (m + 7), .ref (m + 8), .ref (m + 9), .int (sI sn), .ref (m + 10), .ref (m + 11), .ref (m + 12), .ref (m + 13), .int (sI nm), .ref (m + 14), .ref (m + 15), .int (sI wn)]) rfl (fun M11 H locs hM11 hV => ?_)
    have hc12 : M11 m = some (mO m th (ch - 1) tn ea sn nm wn) := (congrFun hM11 m).trans (va_up_self M m _)
    refine si_const S dX11_keeps_19 ?_
    refine lv_istore_n (lv' := [(1, .int (sI 0)), (0, .ref m)]) hx_ hb_ dX11_keeps_20 rfl hl (by decide) rfl (fun ls hl => ?_)
    have L21 : ∀ (fuel : Nat) (k : Int) (s2 : Int → Int) (Ml21 : sM) (H : Heap) (locs : List Loc) (ls : Array Slot), ((8036 - k).toNat) < fuel → (0 ≤ k ∧ k ≤ 8036) → (∀ q, 0 ≤ q → q < k → s2 q = sv (q + 574)) → (∀ q, k ≤ q → s2 q = sv q) → (Ml21 (m + 2) = some (sArr G 8610 s2)) → (∀ x : Nat, ¬ (x = m + 2) → Ml21 x = M11 x) → sV G b_ Ml21 N s_ H locs → lv_has ls 2 [(0, .ref m), (1, .int (sI k))] → W p_ l_ e_ rmX11_keeps s_ m_ args_ below_ meth_ c_ H locs 0 0 Q (F0 m_ 21 ls []) := by
      intro fuel
      induction fuel with
      | zero => intro k s2 Ml21 H locs ls hmu; exact absurd hmu (Nat.not_lt_zero _)
      | succ fuel ih21 =>
        intro k s2 Ml21 H locs ls hmu21 hv21_0 hA hA2 hm21_0 hfr21 hV hl
        refine lv_iload_n hx_ hb_ dX11_keeps_21 rfl (lv_at hl 1 rfl) ?_
        refine si_sipush S dX11_keeps_22 (by decide) ?_
        refine lv_aload_n hx_ hb_ dX11_keeps_25 rfl (lv_at hl 0 rfl) ?_
        have hc13 : Ml21 m = some (mO m th (ch - 1) tn ea sn nm wn) := (hfr21 m (by omega)).trans hc12
        refine sc_get (ci := 9) (C := RX11) (T := TX11) (n := 22) S hK hV inX11_ hc13 rfl 3 (by decide) (S.2.2.2.2 _ (List.mem_of_getElem? (i := 1) rfl)) rfl rfl dX11_keeps_26 ?_
        refine si_mul S dX11_keeps_29 ?_
        refine sb_ge (tgt := 55) S dX11_keeps_30 (by decide) (by omega) (fun c14 => ?_) (fun c14 => ?_)
        · refine si_const S dX11_keeps_55 ?_
          refine lv_istore_n (lv' := [(1, .int (sI 0)), (0, .ref m)]) hx_ hb_ dX11_keeps_56 rfl hl (by decide) rfl (fun ls hl => ?_)
          have L57 : ∀ (fuel : Nat) (k : Int) (s3 : Int → Int) (Ml57 : sM) (H : Heap) (locs : List Loc) (ls : Array Slot), ((574 - k).toNat) < fuel → (0 ≤ k ∧ k ≤ 574) → (∀ q, 0 ≤ q → q < k → s3 (574 * (ch - 1) + q) = f q) → (∀ q, 0 ≤ q → q < 574 * (ch - 1) → s3 q = s2 q) → (Ml57 (m + 2) = some (sArr G 8610 s3)) → (∀ x : Nat, ¬ (x = m + 2) → Ml57 x = Ml21 x) → sV G b_ Ml57 N s_ H locs → lv_has ls 2 [(0, .ref m), (1, .int (sI k))] → W p_ l_ e_ rmX11_keeps s_ m_ args_ below_ meth_ c_ H locs 0 0 Q (F0 m_ 57 ls []) := by
            intro fuel
            induction fuel with
            | zero => intro k s3 Ml57 H locs ls hmu; exact absurd hmu (Nat.not_lt_zero _)
            | succ fuel ih57 =>
              intro k s3 Ml57 H locs ls hmu57 hv57_0 hB hC hm57_0 hfr57 hV hl
              refine lv_iload_n hx_ hb_ dX11_keeps_57 rfl (lv_at hl 1 rfl) ?_
              refine si_sipush S dX11_keeps_58 (by decide) ?_
              refine sb_ge (tgt := 91) S dX11_keeps_61 (by decide) (by omega) (fun c15 => ?_) (fun c15 => ?_)
              · refine lv_aload_n hx_ hb_ dX11_keeps_91 rfl (lv_at hl 0 rfl) ?_
                refine lv_dup hx_ hb_ dX11_keeps_92 rfl ?_
                have hc16 : Ml57 m = some (mO m th (ch - 1) tn ea sn nm wn) := (hfr57 m (by omega)).trans hc13
                refine sc_get (ci := 9) (C := RX11) (T := TX11) (n := 22) S hK hV inX11_ hc16 rfl 3 (by decide) (S.2.2.2.2 _ (List.mem_of_getElem? (i := 1) rfl)) rfl rfl dX11_keeps_93 ?_
                refine si_const S dX11_keeps_96 ?_
                refine si_add S dX11_keeps_97 ?_
                refine sc_put (ci := 9) (C := RX11) (T := TX11) (n := 22) S hK hV inX11_ tyX11_ok nmX11 hc16 rfl 3 (by decide) (S.2.2.2.2 _ (List.mem_of_getElem? (i := 1) rfl)) rfl rfl rfl rfl (Nat.le_of_ble_eq_true rfl) dX11_keeps_98 (fs1 := [.int (sI th), .ref (m + 1), .ref (m + 2), .int (sI ((ch - 1) + 1)), .ref (m + 3), .int (sI tn), .int (sI ea), .ref (m + 4), .ref (m + 5), .ref (m + 6), .ref (m + 7), .ref (m + 8), .ref (m + 9), .int (sI sn), .ref (m + 10), .ref (m + 11), .ref (m + 12), .ref (m + 13), .int (sI nm), .ref (m + 14), .ref (m + 15), .int (sI wn)]) rfl (fun M17 H locs hM17 hV => ?_)
                have hc18 : M17 m = some (mO m th ((ch - 1) + 1) tn ea sn nm wn) := (congrFun hM17 m).trans (va_up_self Ml57 m _)
                have hc19 : M17 (m + 2) = some (sArr G 8610 s3) := ((congrFun hM17 (m + 2)).trans (va_up_ne Ml57 _ (by omega))).trans hm57_0
                exact sr_v E hQ dX11_keeps_101 ⟨Nat.le_of_ble_eq_true rfl, Nat.le_of_ble_eq_true rfl⟩ hV (⟨rfl, by rw [show chn ch = (ch - 1) + 1 by unfold chn; rw [if_pos (by omega)]; omega]; exact hc18, ⟨_, hc19, sv_keep hch hs2 (Or.inl ⟨by omega, by omega, fun q h1 h2 => hA q h1 (by omega)⟩) (fun q h1 h2 => hB q h1 (by omega)) hC⟩, fun x q0 q1 => ((((congrFun hM17 x).trans (va_up_ne Ml57 _ (by omega))).trans (hfr57 x (by omega))).trans (hfr21 x (by omega))).trans ((congrFun hM11 x).trans (va_up_ne M _ (by omega)))⟩)
              · refine lv_aload_n hx_ hb_ dX11_keeps_64 rfl (lv_at hl 0 rfl) ?_
                have hc20 : Ml57 m = some (mO m th (ch - 1) tn ea sn nm wn) := (hfr57 m (by omega)).trans hc13
                refine sc_get (ci := 9) (C := RX11) (T := TX11) (n := 22) S hK hV inX11_ hc20 rfl 2 (by decide) (S.2.2.2.2 _ (List.mem_of_getElem? (i := 2) rfl)) rfl rfl dX11_keeps_65 ?_
                refine si_sipush S dX11_keeps_68 (by decide) ?_
                refine lv_aload_n hx_ hb_ dX11_keeps_71 rfl (lv_at hl 0 rfl) ?_
                refine sc_get (ci := 9) (C := RX11) (T := TX11) (n := 22) S hK hV inX11_ hc20 rfl 3 (by decide) (S.2.2.2.2 _ (List.mem_of_getElem? (i := 1) rfl)) rfl rfl dX11_keeps_72 ?_
                refine si_mul S dX11_keeps_75 ?_
                refine lv_iload_n hx_ hb_ dX11_keeps_76 rfl (lv_at hl 1 rfl) ?_
                refine si_add S dX11_keeps_77 ?_
                refine lv_aload_n hx_ hb_ dX11_keeps_78 rfl (lv_at hl 0 rfl) ?_
                refine sc_get (ci := 9) (C := RX11) (T := TX11) (n := 22) S hK hV inX11_ hc20 rfl 1 (by decide) (S.2.2.2.2 _ (List.mem_of_getElem? (i := 3) rfl)) rfl rfl dX11_keeps_79 ?_
                refine lv_iload_n hx_ hb_ dX11_keeps_82 rfl (lv_at hl 1 rfl) ?_
                have hc21 : Ml57 (m + 1) = some (sArr G 574 f) := (((hfr57 (m + 1) (by omega)).trans (hfr21 (m + 1) (by omega))).trans ((congrFun hM11 (m + 1)).trans (va_up_ne M _ (by omega)))).trans hm1
                refine sc_iald S hK hV hc21 (by omega) dX11_keeps_83 ?_
                refine sc_iast S hK hV hm57_0 (by omega) dX11_keeps_84 (fun M22 H locs hM22 hV => ?_)
                have hc23 : M22 (m + 2) = some (sArr G 8610 (iup s3 ((574 * (ch - 1)) + k) (f k))) := (congrFun hM22 (m + 2)).trans (va_up_self Ml57 (m + 2) _)
                refine si_inc (lv' := [(1, .int (sI (k + 1))), (0, .ref m)]) S dX11_keeps_85 hl (k := 1) rfl (by decide) rfl (fun ls hl => ?_)
                refine lv_goto (tgt := 57) hx_ hb_ dX11_keeps_88 (by decide) ?_
                exact ih57 (k + 1) (iup s3 ((574 * (ch - 1)) + k) (f k)) M22 _ _ _ (by omega) (by omega) (fun q h1 h2 => by unfold iup; by_cases e : q = k; exact (by rw [if_pos (by omega), e]); exact (by rw [if_neg (by omega)]; exact hB q h1 (by omega))) (fun q h1 h2 => by unfold iup; rw [if_neg (by omega)]; exact hC q h1 h2) hc23 (fun x q0 => ((congrFun hM22 x).trans (va_up_ne Ml57 _ (by omega))).trans (hfr57 x (by omega))) hV (lv_sub hl [1, 0] rfl)
          exact L57 _ 0 s2 Ml21 _ _ _ (Nat.lt_succ_self _) (by omega) (fun q h1 h2 => by omega) (fun q h1 h2 => rfl) hm21_0 (fun x q0 => rfl) hV (lv_sub hl [1, 0] rfl)
        · refine lv_aload_n hx_ hb_ dX11_keeps_33 rfl (lv_at hl 0 rfl) ?_
          refine sc_get (ci := 9) (C := RX11) (T := TX11) (n := 22) S hK hV inX11_ hc13 rfl 2 (by decide) (S.2.2.2.2 _ (List.mem_of_getElem? (i := 2) rfl)) rfl rfl dX11_keeps_34 ?_
          refine lv_iload_n hx_ hb_ dX11_keeps_37 rfl (lv_at hl 1 rfl) ?_
          refine lv_aload_n hx_ hb_ dX11_keeps_38 rfl (lv_at hl 0 rfl) ?_
          refine sc_get (ci := 9) (C := RX11) (T := TX11) (n := 22) S hK hV inX11_ hc13 rfl 2 (by decide) (S.2.2.2.2 _ (List.mem_of_getElem? (i := 2) rfl)) rfl rfl dX11_keeps_39 ?_
          refine lv_iload_n hx_ hb_ dX11_keeps_42 rfl (lv_at hl 1 rfl) ?_
          refine si_sipush S dX11_keeps_43 (by decide) ?_
          refine si_add S dX11_keeps_46 ?_
          refine sc_iald S hK hV hm21_0 (by omega) dX11_keeps_47 ?_
          refine sc_iast S hK hV hm21_0 (by omega) dX11_keeps_48 (fun M24 H locs hM24 hV => ?_)
          have hc25 : M24 (m + 2) = some (sArr G 8610 (iup s2 k (s2 (k + 574)))) := (congrFun hM24 (m + 2)).trans (va_up_self Ml21 (m + 2) _)
          refine si_inc (lv' := [(1, .int (sI (k + 1))), (0, .ref m)]) S dX11_keeps_49 hl (k := 1) rfl (by decide) rfl (fun ls hl => ?_)
          refine lv_goto (tgt := 21) hx_ hb_ dX11_keeps_52 (by decide) ?_
          exact ih21 (k + 1) (iup s2 k (s2 (k + 574))) M24 _ _ _ (by omega) (by omega) (fun q h1 h2 => by unfold iup; by_cases e : q = k; exact (by rw [if_pos e, hA2 _ (by omega), e]); exact (by rw [if_neg e]; exact hA q h1 (by omega))) (fun q h1 => by unfold iup; rw [if_neg (by omega)]; exact hA2 q (by omega)) hc25 (fun x q0 => ((congrFun hM24 x).trans (va_up_ne Ml21 _ (by omega))).trans (hfr21 x (by omega))) hV (lv_sub hl [1, 0] rfl)
    have hc26 : M11 (m + 2) = some (sArr G 8610 sv) := ((congrFun hM11 (m + 2)).trans (va_up_ne M _ (by omega))).trans hs1
    exact L21 _ 0 sv M11 _ _ _ (Nat.lt_succ_self _) (by omega) (fun q h1 h2 => by omega) (fun q h1 => rfl) hc26 (fun x q0 => rfl) hV (lv_sub hl [1, 0] rfl)

abbrev rmX11_undo : Room := { frames := 1, cells := 0, slots := 0, locals := 40 }
set_option maxHeartbeats 4000000 in
set_option maxRecDepth 100000 in
theorem kX11_undo (l_ : Launch) (G : sG) (b_ : Nat) (M : sM) (N : Nat) (m : Nat) (th ch tn ea sn nm wn : Int) (f : sF) (fs : Int → sF) (hm0 : M m = some (mO m th ch tn ea sn nm wn)) (hm1 : M (m + 1) = some (sArr G 574 f)) (hsv : svC G M (m + 2) ch fs) (hch : 0 ≤ ch ∧ ch ≤ 15) : cI l_ yX11_undo wsX11_undo rmX11_undo G b_ M N [.ref m] (fun z_ M1 N1 => N1 = N ∧ (∀ x : Nat, ¬ (x = m) → ¬ (x = m + 1) → M1 x = M x) ∧ (((ch = 0) ∧ z_ = -1 ∧ M1 m = some (mO m 0 ch tn ea sn nm wn) ∧ M1 (m + 1) = some (sArr G 574 f) ∧ svC G M1 (m + 2) ch fs) ∨ ((1 ≤ ch) ∧ z_ = ch - 1 ∧ M1 m = some (mO m 0 (ch - 1) tn ea sn nm wn) ∧ M1 (m + 1) = some (sArr G 574 (cpF f (fs (ch - 1)))) ∧ svC G M1 (m + 2) (ch - 1) fs))) := by
  refine sE.ofI (cc := cX11_undo) (nL := 2) (ret := (some .int)) (by decide) rfl (Nat.le_of_ble_eq_true rfl) ?_
  intro p_ e_ s_ m_ args_ below_ meth_ c_ ls Q hQ E hl
  have E : sE p_ l_ e_ rmX11_undo s_ m_ args_ below_ meth_ c_ cX11_undo 2 wsX11_undo RX11 "undo" (some .int) G b_ M N := E
  have S := E.1
  have hx_ := S.1
  have hb_ := S.2.1
  have hK := E.2.2.2.2.1
  have hV := E.2.2.2.2.2.2
  have hl : lv_has ls 2 [(0, .ref m)] := hl
  have inX11_ : ∀ w ∈ wsX110, w ∈ wsX11_undo := fun _ h => List.mem_cons_of_mem _ (List.mem_append_right _ h)
  obtain ⟨sv, hs1, hs2⟩ := hsv
  refine lv_aload_n hx_ hb_ dX11_undo_0 rfl (lv_at hl 0 rfl) ?_
  refine si_const S dX11_undo_1 ?_
  refine sc_put (ci := 9) (C := RX11) (T := TX11) (n := 22) S hK hV inX11_ tyX11_ok nmX11 hm0 rfl 0 (by decide) (S.2.2.2.2 _ (List.mem_of_getElem? (i := 1) rfl)) rfl rfl rfl rfl (Nat.le_of_ble_eq_true rfl) dX11_undo_2 (fs1 := [.int (sI 0), .ref (m + 1), .ref (m + 2), .int (sI ch), .ref (m + 3), .int (sI tn), .int (sI ea), .ref (m + 4), .ref (m + 5), .ref (m + 6), .ref (m + 7), .ref (m + 8), .ref (m + 9), .int (sI sn), .ref (m + 10), .ref (m + 11), .ref (m + 12), .ref (m + 13), .int (sI nm), .ref (m + 14), .ref (m + 15), .int (sI wn)]) rfl (fun M1 H locs hM1 hV => ?_)
  have hc2 : M1 m = some (mO m 0 ch tn ea sn nm wn) := (congrFun hM1 m).trans (va_up_self M m _)
  refine lv_aload_n hx_ hb_ dX11_undo_5 rfl (lv_at hl 0 rfl) ?_
  refine sc_get (ci := 9) (C := RX11) (T := TX11) (n := 22) S hK hV inX11_ hc2 rfl 3 (by decide) (S.2.2.2.2 _ (List.mem_of_getElem? (i := 2) rfl)) rfl rfl dX11_undo_6 ?_
  refine sz_ne (tgt := 14) S dX11_undo_9 (by decide) (by omega) (fun c3 => ?_) (fun c3 => ?_)
  · refine lv_aload_n hx_ hb_ dX11_undo_14 rfl (lv_at hl 0 rfl) ?_
    refine lv_dup hx_ hb_ dX11_undo_15 rfl ?_
    refine sc_get (ci := 9) (C := RX11) (T := TX11) (n := 22) S hK hV inX11_ hc2 rfl 3 (by decide) (S.2.2.2.2 _ (List.mem_of_getElem? (i := 2) rfl)) rfl rfl dX11_undo_16 ?_
    refine si_const S dX11_undo_19 ?_
    refine si_sub S dX11_undo_20 ?_
    refine sc_put (ci := 9) (C := RX11) (T := TX11) (n := 22) S hK hV inX11_ tyX11_ok nmX11 hc2 rfl 3 (by decide) (S.2.2.2.2 _ (List.mem_of_getElem? (i := 2) rfl)) rfl rfl rfl rfl (Nat.le_of_ble_eq_true rfl) dX11_undo_21 (fs1 := [.int (sI 0), .ref (m + 1), .ref (m + 2), .int (sI (ch - 1)), .ref (m + 3), .int (sI tn), .int (sI ea), .ref (m + 4), .ref (m + 5), .ref (m + 6), .ref (m + 7), .ref (m + 8), .ref (m + 9), .int (sI sn), .ref (m + 10), .ref (m + 11), .ref (m + 12), .ref (m + 13), .int (sI nm), .ref (m + 14), .ref (m + 15), .int (sI wn)]) rfl (fun M4 H locs hM4 hV => ?_)
    have hc5 : M4 m = some (mO m 0 (ch - 1) tn ea sn nm wn) := (congrFun hM4 m).trans (va_up_self M1 m _)
    refine si_const S dX11_undo_24 ?_
    refine lv_istore_n (lv' := [(1, .int (sI 0)), (0, .ref m)]) hx_ hb_ dX11_undo_25 rfl hl (by decide) rfl (fun ls hl => ?_)
    have L26 : ∀ (fuel : Nat) (k : Int) (g2 : Int → Int) (Ml26 : sM) (H : Heap) (locs : List Loc) (ls : Array Slot), ((574 - k).toNat) < fuel → (0 ≤ k ∧ k ≤ 574) → (g2 = cpK f (fs (ch - 1)) k) → (Ml26 (m + 1) = some (sArr G 574 g2)) → (∀ x : Nat, ¬ (x = m + 1) → Ml26 x = M4 x) → sV G b_ Ml26 N s_ H locs → lv_has ls 2 [(0, .ref m), (1, .int (sI k))] → W p_ l_ e_ rmX11_undo s_ m_ args_ below_ meth_ c_ H locs 0 0 Q (F0 m_ 26 ls []) := by
      intro fuel
      induction fuel with
      | zero => intro k g2 Ml26 H locs ls hmu; exact absurd hmu (Nat.not_lt_zero _)
      | succ fuel ih26 =>
        intro k g2 Ml26 H locs ls hmu26 hv26_0 hg hm26_0 hfr26 hV hl
        refine lv_iload_n hx_ hb_ dX11_undo_26 rfl (lv_at hl 1 rfl) ?_
        refine si_sipush S dX11_undo_27 (by decide) ?_
        refine sb_ge (tgt := 60) S dX11_undo_30 (by decide) (by omega) (fun c6 => ?_) (fun c6 => ?_)
        · refine lv_aload_n hx_ hb_ dX11_undo_60 rfl (lv_at hl 0 rfl) ?_
          have hc7 : Ml26 m = some (mO m 0 (ch - 1) tn ea sn nm wn) := (hfr26 m (by omega)).trans hc5
          refine sc_get (ci := 9) (C := RX11) (T := TX11) (n := 22) S hK hV inX11_ hc7 rfl 3 (by decide) (S.2.2.2.2 _ (List.mem_of_getElem? (i := 2) rfl)) rfl rfl dX11_undo_61 ?_
          have hc8 : Ml26 (m + 2) = some (sArr G 8610 sv) := (((hfr26 (m + 2) (by omega)).trans ((congrFun hM4 (m + 2)).trans (va_up_ne M1 _ (by omega)))).trans ((congrFun hM1 (m + 2)).trans (va_up_ne M _ (by omega)))).trans hs1
          exact sr_i E hQ dX11_undo_64 ⟨Nat.le_of_ble_eq_true rfl, Nat.le_of_ble_eq_true rfl⟩ hV (⟨rfl, fun x q0 q1 => ((hfr26 x (by omega)).trans ((congrFun hM4 x).trans (va_up_ne M1 _ (by omega)))).trans ((congrFun hM1 x).trans (va_up_ne M _ (by omega))), Or.inr (⟨(by omega), rfl, hc7, by rw [hg, show k = 574 by omega] at hm26_0; exact hm26_0, ⟨sv, hc8, fun i k a b => hs2 i k a (by omega)⟩⟩)⟩)
        · refine lv_aload_n hx_ hb_ dX11_undo_33 rfl (lv_at hl 0 rfl) ?_
          have hc9 : Ml26 m = some (mO m 0 (ch - 1) tn ea sn nm wn) := (hfr26 m (by omega)).trans hc5
          refine sc_get (ci := 9) (C := RX11) (T := TX11) (n := 22) S hK hV inX11_ hc9 rfl 1 (by decide) (S.2.2.2.2 _ (List.mem_of_getElem? (i := 3) rfl)) rfl rfl dX11_undo_34 ?_
          refine lv_iload_n hx_ hb_ dX11_undo_37 rfl (lv_at hl 1 rfl) ?_
          refine lv_aload_n hx_ hb_ dX11_undo_38 rfl (lv_at hl 0 rfl) ?_
          refine sc_get (ci := 9) (C := RX11) (T := TX11) (n := 22) S hK hV inX11_ hc9 rfl 2 (by decide) (S.2.2.2.2 _ (List.mem_of_getElem? (i := 4) rfl)) rfl rfl dX11_undo_39 ?_
          refine si_sipush S dX11_undo_42 (by decide) ?_
          refine lv_aload_n hx_ hb_ dX11_undo_45 rfl (lv_at hl 0 rfl) ?_
          refine sc_get (ci := 9) (C := RX11) (T := TX11) (n := 22) S hK hV inX11_ hc9 rfl 3 (by decide) (S.2.2.2.2 _ (List.mem_of_getElem? (i := 2) rfl)) rfl rfl dX11_undo_46 ?_
          refine si_mul S dX11_undo_49 ?_
          refine lv_iload_n hx_ hb_ dX11_undo_50 rfl (lv_at hl 1 rfl) ?_
          refine si_add S dX11_undo_51 ?_
          have hc10 : Ml26 (m + 2) = some (sArr G 8610 sv) := (((hfr26 (m + 2) (by omega)).trans ((congrFun hM4 (m + 2)).trans (va_up_ne M1 _ (by omega)))).trans ((congrFun hM1 (m + 2)).trans (va_up_ne M _ (by omega)))).trans hs1
          refine sc_iald S hK hV hc10 (by omega) dX11_undo_52 ?_
          refine sc_iast S hK hV hm26_0 (by omega) dX11_undo_53 (fun M11 H locs hM11 hV => ?_)
          have hc12 : M11 (m + 1) = some (sArr G 574 (iup g2 k (sv ((574 * (ch - 1)) + k)))) := (congrFun hM11 (m + 1)).trans (va_up_self Ml26 (m + 1) _)
          refine si_inc (lv' := [(1, .int (sI (k + 1))), (0, .ref m)]) S dX11_undo_54 hl (k := 1) rfl (by decide) rfl (fun ls hl => ?_)
          refine lv_goto (tgt := 26) hx_ hb_ dX11_undo_57 (by decide) ?_
          exact ih26 (k + 1) (iup g2 k (sv ((574 * (ch - 1)) + k))) M11 _ _ _ (by omega) (by omega) (by rw [hg, hs2 (ch - 1) k (by omega) (by omega) (by omega) (by omega), cpK_s _ _ _ (by omega)]) hc12 (fun x q0 => ((congrFun hM11 x).trans (va_up_ne Ml26 _ (by omega))).trans (hfr26 x (by omega))) hV (lv_sub hl [1, 0] rfl)
    have hc13 : M4 (m + 1) = some (sArr G 574 f) := (((congrFun hM4 (m + 1)).trans (va_up_ne M1 _ (by omega))).trans ((congrFun hM1 (m + 1)).trans (va_up_ne M _ (by omega)))).trans hm1
    exact L26 _ 0 f M4 _ _ _ (Nat.lt_succ_self _) (by omega) ((cpK_0 _ _).symm) hc13 (fun x q0 => rfl) hV (lv_sub hl [1, 0] rfl)
  · refine si_const S dX11_undo_12 ?_
    have hc14 : M1 (m + 2) = some (sArr G 8610 sv) := ((congrFun hM1 (m + 2)).trans (va_up_ne M _ (by omega))).trans hs1
    have hc15 : M1 (m + 1) = some (sArr G 574 f) := ((congrFun hM1 (m + 1)).trans (va_up_ne M _ (by omega))).trans hm1
    exact sr_i E hQ dX11_undo_13 ⟨Nat.le_of_ble_eq_true rfl, Nat.le_of_ble_eq_true rfl⟩ hV (⟨rfl, fun x q0 q1 => (congrFun hM1 x).trans (va_up_ne M _ (by omega)), Or.inl ⟨(by omega), rfl, hc2, hc15, ⟨sv, hc14, hs2⟩⟩⟩)

abbrev rmX11_stones : Room := { frames := 2, cells := 0, slots := 0, locals := 60 }
set_option maxHeartbeats 4000000 in
set_option maxRecDepth 100000 in
theorem kX11_stones (l_ : Launch) (G : sG) (b_ : Nat) (M : sM) (N : Nat) (m : Nat) (th ch tn ea sn nm wn : Int) (f : sF) (hm0 : M m = some (mO m th ch tn ea sn nm wn)) (hm1 : M (m + 1) = some (sArr G 574 f)) : cI l_ yX11_stones wsX11_stones rmX11_stones G b_ M N [.ref m] (fun z_ M1 N1 => z_ = f 568 ∧ N1 = N ∧ M1 m = some (mO m 0 ch tn ea sn nm wn) ∧ (∀ x : Nat, ¬ (x = m) → M1 x = M x)) := by
  refine sE.ofI (cc := cX11_stones) (nL := 1) (ret := (some .int)) (by decide) rfl (Nat.le_of_ble_eq_true rfl) ?_
  intro p_ e_ s_ m_ args_ below_ meth_ c_ ls Q hQ E hl
  have E : sE p_ l_ e_ rmX11_stones s_ m_ args_ below_ meth_ c_ cX11_stones 1 wsX11_stones RX11 "stones" (some .int) G b_ M N := E
  have S := E.1
  have hx_ := S.1
  have hb_ := S.2.1
  have hK := E.2.2.2.2.1
  have hV := E.2.2.2.2.2.2
  have hl : lv_has ls 1 [(0, .ref m)] := hl
  have inX11_ : ∀ w ∈ wsX110, w ∈ wsX11_stones := fun _ h => List.mem_cons_of_mem _ (List.mem_append_right _ h)
  refine lv_aload_n hx_ hb_ dX11_stones_0 rfl (lv_at hl 0 rfl) ?_
  refine si_const S dX11_stones_1 ?_
  refine sc_put (ci := 9) (C := RX11) (T := TX11) (n := 22) S hK hV inX11_ tyX11_ok nmX11 hm0 rfl 0 (by decide) (S.2.2.2.2 _ (List.mem_of_getElem? (i := 1) rfl)) rfl rfl rfl rfl (Nat.le_of_ble_eq_true rfl) dX11_stones_2 (fs1 := [.int (sI 0), .ref (m + 1), .ref (m + 2), .int (sI ch), .ref (m + 3), .int (sI tn), .int (sI ea), .ref (m + 4), .ref (m + 5), .ref (m + 6), .ref (m + 7), .ref (m + 8), .ref (m + 9), .int (sI sn), .ref (m + 10), .ref (m + 11), .ref (m + 12), .ref (m + 13), .int (sI nm), .ref (m + 14), .ref (m + 15), .int (sI wn)]) rfl (fun M1 H locs hM1 hV => ?_)
  have hc2 : M1 m = some (mO m 0 ch tn ea sn nm wn) := (congrFun hM1 m).trans (va_up_self M m _)
  refine lv_aload_n hx_ hb_ dX11_stones_5 rfl (lv_at hl 0 rfl) ?_
  have hc3 : M1 (m + 1) = some (sArr G 574 f) := ((congrFun hM1 (m + 1)).trans (va_up_ne M _ (by omega))).trans hm1
  refine sk_VP E hV (As := []) (rest := []) (kX11_many l_ G b_ M1 N m 0 ch tn ea sn nm wn f hc2 hc3) (cwV 0 S.2.2.2.2 gX11_stones_X11_many rfl rfl rfl (by decide +kernel) ⟨Nat.le_of_ble_eq_true rfl, Nat.le_of_ble_eq_true rfl⟩) (ci := 9) hc2 rfl rfl rfl hl.1 (Nat.le_of_ble_eq_true rfl) dX11_stones_6 (c1 := 0) (s1 := 0) ⟨⟨rfl, rfl⟩, by decide, by decide⟩ (fun H locs hV => ?_)
  exact sr_i E hQ dX11_stones_9 ⟨Nat.le_of_ble_eq_true rfl, Nat.le_of_ble_eq_true rfl⟩ hV (⟨rfl, rfl, hc2, fun x q0 => (congrFun hM1 x).trans (va_up_ne M _ (by omega))⟩)

abbrev rmX11_time : Room := { frames := 1, cells := 0, slots := 0, locals := 40 }
set_option maxHeartbeats 4000000 in
set_option maxRecDepth 100000 in
theorem kX11_time (l_ : Launch) (G : sG) (b_ : Nat) (M : sM) (N : Nat) (m : Nat) (th ch tn ea sn nm wn : Int) (f : sF) (hm0 : M m = some (mO m th ch tn ea sn nm wn)) (hm1 : M (m + 1) = some (sArr G 574 f)) : cI l_ yX11_time wsX11_time rmX11_time G b_ M N [.ref m] (fun z_ M1 N1 => z_ = f 571 ∧ N1 = N ∧ M1 m = some (mO m 0 ch tn ea sn nm wn) ∧ (∀ x : Nat, ¬ (x = m) → M1 x = M x)) := by
  refine sE.ofI (cc := cX11_time) (nL := 1) (ret := (some .int)) (by decide) rfl (Nat.le_of_ble_eq_true rfl) ?_
  intro p_ e_ s_ m_ args_ below_ meth_ c_ ls Q hQ E hl
  have E : sE p_ l_ e_ rmX11_time s_ m_ args_ below_ meth_ c_ cX11_time 1 wsX11_time RX11 "time" (some .int) G b_ M N := E
  have S := E.1
  have hx_ := S.1
  have hb_ := S.2.1
  have hK := E.2.2.2.2.1
  have hV := E.2.2.2.2.2.2
  have hl : lv_has ls 1 [(0, .ref m)] := hl
  have inX11_ : ∀ w ∈ wsX110, w ∈ wsX11_time := fun _ h => List.mem_cons_of_mem _ (List.mem_append_right _ h)
  refine lv_aload_n hx_ hb_ dX11_time_0 rfl (lv_at hl 0 rfl) ?_
  refine si_const S dX11_time_1 ?_
  refine sc_put (ci := 9) (C := RX11) (T := TX11) (n := 22) S hK hV inX11_ tyX11_ok nmX11 hm0 rfl 0 (by decide) (S.2.2.2.2 _ (List.mem_of_getElem? (i := 1) rfl)) rfl rfl rfl rfl (Nat.le_of_ble_eq_true rfl) dX11_time_2 (fs1 := [.int (sI 0), .ref (m + 1), .ref (m + 2), .int (sI ch), .ref (m + 3), .int (sI tn), .int (sI ea), .ref (m + 4), .ref (m + 5), .ref (m + 6), .ref (m + 7), .ref (m + 8), .ref (m + 9), .int (sI sn), .ref (m + 10), .ref (m + 11), .ref (m + 12), .ref (m + 13), .int (sI nm), .ref (m + 14), .ref (m + 15), .int (sI wn)]) rfl (fun M1 H locs hM1 hV => ?_)
  have hc2 : M1 m = some (mO m 0 ch tn ea sn nm wn) := (congrFun hM1 m).trans (va_up_self M m _)
  refine lv_aload_n hx_ hb_ dX11_time_5 rfl (lv_at hl 0 rfl) ?_
  refine sc_get (ci := 9) (C := RX11) (T := TX11) (n := 22) S hK hV inX11_ hc2 rfl 1 (by decide) (S.2.2.2.2 _ (List.mem_of_getElem? (i := 2) rfl)) rfl rfl dX11_time_6 ?_
  refine si_sipush S dX11_time_9 (by decide) ?_
  have hc3 : M1 (m + 1) = some (sArr G 574 f) := ((congrFun hM1 (m + 1)).trans (va_up_ne M _ (by omega))).trans hm1
  refine sc_iald S hK hV hc3 (by omega) dX11_time_12 ?_
  exact sr_i E hQ dX11_time_13 ⟨Nat.le_of_ble_eq_true rfl, Nat.le_of_ble_eq_true rfl⟩ hV (⟨rfl, rfl, hc2, fun x q0 => (congrFun hM1 x).trans (va_up_ne M _ (by omega))⟩)

abbrev rmX11_placeOf : Room := { frames := 2, cells := 0, slots := 0, locals := 60 }
set_option maxHeartbeats 4000000 in
set_option maxRecDepth 100000 in
theorem kX11_placeOf (l_ : Launch) (G : sG) (b_ : Nat) (M : sM) (N : Nat) (m : Nat) (th ch tn ea sn nm wn : Int) (f : sF) (s : Int) (hm0 : M m = some (mO m th ch tn ea sn nm wn)) (hm1 : M (m + 1) = some (sArr G 574 f)) (hok : sOk f) (hs : 0 ≤ s ∧ s < f 568) : cP l_ yX11_placeOf wsX11_placeOf rmX11_placeOf G b_ M N [.ref m, .int (sI s)] (isum (f 568) (plT f s)) := by
  refine sE.ofI (cc := cX11_placeOf) (nL := 4) (ret := (some .int)) (by decide) rfl (Nat.le_of_ble_eq_true rfl) ?_
  intro p_ e_ s_ m_ args_ below_ meth_ c_ ls Q hQ E hl
  have E : sE p_ l_ e_ rmX11_placeOf s_ m_ args_ below_ meth_ c_ cX11_placeOf 4 wsX11_placeOf RX11 "placeOf" (some .int) G b_ M N := E
  have S := E.1
  have hx_ := S.1
  have hb_ := S.2.1
  have hK := E.2.2.2.2.1
  have hV := E.2.2.2.2.2.2
  have hl : lv_has ls 4 [(0, .ref m), (1, .int (sI s))] := hl
  have inX11_ : ∀ w ∈ wsX110, w ∈ wsX11_placeOf := fun _ h => List.mem_cons_of_mem _ (List.mem_append_right _ h)
  have kn0 := sOk_N hok
  have hs1 := sOk_S hok s hs.1 hs.2
  refine si_const S dX11_placeOf_0 ?_
  refine lv_istore_n (lv' := [(2, .int (sI 0)), (0, .ref m), (1, .int (sI s))]) hx_ hb_ dX11_placeOf_1 rfl hl (by decide) rfl (fun ls hl => ?_)
  refine si_const S dX11_placeOf_2 ?_
  refine lv_istore_n (lv' := [(3, .int (sI 0)), (2, .int (sI 0)), (0, .ref m), (1, .int (sI s))]) hx_ hb_ dX11_placeOf_3 rfl hl (by decide) rfl (fun ls hl => ?_)
  have L4 : ∀ (fuel : Nat) (n : Int) (i : Int)  (H : Heap) (locs : List Loc) (ls : Array Slot), ((f 568 - i).toNat) < fuel → (0 ≤ i ∧ i ≤ f 568) → (n = isum i (plT f s)) → (0 ≤ n ∧ n ≤ i) → sV G b_ M N s_ H locs → lv_has ls 4 [(0, .ref m), (1, .int (sI s)), (2, .int (sI n)), (3, .int (sI i))] → W p_ l_ e_ rmX11_placeOf s_ m_ args_ below_ meth_ c_ H locs 0 0 Q (F0 m_ 4 ls []) := by
    intro fuel
    induction fuel with
    | zero => intro n i H locs ls hmu; exact absurd hmu (Nat.not_lt_zero _)
    | succ fuel ih4 =>
      intro n i H locs ls hmu4 hv4_0 hn hv4_2  hV hl
      refine lv_iload_n hx_ hb_ dX11_placeOf_4 rfl (lv_at hl 3 rfl) ?_
      refine lv_aload_n hx_ hb_ dX11_placeOf_5 rfl (lv_at hl 0 rfl) ?_
      refine sk_VP E hV (As := []) (rest := [.int (sI i)]) (kX11_many l_ G b_ M N m th ch tn ea sn nm wn f hm0 hm1) (cwV 0 S.2.2.2.2 gX11_placeOf_X11_many rfl rfl rfl (by decide +kernel) ⟨Nat.le_of_ble_eq_true rfl, Nat.le_of_ble_eq_true rfl⟩) (ci := 9) hm0 rfl rfl rfl hl.1 (Nat.le_of_ble_eq_true rfl) dX11_placeOf_6 (c1 := 0) (s1 := 0) ⟨⟨rfl, rfl⟩, by decide, by decide⟩ (fun H locs hV => ?_)
      refine sb_ge (tgt := 45) S dX11_placeOf_9 (by decide) (by omega) (fun c1 => ?_) (fun c1 => ?_)
      · refine lv_iload_n hx_ hb_ dX11_placeOf_45 rfl (lv_at hl 2 rfl) ?_
        exact sr_i E hQ dX11_placeOf_46 ⟨Nat.le_of_ble_eq_true rfl, Nat.le_of_ble_eq_true rfl⟩ hV (⟨by rw [hn, show i = f 568 by omega], rfl, rfl⟩)
      · refine lv_iload_n hx_ hb_ dX11_placeOf_12 rfl (lv_at hl 2 rfl) ?_
        refine lv_aload_n hx_ hb_ dX11_placeOf_13 rfl (lv_at hl 0 rfl) ?_
        refine sc_get (ci := 9) (C := RX11) (T := TX11) (n := 22) S hK hV inX11_ hm0 rfl 1 (by decide) (S.2.2.2.2 _ (List.mem_of_getElem? (i := 1) rfl)) rfl rfl dX11_placeOf_14 ?_
        refine si_const S dX11_placeOf_17 ?_
        refine lv_iload_n hx_ hb_ dX11_placeOf_18 rfl (lv_at hl 3 rfl) ?_
        refine si_add S dX11_placeOf_19 ?_
        rw [Int.zero_add]
        refine sc_iald S hK hV hm1 (by omega) dX11_placeOf_20 ?_
        refine lv_aload_n hx_ hb_ dX11_placeOf_21 rfl (lv_at hl 0 rfl) ?_
        refine sc_get (ci := 9) (C := RX11) (T := TX11) (n := 22) S hK hV inX11_ hm0 rfl 1 (by decide) (S.2.2.2.2 _ (List.mem_of_getElem? (i := 1) rfl)) rfl rfl dX11_placeOf_22 ?_
        refine si_const S dX11_placeOf_25 ?_
        refine lv_iload_n hx_ hb_ dX11_placeOf_26 rfl (lv_at hl 1 rfl) ?_
        refine si_add S dX11_placeOf_27 ?_
        rw [Int.zero_add]
        refine sc_iald S hK hV hm1 (by omega) dX11_placeOf_28 ?_
        have hi1 := sOk_S hok i (by omega) (by omega)
        refine sb_ge (tgt := 36) S dX11_placeOf_29 (by decide) (by omega) (fun c2 => ?_) (fun c2 => ?_)
        · refine si_const S dX11_placeOf_36 ?_
          refine si_add S dX11_placeOf_37 ?_
          refine lv_istore_n (lv' := [(2, .int (sI (n + 0))), (0, .ref m), (1, .int (sI s)), (3, .int (sI i))]) hx_ hb_ dX11_placeOf_38 rfl hl (by decide) rfl (fun ls hl => ?_)
          refine si_inc (lv' := [(3, .int (sI (i + 1))), (2, .int (sI (n + 0))), (0, .ref m), (1, .int (sI s))]) S dX11_placeOf_39 hl (k := 3) rfl (by decide) rfl (fun ls hl => ?_)
          refine lv_goto (tgt := 4) hx_ hb_ dX11_placeOf_42 (by decide) ?_
          exact ih4 (n + 0) (i + 1) _ _ _ (by omega) (by omega) (by have e := isum_s (plT f s) (show 0 ≤ i by omega); have e2 : plT f s i = if f i < f s then 1 else 0 := rfl; split at e2 <;> omega) (by omega) hV (lv_sub hl [2, 3, 1, 0] rfl)
        · refine si_const S dX11_placeOf_32 ?_
          refine lv_goto (tgt := 37) hx_ hb_ dX11_placeOf_33 (by decide) ?_
          refine si_add S dX11_placeOf_37 ?_
          refine lv_istore_n (lv' := [(2, .int (sI (n + 1))), (0, .ref m), (1, .int (sI s)), (3, .int (sI i))]) hx_ hb_ dX11_placeOf_38 rfl hl (by decide) rfl (fun ls hl => ?_)
          refine si_inc (lv' := [(3, .int (sI (i + 1))), (2, .int (sI (n + 1))), (0, .ref m), (1, .int (sI s))]) S dX11_placeOf_39 hl (k := 3) rfl (by decide) rfl (fun ls hl => ?_)
          refine lv_goto (tgt := 4) hx_ hb_ dX11_placeOf_42 (by decide) ?_
          exact ih4 (n + 1) (i + 1) _ _ _ (by omega) (by omega) (by have e := isum_s (plT f s) (show 0 ≤ i by omega); have e2 : plT f s i = if f i < f s then 1 else 0 := rfl; split at e2 <;> omega) (by omega) hV (lv_sub hl [2, 3, 1, 0] rfl)
  exact L4 _ 0 0 _ _ _ (Nat.lt_succ_self _) (by omega) (rfl) (by omega) hV (lv_sub hl [2, 3, 1, 0] rfl)

abbrev rmX11_stoneOf : Room := { frames := 3, cells := 0, slots := 0, locals := 83 }
set_option maxHeartbeats 4000000 in
set_option maxRecDepth 100000 in
theorem kX11_stoneOf (l_ : Launch) (G : sG) (b_ : Nat) (M : sM) (N : Nat) (m : Nat) (th ch tn ea sn nm wn : Int) (f : sF) (s w : Int) (hm0 : M m = some (mO m th ch tn ea sn nm wn)) (hm1 : M (m + 1) = some (sArr G 574 f)) (hok : sOk f) (hr : sR s ∧ sR w) : cI l_ yX11_stoneOf wsX11_stoneOf rmX11_stoneOf G b_ M N [.ref m, .int (sI s), .int (sI w)] (fun z_ M1 N1 => N1 = N ∧ (∀ x : Nat, ¬ (x = m) → M1 x = M x) ∧ (((¬ (0 ≤ s ∧ s < f 568)) ∧ z_ = 0 ∧ M1 m = some (mO m 1 ch tn ea sn nm wn)) ∨ (((0 ≤ s ∧ s < f 568) ∧ ¬ (0 ≤ w ∧ w ≤ 5)) ∧ z_ = 0 ∧ M1 m = some (mO m 2 ch tn ea sn nm wn)) ∨ (((0 ≤ s ∧ s < f 568) ∧ w = 5) ∧ z_ = isum (f 568) (plT f s) ∧ M1 m = some (mO m 0 ch tn ea sn nm wn)) ∨ (((0 ≤ s ∧ s < f 568) ∧ 0 ≤ w ∧ w ≤ 4) ∧ z_ = f (10 + 10 * w + s) ∧ M1 m = some (mO m 0 ch tn ea sn nm wn)))) := by
  refine sE.ofI (cc := cX11_stoneOf) (nL := 3) (ret := (some .int)) (by decide) rfl (Nat.le_of_ble_eq_true rfl) ?_
  intro p_ e_ s_ m_ args_ below_ meth_ c_ ls Q hQ E hl
  have E : sE p_ l_ e_ rmX11_stoneOf s_ m_ args_ below_ meth_ c_ cX11_stoneOf 3 wsX11_stoneOf RX11 "stoneOf" (some .int) G b_ M N := E
  have S := E.1
  have hx_ := S.1
  have hb_ := S.2.1
  have hK := E.2.2.2.2.1
  have hV := E.2.2.2.2.2.2
  have hl : lv_has ls 3 [(0, .ref m), (1, .int (sI s)), (2, .int (sI w))] := hl
  have inX11_ : ∀ w ∈ wsX110, w ∈ wsX11_stoneOf := fun _ h => List.mem_cons_of_mem _ (List.mem_append_right _ h)
  have kn0 := sOk_N hok
  refine lv_aload_n hx_ hb_ dX11_stoneOf_0 rfl (lv_at hl 0 rfl) ?_
  refine si_const S dX11_stoneOf_1 ?_
  refine sc_put (ci := 9) (C := RX11) (T := TX11) (n := 22) S hK hV inX11_ tyX11_ok nmX11 hm0 rfl 0 (by decide) (S.2.2.2.2 _ (List.mem_of_getElem? (i := 1) rfl)) rfl rfl rfl rfl (Nat.le_of_ble_eq_true rfl) dX11_stoneOf_2 (fs1 := [.int (sI 0), .ref (m + 1), .ref (m + 2), .int (sI ch), .ref (m + 3), .int (sI tn), .int (sI ea), .ref (m + 4), .ref (m + 5), .ref (m + 6), .ref (m + 7), .ref (m + 8), .ref (m + 9), .int (sI sn), .ref (m + 10), .ref (m + 11), .ref (m + 12), .ref (m + 13), .int (sI nm), .ref (m + 14), .ref (m + 15), .int (sI wn)]) rfl (fun M1 H locs hM1 hV => ?_)
  have hc2 : M1 m = some (mO m 0 ch tn ea sn nm wn) := (congrFun hM1 m).trans (va_up_self M m _)
  refine lv_aload_n hx_ hb_ dX11_stoneOf_5 rfl (lv_at hl 0 rfl) ?_
  refine lv_iload_n hx_ hb_ dX11_stoneOf_6 rfl (lv_at hl 1 rfl) ?_
  have hc3 : M1 (m + 1) = some (sArr G 574 f) := ((congrFun hM1 (m + 1)).trans (va_up_ne M _ (by omega))).trans hm1
  refine sk_Vi E hV (As := [.int (sI s)]) (rest := []) (kX11_noStone l_ G b_ M1 N m ch tn ea sn nm wn f s hc2 hc3 (by omega) (by omega)) (cwV 1 S.2.2.2.2 gX11_stoneOf_X11_noStone rfl rfl rfl (by decide +kernel) ⟨Nat.le_of_ble_eq_true rfl, Nat.le_of_ble_eq_true rfl⟩) (ci := 9) hc2 rfl rfl rfl hl.1 (Nat.le_of_ble_eq_true rfl) dX11_stoneOf_7 (c1 := 0) (s1 := 0) ⟨⟨rfl, rfl⟩, by decide, by decide⟩ (fun z7 M4 N5 H locs hp6 hV => ?_)
  obtain ⟨hN8, hf9, hq10⟩ := hp6
  rw [hN8] at hV
  rcases hq10 with ⟨c11, ez12, hc13⟩ | ⟨c14, ez15, hc16⟩
  · rw [ez12]
    refine sz_ne (tgt := 27) S dX11_stoneOf_10 (by decide) (by omega) (fun c17 => absurd c17 (by omega)) (fun _ => ?_)
    refine lv_aload_n hx_ hb_ dX11_stoneOf_13 rfl (lv_at hl 0 rfl) ?_
    refine lv_iload_n hx_ hb_ dX11_stoneOf_14 rfl (lv_at hl 2 rfl) ?_
    refine si_const S dX11_stoneOf_15 ?_
    refine si_const S dX11_stoneOf_16 ?_
    refine sk_SP E hV (As := [.int (sI w), .int (sI 0), .int (sI 5)]) (rest := [.ref m]) (kX11_in l_ G b_ M4 N w 0 5 (by omega)) (va_cwS 3 S.2.2.2.2 gX11_stoneOf_X11_in rfl rfl rfl (by decide +kernel) ⟨Nat.le_of_ble_eq_true rfl, Nat.le_of_ble_eq_true rfl⟩) rfl rfl hl.1 (Nat.le_of_ble_eq_true rfl) dX11_stoneOf_17 (c1 := 0) (s1 := 0) ⟨⟨rfl, rfl⟩, by decide, by decide⟩ (fun H locs hV => ?_)
    refine si_const S dX11_stoneOf_20 ?_
    refine sk_Vi E hV (As := [.int (sI (bI (0 ≤ w ∧ w ≤ 5))), .int (sI 2)]) (rest := []) (kX11_fails l_ G b_ M4 N m ch tn ea sn nm wn 2 (0 ≤ w ∧ w ≤ 5) hc13 (by omega)) (cwV 2 S.2.2.2.2 gX11_stoneOf_X11_fails rfl rfl rfl (by decide +kernel) ⟨Nat.le_of_ble_eq_true rfl, Nat.le_of_ble_eq_true rfl⟩) (ci := 9) hc13 rfl rfl rfl hl.1 (Nat.le_of_ble_eq_true rfl) dX11_stoneOf_21 (c1 := 0) (s1 := 0) ⟨⟨rfl, rfl⟩, by decide, by decide⟩ (fun z21 M18 N19 H locs hp20 hV => ?_)
    obtain ⟨hN22, hf23, hq24⟩ := hp20
    rw [hN22] at hV
    rcases hq24 with ⟨c25, ez26, hc27⟩ | ⟨c28, ez29, hc30⟩
    · rw [ez26]
      refine sz_eq (tgt := 29) S dX11_stoneOf_24 (by decide) (by omega) (fun _ => ?_) (fun c31 => absurd c31 (by omega))
      refine lv_iload_n hx_ hb_ dX11_stoneOf_29 rfl (lv_at hl 2 rfl) ?_
      refine si_const S dX11_stoneOf_30 ?_
      refine sb_ne (tgt := 42) S dX11_stoneOf_31 (by decide) (by omega) (fun h31 => ?_) (fun h31 => ?_)
      · refine lv_aload_n hx_ hb_ dX11_stoneOf_42 rfl (lv_at hl 0 rfl) ?_
        refine sc_get (ci := 9) (C := RX11) (T := TX11) (n := 22) S hK hV inX11_ hc27 rfl 1 (by decide) (S.2.2.2.2 _ (List.mem_of_getElem? (i := 2) rfl)) rfl rfl dX11_stoneOf_43 ?_
        refine si_bipush S dX11_stoneOf_46 (by decide) ?_
        refine si_bipush S dX11_stoneOf_48 (by decide) ?_
        refine lv_iload_n hx_ hb_ dX11_stoneOf_50 rfl (lv_at hl 2 rfl) ?_
        refine si_mul S dX11_stoneOf_51 ?_
        refine si_add S dX11_stoneOf_52 ?_
        refine lv_iload_n hx_ hb_ dX11_stoneOf_53 rfl (lv_at hl 1 rfl) ?_
        refine si_add S dX11_stoneOf_54 ?_
        have hc32 : M18 (m + 1) = some (sArr G 574 f) := ((hf23 (m + 1) (by omega)).trans (hf9 (m + 1) (by omega))).trans hc3
        refine sc_iald S hK hV hc32 (by omega) dX11_stoneOf_55 ?_
        exact sr_i E hQ dX11_stoneOf_56 ⟨Nat.le_of_ble_eq_true rfl, Nat.le_of_ble_eq_true rfl⟩ hV (⟨rfl, fun x q0 => ((hf23 x (by omega)).trans (hf9 x (by omega))).trans ((congrFun hM1 x).trans (va_up_ne M _ (by omega))), Or.inr (Or.inr (Or.inr (⟨(by omega), rfl, hc27⟩)))⟩)
      · refine lv_aload_n hx_ hb_ dX11_stoneOf_34 rfl (lv_at hl 0 rfl) ?_
        refine lv_iload_n hx_ hb_ dX11_stoneOf_35 rfl (lv_at hl 1 rfl) ?_
        have hc33 : M18 (m + 1) = some (sArr G 574 f) := ((hf23 (m + 1) (by omega)).trans (hf9 (m + 1) (by omega))).trans hc3
        refine sk_VP E hV (As := [.int (sI s)]) (rest := []) (kX11_placeOf l_ G b_ M18 N m 0 ch tn ea sn nm wn f s hc27 hc33 (by omega) (by omega)) (cwV 1 S.2.2.2.2 gX11_stoneOf_X11_placeOf rfl rfl rfl (by decide +kernel) ⟨Nat.le_of_ble_eq_true rfl, Nat.le_of_ble_eq_true rfl⟩) (ci := 9) hc27 rfl rfl rfl hl.1 (Nat.le_of_ble_eq_true rfl) dX11_stoneOf_36 (c1 := 0) (s1 := 0) ⟨⟨rfl, rfl⟩, by decide, by decide⟩ (fun H locs hV => ?_)
        refine lv_goto (tgt := 56) hx_ hb_ dX11_stoneOf_39 (by decide) ?_
        exact sr_i E hQ dX11_stoneOf_56 ⟨Nat.le_of_ble_eq_true rfl, Nat.le_of_ble_eq_true rfl⟩ hV (⟨rfl, fun x q0 => ((hf23 x (by omega)).trans (hf9 x (by omega))).trans ((congrFun hM1 x).trans (va_up_ne M _ (by omega))), Or.inr (Or.inr (Or.inl ⟨(by omega), rfl, hc27⟩))⟩)
    · rw [ez29]
      refine sz_eq (tgt := 29) S dX11_stoneOf_24 (by decide) (by omega) (fun c34 => absurd c34 (by omega)) (fun _ => ?_)
      refine si_const S dX11_stoneOf_27 ?_
      exact sr_i E hQ dX11_stoneOf_28 ⟨Nat.le_of_ble_eq_true rfl, Nat.le_of_ble_eq_true rfl⟩ hV (⟨rfl, fun x q0 => ((hf23 x (by omega)).trans (hf9 x (by omega))).trans ((congrFun hM1 x).trans (va_up_ne M _ (by omega))), Or.inr (Or.inl ⟨(by omega), rfl, hc30⟩)⟩)
  · rw [ez15]
    refine sz_ne (tgt := 27) S dX11_stoneOf_10 (by decide) (by omega) (fun _ => ?_) (fun c35 => absurd c35 (by omega))
    refine si_const S dX11_stoneOf_27 ?_
    exact sr_i E hQ dX11_stoneOf_28 ⟨Nat.le_of_ble_eq_true rfl, Nat.le_of_ble_eq_true rfl⟩ hV (⟨rfl, fun x q0 => (hf9 x (by omega)).trans ((congrFun hM1 x).trans (va_up_ne M _ (by omega))), Or.inl ⟨(by omega), rfl, hc16⟩⟩)

abbrev rmX11_scratch : Room := { frames := 3, cells := 0, slots := 0, locals := 83 }
set_option maxHeartbeats 4000000 in
set_option maxRecDepth 100000 in
theorem kX11_scratch (l_ : Launch) (G : sG) (b_ : Nat) (M : sM) (N : Nat) (m : Nat) (th ch tn ea sn nm wn : Int) (f : sF) (fs : Int → sF) (p q : Int) (hm0 : M m = some (mO m th ch tn ea sn nm wn)) (hm1 : M (m + 1) = some (sArr G 574 f)) (hsv : svC G M (m + 2) ch fs) (hok : sOk f) (hch : 0 ≤ ch ∧ ch ≤ 15) (hr : sR p ∧ sR q) : cI l_ yX11_scratch wsX11_scratch rmX11_scratch G b_ M N [.ref m, .int (sI p), .int (sI q)] (fun z_ M1 N1 => N1 = N ∧ (∀ x : Nat, ¬ (x = m) → ¬ (x = m + 1) → ¬ (x = m + 2) → M1 x = M x) ∧ (((¬ ((0 ≤ p ∧ p < f 568) ∧ (0 ≤ q ∧ q < f 568))) ∧ z_ = 0 ∧ M1 m = some (mO m 1 ch tn ea sn nm wn) ∧ M1 (m + 1) = some (sArr G 574 f) ∧ svC G M1 (m + 2) ch fs) ∨ ((((0 ≤ p ∧ p < f 568) ∧ (0 ≤ q ∧ q < f 568)) ∧ p = q) ∧ z_ = 0 ∧ M1 m = some (mO m 2 ch tn ea sn nm wn) ∧ M1 (m + 1) = some (sArr G 574 f) ∧ svC G M1 (m + 2) ch fs) ∨ ((((0 ≤ p ∧ p < f 568) ∧ (0 ≤ q ∧ q < f 568)) ∧ p ≠ q ∧ 40 ≤ f 569) ∧ z_ = 0 ∧ M1 m = some (mO m 3 ch tn ea sn nm wn) ∧ M1 (m + 1) = some (sArr G 574 f) ∧ svC G M1 (m + 2) ch fs) ∨ ((((0 ≤ p ∧ p < f 568) ∧ (0 ≤ q ∧ q < f 568)) ∧ p ≠ q ∧ f 569 < 40) ∧ z_ = f 569 ∧ M1 m = some (mO m 0 (chn ch) tn ea sn nm wn) ∧ M1 (m + 1) = some (sArr G 574 (scF f p q)) ∧ svC G M1 (m + 2) (chn ch) (fsn ch fs f)))) := by
  refine sE.ofI (cc := cX11_scratch) (nL := 4) (ret := (some .int)) (by decide) rfl (Nat.le_of_ble_eq_true rfl) ?_
  intro p_ e_ s_ m_ args_ below_ meth_ c_ ls Q hQ E hl
  have E : sE p_ l_ e_ rmX11_scratch s_ m_ args_ below_ meth_ c_ cX11_scratch 4 wsX11_scratch RX11 "scratch" (some .int) G b_ M N := E
  have S := E.1
  have hx_ := S.1
  have hb_ := S.2.1
  have hK := E.2.2.2.2.1
  have hV := E.2.2.2.2.2.2
  have hl : lv_has ls 4 [(0, .ref m), (1, .int (sI p)), (2, .int (sI q))] := hl
  have inX11_ : ∀ w ∈ wsX110, w ∈ wsX11_scratch := fun _ h => List.mem_cons_of_mem _ (List.mem_append_right _ h)
  have kn0 := sOk_N hok
  refine lv_aload_n hx_ hb_ dX11_scratch_0 rfl (lv_at hl 0 rfl) ?_
  refine si_const S dX11_scratch_1 ?_
  refine sc_put (ci := 9) (C := RX11) (T := TX11) (n := 22) S hK hV inX11_ tyX11_ok nmX11 hm0 rfl 0 (by decide) (S.2.2.2.2 _ (List.mem_of_getElem? (i := 1) rfl)) rfl rfl rfl rfl (Nat.le_of_ble_eq_true rfl) dX11_scratch_2 (fs1 := [.int (sI 0), .ref (m + 1), .ref (m + 2), .int (sI ch), .ref (m + 3), .int (sI tn), .int (sI ea), .ref (m + 4), .ref (m + 5), .ref (m + 6), .ref (m + 7), .ref (m + 8), .ref (m + 9), .int (sI sn), .ref (m + 10), .ref (m + 11), .ref (m + 12), .ref (m + 13), .int (sI nm), .ref (m + 14), .ref (m + 15), .int (sI wn)]) rfl (fun M1 H locs hM1 hV => ?_)
  have hc2 : M1 m = some (mO m 0 ch tn ea sn nm wn) := (congrFun hM1 m).trans (va_up_self M m _)
  refine lv_aload_n hx_ hb_ dX11_scratch_5 rfl (lv_at hl 0 rfl) ?_
  refine lv_iload_n hx_ hb_ dX11_scratch_6 rfl (lv_at hl 1 rfl) ?_
  have hc3 : M1 (m + 1) = some (sArr G 574 f) := ((congrFun hM1 (m + 1)).trans (va_up_ne M _ (by omega))).trans hm1
  refine sk_Vi E hV (As := [.int (sI p)]) (rest := []) (kX11_noStone l_ G b_ M1 N m ch tn ea sn nm wn f p hc2 hc3 (by omega) (by omega)) (cwV 1 S.2.2.2.2 gX11_scratch_X11_noStone rfl rfl rfl (by decide +kernel) ⟨Nat.le_of_ble_eq_true rfl, Nat.le_of_ble_eq_true rfl⟩) (ci := 9) hc2 rfl rfl rfl hl.1 (Nat.le_of_ble_eq_true rfl) dX11_scratch_7 (c1 := 0) (s1 := 0) ⟨⟨rfl, rfl⟩, by decide, by decide⟩ (fun z7 M4 N5 H locs hp6 hV => ?_)
  obtain ⟨hN8, hf9, hq10⟩ := hp6
  rw [hN8] at hV
  rcases hq10 with ⟨c11, ez12, hc13⟩ | ⟨c14, ez15, hc16⟩
  · rw [ez12]
    refine sz_ne (tgt := 65) S dX11_scratch_10 (by decide) (by omega) (fun c17 => absurd c17 (by omega)) (fun _ => ?_)
    refine lv_aload_n hx_ hb_ dX11_scratch_13 rfl (lv_at hl 0 rfl) ?_
    refine lv_iload_n hx_ hb_ dX11_scratch_14 rfl (lv_at hl 2 rfl) ?_
    have hc18 : M4 (m + 1) = some (sArr G 574 f) := (hf9 (m + 1) (by omega)).trans hc3
    refine sk_Vi E hV (As := [.int (sI q)]) (rest := []) (kX11_noStone l_ G b_ M4 N m ch tn ea sn nm wn f q hc13 hc18 (by omega) (by omega)) (cwV 1 S.2.2.2.2 gX11_scratch_X11_noStone rfl rfl rfl (by decide +kernel) ⟨Nat.le_of_ble_eq_true rfl, Nat.le_of_ble_eq_true rfl⟩) (ci := 9) hc13 rfl rfl rfl hl.1 (Nat.le_of_ble_eq_true rfl) dX11_scratch_15 (c1 := 0) (s1 := 0) ⟨⟨rfl, rfl⟩, by decide, by decide⟩ (fun z22 M19 N20 H locs hp21 hV => ?_)
    obtain ⟨hN23, hf24, hq25⟩ := hp21
    rw [hN23] at hV
    rcases hq25 with ⟨c26, ez27, hc28⟩ | ⟨c29, ez30, hc31⟩
    · rw [ez27]
      refine sz_ne (tgt := 65) S dX11_scratch_18 (by decide) (by omega) (fun c32 => absurd c32 (by omega)) (fun _ => ?_)
      refine lv_aload_n hx_ hb_ dX11_scratch_21 rfl (lv_at hl 0 rfl) ?_
      refine lv_iload_n hx_ hb_ dX11_scratch_22 rfl (lv_at hl 1 rfl) ?_
      refine lv_iload_n hx_ hb_ dX11_scratch_23 rfl (lv_at hl 2 rfl) ?_
      refine sb_eq (tgt := 31) S dX11_scratch_24 (by decide) (by omega) (fun c33 => ?_) (fun c33 => ?_)
      · refine si_const S dX11_scratch_31 ?_
        refine si_const S dX11_scratch_32 ?_
        refine sk_Vi E hV (As := [.int (sI 0), .int (sI 2)]) (rest := []) (kX11_fails0 l_ G b_ M19 N m ch tn ea sn nm wn 2 hc28 (by omega)) (cwV 2 S.2.2.2.2 gX11_scratch_X11_fails rfl rfl rfl (by decide +kernel) ⟨Nat.le_of_ble_eq_true rfl, Nat.le_of_ble_eq_true rfl⟩) (ci := 9) hc28 rfl rfl rfl hl.1 (Nat.le_of_ble_eq_true rfl) dX11_scratch_33 (c1 := 0) (s1 := 0) ⟨⟨rfl, rfl⟩, by decide, by decide⟩ (fun z37 M34 N35 H locs hp36 hV => ?_)
        obtain ⟨ez38, hN39, hc40, hf41⟩ := hp36
        rw [hN39] at hV
        rw [ez38]
        refine sz_ne (tgt := 65) S dX11_scratch_36 (by decide) (by omega) (fun _ => ?_) (fun c42 => absurd c42 (by omega))
        refine si_const S dX11_scratch_65 ?_
        have hc43 : M34 (m + 1) = some (sArr G 574 f) := ((hf41 (m + 1) (by omega)).trans (hf24 (m + 1) (by omega))).trans hc18
        have hc44 : svC G M34 (m + 2) ch fs := hsv.fr (fun x q8 q9 => (((hf41 x (by omega)).trans (hf24 x (by omega))).trans (hf9 x (by omega))).trans ((congrFun hM1 x).trans (va_up_ne M _ (by omega))))
        exact sr_i E hQ dX11_scratch_66 ⟨Nat.le_of_ble_eq_true rfl, Nat.le_of_ble_eq_true rfl⟩ hV (⟨rfl, fun x q0 q1 q2 => (((hf41 x (by omega)).trans (hf24 x (by omega))).trans (hf9 x (by omega))).trans ((congrFun hM1 x).trans (va_up_ne M _ (by omega))), Or.inr (Or.inl ⟨(by omega), rfl, hc40, hc43, hc44⟩)⟩)
      · refine si_const S dX11_scratch_27 ?_
        refine lv_goto (tgt := 32) hx_ hb_ dX11_scratch_28 (by decide) ?_
        refine si_const S dX11_scratch_32 ?_
        refine sk_Vi E hV (As := [.int (sI 1), .int (sI 2)]) (rest := []) (kX11_fails1 l_ G b_ M19 N m ch tn ea sn nm wn 2 hc28 (by omega)) (cwV 2 S.2.2.2.2 gX11_scratch_X11_fails rfl rfl rfl (by decide +kernel) ⟨Nat.le_of_ble_eq_true rfl, Nat.le_of_ble_eq_true rfl⟩) (ci := 9) hc28 rfl rfl rfl hl.1 (Nat.le_of_ble_eq_true rfl) dX11_scratch_33 (c1 := 0) (s1 := 0) ⟨⟨rfl, rfl⟩, by decide, by decide⟩ (fun z48 M45 N46 H locs hp47 hV => ?_)
        obtain ⟨ez49, hN50, hc51, hf52⟩ := hp47
        rw [hN50] at hV
        rw [ez49]
        refine sz_ne (tgt := 65) S dX11_scratch_36 (by decide) (by omega) (fun c53 => absurd c53 (by omega)) (fun _ => ?_)
        refine lv_aload_n hx_ hb_ dX11_scratch_39 rfl (lv_at hl 0 rfl) ?_
        refine lv_aload_n hx_ hb_ dX11_scratch_40 rfl (lv_at hl 0 rfl) ?_
        refine sc_get (ci := 9) (C := RX11) (T := TX11) (n := 22) S hK hV inX11_ hc51 rfl 1 (by decide) (S.2.2.2.2 _ (List.mem_of_getElem? (i := 2) rfl)) rfl rfl dX11_scratch_41 ?_
        refine si_sipush S dX11_scratch_44 (by decide) ?_
        have hc54 : M45 (m + 1) = some (sArr G 574 f) := ((hf52 (m + 1) (by omega)).trans (hf24 (m + 1) (by omega))).trans hc18
        refine sc_iald S hK hV hc54 (by omega) dX11_scratch_47 ?_
        refine si_bipush S dX11_scratch_48 (by decide) ?_
        refine sb_ge (tgt := 57) S dX11_scratch_50 (by decide) (by omega) (fun c55 => ?_) (fun c55 => ?_)
        · refine si_const S dX11_scratch_57 ?_
          refine si_const S dX11_scratch_58 ?_
          refine sk_Vi E hV (As := [.int (sI 0), .int (sI 3)]) (rest := []) (kX11_fails0 l_ G b_ M45 N m ch tn ea sn nm wn 3 hc51 (by omega)) (cwV 2 S.2.2.2.2 gX11_scratch_X11_fails rfl rfl rfl (by decide +kernel) ⟨Nat.le_of_ble_eq_true rfl, Nat.le_of_ble_eq_true rfl⟩) (ci := 9) hc51 rfl rfl rfl hl.1 (Nat.le_of_ble_eq_true rfl) dX11_scratch_59 (c1 := 0) (s1 := 0) ⟨⟨rfl, rfl⟩, by decide, by decide⟩ (fun z59 M56 N57 H locs hp58 hV => ?_)
          obtain ⟨ez60, hN61, hc62, hf63⟩ := hp58
          rw [hN61] at hV
          rw [ez60]
          refine sz_eq (tgt := 67) S dX11_scratch_62 (by decide) (by omega) (fun c64 => absurd c64 (by omega)) (fun _ => ?_)
          refine si_const S dX11_scratch_65 ?_
          have hc65 : M56 (m + 1) = some (sArr G 574 f) := (hf63 (m + 1) (by omega)).trans hc54
          have hc66 : svC G M56 (m + 2) ch fs := hsv.fr (fun x q8 q9 => ((((hf63 x (by omega)).trans (hf52 x (by omega))).trans (hf24 x (by omega))).trans (hf9 x (by omega))).trans ((congrFun hM1 x).trans (va_up_ne M _ (by omega))))
          exact sr_i E hQ dX11_scratch_66 ⟨Nat.le_of_ble_eq_true rfl, Nat.le_of_ble_eq_true rfl⟩ hV (⟨rfl, fun x q0 q1 q2 => ((((hf63 x (by omega)).trans (hf52 x (by omega))).trans (hf24 x (by omega))).trans (hf9 x (by omega))).trans ((congrFun hM1 x).trans (va_up_ne M _ (by omega))), Or.inr (Or.inr (Or.inl ⟨(by omega), rfl, hc62, hc65, hc66⟩))⟩)
        · refine si_const S dX11_scratch_53 ?_
          refine lv_goto (tgt := 58) hx_ hb_ dX11_scratch_54 (by decide) ?_
          refine si_const S dX11_scratch_58 ?_
          refine sk_Vi E hV (As := [.int (sI 1), .int (sI 3)]) (rest := []) (kX11_fails1 l_ G b_ M45 N m ch tn ea sn nm wn 3 hc51 (by omega)) (cwV 2 S.2.2.2.2 gX11_scratch_X11_fails rfl rfl rfl (by decide +kernel) ⟨Nat.le_of_ble_eq_true rfl, Nat.le_of_ble_eq_true rfl⟩) (ci := 9) hc51 rfl rfl rfl hl.1 (Nat.le_of_ble_eq_true rfl) dX11_scratch_59 (c1 := 0) (s1 := 0) ⟨⟨rfl, rfl⟩, by decide, by decide⟩ (fun z70 M67 N68 H locs hp69 hV => ?_)
          obtain ⟨ez71, hN72, hc73, hf74⟩ := hp69
          rw [hN72] at hV
          rw [ez71]
          refine sz_eq (tgt := 67) S dX11_scratch_62 (by decide) (by omega) (fun _ => ?_) (fun c75 => absurd c75 (by omega))
          refine lv_aload_n hx_ hb_ dX11_scratch_67 rfl (lv_at hl 0 rfl) ?_
          have hc76 : M67 (m + 1) = some (sArr G 574 f) := (hf74 (m + 1) (by omega)).trans hc54
          have hc77 : svC G M67 (m + 2) ch fs := hsv.fr (fun x q8 q9 => ((((hf74 x (by omega)).trans (hf52 x (by omega))).trans (hf24 x (by omega))).trans (hf9 x (by omega))).trans ((congrFun hM1 x).trans (va_up_ne M _ (by omega))))
          refine sk_Vv E hV (As := []) (rest := []) (kX11_keeps l_ G b_ M67 N m 0 ch tn ea sn nm wn f fs hc73 hc76 hc77 (by omega)) (cwV 0 S.2.2.2.2 gX11_scratch_X11_keeps rfl rfl rfl (by decide +kernel) ⟨Nat.le_of_ble_eq_true rfl, Nat.le_of_ble_eq_true rfl⟩) (ci := 9) hc73 rfl rfl rfl hl.1 (Nat.le_of_ble_eq_true rfl) dX11_scratch_68 (c1 := 0) (s1 := 0) ⟨⟨rfl, rfl⟩, by decide, by decide⟩ (fun M78 N79 H locs hp80 hV => ?_)
          obtain ⟨hN82, hc83, hc84, hf85⟩ := hp80
          rw [hN82] at hV
          refine lv_aload_n hx_ hb_ dX11_scratch_71 rfl (lv_at hl 0 rfl) ?_
          refine sc_get (ci := 9) (C := RX11) (T := TX11) (n := 22) S hK hV inX11_ hc83 rfl 1 (by decide) (S.2.2.2.2 _ (List.mem_of_getElem? (i := 2) rfl)) rfl rfl dX11_scratch_72 ?_
          refine si_sipush S dX11_scratch_75 (by decide) ?_
          have hc86 : M78 (m + 1) = some (sArr G 574 f) := (hf85 (m + 1) (by omega) (by omega)).trans hc76
          refine sc_iald S hK hV hc86 (by omega) dX11_scratch_78 ?_
          refine lv_istore_n (lv' := [(3, .int (sI (f 569))), (0, .ref m), (1, .int (sI p)), (2, .int (sI q))]) hx_ hb_ dX11_scratch_79 rfl hl (by decide) rfl (fun ls hl => ?_)
          refine lv_aload_n hx_ hb_ dX11_scratch_80 rfl (lv_at hl 1 rfl) ?_
          refine sc_get (ci := 9) (C := RX11) (T := TX11) (n := 22) S hK hV inX11_ hc83 rfl 1 (by decide) (S.2.2.2.2 _ (List.mem_of_getElem? (i := 2) rfl)) rfl rfl dX11_scratch_81 ?_
          refine si_bipush S dX11_scratch_84 (by decide) ?_
          refine lv_iload_n hx_ hb_ dX11_scratch_86 rfl (lv_at hl 0 rfl) ?_
          refine si_add S dX11_scratch_87 ?_
          refine lv_iload_n hx_ hb_ dX11_scratch_88 rfl (lv_at hl 2 rfl) ?_
          refine sc_iast S hK hV hc86 (by omega) dX11_scratch_89 (fun M87 H locs hM87 hV => ?_)
          have hc88 : M87 (m + 1) = some (sArr G 574 (iup f (70 + (f 569)) p)) := (congrFun hM87 (m + 1)).trans (va_up_self M78 (m + 1) _)
          refine lv_aload_n hx_ hb_ dX11_scratch_90 rfl (lv_at hl 1 rfl) ?_
          have hc89 : M87 m = some (mO m 0 (chn ch) tn ea sn nm wn) := ((congrFun hM87 m).trans (va_up_ne M78 _ (by omega))).trans hc83
          refine sc_get (ci := 9) (C := RX11) (T := TX11) (n := 22) S hK hV inX11_ hc89 rfl 1 (by decide) (S.2.2.2.2 _ (List.mem_of_getElem? (i := 2) rfl)) rfl rfl dX11_scratch_91 ?_
          refine si_bipush S dX11_scratch_94 (by decide) ?_
          refine lv_iload_n hx_ hb_ dX11_scratch_96 rfl (lv_at hl 0 rfl) ?_
          refine si_add S dX11_scratch_97 ?_
          refine lv_iload_n hx_ hb_ dX11_scratch_98 rfl (lv_at hl 3 rfl) ?_
          refine sc_iast S hK hV hc88 (by omega) dX11_scratch_99 (fun M90 H locs hM90 hV => ?_)
          have hc91 : M90 (m + 1) = some (sArr G 574 (iup (iup f (70 + (f 569)) p) (110 + (f 569)) q)) := (congrFun hM90 (m + 1)).trans (va_up_self M87 (m + 1) _)
          refine lv_aload_n hx_ hb_ dX11_scratch_100 rfl (lv_at hl 1 rfl) ?_
          have hc92 : M90 m = some (mO m 0 (chn ch) tn ea sn nm wn) := ((congrFun hM90 m).trans (va_up_ne M87 _ (by omega))).trans hc89
          refine sc_get (ci := 9) (C := RX11) (T := TX11) (n := 22) S hK hV inX11_ hc92 rfl 1 (by decide) (S.2.2.2.2 _ (List.mem_of_getElem? (i := 2) rfl)) rfl rfl dX11_scratch_101 ?_
          refine si_sipush S dX11_scratch_104 (by decide) ?_
          refine lv_dup2_11 hx_ hb_ dX11_scratch_107 rfl rfl ?_
          refine sc_iald S hK hV hc91 (by omega) dX11_scratch_108 ?_
          rw [show (iup (iup f (70 + (f 569)) p) (110 + (f 569)) q) 569 = f 569 from by simp only [iup]; (repeat (first | rw [if_pos (by omega)] | rw [if_neg (by omega)]))]
          refine si_const S dX11_scratch_109 ?_
          refine si_add S dX11_scratch_110 ?_
          refine sc_iast S hK hV hc91 (by omega) dX11_scratch_111 (fun M93 H locs hM93 hV => ?_)
          have hc94 : M93 (m + 1) = some (sArr G 574 (iup (iup (iup f (70 + (f 569)) p) (110 + (f 569)) q) 569 ((f 569) + 1))) := (congrFun hM93 (m + 1)).trans (va_up_self M90 (m + 1) _)
          refine lv_iload_n hx_ hb_ dX11_scratch_112 rfl (lv_at hl 0 rfl) ?_
          have hc95 : M93 m = some (mO m 0 (chn ch) tn ea sn nm wn) := ((congrFun hM93 m).trans (va_up_ne M90 _ (by omega))).trans hc92
          have hc96 : svC G M93 (m + 2) (chn ch) (fsn ch fs f) := hc84.fr (fun x q8 q9 => (((congrFun hM93 x).trans (va_up_ne M90 _ (by omega))).trans ((congrFun hM90 x).trans (va_up_ne M87 _ (by omega)))).trans ((congrFun hM87 x).trans (va_up_ne M78 _ (by omega))))
          exact sr_i E hQ dX11_scratch_113 ⟨Nat.le_of_ble_eq_true rfl, Nat.le_of_ble_eq_true rfl⟩ hV (⟨rfl, fun x q0 q1 q2 => (((((((((congrFun hM93 x).trans (va_up_ne M90 _ (by omega))).trans ((congrFun hM90 x).trans (va_up_ne M87 _ (by omega)))).trans ((congrFun hM87 x).trans (va_up_ne M78 _ (by omega)))).trans (hf85 x (by omega) (by omega))).trans (hf74 x (by omega))).trans (hf52 x (by omega))).trans (hf24 x (by omega))).trans (hf9 x (by omega))).trans ((congrFun hM1 x).trans (va_up_ne M _ (by omega))), Or.inr (Or.inr (Or.inr (⟨(by omega), rfl, hc95, hc94, hc96⟩)))⟩)
    · rw [ez30]
      refine sz_ne (tgt := 65) S dX11_scratch_18 (by decide) (by omega) (fun _ => ?_) (fun c97 => absurd c97 (by omega))
      refine si_const S dX11_scratch_65 ?_
      have hc98 : M19 (m + 1) = some (sArr G 574 f) := (hf24 (m + 1) (by omega)).trans hc18
      have hc99 : svC G M19 (m + 2) ch fs := hsv.fr (fun x q8 q9 => ((hf24 x (by omega)).trans (hf9 x (by omega))).trans ((congrFun hM1 x).trans (va_up_ne M _ (by omega))))
      exact sr_i E hQ dX11_scratch_66 ⟨Nat.le_of_ble_eq_true rfl, Nat.le_of_ble_eq_true rfl⟩ hV (⟨rfl, fun x q0 q1 q2 => ((hf24 x (by omega)).trans (hf9 x (by omega))).trans ((congrFun hM1 x).trans (va_up_ne M _ (by omega))), Or.inl ⟨(by omega), rfl, hc31, hc98, hc99⟩⟩)
  · rw [ez15]
    refine sz_ne (tgt := 65) S dX11_scratch_10 (by decide) (by omega) (fun _ => ?_) (fun c100 => absurd c100 (by omega))
    refine si_const S dX11_scratch_65 ?_
    have hc101 : M4 (m + 1) = some (sArr G 574 f) := (hf9 (m + 1) (by omega)).trans hc3
    have hc102 : svC G M4 (m + 2) ch fs := hsv.fr (fun x q8 q9 => (hf9 x (by omega)).trans ((congrFun hM1 x).trans (va_up_ne M _ (by omega))))
    exact sr_i E hQ dX11_scratch_66 ⟨Nat.le_of_ble_eq_true rfl, Nat.le_of_ble_eq_true rfl⟩ hV (⟨rfl, fun x q0 q1 q2 => (hf9 x (by omega)).trans ((congrFun hM1 x).trans (va_up_ne M _ (by omega))), Or.inl ⟨(by omega), rfl, hc16, hc101, hc102⟩⟩)
