/-- the drawers, taken over into a row -/
def cpD (f p : sF) (k : Int) : sF := fun q => if 0 ≤ q ∧ q < k then f (50 + q) else p q
theorem cpD_0 (f p : sF) : p = cpD f p 0 := by
  funext q
  unfold cpD
  rw [if_neg (by omega)]
theorem cpD_s (f p : sF) (k : Int) (h : 0 ≤ k) : iup (cpD f p k) k (f (50 + k)) = cpD f p (k + 1) := by
  funext q
  unfold iup cpD
  by_cases e : q = k
  · rw [if_pos e, if_pos (by omega), e]
  · rw [if_neg e]
    by_cases e2 : 0 ≤ q ∧ q < k
    · rw [if_pos e2, if_pos (by omega)]
    · rw [if_neg e2, if_neg (by omega)]
theorem wy_ex {f p : sF} {s i : Int} (hi : 0 ≤ i) (Q : Prop) (hQ : wyP f p s i ↔ Q) : ((∃ o, 0 ≤ o ∧ o < i ∧ wyP f p s o) ∨ Q) ↔ ∃ o, 0 ≤ o ∧ o < i + 1 ∧ wyP f p s o := by
  constructor
  · rintro (⟨o, a, b, c⟩ | q)
    · exact ⟨o, a, by omega, c⟩
    · exact ⟨i, hi, by omega, hQ.mpr q⟩
  · rintro ⟨o, a, b, c⟩
    by_cases e : o = i
    · subst e; exact Or.inr (hQ.mp c)
    · exact Or.inl ⟨o, a, by omega, c⟩

abbrev rmX11_why : Room := { frames := 2, cells := 0, slots := 0, locals := 62 }
set_option maxHeartbeats 4000000 in
set_option maxRecDepth 100000 in
theorem kX11_why (l_ : Launch) (G : sG) (b_ : Nat) (M : sM) (N : Nat) (m : Nat) (th ch tn ea sn nm wn : Int) (f : sF) (p : sF) (s n : Int) (hm0 : M m = some (mO m th ch tn ea sn nm wn)) (hm1 : M (m + 1) = some (sArr G 574 f)) (hm8 : M (m + 8) = some (sArr G 10 p)) (hok : sOk f) (hs : 0 ≤ s ∧ s < f 568) (hn : 0 ≤ n ∧ n ≤ f 568) (hp : ∀ o, 0 ≤ o → o < n → -1 ≤ p o ∧ p o ≤ 3) (hps : 0 ≤ p s ∧ p s ≤ 3) : cP l_ yX11_why wsX11_why rmX11_why G b_ M N [.ref m, .int (sI s), .int (sI n)] (whyM f p s n) := by
  refine sE.ofI (cc := cX11_why) (nL := 8) (ret := (some .int)) (by decide) rfl (Nat.le_of_ble_eq_true rfl) ?_
  intro p_ e_ s_ m_ args_ below_ meth_ c_ ls Q hQ E hl
  have E : sE p_ l_ e_ rmX11_why s_ m_ args_ below_ meth_ c_ cX11_why 8 wsX11_why RX11 "why" (some .int) G b_ M N := E
  have S := E.1
  have hx_ := S.1
  have hb_ := S.2.1
  have hK := E.2.2.2.2.1
  have hV := E.2.2.2.2.2.2
  have hl : lv_has ls 8 [(0, .ref m), (1, .int (sI s)), (2, .int (sI n))] := hl
  have inX11_ : ∀ w ∈ wsX110, w ∈ wsX11_why := fun _ h => List.mem_cons_of_mem _ (List.mem_append_right _ h)
  have kn0 := sOk_N hok
  refine lv_aload_n hx_ hb_ dX11_why_0 rfl (lv_at hl 0 rfl) ?_
  refine sc_get (ci := 9) (C := RX11) (T := TX11) (n := 22) S hK hV inX11_ hm0 rfl 11 (by decide) (S.2.2.2.2 _ (List.mem_of_getElem? (i := 1) rfl)) rfl rfl dX11_why_1 ?_
  refine lv_iload_n hx_ hb_ dX11_why_4 rfl (lv_at hl 1 rfl) ?_
  refine sc_iald S hK hV hm8 (by omega) dX11_why_5 ?_
  refine lv_istore_n (lv' := [(3, .int (sI (p s))), (0, .ref m), (1, .int (sI s)), (2, .int (sI n))]) hx_ hb_ dX11_why_6 rfl hl (by decide) rfl (fun ls hl => ?_)
  refine lv_aload_n hx_ hb_ dX11_why_7 rfl (lv_at hl 1 rfl) ?_
  refine sc_get (ci := 9) (C := RX11) (T := TX11) (n := 22) S hK hV inX11_ hm0 rfl 1 (by decide) (S.2.2.2.2 _ (List.mem_of_getElem? (i := 2) rfl)) rfl rfl dX11_why_8 ?_
  refine si_bipush S dX11_why_11 (by decide) ?_
  refine lv_iload_n hx_ hb_ dX11_why_13 rfl (lv_at hl 2 rfl) ?_
  refine si_add S dX11_why_14 ?_
  refine sc_iald S hK hV hm1 (by omega) dX11_why_15 ?_
  have kn1 : 1 ≤ f (20 + s) ∧ f (20 + s) ≤ 9 := (sOk_S hok s (by omega) (by omega)).2.2.1
  refine lv_istore (lv' := [(4, .int (sI (f (20 + s)))), (3, .int (sI (p s))), (0, .ref m), (1, .int (sI s)), (2, .int (sI n))]) hx_ hb_ dX11_why_16 hl (by decide) rfl (fun ls hl => ?_)
  refine lv_aload_n hx_ hb_ dX11_why_18 rfl (lv_at hl 2 rfl) ?_
  refine sc_get (ci := 9) (C := RX11) (T := TX11) (n := 22) S hK hV inX11_ hm0 rfl 1 (by decide) (S.2.2.2.2 _ (List.mem_of_getElem? (i := 2) rfl)) rfl rfl dX11_why_19 ?_
  refine si_bipush S dX11_why_22 (by decide) ?_
  refine lv_iload_n hx_ hb_ dX11_why_24 rfl (lv_at hl 3 rfl) ?_
  refine si_add S dX11_why_25 ?_
  refine sc_iald S hK hV hm1 (by omega) dX11_why_26 ?_
  have kn2 : 1 ≤ f (30 + s) ∧ f (30 + s) ≤ 99 := (sOk_S hok s (by omega) (by omega)).2.2.2.1
  refine lv_istore (lv' := [(5, .int (sI (f (30 + s)))), (4, .int (sI (f (20 + s)))), (3, .int (sI (p s))), (0, .ref m), (1, .int (sI s)), (2, .int (sI n))]) hx_ hb_ dX11_why_27 hl (by decide) rfl (fun ls hl => ?_)
  refine si_const S dX11_why_29 ?_
  refine lv_istore (lv' := [(6, .int (sI 0)), (5, .int (sI (f (30 + s)))), (4, .int (sI (f (20 + s)))), (3, .int (sI (p s))), (0, .ref m), (1, .int (sI s)), (2, .int (sI n))]) hx_ hb_ dX11_why_30 hl (by decide) rfl (fun ls hl => ?_)
  refine si_const S dX11_why_32 ?_
  refine lv_istore (lv' := [(7, .int (sI 0)), (6, .int (sI 0)), (5, .int (sI (f (30 + s)))), (4, .int (sI (f (20 + s)))), (3, .int (sI (p s))), (0, .ref m), (1, .int (sI s)), (2, .int (sI n))]) hx_ hb_ dX11_why_33 hl (by decide) rfl (fun ls hl => ?_)
  have L35 : ∀ (fuel : Nat) (z : Int) (y : Int) (x : Int) (i : Int)  (H : Heap) (locs : List Loc) (ls : Array Slot), ((n - i).toNat) < fuel → (0 ≤ i ∧ i ≤ n) → (z = f (20 + s) + isum i (wyT f p s 1)) → (y = f (30 + s) + isum i (wyT f p s 2)) → (x = bI (∃ o, 0 ≤ o ∧ o < i ∧ wyP f p s o)) → sV G b_ M N s_ H locs → lv_has ls 8 [(0, .ref m), (1, .int (sI s)), (2, .int (sI n)), (3, .int (sI (p s))), (4, .int (sI z)), (5, .int (sI y)), (6, .int (sI x)), (7, .int (sI i))] → W p_ l_ e_ rmX11_why s_ m_ args_ below_ meth_ c_ H locs 0 0 Q (F0 m_ 35 ls []) := by
    intro fuel
    induction fuel with
    | zero => intro z y x i H locs ls hmu; exact absurd hmu (Nat.not_lt_zero _)
    | succ fuel ih35 =>
      intro z y x i H locs ls hmu35 hv35_0 hz hy hxx  hV hl
      have w1 := wy_r (p := p) hok s 1 i (by omega) (by omega)
      have w2 := wy_r (p := p) hok s 2 i (by omega) (by omega)
      refine lv_iload hx_ hb_ dX11_why_35 (lv_at hl 7 rfl) ?_
      refine lv_iload_n hx_ hb_ dX11_why_37 rfl (lv_at hl 2 rfl) ?_
      refine sb_ge (tgt := 125) S dX11_why_38 (by decide) (by omega) (fun c3 => ?_) (fun c3 => ?_)
      · have ei : i = n := by omega
        subst ei
        refine lv_iload hx_ hb_ dX11_why_125 (lv_at hl 4 rfl) ?_
        refine lv_aload_n hx_ hb_ dX11_why_127 rfl (lv_at hl 0 rfl) ?_
        refine sc_get (ci := 9) (C := RX11) (T := TX11) (n := 22) S hK hV inX11_ hm0 rfl 1 (by decide) (S.2.2.2.2 _ (List.mem_of_getElem? (i := 2) rfl)) rfl rfl dX11_why_128 ?_
        refine si_sipush S dX11_why_131 (by decide) ?_
        refine lv_iload_n hx_ hb_ dX11_why_134 rfl (lv_at hl 3 rfl) ?_
        refine si_add S dX11_why_135 ?_
        refine sc_iald S hK hV hm1 (by omega) dX11_why_136 ?_
        have kn4 : 0 ≤ f (150 + (p s)) ∧ f (150 + (p s)) ≤ 99 := (sOk_D hok (p s) (by omega) (by omega)).1
        refine sb_le (tgt := 144) S dX11_why_137 (by decide) (by omega) (fun c5 => ?_) (fun c5 => ?_)
        · refine lv_iload hx_ hb_ dX11_why_144 (lv_at hl 5 rfl) ?_
          refine lv_aload_n hx_ hb_ dX11_why_146 rfl (lv_at hl 0 rfl) ?_
          refine sc_get (ci := 9) (C := RX11) (T := TX11) (n := 22) S hK hV inX11_ hm0 rfl 1 (by decide) (S.2.2.2.2 _ (List.mem_of_getElem? (i := 2) rfl)) rfl rfl dX11_why_147 ?_
          refine si_sipush S dX11_why_150 (by decide) ?_
          refine lv_iload_n hx_ hb_ dX11_why_153 rfl (lv_at hl 3 rfl) ?_
          refine si_add S dX11_why_154 ?_
          refine sc_iald S hK hV hm1 (by omega) dX11_why_155 ?_
          have kn6 : 0 ≤ f (154 + (p s)) ∧ f (154 + (p s)) ≤ 999 := (sOk_D hok (p s) (by omega) (by omega)).2
          refine sb_le (tgt := 163) S dX11_why_156 (by decide) (by omega) (fun c7 => ?_) (fun c7 => ?_)
          · refine lv_iload hx_ hb_ dX11_why_163 (lv_at hl 6 rfl) ?_
            refine sz_eq (tgt := 172) S dX11_why_165 (by decide) (by rw [hxx]; have := bI_r (c := ∃ o, 0 ≤ o ∧ o < i ∧ wyP f p s o); omega) (fun h165 => ?_) (fun h165 => ?_)
            · refine si_const S dX11_why_172 ?_
              exact sr_i E hQ dX11_why_173 ⟨Nat.le_of_ble_eq_true rfl, Nat.le_of_ble_eq_true rfl⟩ hV (⟨by unfold whyM; rw [pif_f (by omega), pif_f (by omega), pif_f (bI_0.mp (by omega))], rfl, rfl⟩)
            · refine si_const S dX11_why_168 ?_
              refine lv_goto (tgt := 173) hx_ hb_ dX11_why_169 (by decide) ?_
              exact sr_i E hQ dX11_why_173 ⟨Nat.le_of_ble_eq_true rfl, Nat.le_of_ble_eq_true rfl⟩ hV (⟨by unfold whyM; rw [pif_f (by omega), pif_f (by omega), pif_t (bI_1.mp (by have := bI_r (c := ∃ o, 0 ≤ o ∧ o < i ∧ wyP f p s o); omega))], rfl, rfl⟩)
          · refine si_const S dX11_why_159 ?_
            refine lv_goto (tgt := 173) hx_ hb_ dX11_why_160 (by decide) ?_
            exact sr_i E hQ dX11_why_173 ⟨Nat.le_of_ble_eq_true rfl, Nat.le_of_ble_eq_true rfl⟩ hV (⟨by unfold whyM; rw [pif_f (by omega), pif_t (by omega)], rfl, rfl⟩)
        · refine si_const S dX11_why_140 ?_
          refine lv_goto (tgt := 173) hx_ hb_ dX11_why_141 (by decide) ?_
          exact sr_i E hQ dX11_why_173 ⟨Nat.le_of_ble_eq_true rfl, Nat.le_of_ble_eq_true rfl⟩ hV (⟨by unfold whyM; rw [pif_t (by omega)], rfl, rfl⟩)
      · refine lv_iload hx_ hb_ dX11_why_41 (lv_at hl 7 rfl) ?_
        refine lv_iload_n hx_ hb_ dX11_why_43 rfl (lv_at hl 1 rfl) ?_
        refine sb_eq (tgt := 119) S dX11_why_44 (by decide) (by omega) (fun c8 => ?_) (fun c8 => ?_)
        · refine si_inc (lv' := [(7, .int (sI (i + 1))), (0, .ref m), (1, .int (sI s)), (2, .int (sI n)), (3, .int (sI (p s))), (4, .int (sI z)), (5, .int (sI y)), (6, .int (sI x))]) S dX11_why_119 hl (k := 7) rfl (by decide) rfl (fun ls hl => ?_)
          refine lv_goto (tgt := 35) hx_ hb_ dX11_why_122 (by decide) ?_
          exact ih35 z y x (i + 1) _ _ _ (by omega) (by omega) (by have e := isum_s (wyT f p s 1) (show 0 ≤ i by omega); have e2 : wyT f p s 1 i = if i ≠ s ∧ p i = p s then (if (1 : Int) = 1 then f (20 + i) else f (30 + i)) else 0 := rfl; rw [if_pos rfl] at e2; split at e2 <;> omega) (by have e := isum_s (wyT f p s 2) (show 0 ≤ i by omega); have e2 : wyT f p s 2 i = if i ≠ s ∧ p i = p s then (if (2 : Int) = 1 then f (20 + i) else f (30 + i)) else 0 := rfl; rw [if_neg (show ¬ (2 : Int) = 1 by omega)] at e2; split at e2 <;> omega) (by rw [hxx]; first | (rw [ior_bb]; exact bI_c (wy_ex (by omega) _ ⟨fun h => h.2.2, fun h => ⟨by omega, by omega, h⟩⟩)) | exact bI_c (Iff.trans ⟨Or.inl, fun h => h.elim id False.elim⟩ (wy_ex (by omega) False ⟨fun h => by obtain ⟨a, b, c⟩ := h; omega, False.elim⟩))) hV (lv_sub hl [1, 2, 3, 4, 5, 6, 7, 0] rfl)
        · refine lv_aload_n hx_ hb_ dX11_why_47 rfl (lv_at hl 0 rfl) ?_
          refine sc_get (ci := 9) (C := RX11) (T := TX11) (n := 22) S hK hV inX11_ hm0 rfl 11 (by decide) (S.2.2.2.2 _ (List.mem_of_getElem? (i := 1) rfl)) rfl rfl dX11_why_48 ?_
          refine lv_iload hx_ hb_ dX11_why_51 (lv_at hl 7 rfl) ?_
          refine sc_iald S hK hV hm8 (by omega) dX11_why_53 ?_
          have kn9 := hp i (by omega) (by omega)
          refine lv_iload_n hx_ hb_ dX11_why_54 rfl (lv_at hl 3 rfl) ?_
          refine sb_eq (tgt := 61) S dX11_why_55 (by decide) (by omega) (fun c10 => ?_) (fun c10 => ?_)
          · refine lv_iload hx_ hb_ dX11_why_61 (lv_at hl 4 rfl) ?_
            refine lv_aload_n hx_ hb_ dX11_why_63 rfl (lv_at hl 0 rfl) ?_
            refine sc_get (ci := 9) (C := RX11) (T := TX11) (n := 22) S hK hV inX11_ hm0 rfl 1 (by decide) (S.2.2.2.2 _ (List.mem_of_getElem? (i := 2) rfl)) rfl rfl dX11_why_64 ?_
            refine si_bipush S dX11_why_67 (by decide) ?_
            refine lv_iload hx_ hb_ dX11_why_69 (lv_at hl 7 rfl) ?_
            refine si_add S dX11_why_71 ?_
            refine sc_iald S hK hV hm1 (by omega) dX11_why_72 ?_
            have kn11 : 1 ≤ f (20 + i) ∧ f (20 + i) ≤ 9 := (sOk_S hok i (by omega) (by omega)).2.2.1
            refine si_add S dX11_why_73 ?_
            refine lv_istore (lv' := [(4, .int (sI (z + (f (20 + i))))), (0, .ref m), (1, .int (sI s)), (2, .int (sI n)), (3, .int (sI (p s))), (5, .int (sI y)), (6, .int (sI x)), (7, .int (sI i))]) hx_ hb_ dX11_why_74 hl (by decide) rfl (fun ls hl => ?_)
            refine lv_iload hx_ hb_ dX11_why_76 (lv_at hl 5 rfl) ?_
            refine lv_aload_n hx_ hb_ dX11_why_78 rfl (lv_at hl 1 rfl) ?_
            refine sc_get (ci := 9) (C := RX11) (T := TX11) (n := 22) S hK hV inX11_ hm0 rfl 1 (by decide) (S.2.2.2.2 _ (List.mem_of_getElem? (i := 2) rfl)) rfl rfl dX11_why_79 ?_
            refine si_bipush S dX11_why_82 (by decide) ?_
            refine lv_iload hx_ hb_ dX11_why_84 (lv_at hl 7 rfl) ?_
            refine si_add S dX11_why_86 ?_
            refine sc_iald S hK hV hm1 (by omega) dX11_why_87 ?_
            have kn12 : 1 ≤ f (30 + i) ∧ f (30 + i) ≤ 99 := (sOk_S hok i (by omega) (by omega)).2.2.2.1
            refine si_add S dX11_why_88 ?_
            refine lv_istore (lv' := [(5, .int (sI (y + (f (30 + i))))), (4, .int (sI (z + (f (20 + i))))), (0, .ref m), (1, .int (sI s)), (2, .int (sI n)), (3, .int (sI (p s))), (6, .int (sI x)), (7, .int (sI i))]) hx_ hb_ dX11_why_89 hl (by decide) rfl (fun ls hl => ?_)
            refine lv_iload hx_ hb_ dX11_why_91 (lv_at hl 6 rfl) ?_
            refine lv_aload_n hx_ hb_ dX11_why_93 rfl (lv_at hl 2 rfl) ?_
            refine lv_aload_n hx_ hb_ dX11_why_94 rfl (lv_at hl 2 rfl) ?_
            refine sc_get (ci := 9) (C := RX11) (T := TX11) (n := 22) S hK hV inX11_ hm0 rfl 1 (by decide) (S.2.2.2.2 _ (List.mem_of_getElem? (i := 2) rfl)) rfl rfl dX11_why_95 ?_
            refine si_bipush S dX11_why_98 (by decide) ?_
            refine lv_iload hx_ hb_ dX11_why_100 (lv_at hl 7 rfl) ?_
            refine si_add S dX11_why_102 ?_
            refine sc_iald S hK hV hm1 (by omega) dX11_why_103 ?_
            have kn13 : 0 ≤ f (10 + i) ∧ f (10 + i) ≤ 5 := (sOk_S hok i (by omega) (by omega)).2.1
            refine lv_aload_n hx_ hb_ dX11_why_104 rfl (lv_at hl 2 rfl) ?_
            refine sc_get (ci := 9) (C := RX11) (T := TX11) (n := 22) S hK hV inX11_ hm0 rfl 1 (by decide) (S.2.2.2.2 _ (List.mem_of_getElem? (i := 2) rfl)) rfl rfl dX11_why_105 ?_
            refine si_bipush S dX11_why_108 (by decide) ?_
            refine lv_iload_n hx_ hb_ dX11_why_110 rfl (lv_at hl 3 rfl) ?_
            refine si_add S dX11_why_111 ?_
            refine sc_iald S hK hV hm1 (by omega) dX11_why_112 ?_
            have kn14 : 0 ≤ f (10 + s) ∧ f (10 + s) ≤ 5 := (sOk_S hok s (by omega) (by omega)).2.1
            refine sk_VP E hV (As := [.int (sI (f (10 + i))), .int (sI (f (10 + s)))]) (rest := [.int (sI x)]) (kX11_areParted l_ G b_ M N m th ch tn ea sn nm wn f (f (10 + i)) (f (10 + s)) hm0 hm1 (by omega) (by omega)) (cwV 2 S.2.2.2.2 gX11_why_X11_areParted rfl rfl rfl (by decide +kernel) ⟨Nat.le_of_ble_eq_true rfl, Nat.le_of_ble_eq_true rfl⟩) (ci := 9) hm0 rfl rfl rfl hl.1 (Nat.le_of_ble_eq_true rfl) dX11_why_113 (c1 := 0) (s1 := 0) ⟨⟨rfl, rfl⟩, by decide, by decide⟩ (fun H locs hV => ?_)
            refine si_or S dX11_why_116 ?_
            refine lv_istore (lv' := [(6, .int (sI (ior x (bI (tb (f (158 + (f (10 + i)))) (f (10 + s))))))), (5, .int (sI (y + (f (30 + i))))), (4, .int (sI (z + (f (20 + i))))), (0, .ref m), (1, .int (sI s)), (2, .int (sI n)), (3, .int (sI (p s))), (7, .int (sI i))]) hx_ hb_ dX11_why_117 hl (by decide) rfl (fun ls hl => ?_)
            refine si_inc (lv' := [(7, .int (sI (i + 1))), (6, .int (sI (ior x (bI (tb (f (158 + (f (10 + i)))) (f (10 + s))))))), (5, .int (sI (y + (f (30 + i))))), (4, .int (sI (z + (f (20 + i))))), (0, .ref m), (1, .int (sI s)), (2, .int (sI n)), (3, .int (sI (p s)))]) S dX11_why_119 hl (k := 7) rfl (by decide) rfl (fun ls hl => ?_)
            refine lv_goto (tgt := 35) hx_ hb_ dX11_why_122 (by decide) ?_
            exact ih35 (z + (f (20 + i))) (y + (f (30 + i))) (ior x (bI (tb (f (158 + (f (10 + i)))) (f (10 + s))))) (i + 1) _ _ _ (by omega) (by omega) (by have e := isum_s (wyT f p s 1) (show 0 ≤ i by omega); have e2 : wyT f p s 1 i = if i ≠ s ∧ p i = p s then (if (1 : Int) = 1 then f (20 + i) else f (30 + i)) else 0 := rfl; rw [if_pos rfl] at e2; split at e2 <;> omega) (by have e := isum_s (wyT f p s 2) (show 0 ≤ i by omega); have e2 : wyT f p s 2 i = if i ≠ s ∧ p i = p s then (if (2 : Int) = 1 then f (20 + i) else f (30 + i)) else 0 := rfl; rw [if_neg (show ¬ (2 : Int) = 1 by omega)] at e2; split at e2 <;> omega) (by rw [hxx]; first | (rw [ior_bb]; exact bI_c (wy_ex (by omega) _ ⟨fun h => h.2.2, fun h => ⟨by omega, by omega, h⟩⟩)) | exact bI_c (Iff.trans ⟨Or.inl, fun h => h.elim id False.elim⟩ (wy_ex (by omega) False ⟨fun h => by obtain ⟨a, b, c⟩ := h; omega, False.elim⟩))) hV (lv_sub hl [4, 5, 6, 7, 3, 2, 1, 0] rfl)
          · refine lv_goto (tgt := 119) hx_ hb_ dX11_why_58 (by decide) ?_
            refine si_inc (lv' := [(7, .int (sI (i + 1))), (0, .ref m), (1, .int (sI s)), (2, .int (sI n)), (3, .int (sI (p s))), (4, .int (sI z)), (5, .int (sI y)), (6, .int (sI x))]) S dX11_why_119 hl (k := 7) rfl (by decide) rfl (fun ls hl => ?_)
            refine lv_goto (tgt := 35) hx_ hb_ dX11_why_122 (by decide) ?_
            exact ih35 z y x (i + 1) _ _ _ (by omega) (by omega) (by have e := isum_s (wyT f p s 1) (show 0 ≤ i by omega); have e2 : wyT f p s 1 i = if i ≠ s ∧ p i = p s then (if (1 : Int) = 1 then f (20 + i) else f (30 + i)) else 0 := rfl; rw [if_pos rfl] at e2; split at e2 <;> omega) (by have e := isum_s (wyT f p s 2) (show 0 ≤ i by omega); have e2 : wyT f p s 2 i = if i ≠ s ∧ p i = p s then (if (2 : Int) = 1 then f (20 + i) else f (30 + i)) else 0 := rfl; rw [if_neg (show ¬ (2 : Int) = 1 by omega)] at e2; split at e2 <;> omega) (by rw [hxx]; first | (rw [ior_bb]; exact bI_c (wy_ex (by omega) _ ⟨fun h => h.2.2, fun h => ⟨by omega, by omega, h⟩⟩)) | exact bI_c (Iff.trans ⟨Or.inl, fun h => h.elim id False.elim⟩ (wy_ex (by omega) False ⟨fun h => by obtain ⟨a, b, c⟩ := h; omega, False.elim⟩))) hV (lv_sub hl [1, 2, 3, 4, 5, 6, 7, 0] rfl)
  exact L35 _ (f (20 + s)) (f (30 + s)) 0 0 _ _ _ (Nat.lt_succ_self _) (by omega) (by rw [isum_0]; omega) (by rw [isum_0]; omega) ((bI_f (fun h => by obtain ⟨o, a, b, c⟩ := h; omega)).symm) hV (lv_sub hl [5, 6, 7, 4, 3, 2, 1, 0] rfl)

abbrev rmX11_looksAtDrawers : Room := { frames := 2, cells := 0, slots := 0, locals := 60 }
set_option maxHeartbeats 4000000 in
set_option maxRecDepth 100000 in
theorem kX11_looksAtDrawers (l_ : Launch) (G : sG) (b_ : Nat) (M : sM) (N : Nat) (m : Nat) (th ch tn ea sn nm wn : Int) (f : sF) (p : sF) (hm0 : M m = some (mO m th ch tn ea sn nm wn)) (hm1 : M (m + 1) = some (sArr G 574 f)) (hm8 : M (m + 8) = some (sArr G 10 p)) (hok : sOk f) : cV l_ yX11_looksAtDrawers wsX11_looksAtDrawers rmX11_looksAtDrawers G b_ M N [.ref m] (fun M1 N1 => N1 = N ∧ M1 (m + 8) = some (sArr G 10 (cpD f p (f 568))) ∧ (∀ x : Nat, ¬ (x = m + 8) → M1 x = M x)) := by
  refine sE.ofV (cc := cX11_looksAtDrawers) (nL := 2) (ret := none) (by decide) rfl (Nat.le_of_ble_eq_true rfl) ?_
  intro p_ e_ s_ m_ args_ below_ meth_ c_ ls Q hQ E hl
  have E : sE p_ l_ e_ rmX11_looksAtDrawers s_ m_ args_ below_ meth_ c_ cX11_looksAtDrawers 2 wsX11_looksAtDrawers RX11 "looksAtDrawers" none G b_ M N := E
  have S := E.1
  have hx_ := S.1
  have hb_ := S.2.1
  have hK := E.2.2.2.2.1
  have hV := E.2.2.2.2.2.2
  have hl : lv_has ls 2 [(0, .ref m)] := hl
  have inX11_ : ∀ w ∈ wsX110, w ∈ wsX11_looksAtDrawers := fun _ h => List.mem_cons_of_mem _ (List.mem_append_right _ h)
  have kn0 := sOk_N hok
  refine si_const S dX11_looksAtDrawers_0 ?_
  refine lv_istore_n (lv' := [(1, .int (sI 0)), (0, .ref m)]) hx_ hb_ dX11_looksAtDrawers_1 rfl hl (by decide) rfl (fun ls hl => ?_)
  have L2 : ∀ (fuel : Nat) (i : Int) (p2 : Int → Int) (Ml2 : sM) (H : Heap) (locs : List Loc) (ls : Array Slot), ((f 568 - i).toNat) < fuel → (0 ≤ i ∧ i ≤ f 568) → (p2 = cpD f p i) → (Ml2 (m + 8) = some (sArr G 10 p2)) → (∀ x : Nat, ¬ (x = m + 8) → Ml2 x = M x) → sV G b_ Ml2 N s_ H locs → lv_has ls 2 [(0, .ref m), (1, .int (sI i))] → W p_ l_ e_ rmX11_looksAtDrawers s_ m_ args_ below_ meth_ c_ H locs 0 0 Q (F0 m_ 2 ls []) := by
    intro fuel
    induction fuel with
    | zero => intro i p2 Ml2 H locs ls hmu; exact absurd hmu (Nat.not_lt_zero _)
    | succ fuel ih2 =>
      intro i p2 Ml2 H locs ls hmu2 hv2_0 hg hm2_0 hfr2 hV hl
      refine lv_iload_n hx_ hb_ dX11_looksAtDrawers_2 rfl (lv_at hl 1 rfl) ?_
      refine lv_aload_n hx_ hb_ dX11_looksAtDrawers_3 rfl (lv_at hl 0 rfl) ?_
      have hc1 : Ml2 m = some (mO m th ch tn ea sn nm wn) := (hfr2 m (by omega)).trans hm0
      have hc2 : Ml2 (m + 1) = some (sArr G 574 f) := (hfr2 (m + 1) (by omega)).trans hm1
      refine sk_VP E hV (As := []) (rest := [.int (sI i)]) (kX11_many l_ G b_ Ml2 N m th ch tn ea sn nm wn f hc1 hc2) (cwV 0 S.2.2.2.2 gX11_looksAtDrawers_X11_many rfl rfl rfl (by decide +kernel) ⟨Nat.le_of_ble_eq_true rfl, Nat.le_of_ble_eq_true rfl⟩) (ci := 9) hc1 rfl rfl rfl hl.1 (Nat.le_of_ble_eq_true rfl) dX11_looksAtDrawers_4 (c1 := 0) (s1 := 0) ⟨⟨rfl, rfl⟩, by decide, by decide⟩ (fun H locs hV => ?_)
      refine sb_ge (tgt := 31) S dX11_looksAtDrawers_7 (by decide) (by omega) (fun c3 => ?_) (fun c3 => ?_)
      · exact sr_v E hQ dX11_looksAtDrawers_31 ⟨Nat.le_of_ble_eq_true rfl, Nat.le_of_ble_eq_true rfl⟩ hV (⟨rfl, by rw [hg, show i = f 568 by omega] at hm2_0; exact hm2_0, fun x q0 => hfr2 x (by omega)⟩)
      · refine lv_aload_n hx_ hb_ dX11_looksAtDrawers_10 rfl (lv_at hl 0 rfl) ?_
        refine sc_get (ci := 9) (C := RX11) (T := TX11) (n := 22) S hK hV inX11_ hc1 rfl 11 (by decide) (S.2.2.2.2 _ (List.mem_of_getElem? (i := 1) rfl)) rfl rfl dX11_looksAtDrawers_11 ?_
        refine lv_iload_n hx_ hb_ dX11_looksAtDrawers_14 rfl (lv_at hl 1 rfl) ?_
        refine lv_aload_n hx_ hb_ dX11_looksAtDrawers_15 rfl (lv_at hl 0 rfl) ?_
        refine sc_get (ci := 9) (C := RX11) (T := TX11) (n := 22) S hK hV inX11_ hc1 rfl 1 (by decide) (S.2.2.2.2 _ (List.mem_of_getElem? (i := 2) rfl)) rfl rfl dX11_looksAtDrawers_16 ?_
        refine si_bipush S dX11_looksAtDrawers_19 (by decide) ?_
        refine lv_iload_n hx_ hb_ dX11_looksAtDrawers_21 rfl (lv_at hl 1 rfl) ?_
        refine si_add S dX11_looksAtDrawers_22 ?_
        refine sc_iald S hK hV hc2 (by omega) dX11_looksAtDrawers_23 ?_
        have kn4 : -1 ≤ f (50 + i) ∧ f (50 + i) ≤ 3 := (sOk_S hok i (by omega) (by omega)).2.2.2.2.2.1
        refine sc_iast S hK hV hm2_0 (by omega) dX11_looksAtDrawers_24 (fun M5 H locs hM5 hV => ?_)
        have hc6 : M5 (m + 8) = some (sArr G 10 (iup p2 i (f (50 + i)))) := (congrFun hM5 (m + 8)).trans (va_up_self Ml2 (m + 8) _)
        refine si_inc (lv' := [(1, .int (sI (i + 1))), (0, .ref m)]) S dX11_looksAtDrawers_25 hl (k := 1) rfl (by decide) rfl (fun ls hl => ?_)
        refine lv_goto (tgt := 2) hx_ hb_ dX11_looksAtDrawers_28 (by decide) ?_
        exact ih2 (i + 1) (iup p2 i (f (50 + i))) M5 _ _ _ (by omega) (by omega) (by rw [hg, cpD_s f p i (by omega)]) hc6 (fun x q0 => ((congrFun hM5 x).trans (va_up_ne Ml2 _ (by omega))).trans (hfr2 x (by omega))) hV (lv_sub hl [1, 0] rfl)
  exact L2 _ 0 p M _ _ _ (Nat.lt_succ_self _) (by omega) (cpD_0 f p) hm8 (fun x q0 => rfl) hV (lv_sub hl [1, 0] rfl)

abbrev rmX11_others : Room := { frames := 1, cells := 0, slots := 0, locals := 40 }
set_option maxHeartbeats 4000000 in
set_option maxRecDepth 100000 in
theorem kX11_others (l_ : Launch) (G : sG) (b_ : Nat) (M : sM) (N : Nat) (m : Nat) (th ch tn ea sn nm wn : Int) (f : sF) (p : sF) (n : Int) (hm0 : M m = some (mO m th ch tn ea sn nm wn)) (hm1 : M (m + 1) = some (sArr G 574 f)) (hm8 : M (m + 8) = some (sArr G 10 p)) (hok : sOk f) (hn : 0 ≤ n ∧ n ≤ f 568) (hp : ∀ o, 0 ≤ o → o < n → -1 ≤ p o ∧ p o ≤ 4) : cP l_ yX11_others wsX11_others rmX11_others G b_ M N [.ref m, .int (sI n)] (isum n (ohT f p)) := by
  refine sE.ofI (cc := cX11_others) (nL := 4) (ret := (some .int)) (by decide) rfl (Nat.le_of_ble_eq_true rfl) ?_
  intro p_ e_ s_ m_ args_ below_ meth_ c_ ls Q hQ E hl
  have E : sE p_ l_ e_ rmX11_others s_ m_ args_ below_ meth_ c_ cX11_others 4 wsX11_others RX11 "others" (some .int) G b_ M N := E
  have S := E.1
  have hx_ := S.1
  have hb_ := S.2.1
  have hK := E.2.2.2.2.1
  have hV := E.2.2.2.2.2.2
  have hl : lv_has ls 4 [(0, .ref m), (1, .int (sI n))] := hl
  have inX11_ : ∀ w ∈ wsX110, w ∈ wsX11_others := fun _ h => List.mem_cons_of_mem _ (List.mem_append_right _ h)
  have kn0 := sOk_N hok
  refine si_const S dX11_others_0 ?_
  refine lv_istore_n (lv' := [(2, .int (sI 0)), (0, .ref m), (1, .int (sI n))]) hx_ hb_ dX11_others_1 rfl hl (by decide) rfl (fun ls hl => ?_)
  refine si_const S dX11_others_2 ?_
  refine lv_istore_n (lv' := [(3, .int (sI 0)), (2, .int (sI 0)), (0, .ref m), (1, .int (sI n))]) hx_ hb_ dX11_others_3 rfl hl (by decide) rfl (fun ls hl => ?_)
  have L4 : ∀ (fuel : Nat) (c : Int) (i : Int)  (H : Heap) (locs : List Loc) (ls : Array Slot), ((n - i).toNat) < fuel → (0 ≤ i ∧ i ≤ n) → (c = isum i (ohT f p)) → sV G b_ M N s_ H locs → lv_has ls 4 [(0, .ref m), (1, .int (sI n)), (2, .int (sI c)), (3, .int (sI i))] → W p_ l_ e_ rmX11_others s_ m_ args_ below_ meth_ c_ H locs 0 0 Q (F0 m_ 4 ls []) := by
    intro fuel
    induction fuel with
    | zero => intro c i H locs ls hmu; exact absurd hmu (Nat.not_lt_zero _)
    | succ fuel ih4 =>
      intro c i H locs ls hmu4 hv4_0 hc  hV hl
      refine lv_iload_n hx_ hb_ dX11_others_4 rfl (lv_at hl 3 rfl) ?_
      refine lv_iload_n hx_ hb_ dX11_others_5 rfl (lv_at hl 1 rfl) ?_
      refine sb_ge (tgt := 54) S dX11_others_6 (by decide) (by omega) (fun c1 => ?_) (fun c1 => ?_)
      · refine lv_iload_n hx_ hb_ dX11_others_54 rfl (lv_at hl 2 rfl) ?_
        exact sr_i E hQ dX11_others_55 ⟨Nat.le_of_ble_eq_true rfl, Nat.le_of_ble_eq_true rfl⟩ hV (⟨by rw [hc, show i = n by omega], rfl, rfl⟩)
      · refine lv_iload_n hx_ hb_ dX11_others_9 rfl (lv_at hl 2 rfl) ?_
        refine lv_aload_n hx_ hb_ dX11_others_10 rfl (lv_at hl 0 rfl) ?_
        refine sc_get (ci := 9) (C := RX11) (T := TX11) (n := 22) S hK hV inX11_ hm0 rfl 1 (by decide) (S.2.2.2.2 _ (List.mem_of_getElem? (i := 1) rfl)) rfl rfl dX11_others_11 ?_
        refine si_bipush S dX11_others_14 (by decide) ?_
        refine lv_iload_n hx_ hb_ dX11_others_16 rfl (lv_at hl 3 rfl) ?_
        refine si_add S dX11_others_17 ?_
        refine sc_iald S hK hV hm1 (by omega) dX11_others_18 ?_
        have kn2 : -1 ≤ f (50 + i) ∧ f (50 + i) ≤ 3 := (sOk_S hok i (by omega) (by omega)).2.2.2.2.2.1
        refine si_const S dX11_others_19 ?_
        refine sb_eq (tgt := 45) S dX11_others_20 (by decide) (by omega) (fun c3 => ?_) (fun c3 => ?_)
        · refine si_const S dX11_others_45 ?_
          refine si_add S dX11_others_46 ?_
          refine lv_istore_n (lv' := [(2, .int (sI (c + 0))), (0, .ref m), (1, .int (sI n)), (3, .int (sI i))]) hx_ hb_ dX11_others_47 rfl hl (by decide) rfl (fun ls hl => ?_)
          refine si_inc (lv' := [(3, .int (sI (i + 1))), (2, .int (sI (c + 0))), (0, .ref m), (1, .int (sI n))]) S dX11_others_48 hl (k := 3) rfl (by decide) rfl (fun ls hl => ?_)
          refine lv_goto (tgt := 4) hx_ hb_ dX11_others_51 (by decide) ?_
          exact ih4 (c + 0) (i + 1) _ _ _ (by omega) (by omega) (by have e := isum_s (ohT f p) (show 0 ≤ i by omega); have e2 : ohT f p i = if f (50 + i) ≠ -1 ∧ f (50 + i) ≠ p i then 1 else 0 := rfl; split at e2 <;> omega) hV (lv_sub hl [2, 3, 1, 0] rfl)
        · refine lv_aload_n hx_ hb_ dX11_others_23 rfl (lv_at hl 0 rfl) ?_
          refine sc_get (ci := 9) (C := RX11) (T := TX11) (n := 22) S hK hV inX11_ hm0 rfl 1 (by decide) (S.2.2.2.2 _ (List.mem_of_getElem? (i := 1) rfl)) rfl rfl dX11_others_24 ?_
          refine si_bipush S dX11_others_27 (by decide) ?_
          refine lv_iload_n hx_ hb_ dX11_others_29 rfl (lv_at hl 3 rfl) ?_
          refine si_add S dX11_others_30 ?_
          refine sc_iald S hK hV hm1 (by omega) dX11_others_31 ?_
          have kn4 : -1 ≤ f (50 + i) ∧ f (50 + i) ≤ 3 := (sOk_S hok i (by omega) (by omega)).2.2.2.2.2.1
          refine lv_aload_n hx_ hb_ dX11_others_32 rfl (lv_at hl 0 rfl) ?_
          refine sc_get (ci := 9) (C := RX11) (T := TX11) (n := 22) S hK hV inX11_ hm0 rfl 11 (by decide) (S.2.2.2.2 _ (List.mem_of_getElem? (i := 2) rfl)) rfl rfl dX11_others_33 ?_
          refine lv_iload_n hx_ hb_ dX11_others_36 rfl (lv_at hl 3 rfl) ?_
          refine sc_iald S hK hV hm8 (by omega) dX11_others_37 ?_
          have kn5 := hp i (by omega) (by omega)
          refine sb_eq (tgt := 45) S dX11_others_38 (by decide) (by omega) (fun c6 => ?_) (fun c6 => ?_)
          · refine si_const S dX11_others_45 ?_
            refine si_add S dX11_others_46 ?_
            refine lv_istore_n (lv' := [(2, .int (sI (c + 0))), (0, .ref m), (1, .int (sI n)), (3, .int (sI i))]) hx_ hb_ dX11_others_47 rfl hl (by decide) rfl (fun ls hl => ?_)
            refine si_inc (lv' := [(3, .int (sI (i + 1))), (2, .int (sI (c + 0))), (0, .ref m), (1, .int (sI n))]) S dX11_others_48 hl (k := 3) rfl (by decide) rfl (fun ls hl => ?_)
            refine lv_goto (tgt := 4) hx_ hb_ dX11_others_51 (by decide) ?_
            exact ih4 (c + 0) (i + 1) _ _ _ (by omega) (by omega) (by have e := isum_s (ohT f p) (show 0 ≤ i by omega); have e2 : ohT f p i = if f (50 + i) ≠ -1 ∧ f (50 + i) ≠ p i then 1 else 0 := rfl; split at e2 <;> omega) hV (lv_sub hl [2, 3, 1, 0] rfl)
          · refine si_const S dX11_others_41 ?_
            refine lv_goto (tgt := 46) hx_ hb_ dX11_others_42 (by decide) ?_
            refine si_add S dX11_others_46 ?_
            refine lv_istore_n (lv' := [(2, .int (sI (c + 1))), (0, .ref m), (1, .int (sI n)), (3, .int (sI i))]) hx_ hb_ dX11_others_47 rfl hl (by decide) rfl (fun ls hl => ?_)
            refine si_inc (lv' := [(3, .int (sI (i + 1))), (2, .int (sI (c + 1))), (0, .ref m), (1, .int (sI n))]) S dX11_others_48 hl (k := 3) rfl (by decide) rfl (fun ls hl => ?_)
            refine lv_goto (tgt := 4) hx_ hb_ dX11_others_51 (by decide) ?_
            exact ih4 (c + 1) (i + 1) _ _ _ (by omega) (by omega) (by have e := isum_s (ohT f p) (show 0 ≤ i by omega); have e2 : ohT f p i = if f (50 + i) ≠ -1 ∧ f (50 + i) ≠ p i then 1 else 0 := rfl; split at e2 <;> omega) hV (lv_sub hl [2, 3, 1, 0] rfl)
  exact L4 _ 0 0 _ _ _ (Nat.lt_succ_self _) (by omega) (rfl) hV (lv_sub hl [2, 3, 1, 0] rfl)

abbrev rmX11_lay : Room := { frames := 3, cells := 0, slots := 0, locals := 89 }
set_option maxHeartbeats 4000000 in
set_option maxRecDepth 100000 in
theorem kX11_lay (l_ : Launch) (G : sG) (b_ : Nat) (M : sM) (N : Nat) (m : Nat) (th ch tn ea sn nm wn : Int) (f : sF) (fs : Int → sF) (p : sF) (s d : Int) (hm0 : M m = some (mO m th ch tn ea sn nm wn)) (hm1 : M (m + 1) = some (sArr G 574 f)) (hsv : svC G M (m + 2) ch fs) (hm8 : M (m + 8) = some (sArr G 10 p)) (hok : sOk f) (hch : 0 ≤ ch ∧ ch ≤ 15) (hr : sR s ∧ sR d) : cI l_ yX11_lay wsX11_lay rmX11_lay G b_ M N [.ref m, .int (sI s), .int (sI d)] (fun z_ M1 N1 => ∃ p9 : Int → Int, N1 = N ∧ M1 (m + 8) = some (sArr G 10 p9) ∧ (∀ x : Nat, ¬ (x = m) → ¬ (x = m + 1) → ¬ (x = m + 2) → ¬ (x = m + 8) → M1 x = M x) ∧ (((¬ (0 ≤ s ∧ s < f 568)) ∧ z_ = 0 ∧ M1 m = some (mO m 1 ch tn ea sn nm wn) ∧ M1 (m + 1) = some (sArr G 574 f) ∧ svC G M1 (m + 2) ch fs) ∨ (((0 ≤ s ∧ s < f 568) ∧ ¬ (d = -1 ∨ 0 ≤ d ∧ d ≤ 3)) ∧ z_ = 0 ∧ M1 m = some (mO m 2 ch tn ea sn nm wn) ∧ M1 (m + 1) = some (sArr G 574 f) ∧ svC G M1 (m + 2) ch fs) ∨ (((0 ≤ s ∧ s < f 568) ∧ (d = -1 ∨ 0 ≤ d ∧ d ≤ 3)) ∧ z_ = whyL f s d ∧ M1 m = some (mO m 0 (chn ch) tn ea sn nm wn) ∧ M1 (m + 1) = some (sArr G 574 (layF f s d)) ∧ svC G M1 (m + 2) (chn ch) (fsn ch fs f)))) := by
  refine sE.ofI (cc := cX11_lay) (nL := 4) (ret := (some .int)) (by decide) rfl (Nat.le_of_ble_eq_true rfl) ?_
  intro p_ e_ s_ m_ args_ below_ meth_ c_ ls Q hQ E hl
  have E : sE p_ l_ e_ rmX11_lay s_ m_ args_ below_ meth_ c_ cX11_lay 4 wsX11_lay RX11 "lay" (some .int) G b_ M N := E
  have S := E.1
  have hx_ := S.1
  have hb_ := S.2.1
  have hK := E.2.2.2.2.1
  have hV := E.2.2.2.2.2.2
  have hl : lv_has ls 4 [(0, .ref m), (1, .int (sI s)), (2, .int (sI d))] := hl
  have inX11_ : ∀ w ∈ wsX110, w ∈ wsX11_lay := fun _ h => List.mem_cons_of_mem _ (List.mem_append_right _ h)
  have kn0 := sOk_N hok
  have hw := whyL_r f s d
  have hpl : ∀ o, 0 ≤ o → o < f 568 → iup (cpD f p (f 568)) s d o = pLay f s d o := fun o a b => by unfold iup cpD pLay; by_cases e : o = s; (rw [if_pos e, if_pos e]); (rw [if_neg e, if_neg e, if_pos ⟨a, b⟩])
  have hwe : 0 ≤ s ∧ s < f 568 → d ≠ -1 → whyM f (iup (cpD f p (f 568)) s d) s (f 568) = whyL f s d := fun h1 h2 => by unfold whyL; rw [if_neg h2]; exact whyM_c (hpl s h1.1 h1.2) hpl
  refine lv_aload_n hx_ hb_ dX11_lay_0 rfl (lv_at hl 0 rfl) ?_
  refine si_const S dX11_lay_1 ?_
  refine sc_put (ci := 9) (C := RX11) (T := TX11) (n := 22) S hK hV inX11_ tyX11_ok nmX11 hm0 rfl 0 (by decide) (S.2.2.2.2 _ (List.mem_of_getElem? (i := 1) rfl)) rfl rfl rfl rfl (Nat.le_of_ble_eq_true rfl) dX11_lay_2 (fs1 := [.int (sI 0), .ref (m + 1), .ref (m + 2), .int (sI ch), .ref (m + 3), .int (sI tn), .int (sI ea), .ref (m + 4), .ref (m + 5), .ref (m + 6), .ref (m + 7), .ref (m + 8), .ref (m + 9), .int (sI sn), .ref (m + 10), .ref (m + 11), .ref (m + 12), .ref (m + 13), .int (sI nm), .ref (m + 14), .ref (m + 15), .int (sI wn)]) rfl (fun M1 H locs hM1 hV => ?_)
  have hc2 : M1 m = some (mO m 0 ch tn ea sn nm wn) := (congrFun hM1 m).trans (va_up_self M m _)
  refine lv_aload_n hx_ hb_ dX11_lay_5 rfl (lv_at hl 0 rfl) ?_
  refine lv_iload_n hx_ hb_ dX11_lay_6 rfl (lv_at hl 1 rfl) ?_
  have hc3 : M1 (m + 1) = some (sArr G 574 f) := ((congrFun hM1 (m + 1)).trans (va_up_ne M _ (by omega))).trans hm1
  refine sk_Vi E hV (As := [.int (sI s)]) (rest := []) (kX11_noStone l_ G b_ M1 N m ch tn ea sn nm wn f s hc2 hc3 (by omega) (by omega)) (cwV 1 S.2.2.2.2 gX11_lay_X11_noStone rfl rfl rfl (by decide +kernel) ⟨Nat.le_of_ble_eq_true rfl, Nat.le_of_ble_eq_true rfl⟩) (ci := 9) hc2 rfl rfl rfl hl.1 (Nat.le_of_ble_eq_true rfl) dX11_lay_7 (c1 := 0) (s1 := 0) ⟨⟨rfl, rfl⟩, by decide, by decide⟩ (fun z7 M4 N5 H locs hp6 hV => ?_)
  obtain ⟨hN8, hf9, hq10⟩ := hp6
  rw [hN8] at hV
  rcases hq10 with ⟨c11, ez12, hc13⟩ | ⟨c14, ez15, hc16⟩
  · rw [ez12]
    refine sz_ne (tgt := 39) S dX11_lay_10 (by decide) (by omega) (fun c17 => absurd c17 (by omega)) (fun _ => ?_)
    refine lv_aload_n hx_ hb_ dX11_lay_13 rfl (lv_at hl 0 rfl) ?_
    refine lv_iload_n hx_ hb_ dX11_lay_14 rfl (lv_at hl 2 rfl) ?_
    refine si_const S dX11_lay_15 ?_
    refine sb_eq (tgt := 27) S dX11_lay_16 (by decide) (by omega) (fun c18 => ?_) (fun c18 => ?_)
    · refine si_const S dX11_lay_27 ?_
      refine lv_goto (tgt := 32) hx_ hb_ dX11_lay_28 (by decide) ?_
      refine si_const S dX11_lay_32 ?_
      refine sk_Vi E hV (As := [.int (sI 1), .int (sI 2)]) (rest := []) (kX11_fails1 l_ G b_ M4 N m ch tn ea sn nm wn 2 hc13 (by omega)) (cwV 2 S.2.2.2.2 gX11_lay_X11_fails rfl rfl rfl (by decide +kernel) ⟨Nat.le_of_ble_eq_true rfl, Nat.le_of_ble_eq_true rfl⟩) (ci := 9) hc13 rfl rfl rfl hl.1 (Nat.le_of_ble_eq_true rfl) dX11_lay_33 (c1 := 0) (s1 := 0) ⟨⟨rfl, rfl⟩, by decide, by decide⟩ (fun z22 M19 N20 H locs hp21 hV => ?_)
      obtain ⟨ez23, hN24, hc25, hf26⟩ := hp21
      rw [hN24] at hV
      rw [ez23]
      refine sz_eq (tgt := 41) S dX11_lay_36 (by decide) (by omega) (fun _ => ?_) (fun c27 => absurd c27 (by omega))
      refine lv_aload_n hx_ hb_ dX11_lay_41 rfl (lv_at hl 0 rfl) ?_
      have hc28 : M19 (m + 1) = some (sArr G 574 f) := ((hf26 (m + 1) (by omega)).trans (hf9 (m + 1) (by omega))).trans hc3
      have hc29 : svC G M19 (m + 2) ch fs := hsv.fr (fun x q8 q9 => ((hf26 x (by omega)).trans (hf9 x (by omega))).trans ((congrFun hM1 x).trans (va_up_ne M _ (by omega))))
      refine sk_Vv E hV (As := []) (rest := []) (kX11_keeps l_ G b_ M19 N m 0 ch tn ea sn nm wn f fs hc25 hc28 hc29 (by omega)) (cwV 0 S.2.2.2.2 gX11_lay_X11_keeps rfl rfl rfl (by decide +kernel) ⟨Nat.le_of_ble_eq_true rfl, Nat.le_of_ble_eq_true rfl⟩) (ci := 9) hc25 rfl rfl rfl hl.1 (Nat.le_of_ble_eq_true rfl) dX11_lay_42 (c1 := 0) (s1 := 0) ⟨⟨rfl, rfl⟩, by decide, by decide⟩ (fun M30 N31 H locs hp32 hV => ?_)
      obtain ⟨hN34, hc35, hc36, hf37⟩ := hp32
      rw [hN34] at hV
      refine lv_aload_n hx_ hb_ dX11_lay_45 rfl (lv_at hl 0 rfl) ?_
      have hc38 : M30 (m + 1) = some (sArr G 574 f) := (hf37 (m + 1) (by omega) (by omega)).trans hc28
      have hc39 : M30 (m + 8) = some (sArr G 10 p) := ((((hf37 (m + 8) (by omega) (by omega)).trans (hf26 (m + 8) (by omega))).trans (hf9 (m + 8) (by omega))).trans ((congrFun hM1 (m + 8)).trans (va_up_ne M _ (by omega)))).trans hm8
      refine sk_Vv E hV (As := []) (rest := []) (kX11_looksAtDrawers l_ G b_ M30 N m 0 (chn ch) tn ea sn nm wn f p hc35 hc38 hc39 (by omega)) (cwV 0 S.2.2.2.2 gX11_lay_X11_looksAtDrawers rfl rfl rfl (by decide +kernel) ⟨Nat.le_of_ble_eq_true rfl, Nat.le_of_ble_eq_true rfl⟩) (ci := 9) hc35 rfl rfl rfl hl.1 (Nat.le_of_ble_eq_true rfl) dX11_lay_46 (c1 := 0) (s1 := 0) ⟨⟨rfl, rfl⟩, by decide, by decide⟩ (fun M40 N41 H locs hp42 hV => ?_)
      obtain ⟨hN44, hc45, hf46⟩ := hp42
      rw [hN44] at hV
      refine lv_aload_n hx_ hb_ dX11_lay_49 rfl (lv_at hl 0 rfl) ?_
      have hc47 : M40 m = some (mO m 0 (chn ch) tn ea sn nm wn) := (hf46 m (by omega)).trans hc35
      refine sc_get (ci := 9) (C := RX11) (T := TX11) (n := 22) S hK hV inX11_ hc47 rfl 11 (by decide) (S.2.2.2.2 _ (List.mem_of_getElem? (i := 2) rfl)) rfl rfl dX11_lay_50 ?_
      refine lv_iload_n hx_ hb_ dX11_lay_53 rfl (lv_at hl 1 rfl) ?_
      refine lv_iload_n hx_ hb_ dX11_lay_54 rfl (lv_at hl 2 rfl) ?_
      refine sc_iast S hK hV hc45 (by omega) dX11_lay_55 (fun M48 H locs hM48 hV => ?_)
      have hc49 : M48 (m + 8) = some (sArr G 10 (iup (cpD f p (f 568)) s d)) := (congrFun hM48 (m + 8)).trans (va_up_self M40 (m + 8) _)
      refine lv_iload_n hx_ hb_ dX11_lay_56 rfl (lv_at hl 2 rfl) ?_
      refine si_const S dX11_lay_57 ?_
      refine sb_ne (tgt := 65) S dX11_lay_58 (by decide) (by omega) (fun c50 => ?_) (fun c50 => ?_)
      · refine lv_aload_n hx_ hb_ dX11_lay_65 rfl (lv_at hl 0 rfl) ?_
        refine lv_iload_n hx_ hb_ dX11_lay_66 rfl (lv_at hl 1 rfl) ?_
        refine lv_aload_n hx_ hb_ dX11_lay_67 rfl (lv_at hl 0 rfl) ?_
        have hc51 : M48 m = some (mO m 0 (chn ch) tn ea sn nm wn) := ((congrFun hM48 m).trans (va_up_ne M40 _ (by omega))).trans hc47
        have hc52 : M48 (m + 1) = some (sArr G 574 f) := (((congrFun hM48 (m + 1)).trans (va_up_ne M40 _ (by omega))).trans (hf46 (m + 1) (by omega))).trans hc38
        refine sk_VP E hV (As := []) (rest := [.int (sI s), .ref m]) (kX11_many l_ G b_ M48 N m 0 (chn ch) tn ea sn nm wn f hc51 hc52) (cwV 0 S.2.2.2.2 gX11_lay_X11_many rfl rfl rfl (by decide +kernel) ⟨Nat.le_of_ble_eq_true rfl, Nat.le_of_ble_eq_true rfl⟩) (ci := 9) hc51 rfl rfl rfl hl.1 (Nat.le_of_ble_eq_true rfl) dX11_lay_68 (c1 := 0) (s1 := 0) ⟨⟨rfl, rfl⟩, by decide, by decide⟩ (fun H locs hV => ?_)
        refine sk_VP E hV (As := [.int (sI s), .int (sI (f 568))]) (rest := []) (kX11_why l_ G b_ M48 N m 0 (chn ch) tn ea sn nm wn f (iup (cpD f p (f 568)) s d) s (f 568) hc51 hc52 hc49 (by omega) (by omega) (by omega) (fun o a b => by rw [hpl o a b]; unfold pLay; split; omega; have := sOk_S hok o a b; omega) (by unfold iup; rw [if_pos rfl]; omega)) (cwV 2 S.2.2.2.2 gX11_lay_X11_why rfl rfl rfl (by decide +kernel) ⟨Nat.le_of_ble_eq_true rfl, Nat.le_of_ble_eq_true rfl⟩) (ci := 9) hc51 rfl rfl rfl hl.1 (Nat.le_of_ble_eq_true rfl) dX11_lay_71 (c1 := 0) (s1 := 0) ⟨⟨rfl, rfl⟩, by decide, by decide⟩ (fun H locs hV => ?_)
        rw [hwe (by omega) (by omega)]
        refine lv_istore_n (lv' := [(3, .int (sI (whyL f s d))), (0, .ref m), (1, .int (sI s)), (2, .int (sI d))]) hx_ hb_ dX11_lay_74 rfl hl (by decide) rfl (fun ls hl => ?_)
        refine lv_iload_n hx_ hb_ dX11_lay_75 rfl (lv_at hl 0 rfl) ?_
        refine sz_ne (tgt := 89) S dX11_lay_76 (by decide) (by omega) (fun c53 => ?_) (fun c53 => ?_)
        · refine lv_iload_n hx_ hb_ dX11_lay_89 rfl (lv_at hl 0 rfl) ?_
          have hc54 : svC G M48 (m + 2) (chn ch) (fsn ch fs f) := hc36.fr (fun x q8 q9 => ((congrFun hM48 x).trans (va_up_ne M40 _ (by omega))).trans (hf46 x (by omega)))
          exact sr_i E hQ dX11_lay_90 ⟨Nat.le_of_ble_eq_true rfl, Nat.le_of_ble_eq_true rfl⟩ hV (⟨(iup (cpD f p (f 568)) s d), rfl, hc49, fun x q0 q1 q2 q3 => ((((((congrFun hM48 x).trans (va_up_ne M40 _ (by omega))).trans (hf46 x (by omega))).trans (hf37 x (by omega) (by omega))).trans (hf26 x (by omega))).trans (hf9 x (by omega))).trans ((congrFun hM1 x).trans (va_up_ne M _ (by omega))), Or.inr (Or.inr (⟨(by omega), rfl, hc51, by unfold layF; rw [if_neg (by omega)]; exact hc52, hc54⟩))⟩)
        · refine lv_aload_n hx_ hb_ dX11_lay_79 rfl (lv_at hl 1 rfl) ?_
          refine sc_get (ci := 9) (C := RX11) (T := TX11) (n := 22) S hK hV inX11_ hc51 rfl 1 (by decide) (S.2.2.2.2 _ (List.mem_of_getElem? (i := 3) rfl)) rfl rfl dX11_lay_80 ?_
          refine si_bipush S dX11_lay_83 (by decide) ?_
          refine lv_iload_n hx_ hb_ dX11_lay_85 rfl (lv_at hl 2 rfl) ?_
          refine si_add S dX11_lay_86 ?_
          refine lv_iload_n hx_ hb_ dX11_lay_87 rfl (lv_at hl 3 rfl) ?_
          refine sc_iast S hK hV hc52 (by omega) dX11_lay_88 (fun M55 H locs hM55 hV => ?_)
          have hc56 : M55 (m + 1) = some (sArr G 574 (iup f (50 + s) d)) := (congrFun hM55 (m + 1)).trans (va_up_self M48 (m + 1) _)
          refine lv_iload_n hx_ hb_ dX11_lay_89 rfl (lv_at hl 0 rfl) ?_
          have hc57 : M55 (m + 8) = some (sArr G 10 (iup (cpD f p (f 568)) s d)) := ((congrFun hM55 (m + 8)).trans (va_up_ne M48 _ (by omega))).trans hc49
          have hc58 : M55 m = some (mO m 0 (chn ch) tn ea sn nm wn) := ((congrFun hM55 m).trans (va_up_ne M48 _ (by omega))).trans hc51
          have hc59 : svC G M55 (m + 2) (chn ch) (fsn ch fs f) := hc36.fr (fun x q8 q9 => (((congrFun hM55 x).trans (va_up_ne M48 _ (by omega))).trans ((congrFun hM48 x).trans (va_up_ne M40 _ (by omega)))).trans (hf46 x (by omega)))
          exact sr_i E hQ dX11_lay_90 ⟨Nat.le_of_ble_eq_true rfl, Nat.le_of_ble_eq_true rfl⟩ hV (⟨(iup (cpD f p (f 568)) s d), rfl, hc57, fun x q0 q1 q2 q3 => (((((((congrFun hM55 x).trans (va_up_ne M48 _ (by omega))).trans ((congrFun hM48 x).trans (va_up_ne M40 _ (by omega)))).trans (hf46 x (by omega))).trans (hf37 x (by omega) (by omega))).trans (hf26 x (by omega))).trans (hf9 x (by omega))).trans ((congrFun hM1 x).trans (va_up_ne M _ (by omega))), Or.inr (Or.inr (⟨(by omega), rfl, hc58, by unfold layF; rw [if_pos (by omega)]; exact hc56, hc59⟩))⟩)
      · refine si_const S dX11_lay_61 ?_
        refine lv_goto (tgt := 74) hx_ hb_ dX11_lay_62 (by decide) ?_
        rw [show (0 : Int) = whyL f s d by unfold whyL; rw [if_pos (by omega)]]
        refine lv_istore_n (lv' := [(3, .int (sI (whyL f s d))), (0, .ref m), (1, .int (sI s)), (2, .int (sI d))]) hx_ hb_ dX11_lay_74 rfl hl (by decide) rfl (fun ls hl => ?_)
        refine lv_iload_n hx_ hb_ dX11_lay_75 rfl (lv_at hl 0 rfl) ?_
        refine sz_ne (tgt := 89) S dX11_lay_76 (by decide) (by omega) (fun c60 => ?_) (fun c60 => ?_)
        · refine lv_iload_n hx_ hb_ dX11_lay_89 rfl (lv_at hl 0 rfl) ?_
          have hc61 : M48 (m + 1) = some (sArr G 574 f) := (((congrFun hM48 (m + 1)).trans (va_up_ne M40 _ (by omega))).trans (hf46 (m + 1) (by omega))).trans hc38
          have hc62 : M48 m = some (mO m 0 (chn ch) tn ea sn nm wn) := ((congrFun hM48 m).trans (va_up_ne M40 _ (by omega))).trans hc47
          have hc63 : svC G M48 (m + 2) (chn ch) (fsn ch fs f) := hc36.fr (fun x q8 q9 => ((congrFun hM48 x).trans (va_up_ne M40 _ (by omega))).trans (hf46 x (by omega)))
          exact sr_i E hQ dX11_lay_90 ⟨Nat.le_of_ble_eq_true rfl, Nat.le_of_ble_eq_true rfl⟩ hV (⟨(iup (cpD f p (f 568)) s d), rfl, hc49, fun x q0 q1 q2 q3 => ((((((congrFun hM48 x).trans (va_up_ne M40 _ (by omega))).trans (hf46 x (by omega))).trans (hf37 x (by omega) (by omega))).trans (hf26 x (by omega))).trans (hf9 x (by omega))).trans ((congrFun hM1 x).trans (va_up_ne M _ (by omega))), Or.inr (Or.inr (⟨(by omega), rfl, hc62, by unfold layF; rw [if_neg (by omega)]; exact hc61, hc63⟩))⟩)
        · refine lv_aload_n hx_ hb_ dX11_lay_79 rfl (lv_at hl 1 rfl) ?_
          have hc64 : M48 m = some (mO m 0 (chn ch) tn ea sn nm wn) := ((congrFun hM48 m).trans (va_up_ne M40 _ (by omega))).trans hc47
          refine sc_get (ci := 9) (C := RX11) (T := TX11) (n := 22) S hK hV inX11_ hc64 rfl 1 (by decide) (S.2.2.2.2 _ (List.mem_of_getElem? (i := 3) rfl)) rfl rfl dX11_lay_80 ?_
          refine si_bipush S dX11_lay_83 (by decide) ?_
          refine lv_iload_n hx_ hb_ dX11_lay_85 rfl (lv_at hl 2 rfl) ?_
          refine si_add S dX11_lay_86 ?_
          refine lv_iload_n hx_ hb_ dX11_lay_87 rfl (lv_at hl 3 rfl) ?_
          have hc65 : M48 (m + 1) = some (sArr G 574 f) := (((congrFun hM48 (m + 1)).trans (va_up_ne M40 _ (by omega))).trans (hf46 (m + 1) (by omega))).trans hc38
          refine sc_iast S hK hV hc65 (by omega) dX11_lay_88 (fun M66 H locs hM66 hV => ?_)
          have hc67 : M66 (m + 1) = some (sArr G 574 (iup f (50 + s) d)) := (congrFun hM66 (m + 1)).trans (va_up_self M48 (m + 1) _)
          refine lv_iload_n hx_ hb_ dX11_lay_89 rfl (lv_at hl 0 rfl) ?_
          have hc68 : M66 (m + 8) = some (sArr G 10 (iup (cpD f p (f 568)) s d)) := ((congrFun hM66 (m + 8)).trans (va_up_ne M48 _ (by omega))).trans hc49
          have hc69 : M66 m = some (mO m 0 (chn ch) tn ea sn nm wn) := ((congrFun hM66 m).trans (va_up_ne M48 _ (by omega))).trans hc64
          have hc70 : svC G M66 (m + 2) (chn ch) (fsn ch fs f) := hc36.fr (fun x q8 q9 => (((congrFun hM66 x).trans (va_up_ne M48 _ (by omega))).trans ((congrFun hM48 x).trans (va_up_ne M40 _ (by omega)))).trans (hf46 x (by omega)))
          exact sr_i E hQ dX11_lay_90 ⟨Nat.le_of_ble_eq_true rfl, Nat.le_of_ble_eq_true rfl⟩ hV (⟨(iup (cpD f p (f 568)) s d), rfl, hc68, fun x q0 q1 q2 q3 => (((((((congrFun hM66 x).trans (va_up_ne M48 _ (by omega))).trans ((congrFun hM48 x).trans (va_up_ne M40 _ (by omega)))).trans (hf46 x (by omega))).trans (hf37 x (by omega) (by omega))).trans (hf26 x (by omega))).trans (hf9 x (by omega))).trans ((congrFun hM1 x).trans (va_up_ne M _ (by omega))), Or.inr (Or.inr (⟨(by omega), rfl, hc69, by unfold layF; rw [if_pos (by omega)]; exact hc67, hc70⟩))⟩)
    · refine lv_aload_n hx_ hb_ dX11_lay_19 rfl (lv_at hl 0 rfl) ?_
      refine lv_iload_n hx_ hb_ dX11_lay_20 rfl (lv_at hl 2 rfl) ?_
      refine sk_VP E hV (As := [.int (sI d)]) (rest := [.ref m]) (kX11_isDrawer l_ G b_ M4 N m d (by omega)) (cwV 1 S.2.2.2.2 gX11_lay_X11_isDrawer rfl rfl rfl (by decide +kernel) ⟨Nat.le_of_ble_eq_true rfl, Nat.le_of_ble_eq_true rfl⟩) (ci := 9) hc13 rfl rfl rfl hl.1 (Nat.le_of_ble_eq_true rfl) dX11_lay_21 (c1 := 0) (s1 := 0) ⟨⟨rfl, rfl⟩, by decide, by decide⟩ (fun H locs hV => ?_)
      refine sq_eq (tgt := 31) S dX11_lay_24 (by decide) (fun c71 => ?_) (fun c71 => ?_)
      · refine si_const S dX11_lay_31 ?_
        refine si_const S dX11_lay_32 ?_
        refine sk_Vi E hV (As := [.int (sI 0), .int (sI 2)]) (rest := []) (kX11_fails0 l_ G b_ M4 N m ch tn ea sn nm wn 2 hc13 (by omega)) (cwV 2 S.2.2.2.2 gX11_lay_X11_fails rfl rfl rfl (by decide +kernel) ⟨Nat.le_of_ble_eq_true rfl, Nat.le_of_ble_eq_true rfl⟩) (ci := 9) hc13 rfl rfl rfl hl.1 (Nat.le_of_ble_eq_true rfl) dX11_lay_33 (c1 := 0) (s1 := 0) ⟨⟨rfl, rfl⟩, by decide, by decide⟩ (fun z75 M72 N73 H locs hp74 hV => ?_)
        obtain ⟨ez76, hN77, hc78, hf79⟩ := hp74
        rw [hN77] at hV
        rw [ez76]
        refine sz_eq (tgt := 41) S dX11_lay_36 (by decide) (by omega) (fun c80 => absurd c80 (by omega)) (fun _ => ?_)
        refine si_const S dX11_lay_39 ?_
        have hc81 : M72 (m + 8) = some (sArr G 10 p) := (((hf79 (m + 8) (by omega)).trans (hf9 (m + 8) (by omega))).trans ((congrFun hM1 (m + 8)).trans (va_up_ne M _ (by omega)))).trans hm8
        have hc82 : M72 (m + 1) = some (sArr G 574 f) := ((hf79 (m + 1) (by omega)).trans (hf9 (m + 1) (by omega))).trans hc3
        have hc83 : svC G M72 (m + 2) ch fs := hsv.fr (fun x q8 q9 => ((hf79 x (by omega)).trans (hf9 x (by omega))).trans ((congrFun hM1 x).trans (va_up_ne M _ (by omega))))
        exact sr_i E hQ dX11_lay_40 ⟨Nat.le_of_ble_eq_true rfl, Nat.le_of_ble_eq_true rfl⟩ hV (⟨p, rfl, hc81, fun x q0 q1 q2 q3 => ((hf79 x (by omega)).trans (hf9 x (by omega))).trans ((congrFun hM1 x).trans (va_up_ne M _ (by omega))), Or.inr (Or.inl ⟨(by omega), rfl, hc78, hc82, hc83⟩)⟩)
      · refine si_const S dX11_lay_27 ?_
        refine lv_goto (tgt := 32) hx_ hb_ dX11_lay_28 (by decide) ?_
        refine si_const S dX11_lay_32 ?_
        refine sk_Vi E hV (As := [.int (sI 1), .int (sI 2)]) (rest := []) (kX11_fails1 l_ G b_ M4 N m ch tn ea sn nm wn 2 hc13 (by omega)) (cwV 2 S.2.2.2.2 gX11_lay_X11_fails rfl rfl rfl (by decide +kernel) ⟨Nat.le_of_ble_eq_true rfl, Nat.le_of_ble_eq_true rfl⟩) (ci := 9) hc13 rfl rfl rfl hl.1 (Nat.le_of_ble_eq_true rfl) dX11_lay_33 (c1 := 0) (s1 := 0) ⟨⟨rfl, rfl⟩, by decide, by decide⟩ (fun z87 M84 N85 H locs hp86 hV => ?_)
        obtain ⟨ez88, hN89, hc90, hf91⟩ := hp86
        rw [hN89] at hV
        rw [ez88]
        refine sz_eq (tgt := 41) S dX11_lay_36 (by decide) (by omega) (fun _ => ?_) (fun c92 => absurd c92 (by omega))
        refine lv_aload_n hx_ hb_ dX11_lay_41 rfl (lv_at hl 0 rfl) ?_
        have hc93 : M84 (m + 1) = some (sArr G 574 f) := ((hf91 (m + 1) (by omega)).trans (hf9 (m + 1) (by omega))).trans hc3
        have hc94 : svC G M84 (m + 2) ch fs := hsv.fr (fun x q8 q9 => ((hf91 x (by omega)).trans (hf9 x (by omega))).trans ((congrFun hM1 x).trans (va_up_ne M _ (by omega))))
        refine sk_Vv E hV (As := []) (rest := []) (kX11_keeps l_ G b_ M84 N m 0 ch tn ea sn nm wn f fs hc90 hc93 hc94 (by omega)) (cwV 0 S.2.2.2.2 gX11_lay_X11_keeps rfl rfl rfl (by decide +kernel) ⟨Nat.le_of_ble_eq_true rfl, Nat.le_of_ble_eq_true rfl⟩) (ci := 9) hc90 rfl rfl rfl hl.1 (Nat.le_of_ble_eq_true rfl) dX11_lay_42 (c1 := 0) (s1 := 0) ⟨⟨rfl, rfl⟩, by decide, by decide⟩ (fun M95 N96 H locs hp97 hV => ?_)
        obtain ⟨hN99, hc100, hc101, hf102⟩ := hp97
        rw [hN99] at hV
        refine lv_aload_n hx_ hb_ dX11_lay_45 rfl (lv_at hl 0 rfl) ?_
        have hc103 : M95 (m + 1) = some (sArr G 574 f) := (hf102 (m + 1) (by omega) (by omega)).trans hc93
        have hc104 : M95 (m + 8) = some (sArr G 10 p) := ((((hf102 (m + 8) (by omega) (by omega)).trans (hf91 (m + 8) (by omega))).trans (hf9 (m + 8) (by omega))).trans ((congrFun hM1 (m + 8)).trans (va_up_ne M _ (by omega)))).trans hm8
        refine sk_Vv E hV (As := []) (rest := []) (kX11_looksAtDrawers l_ G b_ M95 N m 0 (chn ch) tn ea sn nm wn f p hc100 hc103 hc104 (by omega)) (cwV 0 S.2.2.2.2 gX11_lay_X11_looksAtDrawers rfl rfl rfl (by decide +kernel) ⟨Nat.le_of_ble_eq_true rfl, Nat.le_of_ble_eq_true rfl⟩) (ci := 9) hc100 rfl rfl rfl hl.1 (Nat.le_of_ble_eq_true rfl) dX11_lay_46 (c1 := 0) (s1 := 0) ⟨⟨rfl, rfl⟩, by decide, by decide⟩ (fun M105 N106 H locs hp107 hV => ?_)
        obtain ⟨hN109, hc110, hf111⟩ := hp107
        rw [hN109] at hV
        refine lv_aload_n hx_ hb_ dX11_lay_49 rfl (lv_at hl 0 rfl) ?_
        have hc112 : M105 m = some (mO m 0 (chn ch) tn ea sn nm wn) := (hf111 m (by omega)).trans hc100
        refine sc_get (ci := 9) (C := RX11) (T := TX11) (n := 22) S hK hV inX11_ hc112 rfl 11 (by decide) (S.2.2.2.2 _ (List.mem_of_getElem? (i := 2) rfl)) rfl rfl dX11_lay_50 ?_
        refine lv_iload_n hx_ hb_ dX11_lay_53 rfl (lv_at hl 1 rfl) ?_
        refine lv_iload_n hx_ hb_ dX11_lay_54 rfl (lv_at hl 2 rfl) ?_
        refine sc_iast S hK hV hc110 (by omega) dX11_lay_55 (fun M113 H locs hM113 hV => ?_)
        have hc114 : M113 (m + 8) = some (sArr G 10 (iup (cpD f p (f 568)) s d)) := (congrFun hM113 (m + 8)).trans (va_up_self M105 (m + 8) _)
        refine lv_iload_n hx_ hb_ dX11_lay_56 rfl (lv_at hl 2 rfl) ?_
        refine si_const S dX11_lay_57 ?_
        refine sb_ne (tgt := 65) S dX11_lay_58 (by decide) (by omega) (fun c115 => ?_) (fun c115 => ?_)
        · refine lv_aload_n hx_ hb_ dX11_lay_65 rfl (lv_at hl 0 rfl) ?_
          refine lv_iload_n hx_ hb_ dX11_lay_66 rfl (lv_at hl 1 rfl) ?_
          refine lv_aload_n hx_ hb_ dX11_lay_67 rfl (lv_at hl 0 rfl) ?_
          have hc116 : M113 m = some (mO m 0 (chn ch) tn ea sn nm wn) := ((congrFun hM113 m).trans (va_up_ne M105 _ (by omega))).trans hc112
          have hc117 : M113 (m + 1) = some (sArr G 574 f) := (((congrFun hM113 (m + 1)).trans (va_up_ne M105 _ (by omega))).trans (hf111 (m + 1) (by omega))).trans hc103
          refine sk_VP E hV (As := []) (rest := [.int (sI s), .ref m]) (kX11_many l_ G b_ M113 N m 0 (chn ch) tn ea sn nm wn f hc116 hc117) (cwV 0 S.2.2.2.2 gX11_lay_X11_many rfl rfl rfl (by decide +kernel) ⟨Nat.le_of_ble_eq_true rfl, Nat.le_of_ble_eq_true rfl⟩) (ci := 9) hc116 rfl rfl rfl hl.1 (Nat.le_of_ble_eq_true rfl) dX11_lay_68 (c1 := 0) (s1 := 0) ⟨⟨rfl, rfl⟩, by decide, by decide⟩ (fun H locs hV => ?_)
          refine sk_VP E hV (As := [.int (sI s), .int (sI (f 568))]) (rest := []) (kX11_why l_ G b_ M113 N m 0 (chn ch) tn ea sn nm wn f (iup (cpD f p (f 568)) s d) s (f 568) hc116 hc117 hc114 (by omega) (by omega) (by omega) (fun o a b => by rw [hpl o a b]; unfold pLay; split; omega; have := sOk_S hok o a b; omega) (by unfold iup; rw [if_pos rfl]; omega)) (cwV 2 S.2.2.2.2 gX11_lay_X11_why rfl rfl rfl (by decide +kernel) ⟨Nat.le_of_ble_eq_true rfl, Nat.le_of_ble_eq_true rfl⟩) (ci := 9) hc116 rfl rfl rfl hl.1 (Nat.le_of_ble_eq_true rfl) dX11_lay_71 (c1 := 0) (s1 := 0) ⟨⟨rfl, rfl⟩, by decide, by decide⟩ (fun H locs hV => ?_)
          rw [hwe (by omega) (by omega)]
          refine lv_istore_n (lv' := [(3, .int (sI (whyL f s d))), (0, .ref m), (1, .int (sI s)), (2, .int (sI d))]) hx_ hb_ dX11_lay_74 rfl hl (by decide) rfl (fun ls hl => ?_)
          refine lv_iload_n hx_ hb_ dX11_lay_75 rfl (lv_at hl 0 rfl) ?_
          refine sz_ne (tgt := 89) S dX11_lay_76 (by decide) (by omega) (fun c118 => ?_) (fun c118 => ?_)
          · refine lv_iload_n hx_ hb_ dX11_lay_89 rfl (lv_at hl 0 rfl) ?_
            have hc119 : svC G M113 (m + 2) (chn ch) (fsn ch fs f) := hc101.fr (fun x q8 q9 => ((congrFun hM113 x).trans (va_up_ne M105 _ (by omega))).trans (hf111 x (by omega)))
            exact sr_i E hQ dX11_lay_90 ⟨Nat.le_of_ble_eq_true rfl, Nat.le_of_ble_eq_true rfl⟩ hV (⟨(iup (cpD f p (f 568)) s d), rfl, hc114, fun x q0 q1 q2 q3 => ((((((congrFun hM113 x).trans (va_up_ne M105 _ (by omega))).trans (hf111 x (by omega))).trans (hf102 x (by omega) (by omega))).trans (hf91 x (by omega))).trans (hf9 x (by omega))).trans ((congrFun hM1 x).trans (va_up_ne M _ (by omega))), Or.inr (Or.inr (⟨(by omega), rfl, hc116, by unfold layF; rw [if_neg (by omega)]; exact hc117, hc119⟩))⟩)
          · refine lv_aload_n hx_ hb_ dX11_lay_79 rfl (lv_at hl 1 rfl) ?_
            refine sc_get (ci := 9) (C := RX11) (T := TX11) (n := 22) S hK hV inX11_ hc116 rfl 1 (by decide) (S.2.2.2.2 _ (List.mem_of_getElem? (i := 3) rfl)) rfl rfl dX11_lay_80 ?_
            refine si_bipush S dX11_lay_83 (by decide) ?_
            refine lv_iload_n hx_ hb_ dX11_lay_85 rfl (lv_at hl 2 rfl) ?_
            refine si_add S dX11_lay_86 ?_
            refine lv_iload_n hx_ hb_ dX11_lay_87 rfl (lv_at hl 3 rfl) ?_
            refine sc_iast S hK hV hc117 (by omega) dX11_lay_88 (fun M120 H locs hM120 hV => ?_)
            have hc121 : M120 (m + 1) = some (sArr G 574 (iup f (50 + s) d)) := (congrFun hM120 (m + 1)).trans (va_up_self M113 (m + 1) _)
            refine lv_iload_n hx_ hb_ dX11_lay_89 rfl (lv_at hl 0 rfl) ?_
            have hc122 : M120 (m + 8) = some (sArr G 10 (iup (cpD f p (f 568)) s d)) := ((congrFun hM120 (m + 8)).trans (va_up_ne M113 _ (by omega))).trans hc114
            have hc123 : M120 m = some (mO m 0 (chn ch) tn ea sn nm wn) := ((congrFun hM120 m).trans (va_up_ne M113 _ (by omega))).trans hc116
            have hc124 : svC G M120 (m + 2) (chn ch) (fsn ch fs f) := hc101.fr (fun x q8 q9 => (((congrFun hM120 x).trans (va_up_ne M113 _ (by omega))).trans ((congrFun hM113 x).trans (va_up_ne M105 _ (by omega)))).trans (hf111 x (by omega)))
            exact sr_i E hQ dX11_lay_90 ⟨Nat.le_of_ble_eq_true rfl, Nat.le_of_ble_eq_true rfl⟩ hV (⟨(iup (cpD f p (f 568)) s d), rfl, hc122, fun x q0 q1 q2 q3 => (((((((congrFun hM120 x).trans (va_up_ne M113 _ (by omega))).trans ((congrFun hM113 x).trans (va_up_ne M105 _ (by omega)))).trans (hf111 x (by omega))).trans (hf102 x (by omega) (by omega))).trans (hf91 x (by omega))).trans (hf9 x (by omega))).trans ((congrFun hM1 x).trans (va_up_ne M _ (by omega))), Or.inr (Or.inr (⟨(by omega), rfl, hc123, by unfold layF; rw [if_pos (by omega)]; exact hc121, hc124⟩))⟩)
        · refine si_const S dX11_lay_61 ?_
          refine lv_goto (tgt := 74) hx_ hb_ dX11_lay_62 (by decide) ?_
          rw [show (0 : Int) = whyL f s d by unfold whyL; rw [if_pos (by omega)]]
          refine lv_istore_n (lv' := [(3, .int (sI (whyL f s d))), (0, .ref m), (1, .int (sI s)), (2, .int (sI d))]) hx_ hb_ dX11_lay_74 rfl hl (by decide) rfl (fun ls hl => ?_)
          refine lv_iload_n hx_ hb_ dX11_lay_75 rfl (lv_at hl 0 rfl) ?_
          refine sz_ne (tgt := 89) S dX11_lay_76 (by decide) (by omega) (fun c125 => ?_) (fun c125 => ?_)
          · refine lv_iload_n hx_ hb_ dX11_lay_89 rfl (lv_at hl 0 rfl) ?_
            have hc126 : M113 (m + 1) = some (sArr G 574 f) := (((congrFun hM113 (m + 1)).trans (va_up_ne M105 _ (by omega))).trans (hf111 (m + 1) (by omega))).trans hc103
            have hc127 : M113 m = some (mO m 0 (chn ch) tn ea sn nm wn) := ((congrFun hM113 m).trans (va_up_ne M105 _ (by omega))).trans hc112
            have hc128 : svC G M113 (m + 2) (chn ch) (fsn ch fs f) := hc101.fr (fun x q8 q9 => ((congrFun hM113 x).trans (va_up_ne M105 _ (by omega))).trans (hf111 x (by omega)))
            exact sr_i E hQ dX11_lay_90 ⟨Nat.le_of_ble_eq_true rfl, Nat.le_of_ble_eq_true rfl⟩ hV (⟨(iup (cpD f p (f 568)) s d), rfl, hc114, fun x q0 q1 q2 q3 => ((((((congrFun hM113 x).trans (va_up_ne M105 _ (by omega))).trans (hf111 x (by omega))).trans (hf102 x (by omega) (by omega))).trans (hf91 x (by omega))).trans (hf9 x (by omega))).trans ((congrFun hM1 x).trans (va_up_ne M _ (by omega))), Or.inr (Or.inr (⟨(by omega), rfl, hc127, by unfold layF; rw [if_neg (by omega)]; exact hc126, hc128⟩))⟩)
          · refine lv_aload_n hx_ hb_ dX11_lay_79 rfl (lv_at hl 1 rfl) ?_
            have hc129 : M113 m = some (mO m 0 (chn ch) tn ea sn nm wn) := ((congrFun hM113 m).trans (va_up_ne M105 _ (by omega))).trans hc112
            refine sc_get (ci := 9) (C := RX11) (T := TX11) (n := 22) S hK hV inX11_ hc129 rfl 1 (by decide) (S.2.2.2.2 _ (List.mem_of_getElem? (i := 3) rfl)) rfl rfl dX11_lay_80 ?_
            refine si_bipush S dX11_lay_83 (by decide) ?_
            refine lv_iload_n hx_ hb_ dX11_lay_85 rfl (lv_at hl 2 rfl) ?_
            refine si_add S dX11_lay_86 ?_
            refine lv_iload_n hx_ hb_ dX11_lay_87 rfl (lv_at hl 3 rfl) ?_
            have hc130 : M113 (m + 1) = some (sArr G 574 f) := (((congrFun hM113 (m + 1)).trans (va_up_ne M105 _ (by omega))).trans (hf111 (m + 1) (by omega))).trans hc103
            refine sc_iast S hK hV hc130 (by omega) dX11_lay_88 (fun M131 H locs hM131 hV => ?_)
            have hc132 : M131 (m + 1) = some (sArr G 574 (iup f (50 + s) d)) := (congrFun hM131 (m + 1)).trans (va_up_self M113 (m + 1) _)
            refine lv_iload_n hx_ hb_ dX11_lay_89 rfl (lv_at hl 0 rfl) ?_
            have hc133 : M131 (m + 8) = some (sArr G 10 (iup (cpD f p (f 568)) s d)) := ((congrFun hM131 (m + 8)).trans (va_up_ne M113 _ (by omega))).trans hc114
            have hc134 : M131 m = some (mO m 0 (chn ch) tn ea sn nm wn) := ((congrFun hM131 m).trans (va_up_ne M113 _ (by omega))).trans hc129
            have hc135 : svC G M131 (m + 2) (chn ch) (fsn ch fs f) := hc101.fr (fun x q8 q9 => (((congrFun hM131 x).trans (va_up_ne M113 _ (by omega))).trans ((congrFun hM113 x).trans (va_up_ne M105 _ (by omega)))).trans (hf111 x (by omega)))
            exact sr_i E hQ dX11_lay_90 ⟨Nat.le_of_ble_eq_true rfl, Nat.le_of_ble_eq_true rfl⟩ hV (⟨(iup (cpD f p (f 568)) s d), rfl, hc133, fun x q0 q1 q2 q3 => (((((((congrFun hM131 x).trans (va_up_ne M113 _ (by omega))).trans ((congrFun hM113 x).trans (va_up_ne M105 _ (by omega)))).trans (hf111 x (by omega))).trans (hf102 x (by omega) (by omega))).trans (hf91 x (by omega))).trans (hf9 x (by omega))).trans ((congrFun hM1 x).trans (va_up_ne M _ (by omega))), Or.inr (Or.inr (⟨(by omega), rfl, hc134, by unfold layF; rw [if_pos (by omega)]; exact hc132, hc135⟩))⟩)
  · rw [ez15]
    refine sz_ne (tgt := 39) S dX11_lay_10 (by decide) (by omega) (fun _ => ?_) (fun c136 => absurd c136 (by omega))
    refine si_const S dX11_lay_39 ?_
    have hc137 : M4 (m + 8) = some (sArr G 10 p) := ((hf9 (m + 8) (by omega)).trans ((congrFun hM1 (m + 8)).trans (va_up_ne M _ (by omega)))).trans hm8
    have hc138 : M4 (m + 1) = some (sArr G 574 f) := (hf9 (m + 1) (by omega)).trans hc3
    have hc139 : svC G M4 (m + 2) ch fs := hsv.fr (fun x q8 q9 => (hf9 x (by omega)).trans ((congrFun hM1 x).trans (va_up_ne M _ (by omega))))
    exact sr_i E hQ dX11_lay_40 ⟨Nat.le_of_ble_eq_true rfl, Nat.le_of_ble_eq_true rfl⟩ hV (⟨p, rfl, hc137, fun x q0 q1 q2 q3 => (hf9 x (by omega)).trans ((congrFun hM1 x).trans (va_up_ne M _ (by omega))), Or.inl ⟨(by omega), rfl, hc16, hc138, hc139⟩⟩)
