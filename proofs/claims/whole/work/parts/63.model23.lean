noncomputable def jnF (f t : sF) (n : Int) : sF := jnS (rcC t n) (rcV t n) (rcK t n) f (rcK t n).toNat
def jnQ (f t : sF) (n : Int) : Prop := jnK (rcC t n) (rcV t n) (rcK t n) f
def isC (t : sF) (n : Int) : Prop := 0 < ltc t n ∧ ltc t n = n
theorem cpK_e {f g : sF} (h : ∀ q, (q < 0 ∨ 574 ≤ q) → f q = g q) : cpK f g 574 = g := by
  funext q
  unfold cpK
  by_cases e : 0 ≤ q ∧ q < 574
  · rw [if_pos e]
  · rw [if_neg e]; exact h q (by omega)
theorem cpK_x {f g g2 : sF} (h : ∀ q, 0 ≤ q → q < 574 → g q = g2 q) (h2 : ∀ q, (q < 0 ∨ 574 ≤ q) → f q = g2 q) : cpK f g 574 = g2 := by
  funext q
  unfold cpK
  by_cases e : 0 ≤ q ∧ q < 574
  · rw [if_pos e]; exact h q e.1 e.2
  · rw [if_neg e]; exact h2 q (by omega)

abbrev rmX11_stone : Room := { frames := 3, cells := 0, slots := 0, locals := 86 }
set_option maxHeartbeats 8000000 in
set_option maxRecDepth 100000 in
theorem kX11_stone (l_ : Launch) (G : sG) (b_ : Nat) (M : sM) (N : Nat) (m : Nat) (th ch tn ea sn nm wn : Int) (f : sF) (fs : Int → sF) (t : sF) (k z w v : Int) (hm0 : M m = some (mO m th ch tn ea sn nm wn)) (hm1 : M (m + 1) = some (sArr G 574 f)) (hsv : svC G M (m + 2) ch fs) (hm3 : M (m + 3) = some (sArr G 300 t)) (hok : sOk f) (hch : 0 ≤ ch ∧ ch ≤ 15) (ht : tpOk t tn) (hr : sR k ∧ sR z ∧ sR w ∧ sR v) : cI l_ yX11_stone wsX11_stone rmX11_stone G b_ M N [.ref m, .int (sI k), .int (sI z), .int (sI w), .int (sI v)] (fun z_ M1 N1 => N1 = N ∧ (∀ x : Nat, ¬ (x = m) → ¬ (x = m + 1) → ¬ (x = m + 2) → M1 x = M x) ∧ (((¬ nuP k z w v) ∧ z_ = 0 ∧ M1 m = some (mO m 1 ch 0 (-1) sn nm wn) ∧ M1 (m + 1) = some (sArr G 574 f) ∧ svC G M1 (m + 2) ch fs) ∨ ((nuP k z w v ∧ ¬ isC t tn) ∧ z_ = 0 ∧ M1 m = some (mO m 1 ch 0 (ltc t tn) sn nm wn) ∧ M1 (m + 1) = some (sArr G 574 f) ∧ svC G M1 (m + 2) ch fs) ∨ ((nuP k z w v ∧ isC t tn ∧ idx (fun q => f q = coA t tn 0) (f 568) ≠ -1) ∧ z_ = 0 ∧ M1 m = some (mO m 1 ch 0 0 sn nm wn) ∧ M1 (m + 1) = some (sArr G 574 f) ∧ svC G M1 (m + 2) ch fs) ∨ ((nuP k z w v ∧ isC t tn ∧ idx (fun q => f q = coA t tn 0) (f 568) = -1 ∧ 10 ≤ f 568) ∧ z_ = 0 ∧ M1 m = some (mO m 2 ch 0 (-1) sn nm wn) ∧ M1 (m + 1) = some (sArr G 574 f) ∧ svC G M1 (m + 2) ch fs) ∨ ((nuP k z w v ∧ isC t tn ∧ idx (fun q => f q = coA t tn 0) (f 568) = -1 ∧ f 568 < 10) ∧ z_ = f 568 ∧ M1 m = some (mO m 0 (chn ch) 0 (-1) sn nm wn) ∧ M1 (m + 1) = some (sArr G 574 (comF f (coA t tn 0) k z w v)) ∧ svC G M1 (m + 2) (chn ch) (fsn ch fs f)))) := by
  refine sE.ofI (cc := cX11_stone) (nL := 9) (ret := (some .int)) (by decide) rfl (Nat.le_of_ble_eq_true rfl) ?_
  intro p_ e_ s_ m_ args_ below_ meth_ c_ ls Q hQ E hl
  have E : sE p_ l_ e_ rmX11_stone s_ m_ args_ below_ meth_ c_ cX11_stone 9 wsX11_stone RX11 "stone" (some .int) G b_ M N := E
  have S := E.1
  have hx_ := S.1
  have hb_ := S.2.1
  have hK := E.2.2.2.2.1
  have hV := E.2.2.2.2.2.2
  have hl : lv_has ls 9 [(0, .ref m), (1, .int (sI k)), (2, .int (sI z)), (3, .int (sI w)), (4, .int (sI v))] := hl
  have inX11_ : ∀ w ∈ wsX110, w ∈ wsX11_stone := fun _ h => List.mem_cons_of_mem _ (List.mem_append_right _ h)
  have kn0 := sOk_N hok
  have htn := ht.1
  have htn2 := ht.2.1
  refine lv_aload_n hx_ hb_ dX11_stone_0 rfl (lv_at hl 0 rfl) ?_
  refine si_const S dX11_stone_1 ?_
  refine sc_put (ci := 9) (C := RX11) (T := TX11) (n := 22) S hK hV inX11_ tyX11_ok nmX11 hm0 rfl 0 (by decide) (S.2.2.2.2 _ (List.mem_of_getElem? (i := 1) rfl)) rfl rfl rfl rfl (Nat.le_of_ble_eq_true rfl) dX11_stone_2 (fs1 := [.int (sI 0), .ref (m + 1), .ref (m + 2), .int (sI ch), .ref (m + 3), .int (sI tn), .int (sI ea), .ref (m + 4), .ref (m + 5), .ref (m + 6), .ref (m + 7), .ref (m + 8), .ref (m + 9), .int (sI sn), .ref (m + 10), .ref (m + 11), .ref (m + 12), .ref (m + 13), .int (sI nm), .ref (m + 14), .ref (m + 15), .int (sI wn)]) rfl (fun M1 H locs hM1 hV => ?_)
  have hc2 : M1 m = some (mO m 0 ch tn ea sn nm wn) := (congrFun hM1 m).trans (va_up_self M m _)
  refine si_const S dX11_stone_5 ?_
  refine lv_istore (lv' := [(5, .int (sI 0)), (0, .ref m), (1, .int (sI k)), (2, .int (sI z)), (3, .int (sI w)), (4, .int (sI v))]) hx_ hb_ dX11_stone_6 hl (by decide) rfl (fun ls hl => ?_)
  have L8 : ∀ (fuel : Nat) (l : Int)  (H : Heap) (locs : List Loc) (ls : Array Slot), ((4 - l).toNat) < fuel → (0 ≤ l ∧ l ≤ 4) → (∀ i, 0 ≤ i → i < l → ltP t tn i) → sV G b_ M1 N s_ H locs → lv_has ls 9 [(0, .ref m), (1, .int (sI k)), (2, .int (sI z)), (3, .int (sI w)), (4, .int (sI v)), (5, .int (sI l))] → W p_ l_ e_ rmX11_stone s_ m_ args_ below_ meth_ c_ H locs 0 0 Q (F0 m_ 8 ls []) := by
    intro fuel
    induction fuel with
    | zero => intro l H locs ls hmu; exact absurd hmu (Nat.not_lt_zero _)
    | succ fuel ih8 =>
      intro l H locs ls hmu8 hv8_0 hlt  hV hl
      refine lv_iload hx_ hb_ dX11_stone_8 (lv_at hl 5 rfl) ?_
      refine si_const S dX11_stone_10 ?_
      refine sb_ge (tgt := 29) S dX11_stone_11 (by decide) (by omega) (fun c3 => ?_) (fun c3 => ?_)
      · have hlc : ltc t tn = l := by have h4 : l = 4 := (by omega); rw [h4]; exact ltc_4 (fun k a b => hlt k a (by omega))
        have hlr := ltc_r t tn
        rw [← hlc] at hl
        have hcb := coA_b t tn 0
        refine lv_aload_n hx_ hb_ dX11_stone_29 rfl (lv_at hl 0 rfl) ?_
        refine si_const S dX11_stone_30 ?_
        have hc4 : M1 (m + 3) = some (sArr G 300 t) := ((congrFun hM1 (m + 3)).trans (va_up_ne M _ (by omega))).trans hm3
        refine sk_VP E hV (As := [.int (sI 0)]) (rest := []) (kX11_codeAt l_ G b_ M1 N m 0 ch tn ea sn nm wn t 0 hc2 hc4 (by omega) (by omega) (ht)) (cwV 1 S.2.2.2.2 gX11_stone_X11_codeAt rfl rfl rfl (by decide +kernel) ⟨Nat.le_of_ble_eq_true rfl, Nat.le_of_ble_eq_true rfl⟩) (ci := 9) hc2 rfl rfl rfl hl.1 (Nat.le_of_ble_eq_true rfl) dX11_stone_31 (c1 := 0) (s1 := 0) ⟨⟨rfl, rfl⟩, by decide, by decide⟩ (fun H locs hV => ?_)
        refine lv_istore (lv' := [(6, .int (sI (coA t tn 0))), (0, .ref m), (1, .int (sI k)), (2, .int (sI z)), (3, .int (sI w)), (4, .int (sI v)), (5, .int (sI (ltc t tn)))]) hx_ hb_ dX11_stone_34 hl (by decide) rfl (fun ls hl => ?_)
        refine lv_iload hx_ hb_ dX11_stone_36 (lv_at hl 6 rfl) ?_
        refine sz_le (tgt := 54) S dX11_stone_38 (by decide) (by omega) (fun c5 => ?_) (fun c5 => ?_)
        · refine si_const S dX11_stone_54 ?_
          refine lv_istore (lv' := [(7, .int (sI 0)), (6, .int (sI (coA t tn 0))), (0, .ref m), (1, .int (sI k)), (2, .int (sI z)), (3, .int (sI w)), (4, .int (sI v)), (5, .int (sI (ltc t tn)))]) hx_ hb_ dX11_stone_55 hl (by decide) rfl (fun ls hl => ?_)
          refine lv_iload_n hx_ hb_ dX11_stone_57 rfl (lv_at hl 3 rfl) ?_
          refine lv_iload_n hx_ hb_ dX11_stone_58 rfl (lv_at hl 4 rfl) ?_
          refine lv_iload_n hx_ hb_ dX11_stone_59 rfl (lv_at hl 5 rfl) ?_
          refine lv_iload hx_ hb_ dX11_stone_60 (lv_at hl 6 rfl) ?_
          refine sk_SP E hV (As := [.int (sI k), .int (sI z), .int (sI w), .int (sI v)]) (rest := []) (kX11_areNumbers l_ G b_ M1 N k z w v (by omega)) (va_cwS 4 S.2.2.2.2 gX11_stone_X11_areNumbers rfl rfl rfl (by decide +kernel) ⟨Nat.le_of_ble_eq_true rfl, Nat.le_of_ble_eq_true rfl⟩) rfl rfl hl.1 (Nat.le_of_ble_eq_true rfl) dX11_stone_62 (c1 := 0) (s1 := 0) ⟨⟨rfl, rfl⟩, by decide, by decide⟩ (fun H locs hV => ?_)
          refine lv_istore (lv' := [(8, .int (sI (bI (nuP k z w v)))), (7, .int (sI 0)), (6, .int (sI (coA t tn 0))), (0, .ref m), (1, .int (sI k)), (2, .int (sI z)), (3, .int (sI w)), (4, .int (sI v)), (5, .int (sI (ltc t tn)))]) hx_ hb_ dX11_stone_65 hl (by decide) rfl (fun ls hl => ?_)
          refine lv_aload_n hx_ hb_ dX11_stone_67 rfl (lv_at hl 3 rfl) ?_
          refine si_const S dX11_stone_68 ?_
          refine sc_put (ci := 9) (C := RX11) (T := TX11) (n := 22) S hK hV inX11_ tyX11_ok nmX11 hc2 rfl 5 (by decide) (S.2.2.2.2 _ (List.mem_of_getElem? (i := 2) rfl)) rfl rfl rfl rfl (Nat.le_of_ble_eq_true rfl) dX11_stone_69 (fs1 := [.int (sI 0), .ref (m + 1), .ref (m + 2), .int (sI ch), .ref (m + 3), .int (sI 0), .int (sI ea), .ref (m + 4), .ref (m + 5), .ref (m + 6), .ref (m + 7), .ref (m + 8), .ref (m + 9), .int (sI sn), .ref (m + 10), .ref (m + 11), .ref (m + 12), .ref (m + 13), .int (sI nm), .ref (m + 14), .ref (m + 15), .int (sI wn)]) rfl (fun M6 H locs hM6 hV => ?_)
          have hc7 : M6 m = some (mO m 0 ch 0 ea sn nm wn) := (congrFun hM6 m).trans (va_up_self M1 m _)
          refine lv_aload_n hx_ hb_ dX11_stone_72 rfl (lv_at hl 3 rfl) ?_
          refine lv_iload hx_ hb_ dX11_stone_73 (lv_at hl 0 rfl) ?_
          refine sq_ne (tgt := 82) S dX11_stone_75 (by decide) (fun h75 => ?_) (fun h75 => ?_)
          · refine lv_iload hx_ hb_ dX11_stone_82 (lv_at hl 1 rfl) ?_
            refine sz_ne (tgt := 92) S dX11_stone_84 (by decide) (by omega) (fun c8 => absurd c8 (by omega)) (fun _ => ?_)
            refine lv_iload hx_ hb_ dX11_stone_87 (lv_at hl 8 rfl) ?_
            refine lv_goto (tgt := 107) hx_ hb_ dX11_stone_89 (by decide) ?_
            refine sc_put (ci := 9) (C := RX11) (T := TX11) (n := 22) S hK hV inX11_ tyX11_ok nmX11 hc7 rfl 6 (by decide) (S.2.2.2.2 _ (List.mem_of_getElem? (i := 3) rfl)) rfl rfl rfl rfl (Nat.le_of_ble_eq_true rfl) dX11_stone_107 (fs1 := [.int (sI 0), .ref (m + 1), .ref (m + 2), .int (sI ch), .ref (m + 3), .int (sI 0), .int (sI (ltc t tn)), .ref (m + 4), .ref (m + 5), .ref (m + 6), .ref (m + 7), .ref (m + 8), .ref (m + 9), .int (sI sn), .ref (m + 10), .ref (m + 11), .ref (m + 12), .ref (m + 13), .int (sI nm), .ref (m + 14), .ref (m + 15), .int (sI wn)]) rfl (fun M9 H locs hM9 hV => ?_)
            have hc10 : M9 m = some (mO m 0 ch 0 (ltc t tn) sn nm wn) := (congrFun hM9 m).trans (va_up_self M6 m _)
            refine lv_aload_n hx_ hb_ dX11_stone_110 rfl (lv_at hl 3 rfl) ?_
            refine lv_iload hx_ hb_ dX11_stone_111 (lv_at hl 0 rfl) ?_
            refine sq_eq (tgt := 128) S dX11_stone_113 (by decide) (fun c11 => absurd c11 (by exact fun q => q h75)) (fun _ => ?_)
            refine lv_aload_n hx_ hb_ dX11_stone_116 rfl (lv_at hl 3 rfl) ?_
            refine sc_get (ci := 9) (C := RX11) (T := TX11) (n := 22) S hK hV inX11_ hc10 rfl 6 (by decide) (S.2.2.2.2 _ (List.mem_of_getElem? (i := 3) rfl)) rfl rfl dX11_stone_117 ?_
            refine si_const S dX11_stone_120 ?_
            refine sb_ne (tgt := 128) S dX11_stone_121 (by decide) (by omega) (fun _ => ?_) (fun c12 => absurd c12 (by omega))
            refine si_const S dX11_stone_128 ?_
            refine si_const S dX11_stone_129 ?_
            refine sk_Vi E hV (As := [.int (sI 0), .int (sI 1)]) (rest := []) (kX11_fails0 l_ G b_ M9 N m ch 0 (ltc t tn) sn nm wn 1 hc10 (by omega)) (cwV 2 S.2.2.2.2 gX11_stone_X11_fails rfl rfl rfl (by decide +kernel) ⟨Nat.le_of_ble_eq_true rfl, Nat.le_of_ble_eq_true rfl⟩) (ci := 9) hc10 rfl rfl rfl hl.1 (Nat.le_of_ble_eq_true rfl) dX11_stone_130 (c1 := 0) (s1 := 0) ⟨⟨rfl, rfl⟩, by decide, by decide⟩ (fun z16 M13 N14 H locs hp15 hV => ?_)
            obtain ⟨ez17, hN18, hc19, hf20⟩ := hp15
            rw [hN18] at hV
            rw [ez17]
            refine sz_ne (tgt := 158) S dX11_stone_133 (by decide) (by omega) (fun _ => ?_) (fun c21 => absurd c21 (by omega))
            refine si_const S dX11_stone_158 ?_
            have hc22 : M13 (m + 1) = some (sArr G 574 f) := ((((hf20 (m + 1) (by omega)).trans ((congrFun hM9 (m + 1)).trans (va_up_ne M6 _ (by omega)))).trans ((congrFun hM6 (m + 1)).trans (va_up_ne M1 _ (by omega)))).trans ((congrFun hM1 (m + 1)).trans (va_up_ne M _ (by omega)))).trans hm1
            have hc23 : svC G M13 (m + 2) ch fs := hsv.fr (fun x q8 q9 => (((hf20 x (by omega)).trans ((congrFun hM9 x).trans (va_up_ne M6 _ (by omega)))).trans ((congrFun hM6 x).trans (va_up_ne M1 _ (by omega)))).trans ((congrFun hM1 x).trans (va_up_ne M _ (by omega))))
            exact sr_i E hQ dX11_stone_159 ⟨Nat.le_of_ble_eq_true rfl, Nat.le_of_ble_eq_true rfl⟩ hV (⟨rfl, fun x q0 q1 q2 => (((hf20 x (by omega)).trans ((congrFun hM9 x).trans (va_up_ne M6 _ (by omega)))).trans ((congrFun hM6 x).trans (va_up_ne M1 _ (by omega)))).trans ((congrFun hM1 x).trans (va_up_ne M _ (by omega))), Or.inr (Or.inl ⟨(⟨h75, fun q => by have := q.1; have := q.2; omega⟩), rfl, hc19, hc22, hc23⟩)⟩)
          · refine si_const S dX11_stone_78 ?_
            refine lv_goto (tgt := 107) hx_ hb_ dX11_stone_79 (by decide) ?_
            refine sc_put (ci := 9) (C := RX11) (T := TX11) (n := 22) S hK hV inX11_ tyX11_ok nmX11 hc7 rfl 6 (by decide) (S.2.2.2.2 _ (List.mem_of_getElem? (i := 3) rfl)) rfl rfl rfl rfl (Nat.le_of_ble_eq_true rfl) dX11_stone_107 (fs1 := [.int (sI 0), .ref (m + 1), .ref (m + 2), .int (sI ch), .ref (m + 3), .int (sI 0), .int (sI (-1)), .ref (m + 4), .ref (m + 5), .ref (m + 6), .ref (m + 7), .ref (m + 8), .ref (m + 9), .int (sI sn), .ref (m + 10), .ref (m + 11), .ref (m + 12), .ref (m + 13), .int (sI nm), .ref (m + 14), .ref (m + 15), .int (sI wn)]) rfl (fun M24 H locs hM24 hV => ?_)
            have hc25 : M24 m = some (mO m 0 ch 0 (-1) sn nm wn) := (congrFun hM24 m).trans (va_up_self M6 m _)
            refine lv_aload_n hx_ hb_ dX11_stone_110 rfl (lv_at hl 3 rfl) ?_
            refine lv_iload hx_ hb_ dX11_stone_111 (lv_at hl 0 rfl) ?_
            refine sq_eq (tgt := 128) S dX11_stone_113 (by decide) (fun _ => ?_) (fun c26 => absurd c26 (by exact h75))
            refine si_const S dX11_stone_128 ?_
            refine si_const S dX11_stone_129 ?_
            refine sk_Vi E hV (As := [.int (sI 0), .int (sI 1)]) (rest := []) (kX11_fails0 l_ G b_ M24 N m ch 0 (-1) sn nm wn 1 hc25 (by omega)) (cwV 2 S.2.2.2.2 gX11_stone_X11_fails rfl rfl rfl (by decide +kernel) ⟨Nat.le_of_ble_eq_true rfl, Nat.le_of_ble_eq_true rfl⟩) (ci := 9) hc25 rfl rfl rfl hl.1 (Nat.le_of_ble_eq_true rfl) dX11_stone_130 (c1 := 0) (s1 := 0) ⟨⟨rfl, rfl⟩, by decide, by decide⟩ (fun z30 M27 N28 H locs hp29 hV => ?_)
            obtain ⟨ez31, hN32, hc33, hf34⟩ := hp29
            rw [hN32] at hV
            rw [ez31]
            refine sz_ne (tgt := 158) S dX11_stone_133 (by decide) (by omega) (fun _ => ?_) (fun c35 => absurd c35 (by omega))
            refine si_const S dX11_stone_158 ?_
            have hc36 : M27 (m + 1) = some (sArr G 574 f) := ((((hf34 (m + 1) (by omega)).trans ((congrFun hM24 (m + 1)).trans (va_up_ne M6 _ (by omega)))).trans ((congrFun hM6 (m + 1)).trans (va_up_ne M1 _ (by omega)))).trans ((congrFun hM1 (m + 1)).trans (va_up_ne M _ (by omega)))).trans hm1
            have hc37 : svC G M27 (m + 2) ch fs := hsv.fr (fun x q8 q9 => (((hf34 x (by omega)).trans ((congrFun hM24 x).trans (va_up_ne M6 _ (by omega)))).trans ((congrFun hM6 x).trans (va_up_ne M1 _ (by omega)))).trans ((congrFun hM1 x).trans (va_up_ne M _ (by omega))))
            exact sr_i E hQ dX11_stone_159 ⟨Nat.le_of_ble_eq_true rfl, Nat.le_of_ble_eq_true rfl⟩ hV (⟨rfl, fun x q0 q1 q2 => (((hf34 x (by omega)).trans ((congrFun hM24 x).trans (va_up_ne M6 _ (by omega)))).trans ((congrFun hM6 x).trans (va_up_ne M1 _ (by omega)))).trans ((congrFun hM1 x).trans (va_up_ne M _ (by omega))), Or.inl ⟨(h75), rfl, hc33, hc36, hc37⟩⟩)
        · refine lv_iload hx_ hb_ dX11_stone_41 (lv_at hl 6 rfl) ?_
          refine lv_aload_n hx_ hb_ dX11_stone_43 rfl (lv_at hl 1 rfl) ?_
          refine sc_get (ci := 9) (C := RX11) (T := TX11) (n := 22) S hK hV inX11_ hc2 rfl 5 (by decide) (S.2.2.2.2 _ (List.mem_of_getElem? (i := 2) rfl)) rfl rfl dX11_stone_44 ?_
          refine sb_ne (tgt := 54) S dX11_stone_47 (by decide) (by omega) (fun c38 => ?_) (fun c38 => ?_)
          · refine si_const S dX11_stone_54 ?_
            refine lv_istore (lv' := [(7, .int (sI 0)), (6, .int (sI (coA t tn 0))), (0, .ref m), (1, .int (sI k)), (2, .int (sI z)), (3, .int (sI w)), (4, .int (sI v)), (5, .int (sI (ltc t tn)))]) hx_ hb_ dX11_stone_55 hl (by decide) rfl (fun ls hl => ?_)
            refine lv_iload_n hx_ hb_ dX11_stone_57 rfl (lv_at hl 3 rfl) ?_
            refine lv_iload_n hx_ hb_ dX11_stone_58 rfl (lv_at hl 4 rfl) ?_
            refine lv_iload_n hx_ hb_ dX11_stone_59 rfl (lv_at hl 5 rfl) ?_
            refine lv_iload hx_ hb_ dX11_stone_60 (lv_at hl 6 rfl) ?_
            refine sk_SP E hV (As := [.int (sI k), .int (sI z), .int (sI w), .int (sI v)]) (rest := []) (kX11_areNumbers l_ G b_ M1 N k z w v (by omega)) (va_cwS 4 S.2.2.2.2 gX11_stone_X11_areNumbers rfl rfl rfl (by decide +kernel) ⟨Nat.le_of_ble_eq_true rfl, Nat.le_of_ble_eq_true rfl⟩) rfl rfl hl.1 (Nat.le_of_ble_eq_true rfl) dX11_stone_62 (c1 := 0) (s1 := 0) ⟨⟨rfl, rfl⟩, by decide, by decide⟩ (fun H locs hV => ?_)
            refine lv_istore (lv' := [(8, .int (sI (bI (nuP k z w v)))), (7, .int (sI 0)), (6, .int (sI (coA t tn 0))), (0, .ref m), (1, .int (sI k)), (2, .int (sI z)), (3, .int (sI w)), (4, .int (sI v)), (5, .int (sI (ltc t tn)))]) hx_ hb_ dX11_stone_65 hl (by decide) rfl (fun ls hl => ?_)
            refine lv_aload_n hx_ hb_ dX11_stone_67 rfl (lv_at hl 3 rfl) ?_
            refine si_const S dX11_stone_68 ?_
            refine sc_put (ci := 9) (C := RX11) (T := TX11) (n := 22) S hK hV inX11_ tyX11_ok nmX11 hc2 rfl 5 (by decide) (S.2.2.2.2 _ (List.mem_of_getElem? (i := 2) rfl)) rfl rfl rfl rfl (Nat.le_of_ble_eq_true rfl) dX11_stone_69 (fs1 := [.int (sI 0), .ref (m + 1), .ref (m + 2), .int (sI ch), .ref (m + 3), .int (sI 0), .int (sI ea), .ref (m + 4), .ref (m + 5), .ref (m + 6), .ref (m + 7), .ref (m + 8), .ref (m + 9), .int (sI sn), .ref (m + 10), .ref (m + 11), .ref (m + 12), .ref (m + 13), .int (sI nm), .ref (m + 14), .ref (m + 15), .int (sI wn)]) rfl (fun M39 H locs hM39 hV => ?_)
            have hc40 : M39 m = some (mO m 0 ch 0 ea sn nm wn) := (congrFun hM39 m).trans (va_up_self M1 m _)
            refine lv_aload_n hx_ hb_ dX11_stone_72 rfl (lv_at hl 3 rfl) ?_
            refine lv_iload hx_ hb_ dX11_stone_73 (lv_at hl 0 rfl) ?_
            refine sq_ne (tgt := 82) S dX11_stone_75 (by decide) (fun h75 => ?_) (fun h75 => ?_)
            · refine lv_iload hx_ hb_ dX11_stone_82 (lv_at hl 1 rfl) ?_
              refine sz_ne (tgt := 92) S dX11_stone_84 (by decide) (by omega) (fun c41 => absurd c41 (by omega)) (fun _ => ?_)
              refine lv_iload hx_ hb_ dX11_stone_87 (lv_at hl 8 rfl) ?_
              refine lv_goto (tgt := 107) hx_ hb_ dX11_stone_89 (by decide) ?_
              refine sc_put (ci := 9) (C := RX11) (T := TX11) (n := 22) S hK hV inX11_ tyX11_ok nmX11 hc40 rfl 6 (by decide) (S.2.2.2.2 _ (List.mem_of_getElem? (i := 3) rfl)) rfl rfl rfl rfl (Nat.le_of_ble_eq_true rfl) dX11_stone_107 (fs1 := [.int (sI 0), .ref (m + 1), .ref (m + 2), .int (sI ch), .ref (m + 3), .int (sI 0), .int (sI (ltc t tn)), .ref (m + 4), .ref (m + 5), .ref (m + 6), .ref (m + 7), .ref (m + 8), .ref (m + 9), .int (sI sn), .ref (m + 10), .ref (m + 11), .ref (m + 12), .ref (m + 13), .int (sI nm), .ref (m + 14), .ref (m + 15), .int (sI wn)]) rfl (fun M42 H locs hM42 hV => ?_)
              have hc43 : M42 m = some (mO m 0 ch 0 (ltc t tn) sn nm wn) := (congrFun hM42 m).trans (va_up_self M39 m _)
              refine lv_aload_n hx_ hb_ dX11_stone_110 rfl (lv_at hl 3 rfl) ?_
              refine lv_iload hx_ hb_ dX11_stone_111 (lv_at hl 0 rfl) ?_
              refine sq_eq (tgt := 128) S dX11_stone_113 (by decide) (fun c44 => absurd c44 (by exact fun q => q h75)) (fun _ => ?_)
              refine lv_aload_n hx_ hb_ dX11_stone_116 rfl (lv_at hl 3 rfl) ?_
              refine sc_get (ci := 9) (C := RX11) (T := TX11) (n := 22) S hK hV inX11_ hc43 rfl 6 (by decide) (S.2.2.2.2 _ (List.mem_of_getElem? (i := 3) rfl)) rfl rfl dX11_stone_117 ?_
              refine si_const S dX11_stone_120 ?_
              refine sb_ne (tgt := 128) S dX11_stone_121 (by decide) (by omega) (fun _ => ?_) (fun c45 => absurd c45 (by omega))
              refine si_const S dX11_stone_128 ?_
              refine si_const S dX11_stone_129 ?_
              refine sk_Vi E hV (As := [.int (sI 0), .int (sI 1)]) (rest := []) (kX11_fails0 l_ G b_ M42 N m ch 0 (ltc t tn) sn nm wn 1 hc43 (by omega)) (cwV 2 S.2.2.2.2 gX11_stone_X11_fails rfl rfl rfl (by decide +kernel) ⟨Nat.le_of_ble_eq_true rfl, Nat.le_of_ble_eq_true rfl⟩) (ci := 9) hc43 rfl rfl rfl hl.1 (Nat.le_of_ble_eq_true rfl) dX11_stone_130 (c1 := 0) (s1 := 0) ⟨⟨rfl, rfl⟩, by decide, by decide⟩ (fun z49 M46 N47 H locs hp48 hV => ?_)
              obtain ⟨ez50, hN51, hc52, hf53⟩ := hp48
              rw [hN51] at hV
              rw [ez50]
              refine sz_ne (tgt := 158) S dX11_stone_133 (by decide) (by omega) (fun _ => ?_) (fun c54 => absurd c54 (by omega))
              refine si_const S dX11_stone_158 ?_
              have hc55 : M46 (m + 1) = some (sArr G 574 f) := ((((hf53 (m + 1) (by omega)).trans ((congrFun hM42 (m + 1)).trans (va_up_ne M39 _ (by omega)))).trans ((congrFun hM39 (m + 1)).trans (va_up_ne M1 _ (by omega)))).trans ((congrFun hM1 (m + 1)).trans (va_up_ne M _ (by omega)))).trans hm1
              have hc56 : svC G M46 (m + 2) ch fs := hsv.fr (fun x q8 q9 => (((hf53 x (by omega)).trans ((congrFun hM42 x).trans (va_up_ne M39 _ (by omega)))).trans ((congrFun hM39 x).trans (va_up_ne M1 _ (by omega)))).trans ((congrFun hM1 x).trans (va_up_ne M _ (by omega))))
              exact sr_i E hQ dX11_stone_159 ⟨Nat.le_of_ble_eq_true rfl, Nat.le_of_ble_eq_true rfl⟩ hV (⟨rfl, fun x q0 q1 q2 => (((hf53 x (by omega)).trans ((congrFun hM42 x).trans (va_up_ne M39 _ (by omega)))).trans ((congrFun hM39 x).trans (va_up_ne M1 _ (by omega)))).trans ((congrFun hM1 x).trans (va_up_ne M _ (by omega))), Or.inr (Or.inl ⟨(⟨h75, fun q => by have := q.1; have := q.2; omega⟩), rfl, hc52, hc55, hc56⟩)⟩)
            · refine si_const S dX11_stone_78 ?_
              refine lv_goto (tgt := 107) hx_ hb_ dX11_stone_79 (by decide) ?_
              refine sc_put (ci := 9) (C := RX11) (T := TX11) (n := 22) S hK hV inX11_ tyX11_ok nmX11 hc40 rfl 6 (by decide) (S.2.2.2.2 _ (List.mem_of_getElem? (i := 3) rfl)) rfl rfl rfl rfl (Nat.le_of_ble_eq_true rfl) dX11_stone_107 (fs1 := [.int (sI 0), .ref (m + 1), .ref (m + 2), .int (sI ch), .ref (m + 3), .int (sI 0), .int (sI (-1)), .ref (m + 4), .ref (m + 5), .ref (m + 6), .ref (m + 7), .ref (m + 8), .ref (m + 9), .int (sI sn), .ref (m + 10), .ref (m + 11), .ref (m + 12), .ref (m + 13), .int (sI nm), .ref (m + 14), .ref (m + 15), .int (sI wn)]) rfl (fun M57 H locs hM57 hV => ?_)
              have hc58 : M57 m = some (mO m 0 ch 0 (-1) sn nm wn) := (congrFun hM57 m).trans (va_up_self M39 m _)
              refine lv_aload_n hx_ hb_ dX11_stone_110 rfl (lv_at hl 3 rfl) ?_
              refine lv_iload hx_ hb_ dX11_stone_111 (lv_at hl 0 rfl) ?_
              refine sq_eq (tgt := 128) S dX11_stone_113 (by decide) (fun _ => ?_) (fun c59 => absurd c59 (by exact h75))
              refine si_const S dX11_stone_128 ?_
              refine si_const S dX11_stone_129 ?_
              refine sk_Vi E hV (As := [.int (sI 0), .int (sI 1)]) (rest := []) (kX11_fails0 l_ G b_ M57 N m ch 0 (-1) sn nm wn 1 hc58 (by omega)) (cwV 2 S.2.2.2.2 gX11_stone_X11_fails rfl rfl rfl (by decide +kernel) ⟨Nat.le_of_ble_eq_true rfl, Nat.le_of_ble_eq_true rfl⟩) (ci := 9) hc58 rfl rfl rfl hl.1 (Nat.le_of_ble_eq_true rfl) dX11_stone_130 (c1 := 0) (s1 := 0) ⟨⟨rfl, rfl⟩, by decide, by decide⟩ (fun z63 M60 N61 H locs hp62 hV => ?_)
              obtain ⟨ez64, hN65, hc66, hf67⟩ := hp62
              rw [hN65] at hV
              rw [ez64]
              refine sz_ne (tgt := 158) S dX11_stone_133 (by decide) (by omega) (fun _ => ?_) (fun c68 => absurd c68 (by omega))
              refine si_const S dX11_stone_158 ?_
              have hc69 : M60 (m + 1) = some (sArr G 574 f) := ((((hf67 (m + 1) (by omega)).trans ((congrFun hM57 (m + 1)).trans (va_up_ne M39 _ (by omega)))).trans ((congrFun hM39 (m + 1)).trans (va_up_ne M1 _ (by omega)))).trans ((congrFun hM1 (m + 1)).trans (va_up_ne M _ (by omega)))).trans hm1
              have hc70 : svC G M60 (m + 2) ch fs := hsv.fr (fun x q8 q9 => (((hf67 x (by omega)).trans ((congrFun hM57 x).trans (va_up_ne M39 _ (by omega)))).trans ((congrFun hM39 x).trans (va_up_ne M1 _ (by omega)))).trans ((congrFun hM1 x).trans (va_up_ne M _ (by omega))))
              exact sr_i E hQ dX11_stone_159 ⟨Nat.le_of_ble_eq_true rfl, Nat.le_of_ble_eq_true rfl⟩ hV (⟨rfl, fun x q0 q1 q2 => (((hf67 x (by omega)).trans ((congrFun hM57 x).trans (va_up_ne M39 _ (by omega)))).trans ((congrFun hM39 x).trans (va_up_ne M1 _ (by omega)))).trans ((congrFun hM1 x).trans (va_up_ne M _ (by omega))), Or.inl ⟨(h75), rfl, hc66, hc69, hc70⟩⟩)
          · refine si_const S dX11_stone_50 ?_
            refine lv_goto (tgt := 55) hx_ hb_ dX11_stone_51 (by decide) ?_
            refine lv_istore (lv' := [(7, .int (sI 1)), (6, .int (sI (coA t tn 0))), (0, .ref m), (1, .int (sI k)), (2, .int (sI z)), (3, .int (sI w)), (4, .int (sI v)), (5, .int (sI (ltc t tn)))]) hx_ hb_ dX11_stone_55 hl (by decide) rfl (fun ls hl => ?_)
            refine lv_iload_n hx_ hb_ dX11_stone_57 rfl (lv_at hl 3 rfl) ?_
            refine lv_iload_n hx_ hb_ dX11_stone_58 rfl (lv_at hl 4 rfl) ?_
            refine lv_iload_n hx_ hb_ dX11_stone_59 rfl (lv_at hl 5 rfl) ?_
            refine lv_iload hx_ hb_ dX11_stone_60 (lv_at hl 6 rfl) ?_
            refine sk_SP E hV (As := [.int (sI k), .int (sI z), .int (sI w), .int (sI v)]) (rest := []) (kX11_areNumbers l_ G b_ M1 N k z w v (by omega)) (va_cwS 4 S.2.2.2.2 gX11_stone_X11_areNumbers rfl rfl rfl (by decide +kernel) ⟨Nat.le_of_ble_eq_true rfl, Nat.le_of_ble_eq_true rfl⟩) rfl rfl hl.1 (Nat.le_of_ble_eq_true rfl) dX11_stone_62 (c1 := 0) (s1 := 0) ⟨⟨rfl, rfl⟩, by decide, by decide⟩ (fun H locs hV => ?_)
            refine lv_istore (lv' := [(8, .int (sI (bI (nuP k z w v)))), (7, .int (sI 1)), (6, .int (sI (coA t tn 0))), (0, .ref m), (1, .int (sI k)), (2, .int (sI z)), (3, .int (sI w)), (4, .int (sI v)), (5, .int (sI (ltc t tn)))]) hx_ hb_ dX11_stone_65 hl (by decide) rfl (fun ls hl => ?_)
            refine lv_aload_n hx_ hb_ dX11_stone_67 rfl (lv_at hl 3 rfl) ?_
            refine si_const S dX11_stone_68 ?_
            refine sc_put (ci := 9) (C := RX11) (T := TX11) (n := 22) S hK hV inX11_ tyX11_ok nmX11 hc2 rfl 5 (by decide) (S.2.2.2.2 _ (List.mem_of_getElem? (i := 2) rfl)) rfl rfl rfl rfl (Nat.le_of_ble_eq_true rfl) dX11_stone_69 (fs1 := [.int (sI 0), .ref (m + 1), .ref (m + 2), .int (sI ch), .ref (m + 3), .int (sI 0), .int (sI ea), .ref (m + 4), .ref (m + 5), .ref (m + 6), .ref (m + 7), .ref (m + 8), .ref (m + 9), .int (sI sn), .ref (m + 10), .ref (m + 11), .ref (m + 12), .ref (m + 13), .int (sI nm), .ref (m + 14), .ref (m + 15), .int (sI wn)]) rfl (fun M71 H locs hM71 hV => ?_)
            have hc72 : M71 m = some (mO m 0 ch 0 ea sn nm wn) := (congrFun hM71 m).trans (va_up_self M1 m _)
            refine lv_aload_n hx_ hb_ dX11_stone_72 rfl (lv_at hl 3 rfl) ?_
            refine lv_iload hx_ hb_ dX11_stone_73 (lv_at hl 0 rfl) ?_
            refine sq_ne (tgt := 82) S dX11_stone_75 (by decide) (fun h75 => ?_) (fun h75 => ?_)
            · refine lv_iload hx_ hb_ dX11_stone_82 (lv_at hl 1 rfl) ?_
              refine sz_ne (tgt := 92) S dX11_stone_84 (by decide) (by omega) (fun _ => ?_) (fun c73 => absurd c73 (by omega))
              refine lv_aload_n hx_ hb_ dX11_stone_92 rfl (lv_at hl 3 rfl) ?_
              refine lv_iload hx_ hb_ dX11_stone_93 (lv_at hl 2 rfl) ?_
              have hc74 : M71 (m + 1) = some (sArr G 574 f) := (((congrFun hM71 (m + 1)).trans (va_up_ne M1 _ (by omega))).trans ((congrFun hM1 (m + 1)).trans (va_up_ne M _ (by omega)))).trans hm1
              refine sk_VP E hV (As := [.int (sI (coA t tn 0))]) (rest := [.ref m]) (kX11_withCode l_ G b_ M71 N m 0 ch 0 ea sn nm wn f (coA t tn 0) hc72 hc74 (by omega) (by omega)) (cwV 1 S.2.2.2.2 gX11_stone_X11_withCode rfl rfl rfl (by decide +kernel) ⟨Nat.le_of_ble_eq_true rfl, Nat.le_of_ble_eq_true rfl⟩) (ci := 9) hc72 rfl rfl rfl hl.1 (Nat.le_of_ble_eq_true rfl) dX11_stone_95 (c1 := 0) (s1 := 0) ⟨⟨rfl, rfl⟩, by decide, by decide⟩ (fun H locs hV => ?_)
              have hxr := idx_r (fun q => f q = coA t tn 0) (n := f 568) (by omega)
              refine si_const S dX11_stone_98 ?_
              refine sb_eq (tgt := 106) S dX11_stone_99 (by decide) (by omega) (fun h99 => ?_) (fun h99 => ?_)
              · refine si_const S dX11_stone_106 ?_
                refine sc_put (ci := 9) (C := RX11) (T := TX11) (n := 22) S hK hV inX11_ tyX11_ok nmX11 hc72 rfl 6 (by decide) (S.2.2.2.2 _ (List.mem_of_getElem? (i := 3) rfl)) rfl rfl rfl rfl (Nat.le_of_ble_eq_true rfl) dX11_stone_107 (fs1 := [.int (sI 0), .ref (m + 1), .ref (m + 2), .int (sI ch), .ref (m + 3), .int (sI 0), .int (sI (-1)), .ref (m + 4), .ref (m + 5), .ref (m + 6), .ref (m + 7), .ref (m + 8), .ref (m + 9), .int (sI sn), .ref (m + 10), .ref (m + 11), .ref (m + 12), .ref (m + 13), .int (sI nm), .ref (m + 14), .ref (m + 15), .int (sI wn)]) rfl (fun M75 H locs hM75 hV => ?_)
                have hc76 : M75 m = some (mO m 0 ch 0 (-1) sn nm wn) := (congrFun hM75 m).trans (va_up_self M71 m _)
                refine lv_aload_n hx_ hb_ dX11_stone_110 rfl (lv_at hl 3 rfl) ?_
                refine lv_iload hx_ hb_ dX11_stone_111 (lv_at hl 0 rfl) ?_
                refine sq_eq (tgt := 128) S dX11_stone_113 (by decide) (fun c77 => absurd c77 (by exact fun q => q h75)) (fun _ => ?_)
                refine lv_aload_n hx_ hb_ dX11_stone_116 rfl (lv_at hl 3 rfl) ?_
                refine sc_get (ci := 9) (C := RX11) (T := TX11) (n := 22) S hK hV inX11_ hc76 rfl 6 (by decide) (S.2.2.2.2 _ (List.mem_of_getElem? (i := 3) rfl)) rfl rfl dX11_stone_117 ?_
                refine si_const S dX11_stone_120 ?_
                refine sb_ne (tgt := 128) S dX11_stone_121 (by decide) (by omega) (fun c78 => absurd c78 (by omega)) (fun _ => ?_)
                refine si_const S dX11_stone_124 ?_
                refine lv_goto (tgt := 129) hx_ hb_ dX11_stone_125 (by decide) ?_
                refine si_const S dX11_stone_129 ?_
                refine sk_Vi E hV (As := [.int (sI 1), .int (sI 1)]) (rest := []) (kX11_fails1 l_ G b_ M75 N m ch 0 (-1) sn nm wn 1 hc76 (by omega)) (cwV 2 S.2.2.2.2 gX11_stone_X11_fails rfl rfl rfl (by decide +kernel) ⟨Nat.le_of_ble_eq_true rfl, Nat.le_of_ble_eq_true rfl⟩) (ci := 9) hc76 rfl rfl rfl hl.1 (Nat.le_of_ble_eq_true rfl) dX11_stone_130 (c1 := 0) (s1 := 0) ⟨⟨rfl, rfl⟩, by decide, by decide⟩ (fun z82 M79 N80 H locs hp81 hV => ?_)
                obtain ⟨ez83, hN84, hc85, hf86⟩ := hp81
                rw [hN84] at hV
                rw [ez83]
                refine sz_ne (tgt := 158) S dX11_stone_133 (by decide) (by omega) (fun c87 => absurd c87 (by omega)) (fun _ => ?_)
                refine lv_aload_n hx_ hb_ dX11_stone_136 rfl (lv_at hl 3 rfl) ?_
                refine lv_aload_n hx_ hb_ dX11_stone_137 rfl (lv_at hl 3 rfl) ?_
                have hc88 : M79 (m + 1) = some (sArr G 574 f) := ((hf86 (m + 1) (by omega)).trans ((congrFun hM75 (m + 1)).trans (va_up_ne M71 _ (by omega)))).trans hc74
                refine sk_VP E hV (As := []) (rest := [.ref m]) (kX11_many l_ G b_ M79 N m 0 ch 0 (-1) sn nm wn f hc85 hc88) (cwV 0 S.2.2.2.2 gX11_stone_X11_many rfl rfl rfl (by decide +kernel) ⟨Nat.le_of_ble_eq_true rfl, Nat.le_of_ble_eq_true rfl⟩) (ci := 9) hc85 rfl rfl rfl hl.1 (Nat.le_of_ble_eq_true rfl) dX11_stone_138 (c1 := 0) (s1 := 0) ⟨⟨rfl, rfl⟩, by decide, by decide⟩ (fun H locs hV => ?_)
                refine si_bipush S dX11_stone_141 (by decide) ?_
                refine sb_ge (tgt := 150) S dX11_stone_143 (by decide) (by omega) (fun c89 => ?_) (fun c89 => ?_)
                · refine si_const S dX11_stone_150 ?_
                  refine si_const S dX11_stone_151 ?_
                  refine sk_Vi E hV (As := [.int (sI 0), .int (sI 2)]) (rest := []) (kX11_fails0 l_ G b_ M79 N m ch 0 (-1) sn nm wn 2 hc85 (by omega)) (cwV 2 S.2.2.2.2 gX11_stone_X11_fails rfl rfl rfl (by decide +kernel) ⟨Nat.le_of_ble_eq_true rfl, Nat.le_of_ble_eq_true rfl⟩) (ci := 9) hc85 rfl rfl rfl hl.1 (Nat.le_of_ble_eq_true rfl) dX11_stone_152 (c1 := 0) (s1 := 0) ⟨⟨rfl, rfl⟩, by decide, by decide⟩ (fun z93 M90 N91 H locs hp92 hV => ?_)
                  obtain ⟨ez94, hN95, hc96, hf97⟩ := hp92
                  rw [hN95] at hV
                  rw [ez94]
                  refine sz_eq (tgt := 160) S dX11_stone_155 (by decide) (by omega) (fun c98 => absurd c98 (by omega)) (fun _ => ?_)
                  refine si_const S dX11_stone_158 ?_
                  have hc99 : M90 (m + 1) = some (sArr G 574 f) := (hf97 (m + 1) (by omega)).trans hc88
                  have hc100 : svC G M90 (m + 2) ch fs := hsv.fr (fun x q8 q9 => ((((hf97 x (by omega)).trans (hf86 x (by omega))).trans ((congrFun hM75 x).trans (va_up_ne M71 _ (by omega)))).trans ((congrFun hM71 x).trans (va_up_ne M1 _ (by omega)))).trans ((congrFun hM1 x).trans (va_up_ne M _ (by omega))))
                  exact sr_i E hQ dX11_stone_159 ⟨Nat.le_of_ble_eq_true rfl, Nat.le_of_ble_eq_true rfl⟩ hV (⟨rfl, fun x q0 q1 q2 => ((((hf97 x (by omega)).trans (hf86 x (by omega))).trans ((congrFun hM75 x).trans (va_up_ne M71 _ (by omega)))).trans ((congrFun hM71 x).trans (va_up_ne M1 _ (by omega)))).trans ((congrFun hM1 x).trans (va_up_ne M _ (by omega))), Or.inr (Or.inr (Or.inr (Or.inl ⟨(⟨h75, ⟨by omega, by omega⟩, by omega, by omega⟩), rfl, hc96, hc99, hc100⟩)))⟩)
                · refine si_const S dX11_stone_146 ?_
                  refine lv_goto (tgt := 151) hx_ hb_ dX11_stone_147 (by decide) ?_
                  refine si_const S dX11_stone_151 ?_
                  refine sk_Vi E hV (As := [.int (sI 1), .int (sI 2)]) (rest := []) (kX11_fails1 l_ G b_ M79 N m ch 0 (-1) sn nm wn 2 hc85 (by omega)) (cwV 2 S.2.2.2.2 gX11_stone_X11_fails rfl rfl rfl (by decide +kernel) ⟨Nat.le_of_ble_eq_true rfl, Nat.le_of_ble_eq_true rfl⟩) (ci := 9) hc85 rfl rfl rfl hl.1 (Nat.le_of_ble_eq_true rfl) dX11_stone_152 (c1 := 0) (s1 := 0) ⟨⟨rfl, rfl⟩, by decide, by decide⟩ (fun z104 M101 N102 H locs hp103 hV => ?_)
                  obtain ⟨ez105, hN106, hc107, hf108⟩ := hp103
                  rw [hN106] at hV
                  rw [ez105]
                  refine sz_eq (tgt := 160) S dX11_stone_155 (by decide) (by omega) (fun _ => ?_) (fun c109 => absurd c109 (by omega))
                  refine lv_aload_n hx_ hb_ dX11_stone_160 rfl (lv_at hl 3 rfl) ?_
                  have hc110 : M101 (m + 1) = some (sArr G 574 f) := (hf108 (m + 1) (by omega)).trans hc88
                  have hc111 : svC G M101 (m + 2) ch fs := hsv.fr (fun x q8 q9 => ((((hf108 x (by omega)).trans (hf86 x (by omega))).trans ((congrFun hM75 x).trans (va_up_ne M71 _ (by omega)))).trans ((congrFun hM71 x).trans (va_up_ne M1 _ (by omega)))).trans ((congrFun hM1 x).trans (va_up_ne M _ (by omega))))
                  refine sk_Vv E hV (As := []) (rest := []) (kX11_keeps l_ G b_ M101 N m 0 ch 0 (-1) sn nm wn f fs hc107 hc110 hc111 (by omega)) (cwV 0 S.2.2.2.2 gX11_stone_X11_keeps rfl rfl rfl (by decide +kernel) ⟨Nat.le_of_ble_eq_true rfl, Nat.le_of_ble_eq_true rfl⟩) (ci := 9) hc107 rfl rfl rfl hl.1 (Nat.le_of_ble_eq_true rfl) dX11_stone_161 (c1 := 0) (s1 := 0) ⟨⟨rfl, rfl⟩, by decide, by decide⟩ (fun M112 N113 H locs hp114 hV => ?_)
                  obtain ⟨hN116, hc117, hc118, hf119⟩ := hp114
                  rw [hN116] at hV
                  refine lv_aload_n hx_ hb_ dX11_stone_164 rfl (lv_at hl 3 rfl) ?_
                  refine lv_iload hx_ hb_ dX11_stone_165 (lv_at hl 2 rfl) ?_
                  refine lv_iload_n hx_ hb_ dX11_stone_167 rfl (lv_at hl 4 rfl) ?_
                  refine lv_iload_n hx_ hb_ dX11_stone_168 rfl (lv_at hl 5 rfl) ?_
                  refine lv_iload_n hx_ hb_ dX11_stone_169 rfl (lv_at hl 6 rfl) ?_
                  refine lv_iload hx_ hb_ dX11_stone_170 (lv_at hl 7 rfl) ?_
                  have hc120 : M112 (m + 1) = some (sArr G 574 f) := (hf119 (m + 1) (by omega) (by omega)).trans hc110
                  refine sk_Vi E hV (As := [.int (sI (coA t tn 0)), .int (sI k), .int (sI z), .int (sI w), .int (sI v)]) (rest := []) (kX11_comes l_ G b_ M112 N m 0 (chn ch) 0 (-1) sn nm wn f (coA t tn 0) k z w v hc117 hc120 (by omega)) (cwV 5 S.2.2.2.2 gX11_stone_X11_comes rfl rfl rfl (by decide +kernel) ⟨Nat.le_of_ble_eq_true rfl, Nat.le_of_ble_eq_true rfl⟩) (ci := 9) hc117 rfl rfl rfl hl.1 (Nat.le_of_ble_eq_true rfl) dX11_stone_172 (c1 := 0) (s1 := 0) ⟨⟨rfl, rfl⟩, by decide, by decide⟩ (fun z124 M121 N122 H locs hp123 hV => ?_)
                  obtain ⟨ez125, hN126, hc127, hf128⟩ := hp123
                  rw [hN126] at hV
                  rw [ez125]
                  have hc129 : M121 m = some (mO m 0 (chn ch) 0 (-1) sn nm wn) := (hf128 m (by omega)).trans hc117
                  have hc130 : svC G M121 (m + 2) (chn ch) (fsn ch fs f) := hc118.fr (fun x q8 q9 => hf128 x (by omega))
                  exact sr_i E hQ dX11_stone_175 ⟨Nat.le_of_ble_eq_true rfl, Nat.le_of_ble_eq_true rfl⟩ hV (⟨rfl, fun x q0 q1 q2 => ((((((hf128 x (by omega)).trans (hf119 x (by omega) (by omega))).trans (hf108 x (by omega))).trans (hf86 x (by omega))).trans ((congrFun hM75 x).trans (va_up_ne M71 _ (by omega)))).trans ((congrFun hM71 x).trans (va_up_ne M1 _ (by omega)))).trans ((congrFun hM1 x).trans (va_up_ne M _ (by omega))), Or.inr (Or.inr (Or.inr (Or.inr (⟨(⟨h75, ⟨by omega, by omega⟩, by omega, by omega⟩), rfl, hc129, hc127, hc130⟩))))⟩)
              · refine si_const S dX11_stone_102 ?_
                refine lv_goto (tgt := 107) hx_ hb_ dX11_stone_103 (by decide) ?_
                refine sc_put (ci := 9) (C := RX11) (T := TX11) (n := 22) S hK hV inX11_ tyX11_ok nmX11 hc72 rfl 6 (by decide) (S.2.2.2.2 _ (List.mem_of_getElem? (i := 3) rfl)) rfl rfl rfl rfl (Nat.le_of_ble_eq_true rfl) dX11_stone_107 (fs1 := [.int (sI 0), .ref (m + 1), .ref (m + 2), .int (sI ch), .ref (m + 3), .int (sI 0), .int (sI 0), .ref (m + 4), .ref (m + 5), .ref (m + 6), .ref (m + 7), .ref (m + 8), .ref (m + 9), .int (sI sn), .ref (m + 10), .ref (m + 11), .ref (m + 12), .ref (m + 13), .int (sI nm), .ref (m + 14), .ref (m + 15), .int (sI wn)]) rfl (fun M131 H locs hM131 hV => ?_)
                have hc132 : M131 m = some (mO m 0 ch 0 0 sn nm wn) := (congrFun hM131 m).trans (va_up_self M71 m _)
                refine lv_aload_n hx_ hb_ dX11_stone_110 rfl (lv_at hl 3 rfl) ?_
                refine lv_iload hx_ hb_ dX11_stone_111 (lv_at hl 0 rfl) ?_
                refine sq_eq (tgt := 128) S dX11_stone_113 (by decide) (fun c133 => absurd c133 (by exact fun q => q h75)) (fun _ => ?_)
                refine lv_aload_n hx_ hb_ dX11_stone_116 rfl (lv_at hl 3 rfl) ?_
                refine sc_get (ci := 9) (C := RX11) (T := TX11) (n := 22) S hK hV inX11_ hc132 rfl 6 (by decide) (S.2.2.2.2 _ (List.mem_of_getElem? (i := 3) rfl)) rfl rfl dX11_stone_117 ?_
                refine si_const S dX11_stone_120 ?_
                refine sb_ne (tgt := 128) S dX11_stone_121 (by decide) (by omega) (fun _ => ?_) (fun c134 => absurd c134 (by omega))
                refine si_const S dX11_stone_128 ?_
                refine si_const S dX11_stone_129 ?_
                refine sk_Vi E hV (As := [.int (sI 0), .int (sI 1)]) (rest := []) (kX11_fails0 l_ G b_ M131 N m ch 0 0 sn nm wn 1 hc132 (by omega)) (cwV 2 S.2.2.2.2 gX11_stone_X11_fails rfl rfl rfl (by decide +kernel) ⟨Nat.le_of_ble_eq_true rfl, Nat.le_of_ble_eq_true rfl⟩) (ci := 9) hc132 rfl rfl rfl hl.1 (Nat.le_of_ble_eq_true rfl) dX11_stone_130 (c1 := 0) (s1 := 0) ⟨⟨rfl, rfl⟩, by decide, by decide⟩ (fun z138 M135 N136 H locs hp137 hV => ?_)
                obtain ⟨ez139, hN140, hc141, hf142⟩ := hp137
                rw [hN140] at hV
                rw [ez139]
                refine sz_ne (tgt := 158) S dX11_stone_133 (by decide) (by omega) (fun _ => ?_) (fun c143 => absurd c143 (by omega))
                refine si_const S dX11_stone_158 ?_
                have hc144 : M135 (m + 1) = some (sArr G 574 f) := ((hf142 (m + 1) (by omega)).trans ((congrFun hM131 (m + 1)).trans (va_up_ne M71 _ (by omega)))).trans hc74
                have hc145 : svC G M135 (m + 2) ch fs := hsv.fr (fun x q8 q9 => (((hf142 x (by omega)).trans ((congrFun hM131 x).trans (va_up_ne M71 _ (by omega)))).trans ((congrFun hM71 x).trans (va_up_ne M1 _ (by omega)))).trans ((congrFun hM1 x).trans (va_up_ne M _ (by omega))))
                exact sr_i E hQ dX11_stone_159 ⟨Nat.le_of_ble_eq_true rfl, Nat.le_of_ble_eq_true rfl⟩ hV (⟨rfl, fun x q0 q1 q2 => (((hf142 x (by omega)).trans ((congrFun hM131 x).trans (va_up_ne M71 _ (by omega)))).trans ((congrFun hM71 x).trans (va_up_ne M1 _ (by omega)))).trans ((congrFun hM1 x).trans (va_up_ne M _ (by omega))), Or.inr (Or.inr (Or.inl ⟨(⟨h75, ⟨by omega, by omega⟩, h99⟩), rfl, hc141, hc144, hc145⟩))⟩)
            · refine si_const S dX11_stone_78 ?_
              refine lv_goto (tgt := 107) hx_ hb_ dX11_stone_79 (by decide) ?_
              refine sc_put (ci := 9) (C := RX11) (T := TX11) (n := 22) S hK hV inX11_ tyX11_ok nmX11 hc72 rfl 6 (by decide) (S.2.2.2.2 _ (List.mem_of_getElem? (i := 3) rfl)) rfl rfl rfl rfl (Nat.le_of_ble_eq_true rfl) dX11_stone_107 (fs1 := [.int (sI 0), .ref (m + 1), .ref (m + 2), .int (sI ch), .ref (m + 3), .int (sI 0), .int (sI (-1)), .ref (m + 4), .ref (m + 5), .ref (m + 6), .ref (m + 7), .ref (m + 8), .ref (m + 9), .int (sI sn), .ref (m + 10), .ref (m + 11), .ref (m + 12), .ref (m + 13), .int (sI nm), .ref (m + 14), .ref (m + 15), .int (sI wn)]) rfl (fun M146 H locs hM146 hV => ?_)
              have hc147 : M146 m = some (mO m 0 ch 0 (-1) sn nm wn) := (congrFun hM146 m).trans (va_up_self M71 m _)
              refine lv_aload_n hx_ hb_ dX11_stone_110 rfl (lv_at hl 3 rfl) ?_
              refine lv_iload hx_ hb_ dX11_stone_111 (lv_at hl 0 rfl) ?_
              refine sq_eq (tgt := 128) S dX11_stone_113 (by decide) (fun _ => ?_) (fun c148 => absurd c148 (by exact h75))
              refine si_const S dX11_stone_128 ?_
              refine si_const S dX11_stone_129 ?_
              refine sk_Vi E hV (As := [.int (sI 0), .int (sI 1)]) (rest := []) (kX11_fails0 l_ G b_ M146 N m ch 0 (-1) sn nm wn 1 hc147 (by omega)) (cwV 2 S.2.2.2.2 gX11_stone_X11_fails rfl rfl rfl (by decide +kernel) ⟨Nat.le_of_ble_eq_true rfl, Nat.le_of_ble_eq_true rfl⟩) (ci := 9) hc147 rfl rfl rfl hl.1 (Nat.le_of_ble_eq_true rfl) dX11_stone_130 (c1 := 0) (s1 := 0) ⟨⟨rfl, rfl⟩, by decide, by decide⟩ (fun z152 M149 N150 H locs hp151 hV => ?_)
              obtain ⟨ez153, hN154, hc155, hf156⟩ := hp151
              rw [hN154] at hV
              rw [ez153]
              refine sz_ne (tgt := 158) S dX11_stone_133 (by decide) (by omega) (fun _ => ?_) (fun c157 => absurd c157 (by omega))
              refine si_const S dX11_stone_158 ?_
              have hc158 : M149 (m + 1) = some (sArr G 574 f) := ((((hf156 (m + 1) (by omega)).trans ((congrFun hM146 (m + 1)).trans (va_up_ne M71 _ (by omega)))).trans ((congrFun hM71 (m + 1)).trans (va_up_ne M1 _ (by omega)))).trans ((congrFun hM1 (m + 1)).trans (va_up_ne M _ (by omega)))).trans hm1
              have hc159 : svC G M149 (m + 2) ch fs := hsv.fr (fun x q8 q9 => (((hf156 x (by omega)).trans ((congrFun hM146 x).trans (va_up_ne M71 _ (by omega)))).trans ((congrFun hM71 x).trans (va_up_ne M1 _ (by omega)))).trans ((congrFun hM1 x).trans (va_up_ne M _ (by omega))))
              exact sr_i E hQ dX11_stone_159 ⟨Nat.le_of_ble_eq_true rfl, Nat.le_of_ble_eq_true rfl⟩ hV (⟨rfl, fun x q0 q1 q2 => (((hf156 x (by omega)).trans ((congrFun hM146 x).trans (va_up_ne M71 _ (by omega)))).trans ((congrFun hM71 x).trans (va_up_ne M1 _ (by omega)))).trans ((congrFun hM1 x).trans (va_up_ne M _ (by omega))), Or.inl ⟨(h75), rfl, hc155, hc158, hc159⟩⟩)
      · refine lv_aload_n hx_ hb_ dX11_stone_14 rfl (lv_at hl 0 rfl) ?_
        refine lv_iload hx_ hb_ dX11_stone_15 (lv_at hl 5 rfl) ?_
        have hc160 : M1 (m + 3) = some (sArr G 300 t) := ((congrFun hM1 (m + 3)).trans (va_up_ne M _ (by omega))).trans hm3
        refine sk_VP E hV (As := [.int (sI l)]) (rest := []) (kX11_isLetter l_ G b_ M1 N m 0 ch tn ea sn nm wn t l hc2 hc160 (by omega) (by omega) (ht)) (cwV 1 S.2.2.2.2 gX11_stone_X11_isLetter rfl rfl rfl (by decide +kernel) ⟨Nat.le_of_ble_eq_true rfl, Nat.le_of_ble_eq_true rfl⟩) (ci := 9) hc2 rfl rfl rfl hl.1 (Nat.le_of_ble_eq_true rfl) dX11_stone_17 (c1 := 0) (s1 := 0) ⟨⟨rfl, rfl⟩, by decide, by decide⟩ (fun H locs hV => ?_)
        refine sq_eq (tgt := 29) S dX11_stone_20 (by decide) (fun h20 => ?_) (fun h20 => ?_)
        · have hlc : ltc t tn = l := by exact ltc_e (by omega) hlt h20
          have hlr := ltc_r t tn
          rw [← hlc] at hl
          have hcb := coA_b t tn 0
          refine lv_aload_n hx_ hb_ dX11_stone_29 rfl (lv_at hl 0 rfl) ?_
          refine si_const S dX11_stone_30 ?_
          refine sk_VP E hV (As := [.int (sI 0)]) (rest := []) (kX11_codeAt l_ G b_ M1 N m 0 ch tn ea sn nm wn t 0 hc2 hc160 (by omega) (by omega) (ht)) (cwV 1 S.2.2.2.2 gX11_stone_X11_codeAt rfl rfl rfl (by decide +kernel) ⟨Nat.le_of_ble_eq_true rfl, Nat.le_of_ble_eq_true rfl⟩) (ci := 9) hc2 rfl rfl rfl hl.1 (Nat.le_of_ble_eq_true rfl) dX11_stone_31 (c1 := 0) (s1 := 0) ⟨⟨rfl, rfl⟩, by decide, by decide⟩ (fun H locs hV => ?_)
          refine lv_istore (lv' := [(6, .int (sI (coA t tn 0))), (0, .ref m), (1, .int (sI k)), (2, .int (sI z)), (3, .int (sI w)), (4, .int (sI v)), (5, .int (sI (ltc t tn)))]) hx_ hb_ dX11_stone_34 hl (by decide) rfl (fun ls hl => ?_)
          refine lv_iload hx_ hb_ dX11_stone_36 (lv_at hl 6 rfl) ?_
          refine sz_le (tgt := 54) S dX11_stone_38 (by decide) (by omega) (fun c161 => ?_) (fun c161 => ?_)
          · refine si_const S dX11_stone_54 ?_
            refine lv_istore (lv' := [(7, .int (sI 0)), (6, .int (sI (coA t tn 0))), (0, .ref m), (1, .int (sI k)), (2, .int (sI z)), (3, .int (sI w)), (4, .int (sI v)), (5, .int (sI (ltc t tn)))]) hx_ hb_ dX11_stone_55 hl (by decide) rfl (fun ls hl => ?_)
            refine lv_iload_n hx_ hb_ dX11_stone_57 rfl (lv_at hl 3 rfl) ?_
            refine lv_iload_n hx_ hb_ dX11_stone_58 rfl (lv_at hl 4 rfl) ?_
            refine lv_iload_n hx_ hb_ dX11_stone_59 rfl (lv_at hl 5 rfl) ?_
            refine lv_iload hx_ hb_ dX11_stone_60 (lv_at hl 6 rfl) ?_
            refine sk_SP E hV (As := [.int (sI k), .int (sI z), .int (sI w), .int (sI v)]) (rest := []) (kX11_areNumbers l_ G b_ M1 N k z w v (by omega)) (va_cwS 4 S.2.2.2.2 gX11_stone_X11_areNumbers rfl rfl rfl (by decide +kernel) ⟨Nat.le_of_ble_eq_true rfl, Nat.le_of_ble_eq_true rfl⟩) rfl rfl hl.1 (Nat.le_of_ble_eq_true rfl) dX11_stone_62 (c1 := 0) (s1 := 0) ⟨⟨rfl, rfl⟩, by decide, by decide⟩ (fun H locs hV => ?_)
            refine lv_istore (lv' := [(8, .int (sI (bI (nuP k z w v)))), (7, .int (sI 0)), (6, .int (sI (coA t tn 0))), (0, .ref m), (1, .int (sI k)), (2, .int (sI z)), (3, .int (sI w)), (4, .int (sI v)), (5, .int (sI (ltc t tn)))]) hx_ hb_ dX11_stone_65 hl (by decide) rfl (fun ls hl => ?_)
            refine lv_aload_n hx_ hb_ dX11_stone_67 rfl (lv_at hl 3 rfl) ?_
            refine si_const S dX11_stone_68 ?_
            refine sc_put (ci := 9) (C := RX11) (T := TX11) (n := 22) S hK hV inX11_ tyX11_ok nmX11 hc2 rfl 5 (by decide) (S.2.2.2.2 _ (List.mem_of_getElem? (i := 2) rfl)) rfl rfl rfl rfl (Nat.le_of_ble_eq_true rfl) dX11_stone_69 (fs1 := [.int (sI 0), .ref (m + 1), .ref (m + 2), .int (sI ch), .ref (m + 3), .int (sI 0), .int (sI ea), .ref (m + 4), .ref (m + 5), .ref (m + 6), .ref (m + 7), .ref (m + 8), .ref (m + 9), .int (sI sn), .ref (m + 10), .ref (m + 11), .ref (m + 12), .ref (m + 13), .int (sI nm), .ref (m + 14), .ref (m + 15), .int (sI wn)]) rfl (fun M162 H locs hM162 hV => ?_)
            have hc163 : M162 m = some (mO m 0 ch 0 ea sn nm wn) := (congrFun hM162 m).trans (va_up_self M1 m _)
            refine lv_aload_n hx_ hb_ dX11_stone_72 rfl (lv_at hl 3 rfl) ?_
            refine lv_iload hx_ hb_ dX11_stone_73 (lv_at hl 0 rfl) ?_
            refine sq_ne (tgt := 82) S dX11_stone_75 (by decide) (fun h75 => ?_) (fun h75 => ?_)
            · refine lv_iload hx_ hb_ dX11_stone_82 (lv_at hl 1 rfl) ?_
              refine sz_ne (tgt := 92) S dX11_stone_84 (by decide) (by omega) (fun c164 => absurd c164 (by omega)) (fun _ => ?_)
              refine lv_iload hx_ hb_ dX11_stone_87 (lv_at hl 8 rfl) ?_
              refine lv_goto (tgt := 107) hx_ hb_ dX11_stone_89 (by decide) ?_
              refine sc_put (ci := 9) (C := RX11) (T := TX11) (n := 22) S hK hV inX11_ tyX11_ok nmX11 hc163 rfl 6 (by decide) (S.2.2.2.2 _ (List.mem_of_getElem? (i := 3) rfl)) rfl rfl rfl rfl (Nat.le_of_ble_eq_true rfl) dX11_stone_107 (fs1 := [.int (sI 0), .ref (m + 1), .ref (m + 2), .int (sI ch), .ref (m + 3), .int (sI 0), .int (sI (ltc t tn)), .ref (m + 4), .ref (m + 5), .ref (m + 6), .ref (m + 7), .ref (m + 8), .ref (m + 9), .int (sI sn), .ref (m + 10), .ref (m + 11), .ref (m + 12), .ref (m + 13), .int (sI nm), .ref (m + 14), .ref (m + 15), .int (sI wn)]) rfl (fun M165 H locs hM165 hV => ?_)
              have hc166 : M165 m = some (mO m 0 ch 0 (ltc t tn) sn nm wn) := (congrFun hM165 m).trans (va_up_self M162 m _)
              refine lv_aload_n hx_ hb_ dX11_stone_110 rfl (lv_at hl 3 rfl) ?_
              refine lv_iload hx_ hb_ dX11_stone_111 (lv_at hl 0 rfl) ?_
              refine sq_eq (tgt := 128) S dX11_stone_113 (by decide) (fun c167 => absurd c167 (by exact fun q => q h75)) (fun _ => ?_)
              refine lv_aload_n hx_ hb_ dX11_stone_116 rfl (lv_at hl 3 rfl) ?_
              refine sc_get (ci := 9) (C := RX11) (T := TX11) (n := 22) S hK hV inX11_ hc166 rfl 6 (by decide) (S.2.2.2.2 _ (List.mem_of_getElem? (i := 3) rfl)) rfl rfl dX11_stone_117 ?_
              refine si_const S dX11_stone_120 ?_
              refine sb_ne (tgt := 128) S dX11_stone_121 (by decide) (by omega) (fun _ => ?_) (fun c168 => absurd c168 (by omega))
              refine si_const S dX11_stone_128 ?_
              refine si_const S dX11_stone_129 ?_
              refine sk_Vi E hV (As := [.int (sI 0), .int (sI 1)]) (rest := []) (kX11_fails0 l_ G b_ M165 N m ch 0 (ltc t tn) sn nm wn 1 hc166 (by omega)) (cwV 2 S.2.2.2.2 gX11_stone_X11_fails rfl rfl rfl (by decide +kernel) ⟨Nat.le_of_ble_eq_true rfl, Nat.le_of_ble_eq_true rfl⟩) (ci := 9) hc166 rfl rfl rfl hl.1 (Nat.le_of_ble_eq_true rfl) dX11_stone_130 (c1 := 0) (s1 := 0) ⟨⟨rfl, rfl⟩, by decide, by decide⟩ (fun z172 M169 N170 H locs hp171 hV => ?_)
              obtain ⟨ez173, hN174, hc175, hf176⟩ := hp171
              rw [hN174] at hV
              rw [ez173]
              refine sz_ne (tgt := 158) S dX11_stone_133 (by decide) (by omega) (fun _ => ?_) (fun c177 => absurd c177 (by omega))
              refine si_const S dX11_stone_158 ?_
              have hc178 : M169 (m + 1) = some (sArr G 574 f) := ((((hf176 (m + 1) (by omega)).trans ((congrFun hM165 (m + 1)).trans (va_up_ne M162 _ (by omega)))).trans ((congrFun hM162 (m + 1)).trans (va_up_ne M1 _ (by omega)))).trans ((congrFun hM1 (m + 1)).trans (va_up_ne M _ (by omega)))).trans hm1
              have hc179 : svC G M169 (m + 2) ch fs := hsv.fr (fun x q8 q9 => (((hf176 x (by omega)).trans ((congrFun hM165 x).trans (va_up_ne M162 _ (by omega)))).trans ((congrFun hM162 x).trans (va_up_ne M1 _ (by omega)))).trans ((congrFun hM1 x).trans (va_up_ne M _ (by omega))))
              exact sr_i E hQ dX11_stone_159 ⟨Nat.le_of_ble_eq_true rfl, Nat.le_of_ble_eq_true rfl⟩ hV (⟨rfl, fun x q0 q1 q2 => (((hf176 x (by omega)).trans ((congrFun hM165 x).trans (va_up_ne M162 _ (by omega)))).trans ((congrFun hM162 x).trans (va_up_ne M1 _ (by omega)))).trans ((congrFun hM1 x).trans (va_up_ne M _ (by omega))), Or.inr (Or.inl ⟨(⟨h75, fun q => by have := q.1; have := q.2; omega⟩), rfl, hc175, hc178, hc179⟩)⟩)
            · refine si_const S dX11_stone_78 ?_
              refine lv_goto (tgt := 107) hx_ hb_ dX11_stone_79 (by decide) ?_
              refine sc_put (ci := 9) (C := RX11) (T := TX11) (n := 22) S hK hV inX11_ tyX11_ok nmX11 hc163 rfl 6 (by decide) (S.2.2.2.2 _ (List.mem_of_getElem? (i := 3) rfl)) rfl rfl rfl rfl (Nat.le_of_ble_eq_true rfl) dX11_stone_107 (fs1 := [.int (sI 0), .ref (m + 1), .ref (m + 2), .int (sI ch), .ref (m + 3), .int (sI 0), .int (sI (-1)), .ref (m + 4), .ref (m + 5), .ref (m + 6), .ref (m + 7), .ref (m + 8), .ref (m + 9), .int (sI sn), .ref (m + 10), .ref (m + 11), .ref (m + 12), .ref (m + 13), .int (sI nm), .ref (m + 14), .ref (m + 15), .int (sI wn)]) rfl (fun M180 H locs hM180 hV => ?_)
              have hc181 : M180 m = some (mO m 0 ch 0 (-1) sn nm wn) := (congrFun hM180 m).trans (va_up_self M162 m _)
              refine lv_aload_n hx_ hb_ dX11_stone_110 rfl (lv_at hl 3 rfl) ?_
              refine lv_iload hx_ hb_ dX11_stone_111 (lv_at hl 0 rfl) ?_
              refine sq_eq (tgt := 128) S dX11_stone_113 (by decide) (fun _ => ?_) (fun c182 => absurd c182 (by exact h75))
              refine si_const S dX11_stone_128 ?_
              refine si_const S dX11_stone_129 ?_
              refine sk_Vi E hV (As := [.int (sI 0), .int (sI 1)]) (rest := []) (kX11_fails0 l_ G b_ M180 N m ch 0 (-1) sn nm wn 1 hc181 (by omega)) (cwV 2 S.2.2.2.2 gX11_stone_X11_fails rfl rfl rfl (by decide +kernel) ⟨Nat.le_of_ble_eq_true rfl, Nat.le_of_ble_eq_true rfl⟩) (ci := 9) hc181 rfl rfl rfl hl.1 (Nat.le_of_ble_eq_true rfl) dX11_stone_130 (c1 := 0) (s1 := 0) ⟨⟨rfl, rfl⟩, by decide, by decide⟩ (fun z186 M183 N184 H locs hp185 hV => ?_)
              obtain ⟨ez187, hN188, hc189, hf190⟩ := hp185
              rw [hN188] at hV
              rw [ez187]
              refine sz_ne (tgt := 158) S dX11_stone_133 (by decide) (by omega) (fun _ => ?_) (fun c191 => absurd c191 (by omega))
              refine si_const S dX11_stone_158 ?_
              have hc192 : M183 (m + 1) = some (sArr G 574 f) := ((((hf190 (m + 1) (by omega)).trans ((congrFun hM180 (m + 1)).trans (va_up_ne M162 _ (by omega)))).trans ((congrFun hM162 (m + 1)).trans (va_up_ne M1 _ (by omega)))).trans ((congrFun hM1 (m + 1)).trans (va_up_ne M _ (by omega)))).trans hm1
              have hc193 : svC G M183 (m + 2) ch fs := hsv.fr (fun x q8 q9 => (((hf190 x (by omega)).trans ((congrFun hM180 x).trans (va_up_ne M162 _ (by omega)))).trans ((congrFun hM162 x).trans (va_up_ne M1 _ (by omega)))).trans ((congrFun hM1 x).trans (va_up_ne M _ (by omega))))
              exact sr_i E hQ dX11_stone_159 ⟨Nat.le_of_ble_eq_true rfl, Nat.le_of_ble_eq_true rfl⟩ hV (⟨rfl, fun x q0 q1 q2 => (((hf190 x (by omega)).trans ((congrFun hM180 x).trans (va_up_ne M162 _ (by omega)))).trans ((congrFun hM162 x).trans (va_up_ne M1 _ (by omega)))).trans ((congrFun hM1 x).trans (va_up_ne M _ (by omega))), Or.inl ⟨(h75), rfl, hc189, hc192, hc193⟩⟩)
          · refine lv_iload hx_ hb_ dX11_stone_41 (lv_at hl 6 rfl) ?_
            refine lv_aload_n hx_ hb_ dX11_stone_43 rfl (lv_at hl 1 rfl) ?_
            refine sc_get (ci := 9) (C := RX11) (T := TX11) (n := 22) S hK hV inX11_ hc2 rfl 5 (by decide) (S.2.2.2.2 _ (List.mem_of_getElem? (i := 2) rfl)) rfl rfl dX11_stone_44 ?_
            refine sb_ne (tgt := 54) S dX11_stone_47 (by decide) (by omega) (fun c194 => ?_) (fun c194 => ?_)
            · refine si_const S dX11_stone_54 ?_
              refine lv_istore (lv' := [(7, .int (sI 0)), (6, .int (sI (coA t tn 0))), (0, .ref m), (1, .int (sI k)), (2, .int (sI z)), (3, .int (sI w)), (4, .int (sI v)), (5, .int (sI (ltc t tn)))]) hx_ hb_ dX11_stone_55 hl (by decide) rfl (fun ls hl => ?_)
              refine lv_iload_n hx_ hb_ dX11_stone_57 rfl (lv_at hl 3 rfl) ?_
              refine lv_iload_n hx_ hb_ dX11_stone_58 rfl (lv_at hl 4 rfl) ?_
              refine lv_iload_n hx_ hb_ dX11_stone_59 rfl (lv_at hl 5 rfl) ?_
              refine lv_iload hx_ hb_ dX11_stone_60 (lv_at hl 6 rfl) ?_
              refine sk_SP E hV (As := [.int (sI k), .int (sI z), .int (sI w), .int (sI v)]) (rest := []) (kX11_areNumbers l_ G b_ M1 N k z w v (by omega)) (va_cwS 4 S.2.2.2.2 gX11_stone_X11_areNumbers rfl rfl rfl (by decide +kernel) ⟨Nat.le_of_ble_eq_true rfl, Nat.le_of_ble_eq_true rfl⟩) rfl rfl hl.1 (Nat.le_of_ble_eq_true rfl) dX11_stone_62 (c1 := 0) (s1 := 0) ⟨⟨rfl, rfl⟩, by decide, by decide⟩ (fun H locs hV => ?_)
              refine lv_istore (lv' := [(8, .int (sI (bI (nuP k z w v)))), (7, .int (sI 0)), (6, .int (sI (coA t tn 0))), (0, .ref m), (1, .int (sI k)), (2, .int (sI z)), (3, .int (sI w)), (4, .int (sI v)), (5, .int (sI (ltc t tn)))]) hx_ hb_ dX11_stone_65 hl (by decide) rfl (fun ls hl => ?_)
              refine lv_aload_n hx_ hb_ dX11_stone_67 rfl (lv_at hl 3 rfl) ?_
              refine si_const S dX11_stone_68 ?_
              refine sc_put (ci := 9) (C := RX11) (T := TX11) (n := 22) S hK hV inX11_ tyX11_ok nmX11 hc2 rfl 5 (by decide) (S.2.2.2.2 _ (List.mem_of_getElem? (i := 2) rfl)) rfl rfl rfl rfl (Nat.le_of_ble_eq_true rfl) dX11_stone_69 (fs1 := [.int (sI 0), .ref (m + 1), .ref (m + 2), .int (sI ch), .ref (m + 3), .int (sI 0), .int (sI ea), .ref (m + 4), .ref (m + 5), .ref (m + 6), .ref (m + 7), .ref (m + 8), .ref (m + 9), .int (sI sn), .ref (m + 10), .ref (m + 11), .ref (m + 12), .ref (m + 13), .int (sI nm), .ref (m + 14), .ref (m + 15), .int (sI wn)]) rfl (fun M195 H locs hM195 hV => ?_)
              have hc196 : M195 m = some (mO m 0 ch 0 ea sn nm wn) := (congrFun hM195 m).trans (va_up_self M1 m _)
              refine lv_aload_n hx_ hb_ dX11_stone_72 rfl (lv_at hl 3 rfl) ?_
              refine lv_iload hx_ hb_ dX11_stone_73 (lv_at hl 0 rfl) ?_
              refine sq_ne (tgt := 82) S dX11_stone_75 (by decide) (fun h75 => ?_) (fun h75 => ?_)
              · refine lv_iload hx_ hb_ dX11_stone_82 (lv_at hl 1 rfl) ?_
                refine sz_ne (tgt := 92) S dX11_stone_84 (by decide) (by omega) (fun c197 => absurd c197 (by omega)) (fun _ => ?_)
                refine lv_iload hx_ hb_ dX11_stone_87 (lv_at hl 8 rfl) ?_
                refine lv_goto (tgt := 107) hx_ hb_ dX11_stone_89 (by decide) ?_
                refine sc_put (ci := 9) (C := RX11) (T := TX11) (n := 22) S hK hV inX11_ tyX11_ok nmX11 hc196 rfl 6 (by decide) (S.2.2.2.2 _ (List.mem_of_getElem? (i := 3) rfl)) rfl rfl rfl rfl (Nat.le_of_ble_eq_true rfl) dX11_stone_107 (fs1 := [.int (sI 0), .ref (m + 1), .ref (m + 2), .int (sI ch), .ref (m + 3), .int (sI 0), .int (sI (ltc t tn)), .ref (m + 4), .ref (m + 5), .ref (m + 6), .ref (m + 7), .ref (m + 8), .ref (m + 9), .int (sI sn), .ref (m + 10), .ref (m + 11), .ref (m + 12), .ref (m + 13), .int (sI nm), .ref (m + 14), .ref (m + 15), .int (sI wn)]) rfl (fun M198 H locs hM198 hV => ?_)
                have hc199 : M198 m = some (mO m 0 ch 0 (ltc t tn) sn nm wn) := (congrFun hM198 m).trans (va_up_self M195 m _)
                refine lv_aload_n hx_ hb_ dX11_stone_110 rfl (lv_at hl 3 rfl) ?_
                refine lv_iload hx_ hb_ dX11_stone_111 (lv_at hl 0 rfl) ?_
                refine sq_eq (tgt := 128) S dX11_stone_113 (by decide) (fun c200 => absurd c200 (by exact fun q => q h75)) (fun _ => ?_)
                refine lv_aload_n hx_ hb_ dX11_stone_116 rfl (lv_at hl 3 rfl) ?_
                refine sc_get (ci := 9) (C := RX11) (T := TX11) (n := 22) S hK hV inX11_ hc199 rfl 6 (by decide) (S.2.2.2.2 _ (List.mem_of_getElem? (i := 3) rfl)) rfl rfl dX11_stone_117 ?_
                refine si_const S dX11_stone_120 ?_
                refine sb_ne (tgt := 128) S dX11_stone_121 (by decide) (by omega) (fun _ => ?_) (fun c201 => absurd c201 (by omega))
                refine si_const S dX11_stone_128 ?_
                refine si_const S dX11_stone_129 ?_
                refine sk_Vi E hV (As := [.int (sI 0), .int (sI 1)]) (rest := []) (kX11_fails0 l_ G b_ M198 N m ch 0 (ltc t tn) sn nm wn 1 hc199 (by omega)) (cwV 2 S.2.2.2.2 gX11_stone_X11_fails rfl rfl rfl (by decide +kernel) ⟨Nat.le_of_ble_eq_true rfl, Nat.le_of_ble_eq_true rfl⟩) (ci := 9) hc199 rfl rfl rfl hl.1 (Nat.le_of_ble_eq_true rfl) dX11_stone_130 (c1 := 0) (s1 := 0) ⟨⟨rfl, rfl⟩, by decide, by decide⟩ (fun z205 M202 N203 H locs hp204 hV => ?_)
                obtain ⟨ez206, hN207, hc208, hf209⟩ := hp204
                rw [hN207] at hV
                rw [ez206]
                refine sz_ne (tgt := 158) S dX11_stone_133 (by decide) (by omega) (fun _ => ?_) (fun c210 => absurd c210 (by omega))
                refine si_const S dX11_stone_158 ?_
                have hc211 : M202 (m + 1) = some (sArr G 574 f) := ((((hf209 (m + 1) (by omega)).trans ((congrFun hM198 (m + 1)).trans (va_up_ne M195 _ (by omega)))).trans ((congrFun hM195 (m + 1)).trans (va_up_ne M1 _ (by omega)))).trans ((congrFun hM1 (m + 1)).trans (va_up_ne M _ (by omega)))).trans hm1
                have hc212 : svC G M202 (m + 2) ch fs := hsv.fr (fun x q8 q9 => (((hf209 x (by omega)).trans ((congrFun hM198 x).trans (va_up_ne M195 _ (by omega)))).trans ((congrFun hM195 x).trans (va_up_ne M1 _ (by omega)))).trans ((congrFun hM1 x).trans (va_up_ne M _ (by omega))))
                exact sr_i E hQ dX11_stone_159 ⟨Nat.le_of_ble_eq_true rfl, Nat.le_of_ble_eq_true rfl⟩ hV (⟨rfl, fun x q0 q1 q2 => (((hf209 x (by omega)).trans ((congrFun hM198 x).trans (va_up_ne M195 _ (by omega)))).trans ((congrFun hM195 x).trans (va_up_ne M1 _ (by omega)))).trans ((congrFun hM1 x).trans (va_up_ne M _ (by omega))), Or.inr (Or.inl ⟨(⟨h75, fun q => by have := q.1; have := q.2; omega⟩), rfl, hc208, hc211, hc212⟩)⟩)
              · refine si_const S dX11_stone_78 ?_
                refine lv_goto (tgt := 107) hx_ hb_ dX11_stone_79 (by decide) ?_
                refine sc_put (ci := 9) (C := RX11) (T := TX11) (n := 22) S hK hV inX11_ tyX11_ok nmX11 hc196 rfl 6 (by decide) (S.2.2.2.2 _ (List.mem_of_getElem? (i := 3) rfl)) rfl rfl rfl rfl (Nat.le_of_ble_eq_true rfl) dX11_stone_107 (fs1 := [.int (sI 0), .ref (m + 1), .ref (m + 2), .int (sI ch), .ref (m + 3), .int (sI 0), .int (sI (-1)), .ref (m + 4), .ref (m + 5), .ref (m + 6), .ref (m + 7), .ref (m + 8), .ref (m + 9), .int (sI sn), .ref (m + 10), .ref (m + 11), .ref (m + 12), .ref (m + 13), .int (sI nm), .ref (m + 14), .ref (m + 15), .int (sI wn)]) rfl (fun M213 H locs hM213 hV => ?_)
                have hc214 : M213 m = some (mO m 0 ch 0 (-1) sn nm wn) := (congrFun hM213 m).trans (va_up_self M195 m _)
                refine lv_aload_n hx_ hb_ dX11_stone_110 rfl (lv_at hl 3 rfl) ?_
                refine lv_iload hx_ hb_ dX11_stone_111 (lv_at hl 0 rfl) ?_
                refine sq_eq (tgt := 128) S dX11_stone_113 (by decide) (fun _ => ?_) (fun c215 => absurd c215 (by exact h75))
                refine si_const S dX11_stone_128 ?_
                refine si_const S dX11_stone_129 ?_
                refine sk_Vi E hV (As := [.int (sI 0), .int (sI 1)]) (rest := []) (kX11_fails0 l_ G b_ M213 N m ch 0 (-1) sn nm wn 1 hc214 (by omega)) (cwV 2 S.2.2.2.2 gX11_stone_X11_fails rfl rfl rfl (by decide +kernel) ⟨Nat.le_of_ble_eq_true rfl, Nat.le_of_ble_eq_true rfl⟩) (ci := 9) hc214 rfl rfl rfl hl.1 (Nat.le_of_ble_eq_true rfl) dX11_stone_130 (c1 := 0) (s1 := 0) ⟨⟨rfl, rfl⟩, by decide, by decide⟩ (fun z219 M216 N217 H locs hp218 hV => ?_)
                obtain ⟨ez220, hN221, hc222, hf223⟩ := hp218
                rw [hN221] at hV
                rw [ez220]
                refine sz_ne (tgt := 158) S dX11_stone_133 (by decide) (by omega) (fun _ => ?_) (fun c224 => absurd c224 (by omega))
                refine si_const S dX11_stone_158 ?_
                have hc225 : M216 (m + 1) = some (sArr G 574 f) := ((((hf223 (m + 1) (by omega)).trans ((congrFun hM213 (m + 1)).trans (va_up_ne M195 _ (by omega)))).trans ((congrFun hM195 (m + 1)).trans (va_up_ne M1 _ (by omega)))).trans ((congrFun hM1 (m + 1)).trans (va_up_ne M _ (by omega)))).trans hm1
                have hc226 : svC G M216 (m + 2) ch fs := hsv.fr (fun x q8 q9 => (((hf223 x (by omega)).trans ((congrFun hM213 x).trans (va_up_ne M195 _ (by omega)))).trans ((congrFun hM195 x).trans (va_up_ne M1 _ (by omega)))).trans ((congrFun hM1 x).trans (va_up_ne M _ (by omega))))
                exact sr_i E hQ dX11_stone_159 ⟨Nat.le_of_ble_eq_true rfl, Nat.le_of_ble_eq_true rfl⟩ hV (⟨rfl, fun x q0 q1 q2 => (((hf223 x (by omega)).trans ((congrFun hM213 x).trans (va_up_ne M195 _ (by omega)))).trans ((congrFun hM195 x).trans (va_up_ne M1 _ (by omega)))).trans ((congrFun hM1 x).trans (va_up_ne M _ (by omega))), Or.inl ⟨(h75), rfl, hc222, hc225, hc226⟩⟩)
            · refine si_const S dX11_stone_50 ?_
              refine lv_goto (tgt := 55) hx_ hb_ dX11_stone_51 (by decide) ?_
              refine lv_istore (lv' := [(7, .int (sI 1)), (6, .int (sI (coA t tn 0))), (0, .ref m), (1, .int (sI k)), (2, .int (sI z)), (3, .int (sI w)), (4, .int (sI v)), (5, .int (sI (ltc t tn)))]) hx_ hb_ dX11_stone_55 hl (by decide) rfl (fun ls hl => ?_)
              refine lv_iload_n hx_ hb_ dX11_stone_57 rfl (lv_at hl 3 rfl) ?_
              refine lv_iload_n hx_ hb_ dX11_stone_58 rfl (lv_at hl 4 rfl) ?_
              refine lv_iload_n hx_ hb_ dX11_stone_59 rfl (lv_at hl 5 rfl) ?_
              refine lv_iload hx_ hb_ dX11_stone_60 (lv_at hl 6 rfl) ?_
              refine sk_SP E hV (As := [.int (sI k), .int (sI z), .int (sI w), .int (sI v)]) (rest := []) (kX11_areNumbers l_ G b_ M1 N k z w v (by omega)) (va_cwS 4 S.2.2.2.2 gX11_stone_X11_areNumbers rfl rfl rfl (by decide +kernel) ⟨Nat.le_of_ble_eq_true rfl, Nat.le_of_ble_eq_true rfl⟩) rfl rfl hl.1 (Nat.le_of_ble_eq_true rfl) dX11_stone_62 (c1 := 0) (s1 := 0) ⟨⟨rfl, rfl⟩, by decide, by decide⟩ (fun H locs hV => ?_)
              refine lv_istore (lv' := [(8, .int (sI (bI (nuP k z w v)))), (7, .int (sI 1)), (6, .int (sI (coA t tn 0))), (0, .ref m), (1, .int (sI k)), (2, .int (sI z)), (3, .int (sI w)), (4, .int (sI v)), (5, .int (sI (ltc t tn)))]) hx_ hb_ dX11_stone_65 hl (by decide) rfl (fun ls hl => ?_)
              refine lv_aload_n hx_ hb_ dX11_stone_67 rfl (lv_at hl 3 rfl) ?_
              refine si_const S dX11_stone_68 ?_
              refine sc_put (ci := 9) (C := RX11) (T := TX11) (n := 22) S hK hV inX11_ tyX11_ok nmX11 hc2 rfl 5 (by decide) (S.2.2.2.2 _ (List.mem_of_getElem? (i := 2) rfl)) rfl rfl rfl rfl (Nat.le_of_ble_eq_true rfl) dX11_stone_69 (fs1 := [.int (sI 0), .ref (m + 1), .ref (m + 2), .int (sI ch), .ref (m + 3), .int (sI 0), .int (sI ea), .ref (m + 4), .ref (m + 5), .ref (m + 6), .ref (m + 7), .ref (m + 8), .ref (m + 9), .int (sI sn), .ref (m + 10), .ref (m + 11), .ref (m + 12), .ref (m + 13), .int (sI nm), .ref (m + 14), .ref (m + 15), .int (sI wn)]) rfl (fun M227 H locs hM227 hV => ?_)
              have hc228 : M227 m = some (mO m 0 ch 0 ea sn nm wn) := (congrFun hM227 m).trans (va_up_self M1 m _)
              refine lv_aload_n hx_ hb_ dX11_stone_72 rfl (lv_at hl 3 rfl) ?_
              refine lv_iload hx_ hb_ dX11_stone_73 (lv_at hl 0 rfl) ?_
              refine sq_ne (tgt := 82) S dX11_stone_75 (by decide) (fun h75 => ?_) (fun h75 => ?_)
              · refine lv_iload hx_ hb_ dX11_stone_82 (lv_at hl 1 rfl) ?_
                refine sz_ne (tgt := 92) S dX11_stone_84 (by decide) (by omega) (fun _ => ?_) (fun c229 => absurd c229 (by omega))
                refine lv_aload_n hx_ hb_ dX11_stone_92 rfl (lv_at hl 3 rfl) ?_
                refine lv_iload hx_ hb_ dX11_stone_93 (lv_at hl 2 rfl) ?_
                have hc230 : M227 (m + 1) = some (sArr G 574 f) := (((congrFun hM227 (m + 1)).trans (va_up_ne M1 _ (by omega))).trans ((congrFun hM1 (m + 1)).trans (va_up_ne M _ (by omega)))).trans hm1
                refine sk_VP E hV (As := [.int (sI (coA t tn 0))]) (rest := [.ref m]) (kX11_withCode l_ G b_ M227 N m 0 ch 0 ea sn nm wn f (coA t tn 0) hc228 hc230 (by omega) (by omega)) (cwV 1 S.2.2.2.2 gX11_stone_X11_withCode rfl rfl rfl (by decide +kernel) ⟨Nat.le_of_ble_eq_true rfl, Nat.le_of_ble_eq_true rfl⟩) (ci := 9) hc228 rfl rfl rfl hl.1 (Nat.le_of_ble_eq_true rfl) dX11_stone_95 (c1 := 0) (s1 := 0) ⟨⟨rfl, rfl⟩, by decide, by decide⟩ (fun H locs hV => ?_)
                have hxr := idx_r (fun q => f q = coA t tn 0) (n := f 568) (by omega)
                refine si_const S dX11_stone_98 ?_
                refine sb_eq (tgt := 106) S dX11_stone_99 (by decide) (by omega) (fun h99 => ?_) (fun h99 => ?_)
                · refine si_const S dX11_stone_106 ?_
                  refine sc_put (ci := 9) (C := RX11) (T := TX11) (n := 22) S hK hV inX11_ tyX11_ok nmX11 hc228 rfl 6 (by decide) (S.2.2.2.2 _ (List.mem_of_getElem? (i := 3) rfl)) rfl rfl rfl rfl (Nat.le_of_ble_eq_true rfl) dX11_stone_107 (fs1 := [.int (sI 0), .ref (m + 1), .ref (m + 2), .int (sI ch), .ref (m + 3), .int (sI 0), .int (sI (-1)), .ref (m + 4), .ref (m + 5), .ref (m + 6), .ref (m + 7), .ref (m + 8), .ref (m + 9), .int (sI sn), .ref (m + 10), .ref (m + 11), .ref (m + 12), .ref (m + 13), .int (sI nm), .ref (m + 14), .ref (m + 15), .int (sI wn)]) rfl (fun M231 H locs hM231 hV => ?_)
                  have hc232 : M231 m = some (mO m 0 ch 0 (-1) sn nm wn) := (congrFun hM231 m).trans (va_up_self M227 m _)
                  refine lv_aload_n hx_ hb_ dX11_stone_110 rfl (lv_at hl 3 rfl) ?_
                  refine lv_iload hx_ hb_ dX11_stone_111 (lv_at hl 0 rfl) ?_
                  refine sq_eq (tgt := 128) S dX11_stone_113 (by decide) (fun c233 => absurd c233 (by exact fun q => q h75)) (fun _ => ?_)
                  refine lv_aload_n hx_ hb_ dX11_stone_116 rfl (lv_at hl 3 rfl) ?_
                  refine sc_get (ci := 9) (C := RX11) (T := TX11) (n := 22) S hK hV inX11_ hc232 rfl 6 (by decide) (S.2.2.2.2 _ (List.mem_of_getElem? (i := 3) rfl)) rfl rfl dX11_stone_117 ?_
                  refine si_const S dX11_stone_120 ?_
                  refine sb_ne (tgt := 128) S dX11_stone_121 (by decide) (by omega) (fun c234 => absurd c234 (by omega)) (fun _ => ?_)
                  refine si_const S dX11_stone_124 ?_
                  refine lv_goto (tgt := 129) hx_ hb_ dX11_stone_125 (by decide) ?_
                  refine si_const S dX11_stone_129 ?_
                  refine sk_Vi E hV (As := [.int (sI 1), .int (sI 1)]) (rest := []) (kX11_fails1 l_ G b_ M231 N m ch 0 (-1) sn nm wn 1 hc232 (by omega)) (cwV 2 S.2.2.2.2 gX11_stone_X11_fails rfl rfl rfl (by decide +kernel) ⟨Nat.le_of_ble_eq_true rfl, Nat.le_of_ble_eq_true rfl⟩) (ci := 9) hc232 rfl rfl rfl hl.1 (Nat.le_of_ble_eq_true rfl) dX11_stone_130 (c1 := 0) (s1 := 0) ⟨⟨rfl, rfl⟩, by decide, by decide⟩ (fun z238 M235 N236 H locs hp237 hV => ?_)
                  obtain ⟨ez239, hN240, hc241, hf242⟩ := hp237
                  rw [hN240] at hV
                  rw [ez239]
                  refine sz_ne (tgt := 158) S dX11_stone_133 (by decide) (by omega) (fun c243 => absurd c243 (by omega)) (fun _ => ?_)
                  refine lv_aload_n hx_ hb_ dX11_stone_136 rfl (lv_at hl 3 rfl) ?_
                  refine lv_aload_n hx_ hb_ dX11_stone_137 rfl (lv_at hl 3 rfl) ?_
                  have hc244 : M235 (m + 1) = some (sArr G 574 f) := ((hf242 (m + 1) (by omega)).trans ((congrFun hM231 (m + 1)).trans (va_up_ne M227 _ (by omega)))).trans hc230
                  refine sk_VP E hV (As := []) (rest := [.ref m]) (kX11_many l_ G b_ M235 N m 0 ch 0 (-1) sn nm wn f hc241 hc244) (cwV 0 S.2.2.2.2 gX11_stone_X11_many rfl rfl rfl (by decide +kernel) ⟨Nat.le_of_ble_eq_true rfl, Nat.le_of_ble_eq_true rfl⟩) (ci := 9) hc241 rfl rfl rfl hl.1 (Nat.le_of_ble_eq_true rfl) dX11_stone_138 (c1 := 0) (s1 := 0) ⟨⟨rfl, rfl⟩, by decide, by decide⟩ (fun H locs hV => ?_)
                  refine si_bipush S dX11_stone_141 (by decide) ?_
                  refine sb_ge (tgt := 150) S dX11_stone_143 (by decide) (by omega) (fun c245 => ?_) (fun c245 => ?_)
                  · refine si_const S dX11_stone_150 ?_
                    refine si_const S dX11_stone_151 ?_
                    refine sk_Vi E hV (As := [.int (sI 0), .int (sI 2)]) (rest := []) (kX11_fails0 l_ G b_ M235 N m ch 0 (-1) sn nm wn 2 hc241 (by omega)) (cwV 2 S.2.2.2.2 gX11_stone_X11_fails rfl rfl rfl (by decide +kernel) ⟨Nat.le_of_ble_eq_true rfl, Nat.le_of_ble_eq_true rfl⟩) (ci := 9) hc241 rfl rfl rfl hl.1 (Nat.le_of_ble_eq_true rfl) dX11_stone_152 (c1 := 0) (s1 := 0) ⟨⟨rfl, rfl⟩, by decide, by decide⟩ (fun z249 M246 N247 H locs hp248 hV => ?_)
                    obtain ⟨ez250, hN251, hc252, hf253⟩ := hp248
                    rw [hN251] at hV
                    rw [ez250]
                    refine sz_eq (tgt := 160) S dX11_stone_155 (by decide) (by omega) (fun c254 => absurd c254 (by omega)) (fun _ => ?_)
                    refine si_const S dX11_stone_158 ?_
                    have hc255 : M246 (m + 1) = some (sArr G 574 f) := (hf253 (m + 1) (by omega)).trans hc244
                    have hc256 : svC G M246 (m + 2) ch fs := hsv.fr (fun x q8 q9 => ((((hf253 x (by omega)).trans (hf242 x (by omega))).trans ((congrFun hM231 x).trans (va_up_ne M227 _ (by omega)))).trans ((congrFun hM227 x).trans (va_up_ne M1 _ (by omega)))).trans ((congrFun hM1 x).trans (va_up_ne M _ (by omega))))
                    exact sr_i E hQ dX11_stone_159 ⟨Nat.le_of_ble_eq_true rfl, Nat.le_of_ble_eq_true rfl⟩ hV (⟨rfl, fun x q0 q1 q2 => ((((hf253 x (by omega)).trans (hf242 x (by omega))).trans ((congrFun hM231 x).trans (va_up_ne M227 _ (by omega)))).trans ((congrFun hM227 x).trans (va_up_ne M1 _ (by omega)))).trans ((congrFun hM1 x).trans (va_up_ne M _ (by omega))), Or.inr (Or.inr (Or.inr (Or.inl ⟨(⟨h75, ⟨by omega, by omega⟩, by omega, by omega⟩), rfl, hc252, hc255, hc256⟩)))⟩)
                  · refine si_const S dX11_stone_146 ?_
                    refine lv_goto (tgt := 151) hx_ hb_ dX11_stone_147 (by decide) ?_
                    refine si_const S dX11_stone_151 ?_
                    refine sk_Vi E hV (As := [.int (sI 1), .int (sI 2)]) (rest := []) (kX11_fails1 l_ G b_ M235 N m ch 0 (-1) sn nm wn 2 hc241 (by omega)) (cwV 2 S.2.2.2.2 gX11_stone_X11_fails rfl rfl rfl (by decide +kernel) ⟨Nat.le_of_ble_eq_true rfl, Nat.le_of_ble_eq_true rfl⟩) (ci := 9) hc241 rfl rfl rfl hl.1 (Nat.le_of_ble_eq_true rfl) dX11_stone_152 (c1 := 0) (s1 := 0) ⟨⟨rfl, rfl⟩, by decide, by decide⟩ (fun z260 M257 N258 H locs hp259 hV => ?_)
                    obtain ⟨ez261, hN262, hc263, hf264⟩ := hp259
                    rw [hN262] at hV
                    rw [ez261]
                    refine sz_eq (tgt := 160) S dX11_stone_155 (by decide) (by omega) (fun _ => ?_) (fun c265 => absurd c265 (by omega))
                    refine lv_aload_n hx_ hb_ dX11_stone_160 rfl (lv_at hl 3 rfl) ?_
                    have hc266 : M257 (m + 1) = some (sArr G 574 f) := (hf264 (m + 1) (by omega)).trans hc244
                    have hc267 : svC G M257 (m + 2) ch fs := hsv.fr (fun x q8 q9 => ((((hf264 x (by omega)).trans (hf242 x (by omega))).trans ((congrFun hM231 x).trans (va_up_ne M227 _ (by omega)))).trans ((congrFun hM227 x).trans (va_up_ne M1 _ (by omega)))).trans ((congrFun hM1 x).trans (va_up_ne M _ (by omega))))
                    refine sk_Vv E hV (As := []) (rest := []) (kX11_keeps l_ G b_ M257 N m 0 ch 0 (-1) sn nm wn f fs hc263 hc266 hc267 (by omega)) (cwV 0 S.2.2.2.2 gX11_stone_X11_keeps rfl rfl rfl (by decide +kernel) ⟨Nat.le_of_ble_eq_true rfl, Nat.le_of_ble_eq_true rfl⟩) (ci := 9) hc263 rfl rfl rfl hl.1 (Nat.le_of_ble_eq_true rfl) dX11_stone_161 (c1 := 0) (s1 := 0) ⟨⟨rfl, rfl⟩, by decide, by decide⟩ (fun M268 N269 H locs hp270 hV => ?_)
                    obtain ⟨hN272, hc273, hc274, hf275⟩ := hp270
                    rw [hN272] at hV
                    refine lv_aload_n hx_ hb_ dX11_stone_164 rfl (lv_at hl 3 rfl) ?_
                    refine lv_iload hx_ hb_ dX11_stone_165 (lv_at hl 2 rfl) ?_
                    refine lv_iload_n hx_ hb_ dX11_stone_167 rfl (lv_at hl 4 rfl) ?_
                    refine lv_iload_n hx_ hb_ dX11_stone_168 rfl (lv_at hl 5 rfl) ?_
                    refine lv_iload_n hx_ hb_ dX11_stone_169 rfl (lv_at hl 6 rfl) ?_
                    refine lv_iload hx_ hb_ dX11_stone_170 (lv_at hl 7 rfl) ?_
                    have hc276 : M268 (m + 1) = some (sArr G 574 f) := (hf275 (m + 1) (by omega) (by omega)).trans hc266
                    refine sk_Vi E hV (As := [.int (sI (coA t tn 0)), .int (sI k), .int (sI z), .int (sI w), .int (sI v)]) (rest := []) (kX11_comes l_ G b_ M268 N m 0 (chn ch) 0 (-1) sn nm wn f (coA t tn 0) k z w v hc273 hc276 (by omega)) (cwV 5 S.2.2.2.2 gX11_stone_X11_comes rfl rfl rfl (by decide +kernel) ⟨Nat.le_of_ble_eq_true rfl, Nat.le_of_ble_eq_true rfl⟩) (ci := 9) hc273 rfl rfl rfl hl.1 (Nat.le_of_ble_eq_true rfl) dX11_stone_172 (c1 := 0) (s1 := 0) ⟨⟨rfl, rfl⟩, by decide, by decide⟩ (fun z280 M277 N278 H locs hp279 hV => ?_)
                    obtain ⟨ez281, hN282, hc283, hf284⟩ := hp279
                    rw [hN282] at hV
                    rw [ez281]
                    have hc285 : M277 m = some (mO m 0 (chn ch) 0 (-1) sn nm wn) := (hf284 m (by omega)).trans hc273
                    have hc286 : svC G M277 (m + 2) (chn ch) (fsn ch fs f) := hc274.fr (fun x q8 q9 => hf284 x (by omega))
                    exact sr_i E hQ dX11_stone_175 ⟨Nat.le_of_ble_eq_true rfl, Nat.le_of_ble_eq_true rfl⟩ hV (⟨rfl, fun x q0 q1 q2 => ((((((hf284 x (by omega)).trans (hf275 x (by omega) (by omega))).trans (hf264 x (by omega))).trans (hf242 x (by omega))).trans ((congrFun hM231 x).trans (va_up_ne M227 _ (by omega)))).trans ((congrFun hM227 x).trans (va_up_ne M1 _ (by omega)))).trans ((congrFun hM1 x).trans (va_up_ne M _ (by omega))), Or.inr (Or.inr (Or.inr (Or.inr (⟨(⟨h75, ⟨by omega, by omega⟩, by omega, by omega⟩), rfl, hc285, hc283, hc286⟩))))⟩)
                · refine si_const S dX11_stone_102 ?_
                  refine lv_goto (tgt := 107) hx_ hb_ dX11_stone_103 (by decide) ?_
                  refine sc_put (ci := 9) (C := RX11) (T := TX11) (n := 22) S hK hV inX11_ tyX11_ok nmX11 hc228 rfl 6 (by decide) (S.2.2.2.2 _ (List.mem_of_getElem? (i := 3) rfl)) rfl rfl rfl rfl (Nat.le_of_ble_eq_true rfl) dX11_stone_107 (fs1 := [.int (sI 0), .ref (m + 1), .ref (m + 2), .int (sI ch), .ref (m + 3), .int (sI 0), .int (sI 0), .ref (m + 4), .ref (m + 5), .ref (m + 6), .ref (m + 7), .ref (m + 8), .ref (m + 9), .int (sI sn), .ref (m + 10), .ref (m + 11), .ref (m + 12), .ref (m + 13), .int (sI nm), .ref (m + 14), .ref (m + 15), .int (sI wn)]) rfl (fun M287 H locs hM287 hV => ?_)
                  have hc288 : M287 m = some (mO m 0 ch 0 0 sn nm wn) := (congrFun hM287 m).trans (va_up_self M227 m _)
                  refine lv_aload_n hx_ hb_ dX11_stone_110 rfl (lv_at hl 3 rfl) ?_
                  refine lv_iload hx_ hb_ dX11_stone_111 (lv_at hl 0 rfl) ?_
                  refine sq_eq (tgt := 128) S dX11_stone_113 (by decide) (fun c289 => absurd c289 (by exact fun q => q h75)) (fun _ => ?_)
                  refine lv_aload_n hx_ hb_ dX11_stone_116 rfl (lv_at hl 3 rfl) ?_
                  refine sc_get (ci := 9) (C := RX11) (T := TX11) (n := 22) S hK hV inX11_ hc288 rfl 6 (by decide) (S.2.2.2.2 _ (List.mem_of_getElem? (i := 3) rfl)) rfl rfl dX11_stone_117 ?_
                  refine si_const S dX11_stone_120 ?_
                  refine sb_ne (tgt := 128) S dX11_stone_121 (by decide) (by omega) (fun _ => ?_) (fun c290 => absurd c290 (by omega))
                  refine si_const S dX11_stone_128 ?_
                  refine si_const S dX11_stone_129 ?_
                  refine sk_Vi E hV (As := [.int (sI 0), .int (sI 1)]) (rest := []) (kX11_fails0 l_ G b_ M287 N m ch 0 0 sn nm wn 1 hc288 (by omega)) (cwV 2 S.2.2.2.2 gX11_stone_X11_fails rfl rfl rfl (by decide +kernel) ⟨Nat.le_of_ble_eq_true rfl, Nat.le_of_ble_eq_true rfl⟩) (ci := 9) hc288 rfl rfl rfl hl.1 (Nat.le_of_ble_eq_true rfl) dX11_stone_130 (c1 := 0) (s1 := 0) ⟨⟨rfl, rfl⟩, by decide, by decide⟩ (fun z294 M291 N292 H locs hp293 hV => ?_)
                  obtain ⟨ez295, hN296, hc297, hf298⟩ := hp293
                  rw [hN296] at hV
                  rw [ez295]
                  refine sz_ne (tgt := 158) S dX11_stone_133 (by decide) (by omega) (fun _ => ?_) (fun c299 => absurd c299 (by omega))
                  refine si_const S dX11_stone_158 ?_
                  have hc300 : M291 (m + 1) = some (sArr G 574 f) := ((hf298 (m + 1) (by omega)).trans ((congrFun hM287 (m + 1)).trans (va_up_ne M227 _ (by omega)))).trans hc230
                  have hc301 : svC G M291 (m + 2) ch fs := hsv.fr (fun x q8 q9 => (((hf298 x (by omega)).trans ((congrFun hM287 x).trans (va_up_ne M227 _ (by omega)))).trans ((congrFun hM227 x).trans (va_up_ne M1 _ (by omega)))).trans ((congrFun hM1 x).trans (va_up_ne M _ (by omega))))
                  exact sr_i E hQ dX11_stone_159 ⟨Nat.le_of_ble_eq_true rfl, Nat.le_of_ble_eq_true rfl⟩ hV (⟨rfl, fun x q0 q1 q2 => (((hf298 x (by omega)).trans ((congrFun hM287 x).trans (va_up_ne M227 _ (by omega)))).trans ((congrFun hM227 x).trans (va_up_ne M1 _ (by omega)))).trans ((congrFun hM1 x).trans (va_up_ne M _ (by omega))), Or.inr (Or.inr (Or.inl ⟨(⟨h75, ⟨by omega, by omega⟩, h99⟩), rfl, hc297, hc300, hc301⟩))⟩)
              · refine si_const S dX11_stone_78 ?_
                refine lv_goto (tgt := 107) hx_ hb_ dX11_stone_79 (by decide) ?_
                refine sc_put (ci := 9) (C := RX11) (T := TX11) (n := 22) S hK hV inX11_ tyX11_ok nmX11 hc228 rfl 6 (by decide) (S.2.2.2.2 _ (List.mem_of_getElem? (i := 3) rfl)) rfl rfl rfl rfl (Nat.le_of_ble_eq_true rfl) dX11_stone_107 (fs1 := [.int (sI 0), .ref (m + 1), .ref (m + 2), .int (sI ch), .ref (m + 3), .int (sI 0), .int (sI (-1)), .ref (m + 4), .ref (m + 5), .ref (m + 6), .ref (m + 7), .ref (m + 8), .ref (m + 9), .int (sI sn), .ref (m + 10), .ref (m + 11), .ref (m + 12), .ref (m + 13), .int (sI nm), .ref (m + 14), .ref (m + 15), .int (sI wn)]) rfl (fun M302 H locs hM302 hV => ?_)
                have hc303 : M302 m = some (mO m 0 ch 0 (-1) sn nm wn) := (congrFun hM302 m).trans (va_up_self M227 m _)
                refine lv_aload_n hx_ hb_ dX11_stone_110 rfl (lv_at hl 3 rfl) ?_
                refine lv_iload hx_ hb_ dX11_stone_111 (lv_at hl 0 rfl) ?_
                refine sq_eq (tgt := 128) S dX11_stone_113 (by decide) (fun _ => ?_) (fun c304 => absurd c304 (by exact h75))
                refine si_const S dX11_stone_128 ?_
                refine si_const S dX11_stone_129 ?_
                refine sk_Vi E hV (As := [.int (sI 0), .int (sI 1)]) (rest := []) (kX11_fails0 l_ G b_ M302 N m ch 0 (-1) sn nm wn 1 hc303 (by omega)) (cwV 2 S.2.2.2.2 gX11_stone_X11_fails rfl rfl rfl (by decide +kernel) ⟨Nat.le_of_ble_eq_true rfl, Nat.le_of_ble_eq_true rfl⟩) (ci := 9) hc303 rfl rfl rfl hl.1 (Nat.le_of_ble_eq_true rfl) dX11_stone_130 (c1 := 0) (s1 := 0) ⟨⟨rfl, rfl⟩, by decide, by decide⟩ (fun z308 M305 N306 H locs hp307 hV => ?_)
                obtain ⟨ez309, hN310, hc311, hf312⟩ := hp307
                rw [hN310] at hV
                rw [ez309]
                refine sz_ne (tgt := 158) S dX11_stone_133 (by decide) (by omega) (fun _ => ?_) (fun c313 => absurd c313 (by omega))
                refine si_const S dX11_stone_158 ?_
                have hc314 : M305 (m + 1) = some (sArr G 574 f) := ((((hf312 (m + 1) (by omega)).trans ((congrFun hM302 (m + 1)).trans (va_up_ne M227 _ (by omega)))).trans ((congrFun hM227 (m + 1)).trans (va_up_ne M1 _ (by omega)))).trans ((congrFun hM1 (m + 1)).trans (va_up_ne M _ (by omega)))).trans hm1
                have hc315 : svC G M305 (m + 2) ch fs := hsv.fr (fun x q8 q9 => (((hf312 x (by omega)).trans ((congrFun hM302 x).trans (va_up_ne M227 _ (by omega)))).trans ((congrFun hM227 x).trans (va_up_ne M1 _ (by omega)))).trans ((congrFun hM1 x).trans (va_up_ne M _ (by omega))))
                exact sr_i E hQ dX11_stone_159 ⟨Nat.le_of_ble_eq_true rfl, Nat.le_of_ble_eq_true rfl⟩ hV (⟨rfl, fun x q0 q1 q2 => (((hf312 x (by omega)).trans ((congrFun hM302 x).trans (va_up_ne M227 _ (by omega)))).trans ((congrFun hM227 x).trans (va_up_ne M1 _ (by omega)))).trans ((congrFun hM1 x).trans (va_up_ne M _ (by omega))), Or.inl ⟨(h75), rfl, hc311, hc314, hc315⟩⟩)
        · refine si_inc (lv' := [(5, .int (sI (l + 1))), (0, .ref m), (1, .int (sI k)), (2, .int (sI z)), (3, .int (sI w)), (4, .int (sI v))]) S dX11_stone_23 hl (k := 5) rfl (by decide) rfl (fun ls hl => ?_)
          refine lv_goto (tgt := 8) hx_ hb_ dX11_stone_26 (by decide) ?_
          exact ih8 (l + 1) _ _ _ (by omega) (by omega) (fun i a b => by by_cases e : i = l; exact (by rw [e]; exact h20); exact hlt i a (by omega)) hV (lv_sub hl [1, 2, 3, 4, 5, 0] rfl)
  exact L8 _ 0 _ _ _ (Nat.lt_succ_self _) (by omega) (fun i a b => by omega) hV (lv_sub hl [1, 2, 3, 4, 5, 0] rfl)

abbrev rmX11_join : Room := { frames := 4, cells := 0, slots := 0, locals := 114 }
set_option maxHeartbeats 4000000 in
set_option maxRecDepth 100000 in
theorem kX11_join (l_ : Launch) (G : sG) (b_ : Nat) (M : sM) (N : Nat) (m : Nat) (th ch tn ea sn nm wn : Int) (f : sF) (fs : Int → sF) (t p cc vv od : sF) (hm0 : M m = some (mO m th ch tn ea sn nm wn)) (hm1 : M (m + 1) = some (sArr G 574 f)) (hsv : svC G M (m + 2) ch fs) (hm3 : M (m + 3) = some (sArr G 300 t)) (hm8 : M (m + 8) = some (sArr G 10 p)) (hm12 : M (m + 12) = some (sArr G 60 cc)) (hm13 : M (m + 13) = some (sArr G 240 vv)) (hm14 : M (m + 14) = some (sArr G 574 od)) (hok : sOk f) (hch : 0 ≤ ch ∧ ch ≤ 15) (ht : tpOk t tn) : cI l_ yX11_join wsX11_join rmX11_join G b_ M N [.ref m] (fun z_ M1 N1 => ∃ c9 : Int, ∃ C9 : Int → Int, ∃ V9 : Int → Int, ∃ p9 : Int → Int, ∃ o9 : Int → Int, N1 = N ∧ M1 (m + 12) = some (sArr G 60 C9) ∧ M1 (m + 13) = some (sArr G 240 V9) ∧ M1 (m + 8) = some (sArr G 10 p9) ∧ M1 (m + 14) = some (sArr G 574 o9) ∧ (∀ x : Nat, ¬ (x = m) → ¬ (x = m + 1) → ¬ (x = m + 2) → ¬ (x = m + 8) → ¬ (x = m + 12) → ¬ (x = m + 13) → ¬ (x = m + 14) → M1 x = M x) ∧ (((rcE t tn ≠ -1) ∧ z_ = 0 ∧ M1 m = some (mO m 1 ch 0 (rcE t tn) sn c9 wn) ∧ M1 (m + 1) = some (sArr G 574 f) ∧ svC G M1 (m + 2) ch fs) ∨ ((rcE t tn = -1 ∧ ¬ jnQ f t tn) ∧ z_ = 0 ∧ M1 m = some (mO m 2 ch 0 (-1) sn c9 wn) ∧ M1 (m + 1) = some (sArr G 574 f) ∧ svC G M1 (m + 2) ch fs) ∨ ((rcE t tn = -1 ∧ jnQ f t tn) ∧ z_ = jnF f t tn 568 - f 568 ∧ M1 m = some (mO m 0 (chn ch) 0 (-1) sn c9 wn) ∧ M1 (m + 1) = some (sArr G 574 (jnF f t tn)) ∧ svC G M1 (m + 2) (chn ch) (fsn ch fs f)))) := by
  refine sE.ofI (cc := cX11_join) (nL := 4) (ret := (some .int)) (by decide) rfl (Nat.le_of_ble_eq_true rfl) ?_
  intro p_ e_ s_ m_ args_ below_ meth_ c_ ls Q hQ E hl
  have E : sE p_ l_ e_ rmX11_join s_ m_ args_ below_ meth_ c_ cX11_join 4 wsX11_join RX11 "join" (some .int) G b_ M N := E
  have S := E.1
  have hx_ := S.1
  have hb_ := S.2.1
  have hK := E.2.2.2.2.1
  have hV := E.2.2.2.2.2.2
  have hl : lv_has ls 4 [(0, .ref m)] := hl
  have inX11_ : ∀ w ∈ wsX110, w ∈ wsX11_join := fun _ h => List.mem_cons_of_mem _ (List.mem_append_right _ h)
  have kn0 := sOk_N hok
  have htn := ht.1
  have htn2 := ht.2.1
  refine lv_aload_n hx_ hb_ dX11_join_0 rfl (lv_at hl 0 rfl) ?_
  refine si_const S dX11_join_1 ?_
  refine sc_put (ci := 9) (C := RX11) (T := TX11) (n := 22) S hK hV inX11_ tyX11_ok nmX11 hm0 rfl 0 (by decide) (S.2.2.2.2 _ (List.mem_of_getElem? (i := 1) rfl)) rfl rfl rfl rfl (Nat.le_of_ble_eq_true rfl) dX11_join_2 (fs1 := [.int (sI 0), .ref (m + 1), .ref (m + 2), .int (sI ch), .ref (m + 3), .int (sI tn), .int (sI ea), .ref (m + 4), .ref (m + 5), .ref (m + 6), .ref (m + 7), .ref (m + 8), .ref (m + 9), .int (sI sn), .ref (m + 10), .ref (m + 11), .ref (m + 12), .ref (m + 13), .int (sI nm), .ref (m + 14), .ref (m + 15), .int (sI wn)]) rfl (fun M1 H locs hM1 hV => ?_)
  have hc2 : M1 m = some (mO m 0 ch tn ea sn nm wn) := (congrFun hM1 m).trans (va_up_self M m _)
  refine lv_aload_n hx_ hb_ dX11_join_5 rfl (lv_at hl 0 rfl) ?_
  refine lv_aload_n hx_ hb_ dX11_join_6 rfl (lv_at hl 0 rfl) ?_
  have hc3 : M1 (m + 3) = some (sArr G 300 t) := ((congrFun hM1 (m + 3)).trans (va_up_ne M _ (by omega))).trans hm3
  have hc4 : M1 (m + 12) = some (sArr G 60 cc) := ((congrFun hM1 (m + 12)).trans (va_up_ne M _ (by omega))).trans hm12
  have hc5 : M1 (m + 13) = some (sArr G 240 vv) := ((congrFun hM1 (m + 13)).trans (va_up_ne M _ (by omega))).trans hm13
  refine sk_Vi E hV (As := []) (rest := [.ref m]) (kX11_readsTape l_ G b_ M1 N m 0 ch tn ea sn nm wn t cc vv hc2 hc3 hc4 hc5 (ht)) (cwV 0 S.2.2.2.2 gX11_join_X11_readsTape rfl rfl rfl (by decide +kernel) ⟨Nat.le_of_ble_eq_true rfl, Nat.le_of_ble_eq_true rfl⟩) (ci := 9) hc2 rfl rfl rfl hl.1 (Nat.le_of_ble_eq_true rfl) dX11_join_7 (c1 := 0) (s1 := 0) ⟨⟨rfl, rfl⟩, by decide, by decide⟩ (fun z9 M6 N7 H locs hp8 hV => ?_)
  obtain ⟨c910, C911, V912, ez13, hN14, hc15, hc16, hc17, hf18, hrc19, hre20, hrd21⟩ := hp8
  rw [hN14] at hV
  rw [ez13]
  have hre := hre20
  have hrd := hrd21
  have hrc := hrc19
  refine sc_put (ci := 9) (C := RX11) (T := TX11) (n := 22) S hK hV inX11_ tyX11_ok nmX11 hc15 rfl 6 (by decide) (S.2.2.2.2 _ (List.mem_of_getElem? (i := 2) rfl)) rfl rfl rfl rfl (Nat.le_of_ble_eq_true rfl) dX11_join_10 (fs1 := [.int (sI 0), .ref (m + 1), .ref (m + 2), .int (sI ch), .ref (m + 3), .int (sI tn), .int (sI (rcE t tn)), .ref (m + 4), .ref (m + 5), .ref (m + 6), .ref (m + 7), .ref (m + 8), .ref (m + 9), .int (sI sn), .ref (m + 10), .ref (m + 11), .ref (m + 12), .ref (m + 13), .int (sI c910), .ref (m + 14), .ref (m + 15), .int (sI wn)]) rfl (fun M22 H locs hM22 hV => ?_)
  have hc23 : M22 m = some (mO m 0 ch tn (rcE t tn) sn c910 wn) := (congrFun hM22 m).trans (va_up_self M6 m _)
  refine lv_aload_n hx_ hb_ dX11_join_13 rfl (lv_at hl 0 rfl) ?_
  refine si_const S dX11_join_14 ?_
  refine sc_put (ci := 9) (C := RX11) (T := TX11) (n := 22) S hK hV inX11_ tyX11_ok nmX11 hc23 rfl 5 (by decide) (S.2.2.2.2 _ (List.mem_of_getElem? (i := 3) rfl)) rfl rfl rfl rfl (Nat.le_of_ble_eq_true rfl) dX11_join_15 (fs1 := [.int (sI 0), .ref (m + 1), .ref (m + 2), .int (sI ch), .ref (m + 3), .int (sI 0), .int (sI (rcE t tn)), .ref (m + 4), .ref (m + 5), .ref (m + 6), .ref (m + 7), .ref (m + 8), .ref (m + 9), .int (sI sn), .ref (m + 10), .ref (m + 11), .ref (m + 12), .ref (m + 13), .int (sI c910), .ref (m + 14), .ref (m + 15), .int (sI wn)]) rfl (fun M24 H locs hM24 hV => ?_)
  have hc25 : M24 m = some (mO m 0 ch 0 (rcE t tn) sn c910 wn) := (congrFun hM24 m).trans (va_up_self M22 m _)
  refine lv_aload_n hx_ hb_ dX11_join_18 rfl (lv_at hl 0 rfl) ?_
  refine lv_aload_n hx_ hb_ dX11_join_19 rfl (lv_at hl 0 rfl) ?_
  refine sc_get (ci := 9) (C := RX11) (T := TX11) (n := 22) S hK hV inX11_ hc25 rfl 6 (by decide) (S.2.2.2.2 _ (List.mem_of_getElem? (i := 2) rfl)) rfl rfl dX11_join_20 ?_
  refine si_const S dX11_join_23 ?_
  refine sb_ne (tgt := 31) S dX11_join_24 (by decide) (by omega) (fun c26 => ?_) (fun c26 => ?_)
  · refine si_const S dX11_join_31 ?_
    refine si_const S dX11_join_32 ?_
    refine sk_Vi E hV (As := [.int (sI 0), .int (sI 1)]) (rest := []) (kX11_fails0 l_ G b_ M24 N m ch 0 (rcE t tn) sn c910 wn 1 hc25 (by omega)) (cwV 2 S.2.2.2.2 gX11_join_X11_fails rfl rfl rfl (by decide +kernel) ⟨Nat.le_of_ble_eq_true rfl, Nat.le_of_ble_eq_true rfl⟩) (ci := 9) hc25 rfl rfl rfl hl.1 (Nat.le_of_ble_eq_true rfl) dX11_join_33 (c1 := 0) (s1 := 0) ⟨⟨rfl, rfl⟩, by decide, by decide⟩ (fun z30 M27 N28 H locs hp29 hV => ?_)
    obtain ⟨ez31, hN32, hc33, hf34⟩ := hp29
    rw [hN32] at hV
    rw [ez31]
    refine sz_eq (tgt := 41) S dX11_join_36 (by decide) (by omega) (fun c35 => absurd c35 (by omega)) (fun _ => ?_)
    refine si_const S dX11_join_39 ?_
    have hc36 : M27 (m + 12) = some (sArr G 60 C911) := (((hf34 (m + 12) (by omega)).trans ((congrFun hM24 (m + 12)).trans (va_up_ne M22 _ (by omega)))).trans ((congrFun hM22 (m + 12)).trans (va_up_ne M6 _ (by omega)))).trans hc16
    have hc37 : M27 (m + 13) = some (sArr G 240 V912) := (((hf34 (m + 13) (by omega)).trans ((congrFun hM24 (m + 13)).trans (va_up_ne M22 _ (by omega)))).trans ((congrFun hM22 (m + 13)).trans (va_up_ne M6 _ (by omega)))).trans hc17
    have hc38 : M27 (m + 8) = some (sArr G 10 p) := (((((hf34 (m + 8) (by omega)).trans ((congrFun hM24 (m + 8)).trans (va_up_ne M22 _ (by omega)))).trans ((congrFun hM22 (m + 8)).trans (va_up_ne M6 _ (by omega)))).trans (hf18 (m + 8) (by omega) (by omega) (by omega))).trans ((congrFun hM1 (m + 8)).trans (va_up_ne M _ (by omega)))).trans hm8
    have hc39 : M27 (m + 14) = some (sArr G 574 od) := (((((hf34 (m + 14) (by omega)).trans ((congrFun hM24 (m + 14)).trans (va_up_ne M22 _ (by omega)))).trans ((congrFun hM22 (m + 14)).trans (va_up_ne M6 _ (by omega)))).trans (hf18 (m + 14) (by omega) (by omega) (by omega))).trans ((congrFun hM1 (m + 14)).trans (va_up_ne M _ (by omega)))).trans hm14
    have hc40 : M27 (m + 1) = some (sArr G 574 f) := (((((hf34 (m + 1) (by omega)).trans ((congrFun hM24 (m + 1)).trans (va_up_ne M22 _ (by omega)))).trans ((congrFun hM22 (m + 1)).trans (va_up_ne M6 _ (by omega)))).trans (hf18 (m + 1) (by omega) (by omega) (by omega))).trans ((congrFun hM1 (m + 1)).trans (va_up_ne M _ (by omega)))).trans hm1
    have hc41 : svC G M27 (m + 2) ch fs := hsv.fr (fun x q8 q9 => ((((hf34 x (by omega)).trans ((congrFun hM24 x).trans (va_up_ne M22 _ (by omega)))).trans ((congrFun hM22 x).trans (va_up_ne M6 _ (by omega)))).trans (hf18 x (by omega) (by omega) (by omega))).trans ((congrFun hM1 x).trans (va_up_ne M _ (by omega))))
    exact sr_i E hQ dX11_join_40 ⟨Nat.le_of_ble_eq_true rfl, Nat.le_of_ble_eq_true rfl⟩ hV (⟨c910, C911, V912, p, od, rfl, hc36, hc37, hc38, hc39, fun x q0 q1 q2 q3 q4 q5 q6 => ((((hf34 x (by omega)).trans ((congrFun hM24 x).trans (va_up_ne M22 _ (by omega)))).trans ((congrFun hM22 x).trans (va_up_ne M6 _ (by omega)))).trans (hf18 x (by omega) (by omega) (by omega))).trans ((congrFun hM1 x).trans (va_up_ne M _ (by omega))), Or.inl ⟨(by omega), rfl, hc33, hc40, hc41⟩⟩)
  · refine si_const S dX11_join_27 ?_
    refine lv_goto (tgt := 32) hx_ hb_ dX11_join_28 (by decide) ?_
    refine si_const S dX11_join_32 ?_
    refine sk_Vi E hV (As := [.int (sI 1), .int (sI 1)]) (rest := []) (kX11_fails1 l_ G b_ M24 N m ch 0 (rcE t tn) sn c910 wn 1 hc25 (by omega)) (cwV 2 S.2.2.2.2 gX11_join_X11_fails rfl rfl rfl (by decide +kernel) ⟨Nat.le_of_ble_eq_true rfl, Nat.le_of_ble_eq_true rfl⟩) (ci := 9) hc25 rfl rfl rfl hl.1 (Nat.le_of_ble_eq_true rfl) dX11_join_33 (c1 := 0) (s1 := 0) ⟨⟨rfl, rfl⟩, by decide, by decide⟩ (fun z45 M42 N43 H locs hp44 hV => ?_)
    obtain ⟨ez46, hN47, hc48, hf49⟩ := hp44
    rw [hN47] at hV
    rw [ez46]
    refine sz_eq (tgt := 41) S dX11_join_36 (by decide) (by omega) (fun _ => ?_) (fun c50 => absurd c50 (by omega))
    have hrd2 := hrd (by omega)
    have hO : rcO 0 c910 (rcC t tn) (rcV t tn) := by rw [← hrd2.1]; exact rc_o (by omega) (by omega)
    refine si_const S dX11_join_41 ?_
    refine lv_istore_n (lv' := [(1, .int (sI 0)), (0, .ref m)]) hx_ hb_ dX11_join_42 rfl hl (by decide) rfl (fun ls hl => ?_)
    have L43 : ∀ (fuel : Nat) (k : Int) (o2 : Int → Int) (Ml43 : sM) (H : Heap) (locs : List Loc) (ls : Array Slot), ((574 - k).toNat) < fuel → (0 ≤ k ∧ k ≤ 574) → (∀ q, 0 ≤ q → q < k → o2 q = f q) → (Ml43 (m + 14) = some (sArr G 574 o2)) → (∀ x : Nat, ¬ (x = m + 14) → Ml43 x = M42 x) → sV G b_ Ml43 N s_ H locs → lv_has ls 4 [(0, .ref m), (1, .int (sI k))] → W p_ l_ e_ rmX11_join s_ m_ args_ below_ meth_ c_ H locs 0 0 Q (F0 m_ 43 ls []) := by
      intro fuel
      induction fuel with
      | zero => intro k o2 Ml43 H locs ls hmu; exact absurd hmu (Nat.not_lt_zero _)
      | succ fuel ih43 =>
        intro k o2 Ml43 H locs ls hmu43 hv43_0 ho2 hm43_0 hfr43 hV hl
        refine lv_iload_n hx_ hb_ dX11_join_43 rfl (lv_at hl 1 rfl) ?_
        refine si_sipush S dX11_join_44 (by decide) ?_
        refine sb_ge (tgt := 68) S dX11_join_47 (by decide) (by omega) (fun c51 => ?_) (fun c51 => ?_)
        · refine lv_aload_n hx_ hb_ dX11_join_68 rfl (lv_at hl 0 rfl) ?_
          have hc52 : Ml43 m = some (mO m 0 ch 0 (rcE t tn) sn c910 wn) := (hfr43 m (by omega)).trans hc48
          have hc53 : Ml43 (m + 1) = some (sArr G 574 f) := ((((((hfr43 (m + 1) (by omega)).trans (hf49 (m + 1) (by omega))).trans ((congrFun hM24 (m + 1)).trans (va_up_ne M22 _ (by omega)))).trans ((congrFun hM22 (m + 1)).trans (va_up_ne M6 _ (by omega)))).trans (hf18 (m + 1) (by omega) (by omega) (by omega))).trans ((congrFun hM1 (m + 1)).trans (va_up_ne M _ (by omega)))).trans hm1
          have hc54 : Ml43 (m + 8) = some (sArr G 10 p) := ((((((hfr43 (m + 8) (by omega)).trans (hf49 (m + 8) (by omega))).trans ((congrFun hM24 (m + 8)).trans (va_up_ne M22 _ (by omega)))).trans ((congrFun hM22 (m + 8)).trans (va_up_ne M6 _ (by omega)))).trans (hf18 (m + 8) (by omega) (by omega) (by omega))).trans ((congrFun hM1 (m + 8)).trans (va_up_ne M _ (by omega)))).trans hm8
          have hc55 : Ml43 (m + 12) = some (sArr G 60 C911) := ((((hfr43 (m + 12) (by omega)).trans (hf49 (m + 12) (by omega))).trans ((congrFun hM24 (m + 12)).trans (va_up_ne M22 _ (by omega)))).trans ((congrFun hM22 (m + 12)).trans (va_up_ne M6 _ (by omega)))).trans hc16
          have hc56 : Ml43 (m + 13) = some (sArr G 240 V912) := ((((hfr43 (m + 13) (by omega)).trans (hf49 (m + 13) (by omega))).trans ((congrFun hM24 (m + 13)).trans (va_up_ne M22 _ (by omega)))).trans ((congrFun hM22 (m + 13)).trans (va_up_ne M6 _ (by omega)))).trans hc17
          refine sk_Vi E hV (As := []) (rest := []) (kX11_joins l_ G b_ Ml43 N m 0 ch 0 (rcE t tn) sn c910 wn f p (rcC t tn) (rcV t tn) C911 V912 hc52 hc53 hc54 hc55 hc56 (by omega) (hO) (by omega) (hrd2.2.1) (hrd2.2.2)) (cwV 0 S.2.2.2.2 gX11_join_X11_joins rfl rfl rfl (by decide +kernel) ⟨Nat.le_of_ble_eq_true rfl, Nat.le_of_ble_eq_true rfl⟩) (ci := 9) hc52 rfl rfl rfl hl.1 (Nat.le_of_ble_eq_true rfl) dX11_join_69 (c1 := 0) (s1 := 0) ⟨⟨rfl, rfl⟩, by decide, by decide⟩ (fun z60 M57 N58 H locs hp59 hV => ?_)
          obtain ⟨g961, p962, ez63, hN64, hc65, hc66, hf67, hjk68, hjo969⟩ := hp59
          rw [hN64] at hV
          rw [ez63]
          have hjk := hjk68
          have hjo9 := hjo969
          have hji := jnI_r hO.1 hO hok
          have hof : ∀ q, 0 ≤ q → q < 574 → o2 q = f q := fun q a b => ho2 q a (by omega)
          refine lv_istore_n (lv' := [(1, .int (sI (jnI (rcC t tn) (rcV t tn) c910 f))), (0, .ref m)]) hx_ hb_ dX11_join_72 rfl hl (by decide) rfl (fun ls hl => ?_)
          refine si_const S dX11_join_73 ?_
          refine lv_istore_n (lv' := [(2, .int (sI 0)), (1, .int (sI (jnI (rcC t tn) (rcV t tn) c910 f))), (0, .ref m)]) hx_ hb_ dX11_join_74 rfl hl (by decide) rfl (fun ls hl => ?_)
          have L75 : ∀ (fuel : Nat) (k : Int) (n3 : Int → Int) (o3 : Int → Int) (Ml75 : sM) (H : Heap) (locs : List Loc) (ls : Array Slot), ((574 - k).toNat) < fuel → (0 ≤ k ∧ k ≤ 574) → (n3 = cpK g961 f k) → (∀ q, 0 ≤ q → q < k → o3 q = g961 q) → (∀ q, k ≤ q → q < 574 → o3 q = f q) → (Ml75 (m + 1) = some (sArr G 574 n3)) → (Ml75 (m + 14) = some (sArr G 574 o3)) → (∀ x : Nat, ¬ (x = m + 1) → ¬ (x = m + 14) → Ml75 x = M57 x) → sV G b_ Ml75 N s_ H locs → lv_has ls 4 [(0, .ref m), (1, .int (sI (jnI (rcC t tn) (rcV t tn) c910 f))), (2, .int (sI k))] → W p_ l_ e_ rmX11_join s_ m_ args_ below_ meth_ c_ H locs 0 0 Q (F0 m_ 75 ls []) := by
            intro fuel
            induction fuel with
            | zero => intro k n3 o3 Ml75 H locs ls hmu; exact absurd hmu (Nat.not_lt_zero _)
            | succ fuel ih75 =>
              intro k n3 o3 Ml75 H locs ls hmu75 hv75_0 hn3 ho3 ho3b hm75_0 hm75_1 hfr75 hV hl
              refine lv_iload_n hx_ hb_ dX11_join_75 rfl (lv_at hl 2 rfl) ?_
              refine si_sipush S dX11_join_76 (by decide) ?_
              refine sb_ge (tgt := 114) S dX11_join_79 (by decide) (by omega) (fun c70 => ?_) (fun c70 => ?_)
              · refine lv_aload_n hx_ hb_ dX11_join_114 rfl (lv_at hl 0 rfl) ?_
                have hnf9 : n3 = f := by rw [hn3, show k = 574 by omega]; exact cpK_e (fun q a => hjo9 q (by omega))
                have hn971 : Ml75 (m + 1) = some (sArr G 574 f) := by rw [← hnf9]; exact hm75_0
                refine lv_iload_n hx_ hb_ dX11_join_115 rfl (lv_at hl 1 rfl) ?_
                refine si_const S dX11_join_116 ?_
                refine sb_eq (tgt := 124) S dX11_join_117 (by decide) (by omega) (fun c72 => ?_) (fun c72 => ?_)
                · refine si_const S dX11_join_124 ?_
                  refine si_const S dX11_join_125 ?_
                  have hc73 : Ml75 m = some (mO m 0 ch 0 (rcE t tn) sn c910 wn) := ((hfr75 m (by omega) (by omega)).trans (hf67 m (by omega) (by omega))).trans hc52
                  refine sk_Vi E hV (As := [.int (sI 0), .int (sI 2)]) (rest := []) (kX11_fails0 l_ G b_ Ml75 N m ch 0 (rcE t tn) sn c910 wn 2 hc73 (by omega)) (cwV 2 S.2.2.2.2 gX11_join_X11_fails rfl rfl rfl (by decide +kernel) ⟨Nat.le_of_ble_eq_true rfl, Nat.le_of_ble_eq_true rfl⟩) (ci := 9) hc73 rfl rfl rfl hl.1 (Nat.le_of_ble_eq_true rfl) dX11_join_126 (c1 := 0) (s1 := 0) ⟨⟨rfl, rfl⟩, by decide, by decide⟩ (fun z77 M74 N75 H locs hp76 hV => ?_)
                  obtain ⟨ez78, hN79, hc80, hf81⟩ := hp76
                  rw [hN79] at hV
                  rw [ez78]
                  refine sz_eq (tgt := 134) S dX11_join_129 (by decide) (by omega) (fun c82 => absurd c82 (by omega)) (fun _ => ?_)
                  refine si_const S dX11_join_132 ?_
                  have hc83 : M74 (m + 12) = some (sArr G 60 C911) := (((hf81 (m + 12) (by omega)).trans (hfr75 (m + 12) (by omega) (by omega))).trans (hf67 (m + 12) (by omega) (by omega))).trans hc55
                  have hc84 : M74 (m + 13) = some (sArr G 240 V912) := (((hf81 (m + 13) (by omega)).trans (hfr75 (m + 13) (by omega) (by omega))).trans (hf67 (m + 13) (by omega) (by omega))).trans hc56
                  have hc85 : M74 (m + 8) = some (sArr G 10 p962) := ((hf81 (m + 8) (by omega)).trans (hfr75 (m + 8) (by omega) (by omega))).trans hc66
                  have hc86 : M74 (m + 14) = some (sArr G 574 o3) := (hf81 (m + 14) (by omega)).trans hm75_1
                  have hc87 : M74 (m + 1) = some (sArr G 574 f) := (hf81 (m + 1) (by omega)).trans hn971
                  have hc88 : svC G M74 (m + 2) ch fs := hsv.fr (fun x q8 q9 => ((((((((hf81 x (by omega)).trans (hfr75 x (by omega) (by omega))).trans (hf67 x (by omega) (by omega))).trans (hfr43 x (by omega))).trans (hf49 x (by omega))).trans ((congrFun hM24 x).trans (va_up_ne M22 _ (by omega)))).trans ((congrFun hM22 x).trans (va_up_ne M6 _ (by omega)))).trans (hf18 x (by omega) (by omega) (by omega))).trans ((congrFun hM1 x).trans (va_up_ne M _ (by omega))))
                  exact sr_i E hQ dX11_join_133 ⟨Nat.le_of_ble_eq_true rfl, Nat.le_of_ble_eq_true rfl⟩ hV (⟨c910, C911, V912, p962, o3, rfl, hc83, hc84, hc85, hc86, fun x q0 q1 q2 q3 q4 q5 q6 => ((((((((hf81 x (by omega)).trans (hfr75 x (by omega) (by omega))).trans (hf67 x (by omega) (by omega))).trans (hfr43 x (by omega))).trans (hf49 x (by omega))).trans ((congrFun hM24 x).trans (va_up_ne M22 _ (by omega)))).trans ((congrFun hM22 x).trans (va_up_ne M6 _ (by omega)))).trans (hf18 x (by omega) (by omega) (by omega))).trans ((congrFun hM1 x).trans (va_up_ne M _ (by omega))), Or.inr (Or.inl ⟨(⟨by omega, fun q => by have h9 := hji.2.2.mp (by omega); rw [← hrd2.1] at h9; exact h9 q⟩), rfl, by rw [show (-1 : Int) = rcE t tn by omega]; exact hc80, hc87, hc88⟩)⟩)
                · refine si_const S dX11_join_120 ?_
                  refine lv_goto (tgt := 125) hx_ hb_ dX11_join_121 (by decide) ?_
                  refine si_const S dX11_join_125 ?_
                  have hc89 : Ml75 m = some (mO m 0 ch 0 (rcE t tn) sn c910 wn) := ((hfr75 m (by omega) (by omega)).trans (hf67 m (by omega) (by omega))).trans hc52
                  refine sk_Vi E hV (As := [.int (sI 1), .int (sI 2)]) (rest := []) (kX11_fails1 l_ G b_ Ml75 N m ch 0 (rcE t tn) sn c910 wn 2 hc89 (by omega)) (cwV 2 S.2.2.2.2 gX11_join_X11_fails rfl rfl rfl (by decide +kernel) ⟨Nat.le_of_ble_eq_true rfl, Nat.le_of_ble_eq_true rfl⟩) (ci := 9) hc89 rfl rfl rfl hl.1 (Nat.le_of_ble_eq_true rfl) dX11_join_126 (c1 := 0) (s1 := 0) ⟨⟨rfl, rfl⟩, by decide, by decide⟩ (fun z93 M90 N91 H locs hp92 hV => ?_)
                  obtain ⟨ez94, hN95, hc96, hf97⟩ := hp92
                  rw [hN95] at hV
                  rw [ez94]
                  refine sz_eq (tgt := 134) S dX11_join_129 (by decide) (by omega) (fun _ => ?_) (fun c98 => absurd c98 (by omega))
                  refine lv_aload_n hx_ hb_ dX11_join_134 rfl (lv_at hl 0 rfl) ?_
                  have hc99 : M90 (m + 1) = some (sArr G 574 f) := (hf97 (m + 1) (by omega)).trans hn971
                  have hc100 : svC G M90 (m + 2) ch fs := hsv.fr (fun x q8 q9 => ((((((((hf97 x (by omega)).trans (hfr75 x (by omega) (by omega))).trans (hf67 x (by omega) (by omega))).trans (hfr43 x (by omega))).trans (hf49 x (by omega))).trans ((congrFun hM24 x).trans (va_up_ne M22 _ (by omega)))).trans ((congrFun hM22 x).trans (va_up_ne M6 _ (by omega)))).trans (hf18 x (by omega) (by omega) (by omega))).trans ((congrFun hM1 x).trans (va_up_ne M _ (by omega))))
                  refine sk_Vv E hV (As := []) (rest := []) (kX11_keeps l_ G b_ M90 N m 0 ch 0 (rcE t tn) sn c910 wn f fs hc96 hc99 hc100 (by omega)) (cwV 0 S.2.2.2.2 gX11_join_X11_keeps rfl rfl rfl (by decide +kernel) ⟨Nat.le_of_ble_eq_true rfl, Nat.le_of_ble_eq_true rfl⟩) (ci := 9) hc96 rfl rfl rfl hl.1 (Nat.le_of_ble_eq_true rfl) dX11_join_135 (c1 := 0) (s1 := 0) ⟨⟨rfl, rfl⟩, by decide, by decide⟩ (fun M101 N102 H locs hp103 hV => ?_)
                  obtain ⟨hN105, hc106, hc107, hf108⟩ := hp103
                  rw [hN105] at hV
                  refine si_const S dX11_join_138 ?_
                  refine lv_istore_n (lv' := [(2, .int (sI 0)), (0, .ref m), (1, .int (sI (jnI (rcC t tn) (rcV t tn) c910 f)))]) hx_ hb_ dX11_join_139 rfl hl (by decide) rfl (fun ls hl => ?_)
                  have L140 : ∀ (fuel : Nat) (k : Int) (n4 : Int → Int) (Ml140 : sM) (H : Heap) (locs : List Loc) (ls : Array Slot), ((574 - k).toNat) < fuel → (0 ≤ k ∧ k ≤ 574) → (n4 = cpK f o3 k) → (Ml140 (m + 1) = some (sArr G 574 n4)) → (∀ x : Nat, ¬ (x = m + 1) → Ml140 x = M101 x) → sV G b_ Ml140 N s_ H locs → lv_has ls 4 [(0, .ref m), (1, .int (sI (jnI (rcC t tn) (rcV t tn) c910 f))), (2, .int (sI k))] → W p_ l_ e_ rmX11_join s_ m_ args_ below_ meth_ c_ H locs 0 0 Q (F0 m_ 140 ls []) := by
                    intro fuel
                    induction fuel with
                    | zero => intro k n4 Ml140 H locs ls hmu; exact absurd hmu (Nat.not_lt_zero _)
                    | succ fuel ih140 =>
                      intro k n4 Ml140 H locs ls hmu140 hv140_0 hn4 hm140_0 hfr140 hV hl
                      refine lv_iload_n hx_ hb_ dX11_join_140 rfl (lv_at hl 2 rfl) ?_
                      refine si_sipush S dX11_join_141 (by decide) ?_
                      refine sb_ge (tgt := 165) S dX11_join_144 (by decide) (by omega) (fun c109 => ?_) (fun c109 => ?_)
                      · refine lv_iload_n hx_ hb_ dX11_join_165 rfl (lv_at hl 1 rfl) ?_
                        have hjq : jnQ f t tn := Classical.not_not.mp fun q => by have := hji.2.2.mpr (by rw [← hrd2.1]; exact q); omega
                        have hn5 : n4 = jnF f t tn := by rw [hn4, show k = 574 by omega]; exact cpK_x (fun q a b => by rw [ho3 q a (by omega), hjk (by rw [← hrd2.1]; exact hjq), ← hrd2.1]; rfl) (fun q a => by unfold jnF; exact (jn_o (rc_o (by omega) (by omega)) hok _ (by have := hO.1; rw [hrd2.1]; omega) hjq.1 q (by omega)).symm)
                        have hc110 : Ml140 m = some (mO m 0 (chn ch) 0 (rcE t tn) sn c910 wn) := (hfr140 m (by omega)).trans hc106
                        have hc111 : Ml140 (m + 12) = some (sArr G 60 C911) := (((((hfr140 (m + 12) (by omega)).trans (hf108 (m + 12) (by omega) (by omega))).trans (hf97 (m + 12) (by omega))).trans (hfr75 (m + 12) (by omega) (by omega))).trans (hf67 (m + 12) (by omega) (by omega))).trans hc55
                        have hc112 : Ml140 (m + 13) = some (sArr G 240 V912) := (((((hfr140 (m + 13) (by omega)).trans (hf108 (m + 13) (by omega) (by omega))).trans (hf97 (m + 13) (by omega))).trans (hfr75 (m + 13) (by omega) (by omega))).trans (hf67 (m + 13) (by omega) (by omega))).trans hc56
                        have hc113 : Ml140 (m + 8) = some (sArr G 10 p962) := ((((hfr140 (m + 8) (by omega)).trans (hf108 (m + 8) (by omega) (by omega))).trans (hf97 (m + 8) (by omega))).trans (hfr75 (m + 8) (by omega) (by omega))).trans hc66
                        have hc114 : Ml140 (m + 14) = some (sArr G 574 o3) := (((hfr140 (m + 14) (by omega)).trans (hf108 (m + 14) (by omega) (by omega))).trans (hf97 (m + 14) (by omega))).trans hm75_1
                        have hc115 : svC G Ml140 (m + 2) (chn ch) (fsn ch fs f) := hc107.fr (fun x q8 q9 => hfr140 x (by omega))
                        exact sr_i E hQ dX11_join_166 ⟨Nat.le_of_ble_eq_true rfl, Nat.le_of_ble_eq_true rfl⟩ hV (⟨c910, C911, V912, p962, o3, rfl, hc111, hc112, hc113, hc114, fun x q0 q1 q2 q3 q4 q5 q6 => ((((((((((hfr140 x (by omega)).trans (hf108 x (by omega) (by omega))).trans (hf97 x (by omega))).trans (hfr75 x (by omega) (by omega))).trans (hf67 x (by omega) (by omega))).trans (hfr43 x (by omega))).trans (hf49 x (by omega))).trans ((congrFun hM24 x).trans (va_up_ne M22 _ (by omega)))).trans ((congrFun hM22 x).trans (va_up_ne M6 _ (by omega)))).trans (hf18 x (by omega) (by omega) (by omega))).trans ((congrFun hM1 x).trans (va_up_ne M _ (by omega))), Or.inr (Or.inr (⟨(⟨by omega, hjq⟩), by unfold jnI jnF; rw [← hrd2.1, pif_t (show jnK (rcC t tn) (rcV t tn) (rcK t tn) f from hjq)], by rw [show (-1 : Int) = rcE t tn by omega]; exact hc110, by rw [← hn5]; exact hm140_0, hc115⟩))⟩)
                      · refine lv_aload_n hx_ hb_ dX11_join_147 rfl (lv_at hl 0 rfl) ?_
                        have hc116 : Ml140 m = some (mO m 0 (chn ch) 0 (rcE t tn) sn c910 wn) := (hfr140 m (by omega)).trans hc106
                        refine sc_get (ci := 9) (C := RX11) (T := TX11) (n := 22) S hK hV inX11_ hc116 rfl 1 (by decide) (S.2.2.2.2 _ (List.mem_of_getElem? (i := 5) rfl)) rfl rfl dX11_join_148 ?_
                        refine lv_iload_n hx_ hb_ dX11_join_151 rfl (lv_at hl 2 rfl) ?_
                        refine lv_aload_n hx_ hb_ dX11_join_152 rfl (lv_at hl 0 rfl) ?_
                        refine sc_get (ci := 9) (C := RX11) (T := TX11) (n := 22) S hK hV inX11_ hc116 rfl 19 (by decide) (S.2.2.2.2 _ (List.mem_of_getElem? (i := 4) rfl)) rfl rfl dX11_join_153 ?_
                        refine lv_iload_n hx_ hb_ dX11_join_156 rfl (lv_at hl 2 rfl) ?_
                        have hc117 : Ml140 (m + 14) = some (sArr G 574 o3) := (((hfr140 (m + 14) (by omega)).trans (hf108 (m + 14) (by omega) (by omega))).trans (hf97 (m + 14) (by omega))).trans hm75_1
                        refine sc_iald S hK hV hc117 (by omega) dX11_join_157 ?_
                        refine sc_iast S hK hV hm140_0 (by omega) dX11_join_158 (fun M118 H locs hM118 hV => ?_)
                        have hc119 : M118 (m + 1) = some (sArr G 574 (iup n4 k (o3 k))) := (congrFun hM118 (m + 1)).trans (va_up_self Ml140 (m + 1) _)
                        refine si_inc (lv' := [(2, .int (sI (k + 1))), (0, .ref m), (1, .int (sI (jnI (rcC t tn) (rcV t tn) c910 f)))]) S dX11_join_159 hl (k := 2) rfl (by decide) rfl (fun ls hl => ?_)
                        refine lv_goto (tgt := 140) hx_ hb_ dX11_join_162 (by decide) ?_
                        exact ih140 (k + 1) (iup n4 k (o3 k)) M118 _ _ _ (by omega) (by omega) (by rw [hn4, cpK_s _ _ _ (by omega)]) hc119 (fun x q0 => ((congrFun hM118 x).trans (va_up_ne Ml140 _ (by omega))).trans (hfr140 x (by omega))) hV (lv_sub hl [1, 2, 0] rfl)
                  have hc120 : M101 (m + 1) = some (sArr G 574 f) := (hf108 (m + 1) (by omega) (by omega)).trans hc99
                  exact L140 _ 0 f M101 _ _ _ (Nat.lt_succ_self _) (by omega) ((cpK_0 _ _).symm) hc120 (fun x q0 => rfl) hV (lv_sub hl [1, 2, 0] rfl)
              · refine lv_aload_n hx_ hb_ dX11_join_82 rfl (lv_at hl 0 rfl) ?_
                have hc121 : Ml75 m = some (mO m 0 ch 0 (rcE t tn) sn c910 wn) := ((hfr75 m (by omega) (by omega)).trans (hf67 m (by omega) (by omega))).trans hc52
                refine sc_get (ci := 9) (C := RX11) (T := TX11) (n := 22) S hK hV inX11_ hc121 rfl 1 (by decide) (S.2.2.2.2 _ (List.mem_of_getElem? (i := 5) rfl)) rfl rfl dX11_join_83 ?_
                refine lv_iload_n hx_ hb_ dX11_join_86 rfl (lv_at hl 2 rfl) ?_
                refine sc_iald S hK hV hm75_0 (by omega) dX11_join_87 ?_
                refine lv_istore_n (lv' := [(3, .int (sI (n3 k))), (0, .ref m), (1, .int (sI (jnI (rcC t tn) (rcV t tn) c910 f))), (2, .int (sI k))]) hx_ hb_ dX11_join_88 rfl hl (by decide) rfl (fun ls hl => ?_)
                refine lv_aload_n hx_ hb_ dX11_join_89 rfl (lv_at hl 1 rfl) ?_
                refine sc_get (ci := 9) (C := RX11) (T := TX11) (n := 22) S hK hV inX11_ hc121 rfl 1 (by decide) (S.2.2.2.2 _ (List.mem_of_getElem? (i := 5) rfl)) rfl rfl dX11_join_90 ?_
                refine lv_iload_n hx_ hb_ dX11_join_93 rfl (lv_at hl 3 rfl) ?_
                refine lv_aload_n hx_ hb_ dX11_join_94 rfl (lv_at hl 1 rfl) ?_
                refine sc_get (ci := 9) (C := RX11) (T := TX11) (n := 22) S hK hV inX11_ hc121 rfl 19 (by decide) (S.2.2.2.2 _ (List.mem_of_getElem? (i := 4) rfl)) rfl rfl dX11_join_95 ?_
                refine lv_iload_n hx_ hb_ dX11_join_98 rfl (lv_at hl 3 rfl) ?_
                refine sc_iald S hK hV hm75_1 (by omega) dX11_join_99 ?_
                refine sc_iast S hK hV hm75_0 (by omega) dX11_join_100 (fun M122 H locs hM122 hV => ?_)
                have hc123 : M122 (m + 1) = some (sArr G 574 (iup n3 k (o3 k))) := (congrFun hM122 (m + 1)).trans (va_up_self Ml75 (m + 1) _)
                refine lv_aload_n hx_ hb_ dX11_join_101 rfl (lv_at hl 1 rfl) ?_
                have hc124 : M122 m = some (mO m 0 ch 0 (rcE t tn) sn c910 wn) := ((congrFun hM122 m).trans (va_up_ne Ml75 _ (by omega))).trans hc121
                refine sc_get (ci := 9) (C := RX11) (T := TX11) (n := 22) S hK hV inX11_ hc124 rfl 19 (by decide) (S.2.2.2.2 _ (List.mem_of_getElem? (i := 4) rfl)) rfl rfl dX11_join_102 ?_
                refine lv_iload_n hx_ hb_ dX11_join_105 rfl (lv_at hl 3 rfl) ?_
                refine lv_iload_n hx_ hb_ dX11_join_106 rfl (lv_at hl 0 rfl) ?_
                have hc125 : M122 (m + 14) = some (sArr G 574 o3) := ((congrFun hM122 (m + 14)).trans (va_up_ne Ml75 _ (by omega))).trans hm75_1
                refine sc_iast S hK hV hc125 (by omega) dX11_join_107 (fun M126 H locs hM126 hV => ?_)
                have hc127 : M126 (m + 14) = some (sArr G 574 (iup o3 k (n3 k))) := (congrFun hM126 (m + 14)).trans (va_up_self M122 (m + 14) _)
                refine si_inc (lv' := [(2, .int (sI (k + 1))), (3, .int (sI (n3 k))), (0, .ref m), (1, .int (sI (jnI (rcC t tn) (rcV t tn) c910 f)))]) S dX11_join_108 hl (k := 3) rfl (by decide) rfl (fun ls hl => ?_)
                refine lv_goto (tgt := 75) hx_ hb_ dX11_join_111 (by decide) ?_
                have hc128 : M126 (m + 1) = some (sArr G 574 (iup n3 k (o3 k))) := ((congrFun hM126 (m + 1)).trans (va_up_ne M122 _ (by omega))).trans hc123
                exact ih75 (k + 1) (iup n3 k (o3 k)) (iup o3 k (n3 k)) M126 _ _ _ (by omega) (by omega) (by rw [hn3, ho3b k (by omega) (by omega), cpK_s _ _ _ (by omega)]) (fun q a b => by unfold iup; by_cases e : q = k; exact (by rw [if_pos e, e, hn3]; exact if_neg (by omega)); exact (by rw [if_neg e]; exact ho3 q a (by omega))) (fun q a b => by unfold iup; rw [if_neg (by omega)]; exact ho3b q (by omega) b) hc128 hc127 (fun x q0 q1 => (((congrFun hM126 x).trans (va_up_ne M122 _ (by omega))).trans ((congrFun hM122 x).trans (va_up_ne Ml75 _ (by omega)))).trans (hfr75 x (by omega) (by omega))) hV (lv_sub hl [2, 3, 0] rfl)
          have hc129 : M57 (m + 14) = some (sArr G 574 o2) := (hf67 (m + 14) (by omega) (by omega)).trans hm43_0
          exact L75 _ 0 g961 o2 M57 _ _ _ (Nat.lt_succ_self _) (by omega) ((cpK_0 _ _).symm) (fun q a b => by omega) (fun q a b => hof q a b) hc65 hc129 (fun x q0 q1 => rfl) hV (lv_sub hl [2, 1, 0] rfl)
        · refine lv_aload_n hx_ hb_ dX11_join_50 rfl (lv_at hl 0 rfl) ?_
          have hc130 : Ml43 m = some (mO m 0 ch 0 (rcE t tn) sn c910 wn) := (hfr43 m (by omega)).trans hc48
          refine sc_get (ci := 9) (C := RX11) (T := TX11) (n := 22) S hK hV inX11_ hc130 rfl 19 (by decide) (S.2.2.2.2 _ (List.mem_of_getElem? (i := 4) rfl)) rfl rfl dX11_join_51 ?_
          refine lv_iload_n hx_ hb_ dX11_join_54 rfl (lv_at hl 1 rfl) ?_
          refine lv_aload_n hx_ hb_ dX11_join_55 rfl (lv_at hl 0 rfl) ?_
          refine sc_get (ci := 9) (C := RX11) (T := TX11) (n := 22) S hK hV inX11_ hc130 rfl 1 (by decide) (S.2.2.2.2 _ (List.mem_of_getElem? (i := 5) rfl)) rfl rfl dX11_join_56 ?_
          refine lv_iload_n hx_ hb_ dX11_join_59 rfl (lv_at hl 1 rfl) ?_
          have hc131 : Ml43 (m + 1) = some (sArr G 574 f) := ((((((hfr43 (m + 1) (by omega)).trans (hf49 (m + 1) (by omega))).trans ((congrFun hM24 (m + 1)).trans (va_up_ne M22 _ (by omega)))).trans ((congrFun hM22 (m + 1)).trans (va_up_ne M6 _ (by omega)))).trans (hf18 (m + 1) (by omega) (by omega) (by omega))).trans ((congrFun hM1 (m + 1)).trans (va_up_ne M _ (by omega)))).trans hm1
          refine sc_iald S hK hV hc131 (by omega) dX11_join_60 ?_
          refine sc_iast S hK hV hm43_0 (by omega) dX11_join_61 (fun M132 H locs hM132 hV => ?_)
          have hc133 : M132 (m + 14) = some (sArr G 574 (iup o2 k (f k))) := (congrFun hM132 (m + 14)).trans (va_up_self Ml43 (m + 14) _)
          refine si_inc (lv' := [(1, .int (sI (k + 1))), (0, .ref m)]) S dX11_join_62 hl (k := 1) rfl (by decide) rfl (fun ls hl => ?_)
          refine lv_goto (tgt := 43) hx_ hb_ dX11_join_65 (by decide) ?_
          exact ih43 (k + 1) (iup o2 k (f k)) M132 _ _ _ (by omega) (by omega) (fun q a b => by unfold iup; by_cases e : q = k; exact (by rw [if_pos e, e]); exact (by rw [if_neg e]; exact ho2 q a (by omega))) hc133 (fun x q0 => ((congrFun hM132 x).trans (va_up_ne Ml43 _ (by omega))).trans (hfr43 x (by omega))) hV (lv_sub hl [1, 0] rfl)
    have hc134 : M42 (m + 14) = some (sArr G 574 od) := (((((hf49 (m + 14) (by omega)).trans ((congrFun hM24 (m + 14)).trans (va_up_ne M22 _ (by omega)))).trans ((congrFun hM22 (m + 14)).trans (va_up_ne M6 _ (by omega)))).trans (hf18 (m + 14) (by omega) (by omega) (by omega))).trans ((congrFun hM1 (m + 14)).trans (va_up_ne M _ (by omega)))).trans hm14
    exact L43 _ 0 od M42 _ _ _ (Nat.lt_succ_self _) (by omega) (fun q a b => by omega) hc134 (fun x q0 => rfl) hV (lv_sub hl [1, 0] rfl)
