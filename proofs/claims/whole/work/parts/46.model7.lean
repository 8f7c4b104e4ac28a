theorem sOk_T2 {f : sF} (h : sOk f) (n : Int) (a : 0 ≤ n) (b : n < f 570) : 3652 ≤ f (224 + n) ∧ f (224 + n) ≤ 113224 := by
  have h1 := (sOk_T h n a b).2.1
  have h2 := dayI_r h1.1
  omega
theorem sOk_W2 {f : sF} (h : sOk f) (n : Int) (a : 0 ≤ n) (b : n < f 572) : 3652 ≤ f (484 + n) ∧ f (484 + n) ≤ 113224 := by
  have h1 := (sOk_W h n a b).2.1
  have h2 := dayI_r h1.1
  omega
noncomputable def awT (f : sF) (s x k : Int) : Int := if hnd f s (x + k) (f 571) ≠ 0 then 1 else 0
noncomputable def fdT (f : sF) (s x k : Int) : Int := if hnd f s (x + k) (f 571) = 6 then 0 else f (40 + s) * hnd f s (x + k) (f 571)
theorem fdT_r {f : sF} (h : sOk f) (s x k : Int) (hs : 0 ≤ s ∧ s < f 568) : 0 ≤ fdT f s x k ∧ fdT f s x k ≤ 60000 := by
  have h1 := hnd_r h s (x + k) (f 571)
  have h2 := (sOk_S h s hs.1 hs.2).2.2.2.2.1
  unfold fdT
  split
  · omega
  · have a : 0 ≤ f (40 + s) * hnd f s (x + k) (f 571) := Int.mul_nonneg (by omega) (by omega)
    have b : f (40 + s) * hnd f s (x + k) (f 571) ≤ 10000 * hnd f s (x + k) (f 571) := Int.mul_le_mul_of_nonneg_right (by omega) (by omega)
    omega
theorem fd_r {f : sF} (h : sOk f) (s x n : Int) (hs : 0 ≤ s ∧ s < f 568) (hn : 0 ≤ n) : 0 ≤ isum n (fdT f s x) ∧ isum n (fdT f s x) ≤ n * 60000 := by
  have := isum_b (n := n) (g := fdT f s x) 0 60000 hn (fun k a b => fdT_r h s x k hs)
  omega
theorem aw_r (f : sF) (s x n : Int) (hn : 0 ≤ n) : 0 ≤ isum n (awT f s x) ∧ isum n (awT f s x) ≤ n * 1 := by
  have := isum_b (n := n) (g := awT f s x) 0 1 hn (fun k a b => by unfold awT; split <;> omega)
  omega

abbrev rmX11_tell : Room := { frames := 4, cells := 0, slots := 0, locals := 103 }
set_option maxHeartbeats 4000000 in
set_option maxRecDepth 100000 in
theorem kX11_tell (l_ : Launch) (G : sG) (b_ : Nat) (M : sM) (N : Nat) (m : Nat) (th ch tn ea sn nm wn : Int) (f : sF) (fs : Int → sF) (s d h : Int) (hm0 : M m = some (mO m th ch tn ea sn nm wn)) (hm1 : M (m + 1) = some (sArr G 574 f)) (hsv : svC G M (m + 2) ch fs) (hok : sOk f) (hch : 0 ≤ ch ∧ ch ≤ 15) (hr : sR s ∧ sR d ∧ sR h) : cI l_ yX11_tell wsX11_tell rmX11_tell G b_ M N [.ref m, .int (sI s), .int (sI d), .int (sI h)] (fun z_ M1 N1 => N1 = N ∧ (∀ x : Nat, ¬ (x = m) → ¬ (x = m + 1) → ¬ (x = m + 2) → M1 x = M x) ∧ (((¬ (0 ≤ s ∧ s < f 568)) ∧ z_ = 0 ∧ M1 m = some (mO m 1 ch tn ea sn nm wn) ∧ M1 (m + 1) = some (sArr G 574 f) ∧ svC G M1 (m + 2) ch fs) ∨ (((0 ≤ s ∧ s < f 568) ∧ ¬ (isDt d ∧ 0 ≤ h ∧ h ≤ 6)) ∧ z_ = 0 ∧ M1 m = some (mO m 2 ch tn ea sn nm wn) ∧ M1 (m + 1) = some (sArr G 574 f) ∧ svC G M1 (m + 2) ch fs) ∨ (((0 ≤ s ∧ s < f 568) ∧ (isDt d ∧ 0 ≤ h ∧ h ≤ 6) ∧ 60 ≤ f 570) ∧ z_ = 0 ∧ M1 m = some (mO m 3 ch tn ea sn nm wn) ∧ M1 (m + 1) = some (sArr G 574 f) ∧ svC G M1 (m + 2) ch fs) ∨ (((0 ≤ s ∧ s < f 568) ∧ (isDt d ∧ 0 ≤ h ∧ h ≤ 6) ∧ f 570 < 60) ∧ z_ = f 570 ∧ M1 m = some (mO m 0 (chn ch) tn ea sn nm wn) ∧ M1 (m + 1) = some (sArr G 574 (tlF f s (dayI d + 3652) h)) ∧ svC G M1 (m + 2) (chn ch) (fsn ch fs f)))) := by
  refine sE.ofI (cc := cX11_tell) (nL := 5) (ret := (some .int)) (by decide) rfl (Nat.le_of_ble_eq_true rfl) ?_
  intro p_ e_ s_ m_ args_ below_ meth_ c_ ls Q hQ E hl
  have E : sE p_ l_ e_ rmX11_tell s_ m_ args_ below_ meth_ c_ cX11_tell 5 wsX11_tell RX11 "tell" (some .int) G b_ M N := E
  have S := E.1
  have hx_ := S.1
  have hb_ := S.2.1
  have hK := E.2.2.2.2.1
  have hV := E.2.2.2.2.2.2
  have hl : lv_has ls 5 [(0, .ref m), (1, .int (sI s)), (2, .int (sI d)), (3, .int (sI h))] := hl
  have inX11_ : ∀ w ∈ wsX110, w ∈ wsX11_tell := fun _ h => List.mem_cons_of_mem _ (List.mem_append_right _ h)
  have kn0 := sOk_N hok
  refine lv_aload_n hx_ hb_ dX11_tell_0 rfl (lv_at hl 0 rfl) ?_
  refine si_const S dX11_tell_1 ?_
  refine sc_put (ci := 9) (C := RX11) (T := TX11) (n := 22) S hK hV inX11_ tyX11_ok nmX11 hm0 rfl 0 (by decide) (S.2.2.2.2 _ (List.mem_of_getElem? (i := 1) rfl)) rfl rfl rfl rfl (Nat.le_of_ble_eq_true rfl) dX11_tell_2 (fs1 := [.int (sI 0), .ref (m + 1), .ref (m + 2), .int (sI ch), .ref (m + 3), .int (sI tn), .int (sI ea), .ref (m + 4), .ref (m + 5), .ref (m + 6), .ref (m + 7), .ref (m + 8), .ref (m + 9), .int (sI sn), .ref (m + 10), .ref (m + 11), .ref (m + 12), .ref (m + 13), .int (sI nm), .ref (m + 14), .ref (m + 15), .int (sI wn)]) rfl (fun M1 H locs hM1 hV => ?_)
  have hc2 : M1 m = some (mO m 0 ch tn ea sn nm wn) := (congrFun hM1 m).trans (va_up_self M m _)
  refine lv_aload_n hx_ hb_ dX11_tell_5 rfl (lv_at hl 0 rfl) ?_
  refine lv_iload_n hx_ hb_ dX11_tell_6 rfl (lv_at hl 1 rfl) ?_
  have hc3 : M1 (m + 1) = some (sArr G 574 f) := ((congrFun hM1 (m + 1)).trans (va_up_ne M _ (by omega))).trans hm1
  refine sk_Vi E hV (As := [.int (sI s)]) (rest := []) (kX11_noStone l_ G b_ M1 N m ch tn ea sn nm wn f s hc2 hc3 (by omega) (by omega)) (cwV 1 S.2.2.2.2 gX11_tell_X11_noStone rfl rfl rfl (by decide +kernel) ⟨Nat.le_of_ble_eq_true rfl, Nat.le_of_ble_eq_true rfl⟩) (ci := 9) hc2 rfl rfl rfl hl.1 (Nat.le_of_ble_eq_true rfl) dX11_tell_7 (c1 := 0) (s1 := 0) ⟨⟨rfl, rfl⟩, by decide, by decide⟩ (fun z7 M4 N5 H locs hp6 hV => ?_)
  obtain ⟨hN8, hf9, hq10⟩ := hp6
  rw [hN8] at hV
  rcases hq10 with ⟨c11, ez12, hc13⟩ | ⟨c14, ez15, hc16⟩
  · rw [ez12]
    refine sz_ne (tgt := 69) S dX11_tell_10 (by decide) (by omega) (fun c17 => absurd c17 (by omega)) (fun _ => ?_)
    refine lv_aload_n hx_ hb_ dX11_tell_13 rfl (lv_at hl 0 rfl) ?_
    refine lv_iload_n hx_ hb_ dX11_tell_14 rfl (lv_at hl 2 rfl) ?_
    refine sk_SP E hV (As := [.int (sI d)]) (rest := [.ref m]) (kX11_isDate l_ G b_ M4 N d (by omega)) (va_cwS 1 S.2.2.2.2 gX11_tell_X11_isDate rfl rfl rfl (by decide +kernel) ⟨Nat.le_of_ble_eq_true rfl, Nat.le_of_ble_eq_true rfl⟩) rfl rfl hl.1 (Nat.le_of_ble_eq_true rfl) dX11_tell_15 (c1 := 0) (s1 := 0) ⟨⟨rfl, rfl⟩, by decide, by decide⟩ (fun H locs hV => ?_)
    refine sq_eq (tgt := 35) S dX11_tell_18 (by decide) (fun c18 => ?_) (fun c18 => ?_)
    · refine si_const S dX11_tell_35 ?_
      refine si_const S dX11_tell_36 ?_
      refine sk_Vi E hV (As := [.int (sI 0), .int (sI 2)]) (rest := []) (kX11_fails0 l_ G b_ M4 N m ch tn ea sn nm wn 2 hc13 (by omega)) (cwV 2 S.2.2.2.2 gX11_tell_X11_fails rfl rfl rfl (by decide +kernel) ⟨Nat.le_of_ble_eq_true rfl, Nat.le_of_ble_eq_true rfl⟩) (ci := 9) hc13 rfl rfl rfl hl.1 (Nat.le_of_ble_eq_true rfl) dX11_tell_37 (c1 := 0) (s1 := 0) ⟨⟨rfl, rfl⟩, by decide, by decide⟩ (fun z22 M19 N20 H locs hp21 hV => ?_)
      obtain ⟨ez23, hN24, hc25, hf26⟩ := hp21
      rw [hN24] at hV
      rw [ez23]
      refine sz_ne (tgt := 69) S dX11_tell_40 (by decide) (by omega) (fun _ => ?_) (fun c27 => absurd c27 (by omega))
      refine si_const S dX11_tell_69 ?_
      have hc28 : M19 (m + 1) = some (sArr G 574 f) := ((hf26 (m + 1) (by omega)).trans (hf9 (m + 1) (by omega))).trans hc3
      have hc29 : svC G M19 (m + 2) ch fs := hsv.fr (fun x q8 q9 => ((hf26 x (by omega)).trans (hf9 x (by omega))).trans ((congrFun hM1 x).trans (va_up_ne M _ (by omega))))
      exact sr_i E hQ dX11_tell_70 ⟨Nat.le_of_ble_eq_true rfl, Nat.le_of_ble_eq_true rfl⟩ hV (⟨rfl, fun x q0 q1 q2 => ((hf26 x (by omega)).trans (hf9 x (by omega))).trans ((congrFun hM1 x).trans (va_up_ne M _ (by omega))), Or.inr (Or.inl ⟨(by omega), rfl, hc25, hc28, hc29⟩)⟩)
    · refine lv_iload_n hx_ hb_ dX11_tell_21 rfl (lv_at hl 3 rfl) ?_
      refine si_const S dX11_tell_22 ?_
      refine si_bipush S dX11_tell_23 (by decide) ?_
      refine sk_SP E hV (As := [.int (sI h), .int (sI 0), .int (sI 6)]) (rest := [.ref m]) (kX11_in l_ G b_ M4 N h 0 6 (by omega)) (va_cwS 3 S.2.2.2.2 gX11_tell_X11_in rfl rfl rfl (by decide +kernel) ⟨Nat.le_of_ble_eq_true rfl, Nat.le_of_ble_eq_true rfl⟩) rfl rfl hl.1 (Nat.le_of_ble_eq_true rfl) dX11_tell_25 (c1 := 0) (s1 := 0) ⟨⟨rfl, rfl⟩, by decide, by decide⟩ (fun H locs hV => ?_)
      refine sq_eq (tgt := 35) S dX11_tell_28 (by decide) (fun c30 => ?_) (fun c30 => ?_)
      · refine si_const S dX11_tell_35 ?_
        refine si_const S dX11_tell_36 ?_
        refine sk_Vi E hV (As := [.int (sI 0), .int (sI 2)]) (rest := []) (kX11_fails0 l_ G b_ M4 N m ch tn ea sn nm wn 2 hc13 (by omega)) (cwV 2 S.2.2.2.2 gX11_tell_X11_fails rfl rfl rfl (by decide +kernel) ⟨Nat.le_of_ble_eq_true rfl, Nat.le_of_ble_eq_true rfl⟩) (ci := 9) hc13 rfl rfl rfl hl.1 (Nat.le_of_ble_eq_true rfl) dX11_tell_37 (c1 := 0) (s1 := 0) ⟨⟨rfl, rfl⟩, by decide, by decide⟩ (fun z34 M31 N32 H locs hp33 hV => ?_)
        obtain ⟨ez35, hN36, hc37, hf38⟩ := hp33
        rw [hN36] at hV
        rw [ez35]
        refine sz_ne (tgt := 69) S dX11_tell_40 (by decide) (by omega) (fun _ => ?_) (fun c39 => absurd c39 (by omega))
        refine si_const S dX11_tell_69 ?_
        have hc40 : M31 (m + 1) = some (sArr G 574 f) := ((hf38 (m + 1) (by omega)).trans (hf9 (m + 1) (by omega))).trans hc3
        have hc41 : svC G M31 (m + 2) ch fs := hsv.fr (fun x q8 q9 => ((hf38 x (by omega)).trans (hf9 x (by omega))).trans ((congrFun hM1 x).trans (va_up_ne M _ (by omega))))
        exact sr_i E hQ dX11_tell_70 ⟨Nat.le_of_ble_eq_true rfl, Nat.le_of_ble_eq_true rfl⟩ hV (⟨rfl, fun x q0 q1 q2 => ((hf38 x (by omega)).trans (hf9 x (by omega))).trans ((congrFun hM1 x).trans (va_up_ne M _ (by omega))), Or.inr (Or.inl ⟨(by omega), rfl, hc37, hc40, hc41⟩)⟩)
      · refine si_const S dX11_tell_31 ?_
        refine lv_goto (tgt := 36) hx_ hb_ dX11_tell_32 (by decide) ?_
        refine si_const S dX11_tell_36 ?_
        refine sk_Vi E hV (As := [.int (sI 1), .int (sI 2)]) (rest := []) (kX11_fails1 l_ G b_ M4 N m ch tn ea sn nm wn 2 hc13 (by omega)) (cwV 2 S.2.2.2.2 gX11_tell_X11_fails rfl rfl rfl (by decide +kernel) ⟨Nat.le_of_ble_eq_true rfl, Nat.le_of_ble_eq_true rfl⟩) (ci := 9) hc13 rfl rfl rfl hl.1 (Nat.le_of_ble_eq_true rfl) dX11_tell_37 (c1 := 0) (s1 := 0) ⟨⟨rfl, rfl⟩, by decide, by decide⟩ (fun z45 M42 N43 H locs hp44 hV => ?_)
        obtain ⟨ez46, hN47, hc48, hf49⟩ := hp44
        rw [hN47] at hV
        rw [ez46]
        refine sz_ne (tgt := 69) S dX11_tell_40 (by decide) (by omega) (fun c50 => absurd c50 (by omega)) (fun _ => ?_)
        refine lv_aload_n hx_ hb_ dX11_tell_43 rfl (lv_at hl 0 rfl) ?_
        refine lv_aload_n hx_ hb_ dX11_tell_44 rfl (lv_at hl 0 rfl) ?_
        refine sc_get (ci := 9) (C := RX11) (T := TX11) (n := 22) S hK hV inX11_ hc48 rfl 1 (by decide) (S.2.2.2.2 _ (List.mem_of_getElem? (i := 2) rfl)) rfl rfl dX11_tell_45 ?_
        refine si_sipush S dX11_tell_48 (by decide) ?_
        have hc51 : M42 (m + 1) = some (sArr G 574 f) := ((hf49 (m + 1) (by omega)).trans (hf9 (m + 1) (by omega))).trans hc3
        refine sc_iald S hK hV hc51 (by omega) dX11_tell_51 ?_
        refine si_bipush S dX11_tell_52 (by decide) ?_
        refine sb_ge (tgt := 61) S dX11_tell_54 (by decide) (by omega) (fun c52 => ?_) (fun c52 => ?_)
        · refine si_const S dX11_tell_61 ?_
          refine si_const S dX11_tell_62 ?_
          refine sk_Vi E hV (As := [.int (sI 0), .int (sI 3)]) (rest := []) (kX11_fails0 l_ G b_ M42 N m ch tn ea sn nm wn 3 hc48 (by omega)) (cwV 2 S.2.2.2.2 gX11_tell_X11_fails rfl rfl rfl (by decide +kernel) ⟨Nat.le_of_ble_eq_true rfl, Nat.le_of_ble_eq_true rfl⟩) (ci := 9) hc48 rfl rfl rfl hl.1 (Nat.le_of_ble_eq_true rfl) dX11_tell_63 (c1 := 0) (s1 := 0) ⟨⟨rfl, rfl⟩, by decide, by decide⟩ (fun z56 M53 N54 H locs hp55 hV => ?_)
          obtain ⟨ez57, hN58, hc59, hf60⟩ := hp55
          rw [hN58] at hV
          rw [ez57]
          refine sz_eq (tgt := 71) S dX11_tell_66 (by decide) (by omega) (fun c61 => absurd c61 (by omega)) (fun _ => ?_)
          refine si_const S dX11_tell_69 ?_
          have hc62 : M53 (m + 1) = some (sArr G 574 f) := (hf60 (m + 1) (by omega)).trans hc51
          have hc63 : svC G M53 (m + 2) ch fs := hsv.fr (fun x q8 q9 => (((hf60 x (by omega)).trans (hf49 x (by omega))).trans (hf9 x (by omega))).trans ((congrFun hM1 x).trans (va_up_ne M _ (by omega))))
          exact sr_i E hQ dX11_tell_70 ⟨Nat.le_of_ble_eq_true rfl, Nat.le_of_ble_eq_true rfl⟩ hV (⟨rfl, fun x q0 q1 q2 => (((hf60 x (by omega)).trans (hf49 x (by omega))).trans (hf9 x (by omega))).trans ((congrFun hM1 x).trans (va_up_ne M _ (by omega))), Or.inr (Or.inr (Or.inl ⟨(by omega), rfl, hc59, hc62, hc63⟩))⟩)
        · refine si_const S dX11_tell_57 ?_
          refine lv_goto (tgt := 62) hx_ hb_ dX11_tell_58 (by decide) ?_
          refine si_const S dX11_tell_62 ?_
          refine sk_Vi E hV (As := [.int (sI 1), .int (sI 3)]) (rest := []) (kX11_fails1 l_ G b_ M42 N m ch tn ea sn nm wn 3 hc48 (by omega)) (cwV 2 S.2.2.2.2 gX11_tell_X11_fails rfl rfl rfl (by decide +kernel) ⟨Nat.le_of_ble_eq_true rfl, Nat.le_of_ble_eq_true rfl⟩) (ci := 9) hc48 rfl rfl rfl hl.1 (Nat.le_of_ble_eq_true rfl) dX11_tell_63 (c1 := 0) (s1 := 0) ⟨⟨rfl, rfl⟩, by decide, by decide⟩ (fun z67 M64 N65 H locs hp66 hV => ?_)
          obtain ⟨ez68, hN69, hc70, hf71⟩ := hp66
          rw [hN69] at hV
          rw [ez68]
          refine sz_eq (tgt := 71) S dX11_tell_66 (by decide) (by omega) (fun _ => ?_) (fun c72 => absurd c72 (by omega))
          refine lv_aload_n hx_ hb_ dX11_tell_71 rfl (lv_at hl 0 rfl) ?_
          have hc73 : M64 (m + 1) = some (sArr G 574 f) := (hf71 (m + 1) (by omega)).trans hc51
          have hc74 : svC G M64 (m + 2) ch fs := hsv.fr (fun x q8 q9 => (((hf71 x (by omega)).trans (hf49 x (by omega))).trans (hf9 x (by omega))).trans ((congrFun hM1 x).trans (va_up_ne M _ (by omega))))
          refine sk_Vv E hV (As := []) (rest := []) (kX11_keeps l_ G b_ M64 N m 0 ch tn ea sn nm wn f fs hc70 hc73 hc74 (by omega)) (cwV 0 S.2.2.2.2 gX11_tell_X11_keeps rfl rfl rfl (by decide +kernel) ⟨Nat.le_of_ble_eq_true rfl, Nat.le_of_ble_eq_true rfl⟩) (ci := 9) hc70 rfl rfl rfl hl.1 (Nat.le_of_ble_eq_true rfl) dX11_tell_72 (c1 := 0) (s1 := 0) ⟨⟨rfl, rfl⟩, by decide, by decide⟩ (fun M75 N76 H locs hp77 hV => ?_)
          obtain ⟨hN79, hc80, hc81, hf82⟩ := hp77
          rw [hN79] at hV
          refine lv_aload_n hx_ hb_ dX11_tell_75 rfl (lv_at hl 0 rfl) ?_
          refine sc_get (ci := 9) (C := RX11) (T := TX11) (n := 22) S hK hV inX11_ hc80 rfl 1 (by decide) (S.2.2.2.2 _ (List.mem_of_getElem? (i := 2) rfl)) rfl rfl dX11_tell_76 ?_
          refine si_sipush S dX11_tell_79 (by decide) ?_
          have hc83 : M75 (m + 1) = some (sArr G 574 f) := (hf82 (m + 1) (by omega) (by omega)).trans hc73
          refine sc_iald S hK hV hc83 (by omega) dX11_tell_82 ?_
          refine lv_istore (lv' := [(4, .int (sI (f 570))), (0, .ref m), (1, .int (sI s)), (2, .int (sI d)), (3, .int (sI h))]) hx_ hb_ dX11_tell_83 hl (by decide) rfl (fun ls hl => ?_)
          refine lv_aload_n hx_ hb_ dX11_tell_85 rfl (lv_at hl 1 rfl) ?_
          refine sc_get (ci := 9) (C := RX11) (T := TX11) (n := 22) S hK hV inX11_ hc80 rfl 1 (by decide) (S.2.2.2.2 _ (List.mem_of_getElem? (i := 2) rfl)) rfl rfl dX11_tell_86 ?_
          refine si_sipush S dX11_tell_89 (by decide) ?_
          refine lv_dup2_11 hx_ hb_ dX11_tell_92 rfl rfl ?_
          refine sc_iald S hK hV hc83 (by omega) dX11_tell_93 ?_
          refine si_const S dX11_tell_94 ?_
          refine si_add S dX11_tell_95 ?_
          refine sc_iast S hK hV hc83 (by omega) dX11_tell_96 (fun M84 H locs hM84 hV => ?_)
          have hc85 : M84 (m + 1) = some (sArr G 574 (iup f 571 ((f 571) + 1))) := (congrFun hM84 (m + 1)).trans (va_up_self M75 (m + 1) _)
          refine lv_aload_n hx_ hb_ dX11_tell_97 rfl (lv_at hl 1 rfl) ?_
          have hc86 : M84 m = some (mO m 0 (chn ch) tn ea sn nm wn) := ((congrFun hM84 m).trans (va_up_ne M75 _ (by omega))).trans hc80
          refine sc_get (ci := 9) (C := RX11) (T := TX11) (n := 22) S hK hV inX11_ hc86 rfl 1 (by decide) (S.2.2.2.2 _ (List.mem_of_getElem? (i := 2) rfl)) rfl rfl dX11_tell_98 ?_
          refine si_sipush S dX11_tell_101 (by decide) ?_
          refine lv_iload hx_ hb_ dX11_tell_104 (lv_at hl 0 rfl) ?_
          refine si_add S dX11_tell_106 ?_
          refine lv_iload_n hx_ hb_ dX11_tell_107 rfl (lv_at hl 2 rfl) ?_
          refine sc_iast S hK hV hc85 (by omega) dX11_tell_108 (fun M87 H locs hM87 hV => ?_)
          have hc88 : M87 (m + 1) = some (sArr G 574 (iup (iup f 571 ((f 571) + 1)) (164 + (f 570)) s)) := (congrFun hM87 (m + 1)).trans (va_up_self M84 (m + 1) _)
          refine lv_aload_n hx_ hb_ dX11_tell_109 rfl (lv_at hl 1 rfl) ?_
          have hc89 : M87 m = some (mO m 0 (chn ch) tn ea sn nm wn) := ((congrFun hM87 m).trans (va_up_ne M84 _ (by omega))).trans hc86
          refine sc_get (ci := 9) (C := RX11) (T := TX11) (n := 22) S hK hV inX11_ hc89 rfl 1 (by decide) (S.2.2.2.2 _ (List.mem_of_getElem? (i := 2) rfl)) rfl rfl dX11_tell_110 ?_
          refine si_sipush S dX11_tell_113 (by decide) ?_
          refine lv_iload hx_ hb_ dX11_tell_116 (lv_at hl 0 rfl) ?_
          refine si_add S dX11_tell_118 ?_
          refine lv_iload_n hx_ hb_ dX11_tell_119 rfl (lv_at hl 3 rfl) ?_
          refine sk_SP E hV (As := [.int (sI d)]) (rest := [.int (sI (224 + (f 570))), .ref (m + 1)]) (kX11_dayOf l_ G b_ M87 N d (by omega)) (va_cwS 1 S.2.2.2.2 gX11_tell_X11_dayOf rfl rfl rfl (by decide +kernel) ⟨Nat.le_of_ble_eq_true rfl, Nat.le_of_ble_eq_true rfl⟩) rfl rfl hl.1 (Nat.le_of_ble_eq_true rfl) dX11_tell_120 (c1 := 0) (s1 := 0) ⟨⟨rfl, rfl⟩, by decide, by decide⟩ (fun H locs hV => ?_)
          refine sc_iast S hK hV hc88 (by omega) dX11_tell_123 (fun M90 H locs hM90 hV => ?_)
          have hc91 : M90 (m + 1) = some (sArr G 574 (iup (iup (iup f 571 ((f 571) + 1)) (164 + (f 570)) s) (224 + (f 570)) (dayI d + 3652))) := (congrFun hM90 (m + 1)).trans (va_up_self M87 (m + 1) _)
          refine lv_aload_n hx_ hb_ dX11_tell_124 rfl (lv_at hl 1 rfl) ?_
          have hc92 : M90 m = some (mO m 0 (chn ch) tn ea sn nm wn) := ((congrFun hM90 m).trans (va_up_ne M87 _ (by omega))).trans hc89
          refine sc_get (ci := 9) (C := RX11) (T := TX11) (n := 22) S hK hV inX11_ hc92 rfl 1 (by decide) (S.2.2.2.2 _ (List.mem_of_getElem? (i := 2) rfl)) rfl rfl dX11_tell_125 ?_
          refine si_sipush S dX11_tell_128 (by decide) ?_
          refine lv_iload hx_ hb_ dX11_tell_131 (lv_at hl 0 rfl) ?_
          refine si_add S dX11_tell_133 ?_
          refine lv_iload_n hx_ hb_ dX11_tell_134 rfl (lv_at hl 4 rfl) ?_
          refine sc_iast S hK hV hc91 (by omega) dX11_tell_135 (fun M93 H locs hM93 hV => ?_)
          have hc94 : M93 (m + 1) = some (sArr G 574 (iup (iup (iup (iup f 571 ((f 571) + 1)) (164 + (f 570)) s) (224 + (f 570)) (dayI d + 3652)) (284 + (f 570)) h)) := (congrFun hM93 (m + 1)).trans (va_up_self M90 (m + 1) _)
          refine lv_aload_n hx_ hb_ dX11_tell_136 rfl (lv_at hl 1 rfl) ?_
          have hc95 : M93 m = some (mO m 0 (chn ch) tn ea sn nm wn) := ((congrFun hM93 m).trans (va_up_ne M90 _ (by omega))).trans hc92
          refine sc_get (ci := 9) (C := RX11) (T := TX11) (n := 22) S hK hV inX11_ hc95 rfl 1 (by decide) (S.2.2.2.2 _ (List.mem_of_getElem? (i := 2) rfl)) rfl rfl dX11_tell_137 ?_
          refine si_sipush S dX11_tell_140 (by decide) ?_
          refine lv_iload hx_ hb_ dX11_tell_143 (lv_at hl 0 rfl) ?_
          refine si_add S dX11_tell_145 ?_
          refine lv_aload_n hx_ hb_ dX11_tell_146 rfl (lv_at hl 1 rfl) ?_
          refine sc_get (ci := 9) (C := RX11) (T := TX11) (n := 22) S hK hV inX11_ hc95 rfl 1 (by decide) (S.2.2.2.2 _ (List.mem_of_getElem? (i := 2) rfl)) rfl rfl dX11_tell_147 ?_
          refine si_sipush S dX11_tell_150 (by decide) ?_
          refine sc_iald S hK hV hc94 (by omega) dX11_tell_153 ?_
          rw [show (iup (iup (iup (iup f 571 ((f 571) + 1)) (164 + (f 570)) s) (224 + (f 570)) (dayI d + 3652)) (284 + (f 570)) h) 571 = f 571 + 1 from by unfold iup; (repeat (first | rw [if_pos (by omega)] | rw [if_neg (by omega)]))]
          refine sc_iast S hK hV hc94 (by omega) dX11_tell_154 (fun M96 H locs hM96 hV => ?_)
          have hc97 : M96 (m + 1) = some (sArr G 574 (iup (iup (iup (iup (iup f 571 ((f 571) + 1)) (164 + (f 570)) s) (224 + (f 570)) (dayI d + 3652)) (284 + (f 570)) h) (344 + (f 570)) (f 571 + 1))) := (congrFun hM96 (m + 1)).trans (va_up_self M93 (m + 1) _)
          refine lv_aload_n hx_ hb_ dX11_tell_155 rfl (lv_at hl 1 rfl) ?_
          have hc98 : M96 m = some (mO m 0 (chn ch) tn ea sn nm wn) := ((congrFun hM96 m).trans (va_up_ne M93 _ (by omega))).trans hc95
          refine sc_get (ci := 9) (C := RX11) (T := TX11) (n := 22) S hK hV inX11_ hc98 rfl 1 (by decide) (S.2.2.2.2 _ (List.mem_of_getElem? (i := 2) rfl)) rfl rfl dX11_tell_156 ?_
          refine si_sipush S dX11_tell_159 (by decide) ?_
          refine lv_iload hx_ hb_ dX11_tell_162 (lv_at hl 0 rfl) ?_
          refine si_add S dX11_tell_164 ?_
          refine si_const S dX11_tell_165 ?_
          refine sc_iast S hK hV hc97 (by omega) dX11_tell_166 (fun M99 H locs hM99 hV => ?_)
          have hc100 : M99 (m + 1) = some (sArr G 574 (iup (iup (iup (iup (iup (iup f 571 ((f 571) + 1)) (164 + (f 570)) s) (224 + (f 570)) (dayI d + 3652)) (284 + (f 570)) h) (344 + (f 570)) (f 571 + 1)) (404 + (f 570)) 0)) := (congrFun hM99 (m + 1)).trans (va_up_self M96 (m + 1) _)
          refine lv_aload_n hx_ hb_ dX11_tell_167 rfl (lv_at hl 1 rfl) ?_
          have hc101 : M99 m = some (mO m 0 (chn ch) tn ea sn nm wn) := ((congrFun hM99 m).trans (va_up_ne M96 _ (by omega))).trans hc98
          refine sc_get (ci := 9) (C := RX11) (T := TX11) (n := 22) S hK hV inX11_ hc101 rfl 1 (by decide) (S.2.2.2.2 _ (List.mem_of_getElem? (i := 2) rfl)) rfl rfl dX11_tell_168 ?_
          refine si_sipush S dX11_tell_171 (by decide) ?_
          refine lv_dup2_11 hx_ hb_ dX11_tell_174 rfl rfl ?_
          refine sc_iald S hK hV hc100 (by omega) dX11_tell_175 ?_
          rw [show (iup (iup (iup (iup (iup (iup f 571 ((f 571) + 1)) (164 + (f 570)) s) (224 + (f 570)) (dayI d + 3652)) (284 + (f 570)) h) (344 + (f 570)) (f 571 + 1)) (404 + (f 570)) 0) 570 = f 570 from by unfold iup; (repeat (first | rw [if_pos (by omega)] | rw [if_neg (by omega)]))]
          refine si_const S dX11_tell_176 ?_
          refine si_add S dX11_tell_177 ?_
          refine sc_iast S hK hV hc100 (by omega) dX11_tell_178 (fun M102 H locs hM102 hV => ?_)
          have hc103 : M102 (m + 1) = some (sArr G 574 (iup (iup (iup (iup (iup (iup (iup f 571 ((f 571) + 1)) (164 + (f 570)) s) (224 + (f 570)) (dayI d + 3652)) (284 + (f 570)) h) (344 + (f 570)) (f 571 + 1)) (404 + (f 570)) 0) 570 ((f 570) + 1))) := (congrFun hM102 (m + 1)).trans (va_up_self M99 (m + 1) _)
          refine lv_iload hx_ hb_ dX11_tell_179 (lv_at hl 0 rfl) ?_
          have hc104 : M102 m = some (mO m 0 (chn ch) tn ea sn nm wn) := ((congrFun hM102 m).trans (va_up_ne M99 _ (by omega))).trans hc101
          have hc105 : svC G M102 (m + 2) (chn ch) (fsn ch fs f) := hc81.fr (fun x q8 q9 => (((((((congrFun hM102 x).trans (va_up_ne M99 _ (by omega))).trans ((congrFun hM99 x).trans (va_up_ne M96 _ (by omega)))).trans ((congrFun hM96 x).trans (va_up_ne M93 _ (by omega)))).trans ((congrFun hM93 x).trans (va_up_ne M90 _ (by omega)))).trans ((congrFun hM90 x).trans (va_up_ne M87 _ (by omega)))).trans ((congrFun hM87 x).trans (va_up_ne M84 _ (by omega)))).trans ((congrFun hM84 x).trans (va_up_ne M75 _ (by omega))))
          exact sr_i E hQ dX11_tell_181 ⟨Nat.le_of_ble_eq_true rfl, Nat.le_of_ble_eq_true rfl⟩ hV (⟨rfl, fun x q0 q1 q2 => ((((((((((((congrFun hM102 x).trans (va_up_ne M99 _ (by omega))).trans ((congrFun hM99 x).trans (va_up_ne M96 _ (by omega)))).trans ((congrFun hM96 x).trans (va_up_ne M93 _ (by omega)))).trans ((congrFun hM93 x).trans (va_up_ne M90 _ (by omega)))).trans ((congrFun hM90 x).trans (va_up_ne M87 _ (by omega)))).trans ((congrFun hM87 x).trans (va_up_ne M84 _ (by omega)))).trans ((congrFun hM84 x).trans (va_up_ne M75 _ (by omega)))).trans (hf82 x (by omega) (by omega))).trans (hf71 x (by omega))).trans (hf49 x (by omega))).trans (hf9 x (by omega))).trans ((congrFun hM1 x).trans (va_up_ne M _ (by omega))), Or.inr (Or.inr (Or.inr (⟨(by omega), rfl, hc104, hc103, hc105⟩)))⟩)
  · rw [ez15]
    refine sz_ne (tgt := 69) S dX11_tell_10 (by decide) (by omega) (fun _ => ?_) (fun c106 => absurd c106 (by omega))
    refine si_const S dX11_tell_69 ?_
    have hc107 : M4 (m + 1) = some (sArr G 574 f) := (hf9 (m + 1) (by omega)).trans hc3
    have hc108 : svC G M4 (m + 2) ch fs := hsv.fr (fun x q8 q9 => (hf9 x (by omega)).trans ((congrFun hM1 x).trans (va_up_ne M _ (by omega))))
    exact sr_i E hQ dX11_tell_70 ⟨Nat.le_of_ble_eq_true rfl, Nat.le_of_ble_eq_true rfl⟩ hV (⟨rfl, fun x q0 q1 q2 => (hf9 x (by omega)).trans ((congrFun hM1 x).trans (va_up_ne M _ (by omega))), Or.inl ⟨(by omega), rfl, hc16, hc107, hc108⟩⟩)

abbrev rmX11_takeBack : Room := { frames := 2, cells := 0, slots := 0, locals := 62 }
set_option maxHeartbeats 4000000 in
set_option maxRecDepth 100000 in
theorem kX11_takeBack (l_ : Launch) (G : sG) (b_ : Nat) (M : sM) (N : Nat) (m : Nat) (th ch tn ea sn nm wn : Int) (f : sF) (fs : Int → sF) (a : Int) (hm0 : M m = some (mO m th ch tn ea sn nm wn)) (hm1 : M (m + 1) = some (sArr G 574 f)) (hsv : svC G M (m + 2) ch fs) (hok : sOk f) (hch : 0 ≤ ch ∧ ch ≤ 15) (hr : sR a) : cI l_ yX11_takeBack wsX11_takeBack rmX11_takeBack G b_ M N [.ref m, .int (sI a)] (fun z_ M1 N1 => N1 = N ∧ (∀ x : Nat, ¬ (x = m) → ¬ (x = m + 1) → ¬ (x = m + 2) → M1 x = M x) ∧ (((¬ (0 ≤ a ∧ a < f 570)) ∧ z_ = 0 ∧ M1 m = some (mO m 1 ch tn ea sn nm wn) ∧ M1 (m + 1) = some (sArr G 574 f) ∧ svC G M1 (m + 2) ch fs) ∨ (((0 ≤ a ∧ a < f 570) ∧ f (404 + a) ≠ 0) ∧ z_ = 0 ∧ M1 m = some (mO m 2 ch tn ea sn nm wn) ∧ M1 (m + 1) = some (sArr G 574 f) ∧ svC G M1 (m + 2) ch fs) ∨ (((0 ≤ a ∧ a < f 570) ∧ f (404 + a) = 0) ∧ z_ = f 571 + 1 ∧ M1 m = some (mO m 0 (chn ch) tn ea sn nm wn) ∧ M1 (m + 1) = some (sArr G 574 (tbF f a)) ∧ svC G M1 (m + 2) (chn ch) (fsn ch fs f)))) := by
  refine sE.ofI (cc := cX11_takeBack) (nL := 2) (ret := (some .int)) (by decide) rfl (Nat.le_of_ble_eq_true rfl) ?_
  intro p_ e_ s_ m_ args_ below_ meth_ c_ ls Q hQ E hl
  have E : sE p_ l_ e_ rmX11_takeBack s_ m_ args_ below_ meth_ c_ cX11_takeBack 2 wsX11_takeBack RX11 "takeBack" (some .int) G b_ M N := E
  have S := E.1
  have hx_ := S.1
  have hb_ := S.2.1
  have hK := E.2.2.2.2.1
  have hV := E.2.2.2.2.2.2
  have hl : lv_has ls 2 [(0, .ref m), (1, .int (sI a))] := hl
  have inX11_ : ∀ w ∈ wsX110, w ∈ wsX11_takeBack := fun _ h => List.mem_cons_of_mem _ (List.mem_append_right _ h)
  have kn0 := sOk_N hok
  refine lv_aload_n hx_ hb_ dX11_takeBack_0 rfl (lv_at hl 0 rfl) ?_
  refine si_const S dX11_takeBack_1 ?_
  refine sc_put (ci := 9) (C := RX11) (T := TX11) (n := 22) S hK hV inX11_ tyX11_ok nmX11 hm0 rfl 0 (by decide) (S.2.2.2.2 _ (List.mem_of_getElem? (i := 1) rfl)) rfl rfl rfl rfl (Nat.le_of_ble_eq_true rfl) dX11_takeBack_2 (fs1 := [.int (sI 0), .ref (m + 1), .ref (m + 2), .int (sI ch), .ref (m + 3), .int (sI tn), .int (sI ea), .ref (m + 4), .ref (m + 5), .ref (m + 6), .ref (m + 7), .ref (m + 8), .ref (m + 9), .int (sI sn), .ref (m + 10), .ref (m + 11), .ref (m + 12), .ref (m + 13), .int (sI nm), .ref (m + 14), .ref (m + 15), .int (sI wn)]) rfl (fun M1 H locs hM1 hV => ?_)
  have hc2 : M1 m = some (mO m 0 ch tn ea sn nm wn) := (congrFun hM1 m).trans (va_up_self M m _)
  refine lv_aload_n hx_ hb_ dX11_takeBack_5 rfl (lv_at hl 0 rfl) ?_
  refine lv_iload_n hx_ hb_ dX11_takeBack_6 rfl (lv_at hl 1 rfl) ?_
  refine si_const S dX11_takeBack_7 ?_
  refine lv_aload_n hx_ hb_ dX11_takeBack_8 rfl (lv_at hl 0 rfl) ?_
  refine sc_get (ci := 9) (C := RX11) (T := TX11) (n := 22) S hK hV inX11_ hc2 rfl 1 (by decide) (S.2.2.2.2 _ (List.mem_of_getElem? (i := 2) rfl)) rfl rfl dX11_takeBack_9 ?_
  refine si_sipush S dX11_takeBack_12 (by decide) ?_
  have hc3 : M1 (m + 1) = some (sArr G 574 f) := ((congrFun hM1 (m + 1)).trans (va_up_ne M _ (by omega))).trans hm1
  refine sc_iald S hK hV hc3 (by omega) dX11_takeBack_15 ?_
  refine si_const S dX11_takeBack_16 ?_
  refine si_sub S dX11_takeBack_17 ?_
  refine sk_SP E hV (As := [.int (sI a), .int (sI 0), .int (sI ((f 570) - 1))]) (rest := [.ref m]) (kX11_in l_ G b_ M1 N a 0 ((f 570) - 1) (by omega)) (va_cwS 3 S.2.2.2.2 gX11_takeBack_X11_in rfl rfl rfl (by decide +kernel) ⟨Nat.le_of_ble_eq_true rfl, Nat.le_of_ble_eq_true rfl⟩) rfl rfl hl.1 (Nat.le_of_ble_eq_true rfl) dX11_takeBack_18 (c1 := 0) (s1 := 0) ⟨⟨rfl, rfl⟩, by decide, by decide⟩ (fun H locs hV => ?_)
  refine si_const S dX11_takeBack_21 ?_
  refine sk_Vi E hV (As := [.int (sI (bI (0 ≤ a ∧ a ≤ ((f 570) - 1)))), .int (sI 1)]) (rest := []) (kX11_fails l_ G b_ M1 N m ch tn ea sn nm wn 1 (0 ≤ a ∧ a ≤ ((f 570) - 1)) hc2 (by omega)) (cwV 2 S.2.2.2.2 gX11_takeBack_X11_fails rfl rfl rfl (by decide +kernel) ⟨Nat.le_of_ble_eq_true rfl, Nat.le_of_ble_eq_true rfl⟩) (ci := 9) hc2 rfl rfl rfl hl.1 (Nat.le_of_ble_eq_true rfl) dX11_takeBack_22 (c1 := 0) (s1 := 0) ⟨⟨rfl, rfl⟩, by decide, by decide⟩ (fun z7 M4 N5 H locs hp6 hV => ?_)
  obtain ⟨hN8, hf9, hq10⟩ := hp6
  rw [hN8] at hV
  rcases hq10 with ⟨c11, ez12, hc13⟩ | ⟨c14, ez15, hc16⟩
  · rw [ez12]
    refine sz_ne (tgt := 54) S dX11_takeBack_25 (by decide) (by omega) (fun c17 => absurd c17 (by omega)) (fun _ => ?_)
    refine lv_aload_n hx_ hb_ dX11_takeBack_28 rfl (lv_at hl 0 rfl) ?_
    refine lv_aload_n hx_ hb_ dX11_takeBack_29 rfl (lv_at hl 0 rfl) ?_
    refine sc_get (ci := 9) (C := RX11) (T := TX11) (n := 22) S hK hV inX11_ hc13 rfl 1 (by decide) (S.2.2.2.2 _ (List.mem_of_getElem? (i := 2) rfl)) rfl rfl dX11_takeBack_30 ?_
    refine si_sipush S dX11_takeBack_33 (by decide) ?_
    refine lv_iload_n hx_ hb_ dX11_takeBack_36 rfl (lv_at hl 1 rfl) ?_
    refine si_add S dX11_takeBack_37 ?_
    have hc18 : M4 (m + 1) = some (sArr G 574 f) := (hf9 (m + 1) (by omega)).trans hc3
    refine sc_iald S hK hV hc18 (by omega) dX11_takeBack_38 ?_
    have kn19 : 0 ≤ f (404 + a) ∧ f (404 + a) ≤ f 571 := (sOk_T hok a (by omega) (by omega)).2.2.2.2
    refine sz_ne (tgt := 46) S dX11_takeBack_39 (by decide) (by omega) (fun c20 => ?_) (fun c20 => ?_)
    · refine si_const S dX11_takeBack_46 ?_
      refine si_const S dX11_takeBack_47 ?_
      refine sk_Vi E hV (As := [.int (sI 0), .int (sI 2)]) (rest := []) (kX11_fails0 l_ G b_ M4 N m ch tn ea sn nm wn 2 hc13 (by omega)) (cwV 2 S.2.2.2.2 gX11_takeBack_X11_fails rfl rfl rfl (by decide +kernel) ⟨Nat.le_of_ble_eq_true rfl, Nat.le_of_ble_eq_true rfl⟩) (ci := 9) hc13 rfl rfl rfl hl.1 (Nat.le_of_ble_eq_true rfl) dX11_takeBack_48 (c1 := 0) (s1 := 0) ⟨⟨rfl, rfl⟩, by decide, by decide⟩ (fun z24 M21 N22 H locs hp23 hV => ?_)
      obtain ⟨ez25, hN26, hc27, hf28⟩ := hp23
      rw [hN26] at hV
      rw [ez25]
      refine sz_eq (tgt := 56) S dX11_takeBack_51 (by decide) (by omega) (fun c29 => absurd c29 (by omega)) (fun _ => ?_)
      refine si_const S dX11_takeBack_54 ?_
      have hc30 : M21 (m + 1) = some (sArr G 574 f) := (hf28 (m + 1) (by omega)).trans hc18
      have hc31 : svC G M21 (m + 2) ch fs := hsv.fr (fun x q8 q9 => ((hf28 x (by omega)).trans (hf9 x (by omega))).trans ((congrFun hM1 x).trans (va_up_ne M _ (by omega))))
      exact sr_i E hQ dX11_takeBack_55 ⟨Nat.le_of_ble_eq_true rfl, Nat.le_of_ble_eq_true rfl⟩ hV (⟨rfl, fun x q0 q1 q2 => ((hf28 x (by omega)).trans (hf9 x (by omega))).trans ((congrFun hM1 x).trans (va_up_ne M _ (by omega))), Or.inr (Or.inl ⟨(by omega), rfl, hc27, hc30, hc31⟩)⟩)
    · refine si_const S dX11_takeBack_42 ?_
      refine lv_goto (tgt := 47) hx_ hb_ dX11_takeBack_43 (by decide) ?_
      refine si_const S dX11_takeBack_47 ?_
      refine sk_Vi E hV (As := [.int (sI 1), .int (sI 2)]) (rest := []) (kX11_fails1 l_ G b_ M4 N m ch tn ea sn nm wn 2 hc13 (by omega)) (cwV 2 S.2.2.2.2 gX11_takeBack_X11_fails rfl rfl rfl (by decide +kernel) ⟨Nat.le_of_ble_eq_true rfl, Nat.le_of_ble_eq_true rfl⟩) (ci := 9) hc13 rfl rfl rfl hl.1 (Nat.le_of_ble_eq_true rfl) dX11_takeBack_48 (c1 := 0) (s1 := 0) ⟨⟨rfl, rfl⟩, by decide, by decide⟩ (fun z35 M32 N33 H locs hp34 hV => ?_)
      obtain ⟨ez36, hN37, hc38, hf39⟩ := hp34
      rw [hN37] at hV
      rw [ez36]
      refine sz_eq (tgt := 56) S dX11_takeBack_51 (by decide) (by omega) (fun _ => ?_) (fun c40 => absurd c40 (by omega))
      refine lv_aload_n hx_ hb_ dX11_takeBack_56 rfl (lv_at hl 0 rfl) ?_
      have hc41 : M32 (m + 1) = some (sArr G 574 f) := (hf39 (m + 1) (by omega)).trans hc18
      have hc42 : svC G M32 (m + 2) ch fs := hsv.fr (fun x q8 q9 => ((hf39 x (by omega)).trans (hf9 x (by omega))).trans ((congrFun hM1 x).trans (va_up_ne M _ (by omega))))
      refine sk_Vv E hV (As := []) (rest := []) (kX11_keeps l_ G b_ M32 N m 0 ch tn ea sn nm wn f fs hc38 hc41 hc42 (by omega)) (cwV 0 S.2.2.2.2 gX11_takeBack_X11_keeps rfl rfl rfl (by decide +kernel) ⟨Nat.le_of_ble_eq_true rfl, Nat.le_of_ble_eq_true rfl⟩) (ci := 9) hc38 rfl rfl rfl hl.1 (Nat.le_of_ble_eq_true rfl) dX11_takeBack_57 (c1 := 0) (s1 := 0) ⟨⟨rfl, rfl⟩, by decide, by decide⟩ (fun M43 N44 H locs hp45 hV => ?_)
      obtain ⟨hN47, hc48, hc49, hf50⟩ := hp45
      rw [hN47] at hV
      refine lv_aload_n hx_ hb_ dX11_takeBack_60 rfl (lv_at hl 0 rfl) ?_
      refine sc_get (ci := 9) (C := RX11) (T := TX11) (n := 22) S hK hV inX11_ hc48 rfl 1 (by decide) (S.2.2.2.2 _ (List.mem_of_getElem? (i := 2) rfl)) rfl rfl dX11_takeBack_61 ?_
      refine si_sipush S dX11_takeBack_64 (by decide) ?_
      refine lv_dup2_11 hx_ hb_ dX11_takeBack_67 rfl rfl ?_
      have hc51 : M43 (m + 1) = some (sArr G 574 f) := (hf50 (m + 1) (by omega) (by omega)).trans hc41
      refine sc_iald S hK hV hc51 (by omega) dX11_takeBack_68 ?_
      refine si_const S dX11_takeBack_69 ?_
      refine si_add S dX11_takeBack_70 ?_
      refine sc_iast S hK hV hc51 (by omega) dX11_takeBack_71 (fun M52 H locs hM52 hV => ?_)
      have hc53 : M52 (m + 1) = some (sArr G 574 (iup f 571 ((f 571) + 1))) := (congrFun hM52 (m + 1)).trans (va_up_self M43 (m + 1) _)
      refine lv_aload_n hx_ hb_ dX11_takeBack_72 rfl (lv_at hl 0 rfl) ?_
      have hc54 : M52 m = some (mO m 0 (chn ch) tn ea sn nm wn) := ((congrFun hM52 m).trans (va_up_ne M43 _ (by omega))).trans hc48
      refine sc_get (ci := 9) (C := RX11) (T := TX11) (n := 22) S hK hV inX11_ hc54 rfl 1 (by decide) (S.2.2.2.2 _ (List.mem_of_getElem? (i := 2) rfl)) rfl rfl dX11_takeBack_73 ?_
      refine si_sipush S dX11_takeBack_76 (by decide) ?_
      refine lv_iload_n hx_ hb_ dX11_takeBack_79 rfl (lv_at hl 1 rfl) ?_
      refine si_add S dX11_takeBack_80 ?_
      refine lv_aload_n hx_ hb_ dX11_takeBack_81 rfl (lv_at hl 0 rfl) ?_
      refine sc_get (ci := 9) (C := RX11) (T := TX11) (n := 22) S hK hV inX11_ hc54 rfl 1 (by decide) (S.2.2.2.2 _ (List.mem_of_getElem? (i := 2) rfl)) rfl rfl dX11_takeBack_82 ?_
      refine si_sipush S dX11_takeBack_85 (by decide) ?_
      refine sc_iald S hK hV hc53 (by omega) dX11_takeBack_88 ?_
      rw [show (iup f 571 ((f 571) + 1)) 571 = f 571 + 1 from by unfold iup; (repeat (first | rw [if_pos (by omega)] | rw [if_neg (by omega)]))]
      refine sc_iast S hK hV hc53 (by omega) dX11_takeBack_89 (fun M55 H locs hM55 hV => ?_)
      have hc56 : M55 (m + 1) = some (sArr G 574 (iup (iup f 571 ((f 571) + 1)) (404 + a) (f 571 + 1))) := (congrFun hM55 (m + 1)).trans (va_up_self M52 (m + 1) _)
      refine lv_aload_n hx_ hb_ dX11_takeBack_90 rfl (lv_at hl 0 rfl) ?_
      have hc57 : M55 m = some (mO m 0 (chn ch) tn ea sn nm wn) := ((congrFun hM55 m).trans (va_up_ne M52 _ (by omega))).trans hc54
      refine sc_get (ci := 9) (C := RX11) (T := TX11) (n := 22) S hK hV inX11_ hc57 rfl 1 (by decide) (S.2.2.2.2 _ (List.mem_of_getElem? (i := 2) rfl)) rfl rfl dX11_takeBack_91 ?_
      refine si_sipush S dX11_takeBack_94 (by decide) ?_
      refine sc_iald S hK hV hc56 (by omega) dX11_takeBack_97 ?_
      rw [show (iup (iup f 571 ((f 571) + 1)) (404 + a) (f 571 + 1)) 571 = f 571 + 1 from by unfold iup; (repeat (first | rw [if_pos (by omega)] | rw [if_neg (by omega)]))]
      have hc58 : svC G M55 (m + 2) (chn ch) (fsn ch fs f) := hc49.fr (fun x q8 q9 => ((congrFun hM55 x).trans (va_up_ne M52 _ (by omega))).trans ((congrFun hM52 x).trans (va_up_ne M43 _ (by omega))))
      exact sr_i E hQ dX11_takeBack_98 ⟨Nat.le_of_ble_eq_true rfl, Nat.le_of_ble_eq_true rfl⟩ hV (⟨rfl, fun x q0 q1 q2 => ((((((congrFun hM55 x).trans (va_up_ne M52 _ (by omega))).trans ((congrFun hM52 x).trans (va_up_ne M43 _ (by omega)))).trans (hf50 x (by omega) (by omega))).trans (hf39 x (by omega))).trans (hf9 x (by omega))).trans ((congrFun hM1 x).trans (va_up_ne M _ (by omega))), Or.inr (Or.inr (⟨(by omega), rfl, hc57, hc56, hc58⟩))⟩)
  · rw [ez15]
    refine sz_ne (tgt := 54) S dX11_takeBack_25 (by decide) (by omega) (fun _ => ?_) (fun c59 => absurd c59 (by omega))
    refine si_const S dX11_takeBack_54 ?_
    have hc60 : M4 (m + 1) = some (sArr G 574 f) := (hf9 (m + 1) (by omega)).trans hc3
    have hc61 : svC G M4 (m + 2) ch fs := hsv.fr (fun x q8 q9 => (hf9 x (by omega)).trans ((congrFun hM1 x).trans (va_up_ne M _ (by omega))))
    exact sr_i E hQ dX11_takeBack_55 ⟨Nat.le_of_ble_eq_true rfl, Nat.le_of_ble_eq_true rfl⟩ hV (⟨rfl, fun x q0 q1 q2 => (hf9 x (by omega)).trans ((congrFun hM1 x).trans (va_up_ne M _ (by omega))), Or.inl ⟨(by omega), rfl, hc16, hc60, hc61⟩⟩)

abbrev rmX11_isKnown : Room := { frames := 1, cells := 0, slots := 0, locals := 40 }
set_option maxHeartbeats 4000000 in
set_option maxRecDepth 100000 in
theorem kX11_isKnown (l_ : Launch) (G : sG) (b_ : Nat) (M : sM) (N : Nat) (m : Nat) (th ch tn ea sn nm wn : Int) (f : sF) (n t : Int) (hm0 : M m = some (mO m th ch tn ea sn nm wn)) (hm1 : M (m + 1) = some (sArr G 574 f)) (hok : sOk f) (hn : 0 ≤ n ∧ n < f 570) (ht : sR t) : cP l_ yX11_isKnown wsX11_isKnown rmX11_isKnown G b_ M N [.ref m, .int (sI n), .int (sI t)] (bI (knP f n t)) := by
  refine sE.ofI (cc := cX11_isKnown) (nL := 3) (ret := (some .boolean)) (by decide) rfl (Nat.le_of_ble_eq_true rfl) ?_
  intro p_ e_ s_ m_ args_ below_ meth_ c_ ls Q hQ E hl
  have E : sE p_ l_ e_ rmX11_isKnown s_ m_ args_ below_ meth_ c_ cX11_isKnown 3 wsX11_isKnown RX11 "isKnown" (some .boolean) G b_ M N := E
  have S := E.1
  have hx_ := S.1
  have hb_ := S.2.1
  have hK := E.2.2.2.2.1
  have hV := E.2.2.2.2.2.2
  have hl : lv_has ls 3 [(0, .ref m), (1, .int (sI n)), (2, .int (sI t))] := hl
  have inX11_ : ∀ w ∈ wsX110, w ∈ wsX11_isKnown := fun _ h => List.mem_cons_of_mem _ (List.mem_append_right _ h)
  have kn0 := sOk_N hok
  refine lv_aload_n hx_ hb_ dX11_isKnown_0 rfl (lv_at hl 0 rfl) ?_
  refine sc_get (ci := 9) (C := RX11) (T := TX11) (n := 22) S hK hV inX11_ hm0 rfl 1 (by decide) (S.2.2.2.2 _ (List.mem_of_getElem? (i := 1) rfl)) rfl rfl dX11_isKnown_1 ?_
  refine si_sipush S dX11_isKnown_4 (by decide) ?_
  refine lv_iload_n hx_ hb_ dX11_isKnown_7 rfl (lv_at hl 1 rfl) ?_
  refine si_add S dX11_isKnown_8 ?_
  refine sc_iald S hK hV hm1 (by omega) dX11_isKnown_9 ?_
  have kn1 : 1 ≤ f (344 + n) ∧ f (344 + n) ≤ f 571 := (sOk_T hok n (by omega) (by omega)).2.2.2.1
  refine lv_iload_n hx_ hb_ dX11_isKnown_10 rfl (lv_at hl 2 rfl) ?_
  refine sb_gt (tgt := 45) S dX11_isKnown_11 (by decide) (by omega) (fun c2 => ?_) (fun c2 => ?_)
  · refine si_const S dX11_isKnown_45 ?_
    exact sr_z E hQ (Or.inl rfl) dX11_isKnown_46 ⟨Nat.le_of_ble_eq_true rfl, Nat.le_of_ble_eq_true rfl⟩ hV (⟨(bI_f (by unfold knP; omega)).symm, rfl, rfl⟩)
  · refine lv_aload_n hx_ hb_ dX11_isKnown_14 rfl (lv_at hl 0 rfl) ?_
    refine sc_get (ci := 9) (C := RX11) (T := TX11) (n := 22) S hK hV inX11_ hm0 rfl 1 (by decide) (S.2.2.2.2 _ (List.mem_of_getElem? (i := 1) rfl)) rfl rfl dX11_isKnown_15 ?_
    refine si_sipush S dX11_isKnown_18 (by decide) ?_
    refine lv_iload_n hx_ hb_ dX11_isKnown_21 rfl (lv_at hl 1 rfl) ?_
    refine si_add S dX11_isKnown_22 ?_
    refine sc_iald S hK hV hm1 (by omega) dX11_isKnown_23 ?_
    have kn3 : 0 ≤ f (404 + n) ∧ f (404 + n) ≤ f 571 := (sOk_T hok n (by omega) (by omega)).2.2.2.2
    refine sz_eq (tgt := 41) S dX11_isKnown_24 (by decide) (by omega) (fun c4 => ?_) (fun c4 => ?_)
    · refine si_const S dX11_isKnown_41 ?_
      refine lv_goto (tgt := 46) hx_ hb_ dX11_isKnown_42 (by decide) ?_
      exact sr_z E hQ (Or.inr rfl) dX11_isKnown_46 ⟨Nat.le_of_ble_eq_true rfl, Nat.le_of_ble_eq_true rfl⟩ hV (⟨(bI_t (by unfold knP; omega)).symm, rfl, rfl⟩)
    · refine lv_aload_n hx_ hb_ dX11_isKnown_27 rfl (lv_at hl 0 rfl) ?_
      refine sc_get (ci := 9) (C := RX11) (T := TX11) (n := 22) S hK hV inX11_ hm0 rfl 1 (by decide) (S.2.2.2.2 _ (List.mem_of_getElem? (i := 1) rfl)) rfl rfl dX11_isKnown_28 ?_
      refine si_sipush S dX11_isKnown_31 (by decide) ?_
      refine lv_iload_n hx_ hb_ dX11_isKnown_34 rfl (lv_at hl 1 rfl) ?_
      refine si_add S dX11_isKnown_35 ?_
      refine sc_iald S hK hV hm1 (by omega) dX11_isKnown_36 ?_
      have kn5 : 0 ≤ f (404 + n) ∧ f (404 + n) ≤ f 571 := (sOk_T hok n (by omega) (by omega)).2.2.2.2
      refine lv_iload_n hx_ hb_ dX11_isKnown_37 rfl (lv_at hl 2 rfl) ?_
      refine sb_le (tgt := 45) S dX11_isKnown_38 (by decide) (by omega) (fun c6 => ?_) (fun c6 => ?_)
      · refine si_const S dX11_isKnown_45 ?_
        exact sr_z E hQ (Or.inl rfl) dX11_isKnown_46 ⟨Nat.le_of_ble_eq_true rfl, Nat.le_of_ble_eq_true rfl⟩ hV (⟨(bI_f (by unfold knP; omega)).symm, rfl, rfl⟩)
      · refine si_const S dX11_isKnown_41 ?_
        refine lv_goto (tgt := 46) hx_ hb_ dX11_isKnown_42 (by decide) ?_
        exact sr_z E hQ (Or.inr rfl) dX11_isKnown_46 ⟨Nat.le_of_ble_eq_true rfl, Nat.le_of_ble_eq_true rfl⟩ hV (⟨(bI_t (by unfold knP; omega)).symm, rfl, rfl⟩)

abbrev rmX11_hand : Room := { frames := 2, cells := 0, slots := 0, locals := 62 }
set_option maxHeartbeats 4000000 in
set_option maxRecDepth 100000 in
theorem kX11_hand (l_ : Launch) (G : sG) (b_ : Nat) (M : sM) (N : Nat) (m : Nat) (th ch tn ea sn nm wn : Int) (f : sF) (s x t : Int) (hm0 : M m = some (mO m th ch tn ea sn nm wn)) (hm1 : M (m + 1) = some (sArr G 574 f)) (hok : sOk f) (hr : sR s ∧ sR x ∧ sR t) : cP l_ yX11_hand wsX11_hand rmX11_hand G b_ M N [.ref m, .int (sI s), .int (sI x), .int (sI t)] (hnd f s x t) := by
  refine sE.ofI (cc := cX11_hand) (nL := 6) (ret := (some .int)) (by decide) rfl (Nat.le_of_ble_eq_true rfl) ?_
  intro p_ e_ s_ m_ args_ below_ meth_ c_ ls Q hQ E hl
  have E : sE p_ l_ e_ rmX11_hand s_ m_ args_ below_ meth_ c_ cX11_hand 6 wsX11_hand RX11 "hand" (some .int) G b_ M N := E
  have S := E.1
  have hx_ := S.1
  have hb_ := S.2.1
  have hK := E.2.2.2.2.1
  have hV := E.2.2.2.2.2.2
  have hl : lv_has ls 6 [(0, .ref m), (1, .int (sI s)), (2, .int (sI x)), (3, .int (sI t))] := hl
  have inX11_ : ∀ w ∈ wsX110, w ∈ wsX11_hand := fun _ h => List.mem_cons_of_mem _ (List.mem_append_right _ h)
  have kn0 := sOk_N hok
  refine si_const S dX11_hand_0 ?_
  refine lv_istore (lv' := [(4, .int (sI (-1))), (0, .ref m), (1, .int (sI s)), (2, .int (sI x)), (3, .int (sI t))]) hx_ hb_ dX11_hand_1 hl (by decide) rfl (fun ls hl => ?_)
  refine si_const S dX11_hand_3 ?_
  refine lv_istore (lv' := [(5, .int (sI 0)), (4, .int (sI (-1))), (0, .ref m), (1, .int (sI s)), (2, .int (sI x)), (3, .int (sI t))]) hx_ hb_ dX11_hand_4 hl (by decide) rfl (fun ls hl => ?_)
  have L6 : ∀ (fuel : Nat) (q : Int) (i : Int)  (H : Heap) (locs : List Loc) (ls : Array Slot), ((f 570 - i).toNat) < fuel → (0 ≤ i ∧ i ≤ f 570) → (q = hiI f s x t i) → sV G b_ M N s_ H locs → lv_has ls 6 [(0, .ref m), (1, .int (sI s)), (2, .int (sI x)), (3, .int (sI t)), (4, .int (sI q)), (5, .int (sI i))] → W p_ l_ e_ rmX11_hand s_ m_ args_ below_ meth_ c_ H locs 0 0 Q (F0 m_ 6 ls []) := by
    intro fuel
    induction fuel with
    | zero => intro q i H locs ls hmu; exact absurd hmu (Nat.not_lt_zero _)
    | succ fuel ih6 =>
      intro q i H locs ls hmu6 hv6_0 hi  hV hl
      have hq := hiI_r f s x t i (by omega)
      rw [← hi] at hq
      refine lv_iload hx_ hb_ dX11_hand_6 (lv_at hl 5 rfl) ?_
      refine lv_aload_n hx_ hb_ dX11_hand_8 rfl (lv_at hl 0 rfl) ?_
      refine sc_get (ci := 9) (C := RX11) (T := TX11) (n := 22) S hK hV inX11_ hm0 rfl 1 (by decide) (S.2.2.2.2 _ (List.mem_of_getElem? (i := 1) rfl)) rfl rfl dX11_hand_9 ?_
      refine si_sipush S dX11_hand_12 (by decide) ?_
      refine sc_iald S hK hV hm1 (by omega) dX11_hand_15 ?_
      refine sb_ge (tgt := 103) S dX11_hand_16 (by decide) (by omega) (fun c1 => ?_) (fun c1 => ?_)
      · have ei : i = f 570 := by omega
        rw [ei] at hi hq
        refine lv_iload hx_ hb_ dX11_hand_103 (lv_at hl 4 rfl) ?_
        refine si_const S dX11_hand_105 ?_
        refine sb_ne (tgt := 114) S dX11_hand_106 (by decide) (by omega) (fun c2 => ?_) (fun c2 => ?_)
        · refine lv_aload_n hx_ hb_ dX11_hand_114 rfl (lv_at hl 0 rfl) ?_
          refine sc_get (ci := 9) (C := RX11) (T := TX11) (n := 22) S hK hV inX11_ hm0 rfl 1 (by decide) (S.2.2.2.2 _ (List.mem_of_getElem? (i := 1) rfl)) rfl rfl dX11_hand_115 ?_
          refine si_sipush S dX11_hand_118 (by decide) ?_
          refine lv_iload hx_ hb_ dX11_hand_121 (lv_at hl 4 rfl) ?_
          refine si_add S dX11_hand_123 ?_
          refine sc_iald S hK hV hm1 (by omega) dX11_hand_124 ?_
          have kn3 : 0 ≤ f (284 + q) ∧ f (284 + q) ≤ 6 := (sOk_T hok q (by omega) (by omega)).2.2.1
          exact sr_i E hQ dX11_hand_125 ⟨Nat.le_of_ble_eq_true rfl, Nat.le_of_ble_eq_true rfl⟩ hV (⟨by unfold hnd; rw [← hi, if_neg (by omega)], rfl, rfl⟩)
        · refine si_bipush S dX11_hand_109 (by decide) ?_
          refine lv_goto (tgt := 125) hx_ hb_ dX11_hand_111 (by decide) ?_
          exact sr_i E hQ dX11_hand_125 ⟨Nat.le_of_ble_eq_true rfl, Nat.le_of_ble_eq_true rfl⟩ hV (⟨by unfold hnd; rw [← hi, if_pos (by omega)], rfl, rfl⟩)
      · refine lv_aload_n hx_ hb_ dX11_hand_19 rfl (lv_at hl 0 rfl) ?_
        refine sc_get (ci := 9) (C := RX11) (T := TX11) (n := 22) S hK hV inX11_ hm0 rfl 1 (by decide) (S.2.2.2.2 _ (List.mem_of_getElem? (i := 1) rfl)) rfl rfl dX11_hand_20 ?_
        refine si_sipush S dX11_hand_23 (by decide) ?_
        refine lv_iload hx_ hb_ dX11_hand_26 (lv_at hl 5 rfl) ?_
        refine si_add S dX11_hand_28 ?_
        refine sc_iald S hK hV hm1 (by omega) dX11_hand_29 ?_
        have kn4 : 0 ≤ f (164 + i) ∧ f (164 + i) < f 568 := (sOk_T hok i (by omega) (by omega)).1
        refine lv_iload_n hx_ hb_ dX11_hand_30 rfl (lv_at hl 1 rfl) ?_
        refine sb_ne (tgt := 97) S dX11_hand_31 (by decide) (by omega) (fun c5 => ?_) (fun c5 => ?_)
        · refine si_inc (lv' := [(5, .int (sI (i + 1))), (0, .ref m), (1, .int (sI s)), (2, .int (sI x)), (3, .int (sI t)), (4, .int (sI q))]) S dX11_hand_97 hl (k := 5) rfl (by decide) rfl (fun ls hl => ?_)
          refine lv_goto (tgt := 6) hx_ hb_ dX11_hand_100 (by decide) ?_
          exact ih6 q (i + 1) _ _ _ (by omega) (by omega) (by rw [hiI_s f s x t i (by omega), ← hi]; first | rw [pif_t ⟨⟨by omega, by omega, by assumption⟩, by omega⟩] | rw [pif_f (fun h => by obtain ⟨⟨h1, h2, h3⟩, h4⟩ := h; first | omega | exact absurd h3 h56)]) hV (lv_sub hl [1, 2, 3, 4, 5, 0] rfl)
        · refine lv_aload_n hx_ hb_ dX11_hand_34 rfl (lv_at hl 0 rfl) ?_
          refine sc_get (ci := 9) (C := RX11) (T := TX11) (n := 22) S hK hV inX11_ hm0 rfl 1 (by decide) (S.2.2.2.2 _ (List.mem_of_getElem? (i := 1) rfl)) rfl rfl dX11_hand_35 ?_
          refine si_sipush S dX11_hand_38 (by decide) ?_
          refine lv_iload hx_ hb_ dX11_hand_41 (lv_at hl 5 rfl) ?_
          refine si_add S dX11_hand_43 ?_
          refine sc_iald S hK hV hm1 (by omega) dX11_hand_44 ?_
          have kn6 : 3652 ≤ f (224 + i) ∧ f (224 + i) ≤ 113224 := (sOk_T2 hok i (by omega) (by omega))
          refine lv_iload_n hx_ hb_ dX11_hand_45 rfl (lv_at hl 2 rfl) ?_
          refine sb_gt (tgt := 97) S dX11_hand_46 (by decide) (by omega) (fun c7 => ?_) (fun c7 => ?_)
          · refine si_inc (lv' := [(5, .int (sI (i + 1))), (0, .ref m), (1, .int (sI s)), (2, .int (sI x)), (3, .int (sI t)), (4, .int (sI q))]) S dX11_hand_97 hl (k := 5) rfl (by decide) rfl (fun ls hl => ?_)
            refine lv_goto (tgt := 6) hx_ hb_ dX11_hand_100 (by decide) ?_
            exact ih6 q (i + 1) _ _ _ (by omega) (by omega) (by rw [hiI_s f s x t i (by omega), ← hi]; first | rw [pif_t ⟨⟨by omega, by omega, by assumption⟩, by omega⟩] | rw [pif_f (fun h => by obtain ⟨⟨h1, h2, h3⟩, h4⟩ := h; first | omega | exact absurd h3 h56)]) hV (lv_sub hl [1, 2, 3, 4, 5, 0] rfl)
          · refine lv_aload_n hx_ hb_ dX11_hand_49 rfl (lv_at hl 0 rfl) ?_
            refine lv_iload hx_ hb_ dX11_hand_50 (lv_at hl 5 rfl) ?_
            refine lv_iload_n hx_ hb_ dX11_hand_52 rfl (lv_at hl 3 rfl) ?_
            refine sk_VP E hV (As := [.int (sI i), .int (sI t)]) (rest := []) (kX11_isKnown l_ G b_ M N m th ch tn ea sn nm wn f i t hm0 hm1 (by omega) (by omega) (by omega)) (cwV 2 S.2.2.2.2 gX11_hand_X11_isKnown rfl rfl rfl (by decide +kernel) ⟨Nat.le_of_ble_eq_true rfl, Nat.le_of_ble_eq_true rfl⟩) (ci := 9) hm0 rfl rfl rfl hl.1 (Nat.le_of_ble_eq_true rfl) dX11_hand_53 (c1 := 0) (s1 := 0) ⟨⟨rfl, rfl⟩, by decide, by decide⟩ (fun H locs hV => ?_)
            refine sq_ne (tgt := 62) S dX11_hand_56 (by decide) (fun h56 => ?_) (fun h56 => ?_)
            · refine lv_iload hx_ hb_ dX11_hand_62 (lv_at hl 4 rfl) ?_
              refine si_const S dX11_hand_64 ?_
              refine sb_eq (tgt := 93) S dX11_hand_65 (by decide) (by omega) (fun c8 => ?_) (fun c8 => ?_)
              · refine lv_iload hx_ hb_ dX11_hand_93 (lv_at hl 5 rfl) ?_
                refine lv_istore (lv' := [(4, .int (sI i)), (0, .ref m), (1, .int (sI s)), (2, .int (sI x)), (3, .int (sI t)), (5, .int (sI i))]) hx_ hb_ dX11_hand_95 hl (by decide) rfl (fun ls hl => ?_)
                refine si_inc (lv' := [(5, .int (sI (i + 1))), (4, .int (sI i)), (0, .ref m), (1, .int (sI s)), (2, .int (sI x)), (3, .int (sI t))]) S dX11_hand_97 hl (k := 5) rfl (by decide) rfl (fun ls hl => ?_)
                refine lv_goto (tgt := 6) hx_ hb_ dX11_hand_100 (by decide) ?_
                exact ih6 i (i + 1) _ _ _ (by omega) (by omega) (by rw [hiI_s f s x t i (by omega), ← hi]; first | rw [pif_t ⟨⟨by omega, by omega, by assumption⟩, by omega⟩] | rw [pif_f (fun h => by obtain ⟨⟨h1, h2, h3⟩, h4⟩ := h; first | omega | exact absurd h3 h56)]) hV (lv_sub hl [2, 3, 4, 5, 1, 0] rfl)
              · refine lv_aload_n hx_ hb_ dX11_hand_68 rfl (lv_at hl 0 rfl) ?_
                refine sc_get (ci := 9) (C := RX11) (T := TX11) (n := 22) S hK hV inX11_ hm0 rfl 1 (by decide) (S.2.2.2.2 _ (List.mem_of_getElem? (i := 1) rfl)) rfl rfl dX11_hand_69 ?_
                refine si_sipush S dX11_hand_72 (by decide) ?_
                refine lv_iload hx_ hb_ dX11_hand_75 (lv_at hl 5 rfl) ?_
                refine si_add S dX11_hand_77 ?_
                refine sc_iald S hK hV hm1 (by omega) dX11_hand_78 ?_
                have kn9 : 3652 ≤ f (224 + i) ∧ f (224 + i) ≤ 113224 := (sOk_T2 hok i (by omega) (by omega))
                refine lv_aload_n hx_ hb_ dX11_hand_79 rfl (lv_at hl 0 rfl) ?_
                refine sc_get (ci := 9) (C := RX11) (T := TX11) (n := 22) S hK hV inX11_ hm0 rfl 1 (by decide) (S.2.2.2.2 _ (List.mem_of_getElem? (i := 1) rfl)) rfl rfl dX11_hand_80 ?_
                refine si_sipush S dX11_hand_83 (by decide) ?_
                refine lv_iload hx_ hb_ dX11_hand_86 (lv_at hl 4 rfl) ?_
                refine si_add S dX11_hand_88 ?_
                refine sc_iald S hK hV hm1 (by omega) dX11_hand_89 ?_
                have kn10 : 3652 ≤ f (224 + q) ∧ f (224 + q) ≤ 113224 := (sOk_T2 hok q (by omega) (by omega))
                refine sb_lt (tgt := 97) S dX11_hand_90 (by decide) (by omega) (fun c11 => ?_) (fun c11 => ?_)
                · refine si_inc (lv' := [(5, .int (sI (i + 1))), (0, .ref m), (1, .int (sI s)), (2, .int (sI x)), (3, .int (sI t)), (4, .int (sI q))]) S dX11_hand_97 hl (k := 5) rfl (by decide) rfl (fun ls hl => ?_)
                  refine lv_goto (tgt := 6) hx_ hb_ dX11_hand_100 (by decide) ?_
                  exact ih6 q (i + 1) _ _ _ (by omega) (by omega) (by rw [hiI_s f s x t i (by omega), ← hi]; first | rw [pif_t ⟨⟨by omega, by omega, by assumption⟩, by omega⟩] | rw [pif_f (fun h => by obtain ⟨⟨h1, h2, h3⟩, h4⟩ := h; first | omega | exact absurd h3 h56)]) hV (lv_sub hl [1, 2, 3, 4, 5, 0] rfl)
                · refine lv_iload hx_ hb_ dX11_hand_93 (lv_at hl 5 rfl) ?_
                  refine lv_istore (lv' := [(4, .int (sI i)), (0, .ref m), (1, .int (sI s)), (2, .int (sI x)), (3, .int (sI t)), (5, .int (sI i))]) hx_ hb_ dX11_hand_95 hl (by decide) rfl (fun ls hl => ?_)
                  refine si_inc (lv' := [(5, .int (sI (i + 1))), (4, .int (sI i)), (0, .ref m), (1, .int (sI s)), (2, .int (sI x)), (3, .int (sI t))]) S dX11_hand_97 hl (k := 5) rfl (by decide) rfl (fun ls hl => ?_)
                  refine lv_goto (tgt := 6) hx_ hb_ dX11_hand_100 (by decide) ?_
                  exact ih6 i (i + 1) _ _ _ (by omega) (by omega) (by rw [hiI_s f s x t i (by omega), ← hi]; first | rw [pif_t ⟨⟨by omega, by omega, by assumption⟩, by omega⟩] | rw [pif_f (fun h => by obtain ⟨⟨h1, h2, h3⟩, h4⟩ := h; first | omega | exact absurd h3 h56)]) hV (lv_sub hl [2, 3, 4, 5, 1, 0] rfl)
            · refine lv_goto (tgt := 97) hx_ hb_ dX11_hand_59 (by decide) ?_
              refine si_inc (lv' := [(5, .int (sI (i + 1))), (0, .ref m), (1, .int (sI s)), (2, .int (sI x)), (3, .int (sI t)), (4, .int (sI q))]) S dX11_hand_97 hl (k := 5) rfl (by decide) rfl (fun ls hl => ?_)
              refine lv_goto (tgt := 6) hx_ hb_ dX11_hand_100 (by decide) ?_
              exact ih6 q (i + 1) _ _ _ (by omega) (by omega) (by rw [hiI_s f s x t i (by omega), ← hi]; first | rw [pif_t ⟨⟨by omega, by omega, by assumption⟩, by omega⟩] | rw [pif_f (fun h => by obtain ⟨⟨h1, h2, h3⟩, h4⟩ := h; first | omega | exact absurd h3 h56)]) hV (lv_sub hl [1, 2, 3, 4, 5, 0] rfl)
  exact L6 _ (-1) 0 _ _ _ (Nat.lt_succ_self _) (by omega) (rfl) hV (lv_sub hl [2, 3, 4, 5, 1, 0] rfl)

abbrev rmX11_handOn : Room := { frames := 4, cells := 0, slots := 0, locals := 103 }
set_option maxHeartbeats 4000000 in
set_option maxRecDepth 100000 in
theorem kX11_handOn (l_ : Launch) (G : sG) (b_ : Nat) (M : sM) (N : Nat) (m : Nat) (th ch tn ea sn nm wn : Int) (f : sF) (s d t : Int) (hm0 : M m = some (mO m th ch tn ea sn nm wn)) (hm1 : M (m + 1) = some (sArr G 574 f)) (hok : sOk f) (hr : sR s ∧ sR d ∧ sR t) : cI l_ yX11_handOn wsX11_handOn rmX11_handOn G b_ M N [.ref m, .int (sI s), .int (sI d), .int (sI t)] (fun z_ M1 N1 => N1 = N ∧ (∀ x : Nat, ¬ (x = m) → M1 x = M x) ∧ (((¬ (0 ≤ s ∧ s < f 568)) ∧ z_ = 0 ∧ M1 m = some (mO m 1 ch tn ea sn nm wn)) ∨ (((0 ≤ s ∧ s < f 568) ∧ ¬ (isDt d ∧ 0 ≤ t ∧ t ≤ f 571)) ∧ z_ = 0 ∧ M1 m = some (mO m 2 ch tn ea sn nm wn)) ∨ (((0 ≤ s ∧ s < f 568) ∧ isDt d ∧ 0 ≤ t ∧ t ≤ f 571) ∧ z_ = hnd f s (dayI d + 3652) t ∧ M1 m = some (mO m 0 ch tn ea sn nm wn)))) := by
  refine sE.ofI (cc := cX11_handOn) (nL := 4) (ret := (some .int)) (by decide) rfl (Nat.le_of_ble_eq_true rfl) ?_
  intro p_ e_ s_ m_ args_ below_ meth_ c_ ls Q hQ E hl
  have E : sE p_ l_ e_ rmX11_handOn s_ m_ args_ below_ meth_ c_ cX11_handOn 4 wsX11_handOn RX11 "handOn" (some .int) G b_ M N := E
  have S := E.1
  have hx_ := S.1
  have hb_ := S.2.1
  have hK := E.2.2.2.2.1
  have hV := E.2.2.2.2.2.2
  have hl : lv_has ls 4 [(0, .ref m), (1, .int (sI s)), (2, .int (sI d)), (3, .int (sI t))] := hl
  have inX11_ : ∀ w ∈ wsX110, w ∈ wsX11_handOn := fun _ h => List.mem_cons_of_mem _ (List.mem_append_right _ h)
  have kn0 := sOk_N hok
  refine lv_aload_n hx_ hb_ dX11_handOn_0 rfl (lv_at hl 0 rfl) ?_
  refine si_const S dX11_handOn_1 ?_
  refine sc_put (ci := 9) (C := RX11) (T := TX11) (n := 22) S hK hV inX11_ tyX11_ok nmX11 hm0 rfl 0 (by decide) (S.2.2.2.2 _ (List.mem_of_getElem? (i := 1) rfl)) rfl rfl rfl rfl (Nat.le_of_ble_eq_true rfl) dX11_handOn_2 (fs1 := [.int (sI 0), .ref (m + 1), .ref (m + 2), .int (sI ch), .ref (m + 3), .int (sI tn), .int (sI ea), .ref (m + 4), .ref (m + 5), .ref (m + 6), .ref (m + 7), .ref (m + 8), .ref (m + 9), .int (sI sn), .ref (m + 10), .ref (m + 11), .ref (m + 12), .ref (m + 13), .int (sI nm), .ref (m + 14), .ref (m + 15), .int (sI wn)]) rfl (fun M1 H locs hM1 hV => ?_)
  have hc2 : M1 m = some (mO m 0 ch tn ea sn nm wn) := (congrFun hM1 m).trans (va_up_self M m _)
  refine lv_aload_n hx_ hb_ dX11_handOn_5 rfl (lv_at hl 0 rfl) ?_
  refine lv_iload_n hx_ hb_ dX11_handOn_6 rfl (lv_at hl 1 rfl) ?_
  have hc3 : M1 (m + 1) = some (sArr G 574 f) := ((congrFun hM1 (m + 1)).trans (va_up_ne M _ (by omega))).trans hm1
  refine sk_Vi E hV (As := [.int (sI s)]) (rest := []) (kX11_noStone l_ G b_ M1 N m ch tn ea sn nm wn f s hc2 hc3 (by omega) (by omega)) (cwV 1 S.2.2.2.2 gX11_handOn_X11_noStone rfl rfl rfl (by decide +kernel) ⟨Nat.le_of_ble_eq_true rfl, Nat.le_of_ble_eq_true rfl⟩) (ci := 9) hc2 rfl rfl rfl hl.1 (Nat.le_of_ble_eq_true rfl) dX11_handOn_7 (c1 := 0) (s1 := 0) ⟨⟨rfl, rfl⟩, by decide, by decide⟩ (fun z7 M4 N5 H locs hp6 hV => ?_)
  obtain ⟨hN8, hf9, hq10⟩ := hp6
  rw [hN8] at hV
  rcases hq10 with ⟨c11, ez12, hc13⟩ | ⟨c14, ez15, hc16⟩
  · rw [ez12]
    refine sz_ne (tgt := 49) S dX11_handOn_10 (by decide) (by omega) (fun c17 => absurd c17 (by omega)) (fun _ => ?_)
    refine lv_aload_n hx_ hb_ dX11_handOn_13 rfl (lv_at hl 0 rfl) ?_
    refine lv_iload_n hx_ hb_ dX11_handOn_14 rfl (lv_at hl 2 rfl) ?_
    refine sk_SP E hV (As := [.int (sI d)]) (rest := [.ref m]) (kX11_isDate l_ G b_ M4 N d (by omega)) (va_cwS 1 S.2.2.2.2 gX11_handOn_X11_isDate rfl rfl rfl (by decide +kernel) ⟨Nat.le_of_ble_eq_true rfl, Nat.le_of_ble_eq_true rfl⟩) rfl rfl hl.1 (Nat.le_of_ble_eq_true rfl) dX11_handOn_15 (c1 := 0) (s1 := 0) ⟨⟨rfl, rfl⟩, by decide, by decide⟩ (fun H locs hV => ?_)
    refine sq_eq (tgt := 41) S dX11_handOn_18 (by decide) (fun h18 => ?_) (fun h18 => ?_)
    · refine si_const S dX11_handOn_41 ?_
      refine si_const S dX11_handOn_42 ?_
      refine sk_Vi E hV (As := [.int (sI 0), .int (sI 2)]) (rest := []) (kX11_fails0 l_ G b_ M4 N m ch tn ea sn nm wn 2 hc13 (by omega)) (cwV 2 S.2.2.2.2 gX11_handOn_X11_fails rfl rfl rfl (by decide +kernel) ⟨Nat.le_of_ble_eq_true rfl, Nat.le_of_ble_eq_true rfl⟩) (ci := 9) hc13 rfl rfl rfl hl.1 (Nat.le_of_ble_eq_true rfl) dX11_handOn_43 (c1 := 0) (s1 := 0) ⟨⟨rfl, rfl⟩, by decide, by decide⟩ (fun z21 M18 N19 H locs hp20 hV => ?_)
      obtain ⟨ez22, hN23, hc24, hf25⟩ := hp20
      rw [hN23] at hV
      rw [ez22]
      refine sz_eq (tgt := 51) S dX11_handOn_46 (by decide) (by omega) (fun c26 => absurd c26 (by omega)) (fun _ => ?_)
      refine si_const S dX11_handOn_49 ?_
      exact sr_i E hQ dX11_handOn_50 ⟨Nat.le_of_ble_eq_true rfl, Nat.le_of_ble_eq_true rfl⟩ hV (⟨rfl, fun x q0 => ((hf25 x (by omega)).trans (hf9 x (by omega))).trans ((congrFun hM1 x).trans (va_up_ne M _ (by omega))), Or.inr (Or.inl ⟨(by omega), rfl, hc24⟩)⟩)
    · refine lv_iload_n hx_ hb_ dX11_handOn_21 rfl (lv_at hl 3 rfl) ?_
      refine si_const S dX11_handOn_22 ?_
      refine lv_aload_n hx_ hb_ dX11_handOn_23 rfl (lv_at hl 0 rfl) ?_
      refine sc_get (ci := 9) (C := RX11) (T := TX11) (n := 22) S hK hV inX11_ hc13 rfl 1 (by decide) (S.2.2.2.2 _ (List.mem_of_getElem? (i := 2) rfl)) rfl rfl dX11_handOn_24 ?_
      refine si_sipush S dX11_handOn_27 (by decide) ?_
      have hc27 : M4 (m + 1) = some (sArr G 574 f) := (hf9 (m + 1) (by omega)).trans hc3
      refine sc_iald S hK hV hc27 (by omega) dX11_handOn_30 ?_
      refine sk_SP E hV (As := [.int (sI t), .int (sI 0), .int (sI (f 571))]) (rest := [.ref m]) (kX11_in l_ G b_ M4 N t 0 (f 571) (by omega)) (va_cwS 3 S.2.2.2.2 gX11_handOn_X11_in rfl rfl rfl (by decide +kernel) ⟨Nat.le_of_ble_eq_true rfl, Nat.le_of_ble_eq_true rfl⟩) rfl rfl hl.1 (Nat.le_of_ble_eq_true rfl) dX11_handOn_31 (c1 := 0) (s1 := 0) ⟨⟨rfl, rfl⟩, by decide, by decide⟩ (fun H locs hV => ?_)
      refine sq_eq (tgt := 41) S dX11_handOn_34 (by decide) (fun c28 => ?_) (fun c28 => ?_)
      · refine si_const S dX11_handOn_41 ?_
        refine si_const S dX11_handOn_42 ?_
        refine sk_Vi E hV (As := [.int (sI 0), .int (sI 2)]) (rest := []) (kX11_fails0 l_ G b_ M4 N m ch tn ea sn nm wn 2 hc13 (by omega)) (cwV 2 S.2.2.2.2 gX11_handOn_X11_fails rfl rfl rfl (by decide +kernel) ⟨Nat.le_of_ble_eq_true rfl, Nat.le_of_ble_eq_true rfl⟩) (ci := 9) hc13 rfl rfl rfl hl.1 (Nat.le_of_ble_eq_true rfl) dX11_handOn_43 (c1 := 0) (s1 := 0) ⟨⟨rfl, rfl⟩, by decide, by decide⟩ (fun z32 M29 N30 H locs hp31 hV => ?_)
        obtain ⟨ez33, hN34, hc35, hf36⟩ := hp31
        rw [hN34] at hV
        rw [ez33]
        refine sz_eq (tgt := 51) S dX11_handOn_46 (by decide) (by omega) (fun c37 => absurd c37 (by omega)) (fun _ => ?_)
        refine si_const S dX11_handOn_49 ?_
        exact sr_i E hQ dX11_handOn_50 ⟨Nat.le_of_ble_eq_true rfl, Nat.le_of_ble_eq_true rfl⟩ hV (⟨rfl, fun x q0 => ((hf36 x (by omega)).trans (hf9 x (by omega))).trans ((congrFun hM1 x).trans (va_up_ne M _ (by omega))), Or.inr (Or.inl ⟨(by omega), rfl, hc35⟩)⟩)
      · refine si_const S dX11_handOn_37 ?_
        refine lv_goto (tgt := 42) hx_ hb_ dX11_handOn_38 (by decide) ?_
        refine si_const S dX11_handOn_42 ?_
        refine sk_Vi E hV (As := [.int (sI 1), .int (sI 2)]) (rest := []) (kX11_fails1 l_ G b_ M4 N m ch tn ea sn nm wn 2 hc13 (by omega)) (cwV 2 S.2.2.2.2 gX11_handOn_X11_fails rfl rfl rfl (by decide +kernel) ⟨Nat.le_of_ble_eq_true rfl, Nat.le_of_ble_eq_true rfl⟩) (ci := 9) hc13 rfl rfl rfl hl.1 (Nat.le_of_ble_eq_true rfl) dX11_handOn_43 (c1 := 0) (s1 := 0) ⟨⟨rfl, rfl⟩, by decide, by decide⟩ (fun z41 M38 N39 H locs hp40 hV => ?_)
        obtain ⟨ez42, hN43, hc44, hf45⟩ := hp40
        rw [hN43] at hV
        rw [ez42]
        refine sz_eq (tgt := 51) S dX11_handOn_46 (by decide) (by omega) (fun _ => ?_) (fun c46 => absurd c46 (by omega))
        refine lv_aload_n hx_ hb_ dX11_handOn_51 rfl (lv_at hl 0 rfl) ?_
        refine lv_iload_n hx_ hb_ dX11_handOn_52 rfl (lv_at hl 1 rfl) ?_
        refine lv_iload_n hx_ hb_ dX11_handOn_53 rfl (lv_at hl 2 rfl) ?_
        refine sk_SP E hV (As := [.int (sI d)]) (rest := [.int (sI s), .ref m]) (kX11_dayOf l_ G b_ M38 N d (by omega)) (va_cwS 1 S.2.2.2.2 gX11_handOn_X11_dayOf rfl rfl rfl (by decide +kernel) ⟨Nat.le_of_ble_eq_true rfl, Nat.le_of_ble_eq_true rfl⟩) rfl rfl hl.1 (Nat.le_of_ble_eq_true rfl) dX11_handOn_54 (c1 := 0) (s1 := 0) ⟨⟨rfl, rfl⟩, by decide, by decide⟩ (fun H locs hV => ?_)
        have hdr := dayI_r (d := d) (by assumption)
        refine lv_iload_n hx_ hb_ dX11_handOn_57 rfl (lv_at hl 3 rfl) ?_
        have hc47 : M38 (m + 1) = some (sArr G 574 f) := (hf45 (m + 1) (by omega)).trans hc27
        refine sk_VP E hV (As := [.int (sI s), .int (sI (dayI d + 3652)), .int (sI t)]) (rest := []) (kX11_hand l_ G b_ M38 N m 0 ch tn ea sn nm wn f s (dayI d + 3652) t hc44 hc47 (by omega) (by omega)) (cwV 3 S.2.2.2.2 gX11_handOn_X11_hand rfl rfl rfl (by decide +kernel) ⟨Nat.le_of_ble_eq_true rfl, Nat.le_of_ble_eq_true rfl⟩) (ci := 9) hc44 rfl rfl rfl hl.1 (Nat.le_of_ble_eq_true rfl) dX11_handOn_58 (c1 := 0) (s1 := 0) ⟨⟨rfl, rfl⟩, by decide, by decide⟩ (fun H locs hV => ?_)
        exact sr_i E hQ dX11_handOn_61 ⟨Nat.le_of_ble_eq_true rfl, Nat.le_of_ble_eq_true rfl⟩ hV (⟨rfl, fun x q0 => ((hf45 x (by omega)).trans (hf9 x (by omega))).trans ((congrFun hM1 x).trans (va_up_ne M _ (by omega))), Or.inr (Or.inr (⟨(by omega), rfl, hc44⟩))⟩)
  · rw [ez15]
    refine sz_ne (tgt := 49) S dX11_handOn_10 (by decide) (by omega) (fun _ => ?_) (fun c48 => absurd c48 (by omega))
    refine si_const S dX11_handOn_49 ?_
    exact sr_i E hQ dX11_handOn_50 ⟨Nat.le_of_ble_eq_true rfl, Nat.le_of_ble_eq_true rfl⟩ hV (⟨rfl, fun x q0 => (hf9 x (by omega)).trans ((congrFun hM1 x).trans (va_up_ne M _ (by omega))), Or.inl ⟨(by omega), rfl, hc16⟩⟩)

abbrev rmX11_inHand : Room := { frames := 4, cells := 0, slots := 0, locals := 103 }
set_option maxHeartbeats 4000000 in
set_option maxRecDepth 100000 in
theorem kX11_inHand (l_ : Launch) (G : sG) (b_ : Nat) (M : sM) (N : Nat) (m : Nat) (th ch tn ea sn nm wn : Int) (f : sF) (h d : Int) (hm0 : M m = some (mO m th ch tn ea sn nm wn)) (hm1 : M (m + 1) = some (sArr G 574 f)) (hok : sOk f) (hr : sR h ∧ sR d) : cI l_ yX11_inHand wsX11_inHand rmX11_inHand G b_ M N [.ref m, .int (sI h), .int (sI d)] (fun z_ M1 N1 => N1 = N ∧ (∀ x : Nat, ¬ (x = m) → M1 x = M x) ∧ (((¬ ((0 ≤ h ∧ h ≤ 6) ∧ isDt d)) ∧ z_ = 0 ∧ M1 m = some (mO m 1 ch tn ea sn nm wn)) ∨ (((0 ≤ h ∧ h ≤ 6) ∧ isDt d) ∧ z_ = isum (f 568) (ihT f h (dayI d + 3652)) ∧ M1 m = some (mO m 0 ch tn ea sn nm wn)))) := by
  refine sE.ofI (cc := cX11_inHand) (nL := 5) (ret := (some .int)) (by decide) rfl (Nat.le_of_ble_eq_true rfl) ?_
  intro p_ e_ s_ m_ args_ below_ meth_ c_ ls Q hQ E hl
  have E : sE p_ l_ e_ rmX11_inHand s_ m_ args_ below_ meth_ c_ cX11_inHand 5 wsX11_inHand RX11 "inHand" (some .int) G b_ M N := E
  have S := E.1
  have hx_ := S.1
  have hb_ := S.2.1
  have hK := E.2.2.2.2.1
  have hV := E.2.2.2.2.2.2
  have hl : lv_has ls 5 [(0, .ref m), (1, .int (sI h)), (2, .int (sI d))] := hl
  have inX11_ : ∀ w ∈ wsX110, w ∈ wsX11_inHand := fun _ h => List.mem_cons_of_mem _ (List.mem_append_right _ h)
  have kn0 := sOk_N hok
  refine lv_aload_n hx_ hb_ dX11_inHand_0 rfl (lv_at hl 0 rfl) ?_
  refine si_const S dX11_inHand_1 ?_
  refine sc_put (ci := 9) (C := RX11) (T := TX11) (n := 22) S hK hV inX11_ tyX11_ok nmX11 hm0 rfl 0 (by decide) (S.2.2.2.2 _ (List.mem_of_getElem? (i := 1) rfl)) rfl rfl rfl rfl (Nat.le_of_ble_eq_true rfl) dX11_inHand_2 (fs1 := [.int (sI 0), .ref (m + 1), .ref (m + 2), .int (sI ch), .ref (m + 3), .int (sI tn), .int (sI ea), .ref (m + 4), .ref (m + 5), .ref (m + 6), .ref (m + 7), .ref (m + 8), .ref (m + 9), .int (sI sn), .ref (m + 10), .ref (m + 11), .ref (m + 12), .ref (m + 13), .int (sI nm), .ref (m + 14), .ref (m + 15), .int (sI wn)]) rfl (fun M1 H locs hM1 hV => ?_)
  have hc2 : M1 m = some (mO m 0 ch tn ea sn nm wn) := (congrFun hM1 m).trans (va_up_self M m _)
  refine lv_aload_n hx_ hb_ dX11_inHand_5 rfl (lv_at hl 0 rfl) ?_
  refine lv_iload_n hx_ hb_ dX11_inHand_6 rfl (lv_at hl 1 rfl) ?_
  refine si_const S dX11_inHand_7 ?_
  refine si_bipush S dX11_inHand_8 (by decide) ?_
  refine sk_SP E hV (As := [.int (sI h), .int (sI 0), .int (sI 6)]) (rest := [.ref m]) (kX11_in l_ G b_ M1 N h 0 6 (by omega)) (va_cwS 3 S.2.2.2.2 gX11_inHand_X11_in rfl rfl rfl (by decide +kernel) ⟨Nat.le_of_ble_eq_true rfl, Nat.le_of_ble_eq_true rfl⟩) rfl rfl hl.1 (Nat.le_of_ble_eq_true rfl) dX11_inHand_10 (c1 := 0) (s1 := 0) ⟨⟨rfl, rfl⟩, by decide, by decide⟩ (fun H locs hV => ?_)
  refine sq_eq (tgt := 27) S dX11_inHand_13 (by decide) (fun c3 => ?_) (fun c3 => ?_)
  · refine si_const S dX11_inHand_27 ?_
    refine si_const S dX11_inHand_28 ?_
    refine sk_Vi E hV (As := [.int (sI 0), .int (sI 1)]) (rest := []) (kX11_fails0 l_ G b_ M1 N m ch tn ea sn nm wn 1 hc2 (by omega)) (cwV 2 S.2.2.2.2 gX11_inHand_X11_fails rfl rfl rfl (by decide +kernel) ⟨Nat.le_of_ble_eq_true rfl, Nat.le_of_ble_eq_true rfl⟩) (ci := 9) hc2 rfl rfl rfl hl.1 (Nat.le_of_ble_eq_true rfl) dX11_inHand_29 (c1 := 0) (s1 := 0) ⟨⟨rfl, rfl⟩, by decide, by decide⟩ (fun z7 M4 N5 H locs hp6 hV => ?_)
    obtain ⟨ez8, hN9, hc10, hf11⟩ := hp6
    rw [hN9] at hV
    rw [ez8]
    refine sz_eq (tgt := 37) S dX11_inHand_32 (by decide) (by omega) (fun c12 => absurd c12 (by omega)) (fun _ => ?_)
    refine si_const S dX11_inHand_35 ?_
    exact sr_i E hQ dX11_inHand_36 ⟨Nat.le_of_ble_eq_true rfl, Nat.le_of_ble_eq_true rfl⟩ hV (⟨rfl, fun x q0 => (hf11 x (by omega)).trans ((congrFun hM1 x).trans (va_up_ne M _ (by omega))), Or.inl ⟨(by omega), rfl, hc10⟩⟩)
  · refine lv_iload_n hx_ hb_ dX11_inHand_16 rfl (lv_at hl 2 rfl) ?_
    refine sk_SP E hV (As := [.int (sI d)]) (rest := [.ref m]) (kX11_isDate l_ G b_ M1 N d (by omega)) (va_cwS 1 S.2.2.2.2 gX11_inHand_X11_isDate rfl rfl rfl (by decide +kernel) ⟨Nat.le_of_ble_eq_true rfl, Nat.le_of_ble_eq_true rfl⟩) rfl rfl hl.1 (Nat.le_of_ble_eq_true rfl) dX11_inHand_17 (c1 := 0) (s1 := 0) ⟨⟨rfl, rfl⟩, by decide, by decide⟩ (fun H locs hV => ?_)
    refine sq_eq (tgt := 27) S dX11_inHand_20 (by decide) (fun h20 => ?_) (fun h20 => ?_)
    · refine si_const S dX11_inHand_27 ?_
      refine si_const S dX11_inHand_28 ?_
      refine sk_Vi E hV (As := [.int (sI 0), .int (sI 1)]) (rest := []) (kX11_fails0 l_ G b_ M1 N m ch tn ea sn nm wn 1 hc2 (by omega)) (cwV 2 S.2.2.2.2 gX11_inHand_X11_fails rfl rfl rfl (by decide +kernel) ⟨Nat.le_of_ble_eq_true rfl, Nat.le_of_ble_eq_true rfl⟩) (ci := 9) hc2 rfl rfl rfl hl.1 (Nat.le_of_ble_eq_true rfl) dX11_inHand_29 (c1 := 0) (s1 := 0) ⟨⟨rfl, rfl⟩, by decide, by decide⟩ (fun z16 M13 N14 H locs hp15 hV => ?_)
      obtain ⟨ez17, hN18, hc19, hf20⟩ := hp15
      rw [hN18] at hV
      rw [ez17]
      refine sz_eq (tgt := 37) S dX11_inHand_32 (by decide) (by omega) (fun c21 => absurd c21 (by omega)) (fun _ => ?_)
      refine si_const S dX11_inHand_35 ?_
      exact sr_i E hQ dX11_inHand_36 ⟨Nat.le_of_ble_eq_true rfl, Nat.le_of_ble_eq_true rfl⟩ hV (⟨rfl, fun x q0 => (hf20 x (by omega)).trans ((congrFun hM1 x).trans (va_up_ne M _ (by omega))), Or.inl ⟨(by omega), rfl, hc19⟩⟩)
    · refine si_const S dX11_inHand_23 ?_
      refine lv_goto (tgt := 28) hx_ hb_ dX11_inHand_24 (by decide) ?_
      refine si_const S dX11_inHand_28 ?_
      refine sk_Vi E hV (As := [.int (sI 1), .int (sI 1)]) (rest := []) (kX11_fails1 l_ G b_ M1 N m ch tn ea sn nm wn 1 hc2 (by omega)) (cwV 2 S.2.2.2.2 gX11_inHand_X11_fails rfl rfl rfl (by decide +kernel) ⟨Nat.le_of_ble_eq_true rfl, Nat.le_of_ble_eq_true rfl⟩) (ci := 9) hc2 rfl rfl rfl hl.1 (Nat.le_of_ble_eq_true rfl) dX11_inHand_29 (c1 := 0) (s1 := 0) ⟨⟨rfl, rfl⟩, by decide, by decide⟩ (fun z25 M22 N23 H locs hp24 hV => ?_)
      obtain ⟨ez26, hN27, hc28, hf29⟩ := hp24
      rw [hN27] at hV
      rw [ez26]
      refine sz_eq (tgt := 37) S dX11_inHand_32 (by decide) (by omega) (fun _ => ?_) (fun c30 => absurd c30 (by omega))
      refine si_const S dX11_inHand_37 ?_
      refine lv_istore_n (lv' := [(3, .int (sI 0)), (0, .ref m), (1, .int (sI h)), (2, .int (sI d))]) hx_ hb_ dX11_inHand_38 rfl hl (by decide) rfl (fun ls hl => ?_)
      refine si_const S dX11_inHand_39 ?_
      refine lv_istore (lv' := [(4, .int (sI 0)), (3, .int (sI 0)), (0, .ref m), (1, .int (sI h)), (2, .int (sI d))]) hx_ hb_ dX11_inHand_40 hl (by decide) rfl (fun ls hl => ?_)
      have L42 : ∀ (fuel : Nat) (c : Int) (i : Int)  (H : Heap) (locs : List Loc) (ls : Array Slot), ((f 568 - i).toNat) < fuel → (0 ≤ i ∧ i ≤ f 568) → (c = isum i (ihT f h (dayI d + 3652))) → sV G b_ M22 N s_ H locs → lv_has ls 5 [(0, .ref m), (1, .int (sI h)), (2, .int (sI d)), (3, .int (sI c)), (4, .int (sI i))] → W p_ l_ e_ rmX11_inHand s_ m_ args_ below_ meth_ c_ H locs 0 0 Q (F0 m_ 42 ls []) := by
        intro fuel
        induction fuel with
        | zero => intro c i H locs ls hmu; exact absurd hmu (Nat.not_lt_zero _)
        | succ fuel ih42 =>
          intro c i H locs ls hmu42 hv42_0 hc  hV hl
          have hdr := dayI_r (d := d) h20
          have hh := hnd_r hok i (dayI d + 3652) (f 571)
          refine lv_iload hx_ hb_ dX11_inHand_42 (lv_at hl 4 rfl) ?_
          refine lv_aload_n hx_ hb_ dX11_inHand_44 rfl (lv_at hl 0 rfl) ?_
          have hc31 : M22 (m + 1) = some (sArr G 574 f) := ((hf29 (m + 1) (by omega)).trans ((congrFun hM1 (m + 1)).trans (va_up_ne M _ (by omega)))).trans hm1
          refine sk_VP E hV (As := []) (rest := [.int (sI i)]) (kX11_many l_ G b_ M22 N m 0 ch tn ea sn nm wn f hc28 hc31) (cwV 0 S.2.2.2.2 gX11_inHand_X11_many rfl rfl rfl (by decide +kernel) ⟨Nat.le_of_ble_eq_true rfl, Nat.le_of_ble_eq_true rfl⟩) (ci := 9) hc28 rfl rfl rfl hl.1 (Nat.le_of_ble_eq_true rfl) dX11_inHand_45 (c1 := 0) (s1 := 0) ⟨⟨rfl, rfl⟩, by decide, by decide⟩ (fun H locs hV => ?_)
          refine sb_ge (tgt := 87) S dX11_inHand_48 (by decide) (by omega) (fun c32 => ?_) (fun c32 => ?_)
          · refine lv_iload_n hx_ hb_ dX11_inHand_87 rfl (lv_at hl 3 rfl) ?_
            exact sr_i E hQ dX11_inHand_88 ⟨Nat.le_of_ble_eq_true rfl, Nat.le_of_ble_eq_true rfl⟩ hV (⟨rfl, fun x q0 => (hf29 x (by omega)).trans ((congrFun hM1 x).trans (va_up_ne M _ (by omega))), Or.inr (⟨(by omega), by rw [hc, show i = f 568 by omega], hc28⟩)⟩)
          · refine lv_iload_n hx_ hb_ dX11_inHand_51 rfl (lv_at hl 3 rfl) ?_
            refine lv_aload_n hx_ hb_ dX11_inHand_52 rfl (lv_at hl 0 rfl) ?_
            refine lv_iload hx_ hb_ dX11_inHand_53 (lv_at hl 4 rfl) ?_
            refine lv_iload_n hx_ hb_ dX11_inHand_55 rfl (lv_at hl 2 rfl) ?_
            refine sk_SP E hV (As := [.int (sI d)]) (rest := [.int (sI i), .ref m, .int (sI c)]) (kX11_dayOf l_ G b_ M22 N d (by omega)) (va_cwS 1 S.2.2.2.2 gX11_inHand_X11_dayOf rfl rfl rfl (by decide +kernel) ⟨Nat.le_of_ble_eq_true rfl, Nat.le_of_ble_eq_true rfl⟩) rfl rfl hl.1 (Nat.le_of_ble_eq_true rfl) dX11_inHand_56 (c1 := 0) (s1 := 0) ⟨⟨rfl, rfl⟩, by decide, by decide⟩ (fun H locs hV => ?_)
            refine lv_aload_n hx_ hb_ dX11_inHand_59 rfl (lv_at hl 0 rfl) ?_
            refine sc_get (ci := 9) (C := RX11) (T := TX11) (n := 22) S hK hV inX11_ hc28 rfl 1 (by decide) (S.2.2.2.2 _ (List.mem_of_getElem? (i := 2) rfl)) rfl rfl dX11_inHand_60 ?_
            refine si_sipush S dX11_inHand_63 (by decide) ?_
            refine sc_iald S hK hV hc31 (by omega) dX11_inHand_66 ?_
            refine sk_VP E hV (As := [.int (sI i), .int (sI (dayI d + 3652)), .int (sI (f 571))]) (rest := [.int (sI c)]) (kX11_hand l_ G b_ M22 N m 0 ch tn ea sn nm wn f i (dayI d + 3652) (f 571) hc28 hc31 (by omega) (by omega)) (cwV 3 S.2.2.2.2 gX11_inHand_X11_hand rfl rfl rfl (by decide +kernel) ⟨Nat.le_of_ble_eq_true rfl, Nat.le_of_ble_eq_true rfl⟩) (ci := 9) hc28 rfl rfl rfl hl.1 (Nat.le_of_ble_eq_true rfl) dX11_inHand_67 (c1 := 0) (s1 := 0) ⟨⟨rfl, rfl⟩, by decide, by decide⟩ (fun H locs hV => ?_)
            refine lv_iload_n hx_ hb_ dX11_inHand_70 rfl (lv_at hl 1 rfl) ?_
            refine sb_ne (tgt := 78) S dX11_inHand_71 (by decide) (by omega) (fun c33 => ?_) (fun c33 => ?_)
            · refine si_const S dX11_inHand_78 ?_
              refine si_add S dX11_inHand_79 ?_
              refine lv_istore_n (lv' := [(3, .int (sI (c + 0))), (0, .ref m), (1, .int (sI h)), (2, .int (sI d)), (4, .int (sI i))]) hx_ hb_ dX11_inHand_80 rfl hl (by decide) rfl (fun ls hl => ?_)
              refine si_inc (lv' := [(4, .int (sI (i + 1))), (3, .int (sI (c + 0))), (0, .ref m), (1, .int (sI h)), (2, .int (sI d))]) S dX11_inHand_81 hl (k := 4) rfl (by decide) rfl (fun ls hl => ?_)
              refine lv_goto (tgt := 42) hx_ hb_ dX11_inHand_84 (by decide) ?_
              exact ih42 (c + 0) (i + 1) _ _ _ (by omega) (by omega) (by have e := isum_s (ihT f h (dayI d + 3652)) (show 0 ≤ i by omega); have e2 : ihT f h (dayI d + 3652) i = if hnd f i (dayI d + 3652) (f 571) = h then 1 else 0 := rfl; split at e2 <;> omega) hV (lv_sub hl [2, 3, 4, 1, 0] rfl)
            · refine si_const S dX11_inHand_74 ?_
              refine lv_goto (tgt := 79) hx_ hb_ dX11_inHand_75 (by decide) ?_
              refine si_add S dX11_inHand_79 ?_
              refine lv_istore_n (lv' := [(3, .int (sI (c + 1))), (0, .ref m), (1, .int (sI h)), (2, .int (sI d)), (4, .int (sI i))]) hx_ hb_ dX11_inHand_80 rfl hl (by decide) rfl (fun ls hl => ?_)
              refine si_inc (lv' := [(4, .int (sI (i + 1))), (3, .int (sI (c + 1))), (0, .ref m), (1, .int (sI h)), (2, .int (sI d))]) S dX11_inHand_81 hl (k := 4) rfl (by decide) rfl (fun ls hl => ?_)
              refine lv_goto (tgt := 42) hx_ hb_ dX11_inHand_84 (by decide) ?_
              exact ih42 (c + 1) (i + 1) _ _ _ (by omega) (by omega) (by have e := isum_s (ihT f h (dayI d + 3652)) (show 0 ≤ i by omega); have e2 : ihT f h (dayI d + 3652) i = if hnd f i (dayI d + 3652) (f 571) = h then 1 else 0 := rfl; split at e2 <;> omega) hV (lv_sub hl [2, 3, 4, 1, 0] rfl)
      exact L42 _ 0 0 _ _ _ (Nat.lt_succ_self _) (by omega) (rfl) hV (lv_sub hl [2, 3, 4, 1, 0] rfl)

abbrev rmX11_noStretch : Room := { frames := 4, cells := 0, slots := 0, locals := 101 }
set_option maxHeartbeats 4000000 in
set_option maxRecDepth 100000 in
theorem kX11_noStretch (l_ : Launch) (G : sG) (b_ : Nat) (M : sM) (N : Nat) (m : Nat) (ch tn ea sn nm wn : Int) (f : sF) (s a b : Int) (hm0 : M m = some (mO m 0 ch tn ea sn nm wn)) (hm1 : M (m + 1) = some (sArr G 574 f)) (hok : sOk f) (hr : sR s ∧ sR a ∧ sR b) : cI l_ yX11_noStretch wsX11_noStretch rmX11_noStretch G b_ M N [.ref m, .int (sI s), .int (sI a), .int (sI b)] (fun z_ M1 N1 => N1 = N ∧ (∀ x : Nat, ¬ (x = m) → M1 x = M x) ∧ (((¬ (0 ≤ s ∧ s < f 568)) ∧ z_ = 1 ∧ M1 m = some (mO m 1 ch tn ea sn nm wn)) ∨ (((0 ≤ s ∧ s < f 568) ∧ ¬ (isDt a ∧ isDt b ∧ a ≤ b)) ∧ z_ = 1 ∧ M1 m = some (mO m 2 ch tn ea sn nm wn)) ∨ (((0 ≤ s ∧ s < f 568) ∧ isDt a ∧ isDt b ∧ a ≤ b) ∧ z_ = 0 ∧ M1 m = some (mO m 0 ch tn ea sn nm wn)))) := by
  refine sE.ofI (cc := cX11_noStretch) (nL := 4) (ret := (some .boolean)) (by decide) rfl (Nat.le_of_ble_eq_true rfl) ?_
  intro p_ e_ s_ m_ args_ below_ meth_ c_ ls Q hQ E hl
  have E : sE p_ l_ e_ rmX11_noStretch s_ m_ args_ below_ meth_ c_ cX11_noStretch 4 wsX11_noStretch RX11 "noStretch" (some .boolean) G b_ M N := E
  have S := E.1
  have hx_ := S.1
  have hb_ := S.2.1
  have hK := E.2.2.2.2.1
  have hV := E.2.2.2.2.2.2
  have hl : lv_has ls 4 [(0, .ref m), (1, .int (sI s)), (2, .int (sI a)), (3, .int (sI b))] := hl
  have inX11_ : ∀ w ∈ wsX110, w ∈ wsX11_noStretch := fun _ h => List.mem_cons_of_mem _ (List.mem_append_right _ h)
  have kn0 := sOk_N hok
  refine lv_aload_n hx_ hb_ dX11_noStretch_0 rfl (lv_at hl 0 rfl) ?_
  refine lv_iload_n hx_ hb_ dX11_noStretch_1 rfl (lv_at hl 1 rfl) ?_
  refine sk_Vi E hV (As := [.int (sI s)]) (rest := []) (kX11_noStone l_ G b_ M N m ch tn ea sn nm wn f s hm0 hm1 (by omega) (by omega)) (cwV 1 S.2.2.2.2 gX11_noStretch_X11_noStone rfl rfl rfl (by decide +kernel) ⟨Nat.le_of_ble_eq_true rfl, Nat.le_of_ble_eq_true rfl⟩) (ci := 9) hm0 rfl rfl rfl hl.1 (Nat.le_of_ble_eq_true rfl) dX11_noStretch_2 (c1 := 0) (s1 := 0) ⟨⟨rfl, rfl⟩, by decide, by decide⟩ (fun z4 M1 N2 H locs hp3 hV => ?_)
  obtain ⟨hN5, hf6, hq7⟩ := hp3
  rw [hN5] at hV
  rcases hq7 with ⟨c8, ez9, hc10⟩ | ⟨c11, ez12, hc13⟩
  · rw [ez9]
    refine sz_ne (tgt := 40) S dX11_noStretch_5 (by decide) (by omega) (fun c14 => absurd c14 (by omega)) (fun _ => ?_)
    refine lv_aload_n hx_ hb_ dX11_noStretch_8 rfl (lv_at hl 0 rfl) ?_
    refine lv_iload_n hx_ hb_ dX11_noStretch_9 rfl (lv_at hl 2 rfl) ?_
    refine sk_SP E hV (As := [.int (sI a)]) (rest := [.ref m]) (kX11_isDate l_ G b_ M1 N a (by omega)) (va_cwS 1 S.2.2.2.2 gX11_noStretch_X11_isDate rfl rfl rfl (by decide +kernel) ⟨Nat.le_of_ble_eq_true rfl, Nat.le_of_ble_eq_true rfl⟩) rfl rfl hl.1 (Nat.le_of_ble_eq_true rfl) dX11_noStretch_10 (c1 := 0) (s1 := 0) ⟨⟨rfl, rfl⟩, by decide, by decide⟩ (fun H locs hV => ?_)
    refine sq_eq (tgt := 32) S dX11_noStretch_13 (by decide) (fun c15 => ?_) (fun c15 => ?_)
    · refine si_const S dX11_noStretch_32 ?_
      refine si_const S dX11_noStretch_33 ?_
      refine sk_Vi E hV (As := [.int (sI 0), .int (sI 2)]) (rest := []) (kX11_fails0 l_ G b_ M1 N m ch tn ea sn nm wn 2 hc10 (by omega)) (cwV 2 S.2.2.2.2 gX11_noStretch_X11_fails rfl rfl rfl (by decide +kernel) ⟨Nat.le_of_ble_eq_true rfl, Nat.le_of_ble_eq_true rfl⟩) (ci := 9) hc10 rfl rfl rfl hl.1 (Nat.le_of_ble_eq_true rfl) dX11_noStretch_34 (c1 := 0) (s1 := 0) ⟨⟨rfl, rfl⟩, by decide, by decide⟩ (fun z19 M16 N17 H locs hp18 hV => ?_)
      obtain ⟨ez20, hN21, hc22, hf23⟩ := hp18
      rw [hN21] at hV
      rw [ez20]
      refine sz_eq (tgt := 44) S dX11_noStretch_37 (by decide) (by omega) (fun c24 => absurd c24 (by omega)) (fun _ => ?_)
      refine si_const S dX11_noStretch_40 ?_
      refine lv_goto (tgt := 45) hx_ hb_ dX11_noStretch_41 (by decide) ?_
      exact sr_z E hQ (Or.inr rfl) dX11_noStretch_45 ⟨Nat.le_of_ble_eq_true rfl, Nat.le_of_ble_eq_true rfl⟩ hV (⟨rfl, fun x q0 => (hf23 x (by omega)).trans (hf6 x (by omega)), Or.inr (Or.inl ⟨(by omega), rfl, hc22⟩)⟩)
    · refine lv_iload_n hx_ hb_ dX11_noStretch_16 rfl (lv_at hl 3 rfl) ?_
      refine sk_SP E hV (As := [.int (sI b)]) (rest := [.ref m]) (kX11_isDate l_ G b_ M1 N b (by omega)) (va_cwS 1 S.2.2.2.2 gX11_noStretch_X11_isDate rfl rfl rfl (by decide +kernel) ⟨Nat.le_of_ble_eq_true rfl, Nat.le_of_ble_eq_true rfl⟩) rfl rfl hl.1 (Nat.le_of_ble_eq_true rfl) dX11_noStretch_17 (c1 := 0) (s1 := 0) ⟨⟨rfl, rfl⟩, by decide, by decide⟩ (fun H locs hV => ?_)
      refine sq_eq (tgt := 32) S dX11_noStretch_20 (by decide) (fun c25 => ?_) (fun c25 => ?_)
      · refine si_const S dX11_noStretch_32 ?_
        refine si_const S dX11_noStretch_33 ?_
        refine sk_Vi E hV (As := [.int (sI 0), .int (sI 2)]) (rest := []) (kX11_fails0 l_ G b_ M1 N m ch tn ea sn nm wn 2 hc10 (by omega)) (cwV 2 S.2.2.2.2 gX11_noStretch_X11_fails rfl rfl rfl (by decide +kernel) ⟨Nat.le_of_ble_eq_true rfl, Nat.le_of_ble_eq_true rfl⟩) (ci := 9) hc10 rfl rfl rfl hl.1 (Nat.le_of_ble_eq_true rfl) dX11_noStretch_34 (c1 := 0) (s1 := 0) ⟨⟨rfl, rfl⟩, by decide, by decide⟩ (fun z29 M26 N27 H locs hp28 hV => ?_)
        obtain ⟨ez30, hN31, hc32, hf33⟩ := hp28
        rw [hN31] at hV
        rw [ez30]
        refine sz_eq (tgt := 44) S dX11_noStretch_37 (by decide) (by omega) (fun c34 => absurd c34 (by omega)) (fun _ => ?_)
        refine si_const S dX11_noStretch_40 ?_
        refine lv_goto (tgt := 45) hx_ hb_ dX11_noStretch_41 (by decide) ?_
        exact sr_z E hQ (Or.inr rfl) dX11_noStretch_45 ⟨Nat.le_of_ble_eq_true rfl, Nat.le_of_ble_eq_true rfl⟩ hV (⟨rfl, fun x q0 => (hf33 x (by omega)).trans (hf6 x (by omega)), Or.inr (Or.inl ⟨(by omega), rfl, hc32⟩)⟩)
      · refine lv_iload_n hx_ hb_ dX11_noStretch_23 rfl (lv_at hl 2 rfl) ?_
        refine lv_iload_n hx_ hb_ dX11_noStretch_24 rfl (lv_at hl 3 rfl) ?_
        refine sb_gt (tgt := 32) S dX11_noStretch_25 (by decide) (by omega) (fun c35 => ?_) (fun c35 => ?_)
        · refine si_const S dX11_noStretch_32 ?_
          refine si_const S dX11_noStretch_33 ?_
          refine sk_Vi E hV (As := [.int (sI 0), .int (sI 2)]) (rest := []) (kX11_fails0 l_ G b_ M1 N m ch tn ea sn nm wn 2 hc10 (by omega)) (cwV 2 S.2.2.2.2 gX11_noStretch_X11_fails rfl rfl rfl (by decide +kernel) ⟨Nat.le_of_ble_eq_true rfl, Nat.le_of_ble_eq_true rfl⟩) (ci := 9) hc10 rfl rfl rfl hl.1 (Nat.le_of_ble_eq_true rfl) dX11_noStretch_34 (c1 := 0) (s1 := 0) ⟨⟨rfl, rfl⟩, by decide, by decide⟩ (fun z39 M36 N37 H locs hp38 hV => ?_)
          obtain ⟨ez40, hN41, hc42, hf43⟩ := hp38
          rw [hN41] at hV
          rw [ez40]
          refine sz_eq (tgt := 44) S dX11_noStretch_37 (by decide) (by omega) (fun c44 => absurd c44 (by omega)) (fun _ => ?_)
          refine si_const S dX11_noStretch_40 ?_
          refine lv_goto (tgt := 45) hx_ hb_ dX11_noStretch_41 (by decide) ?_
          exact sr_z E hQ (Or.inr rfl) dX11_noStretch_45 ⟨Nat.le_of_ble_eq_true rfl, Nat.le_of_ble_eq_true rfl⟩ hV (⟨rfl, fun x q0 => (hf43 x (by omega)).trans (hf6 x (by omega)), Or.inr (Or.inl ⟨(by omega), rfl, hc42⟩)⟩)
        · refine si_const S dX11_noStretch_28 ?_
          refine lv_goto (tgt := 33) hx_ hb_ dX11_noStretch_29 (by decide) ?_
          refine si_const S dX11_noStretch_33 ?_
          refine sk_Vi E hV (As := [.int (sI 1), .int (sI 2)]) (rest := []) (kX11_fails1 l_ G b_ M1 N m ch tn ea sn nm wn 2 hc10 (by omega)) (cwV 2 S.2.2.2.2 gX11_noStretch_X11_fails rfl rfl rfl (by decide +kernel) ⟨Nat.le_of_ble_eq_true rfl, Nat.le_of_ble_eq_true rfl⟩) (ci := 9) hc10 rfl rfl rfl hl.1 (Nat.le_of_ble_eq_true rfl) dX11_noStretch_34 (c1 := 0) (s1 := 0) ⟨⟨rfl, rfl⟩, by decide, by decide⟩ (fun z48 M45 N46 H locs hp47 hV => ?_)
          obtain ⟨ez49, hN50, hc51, hf52⟩ := hp47
          rw [hN50] at hV
          rw [ez49]
          refine sz_eq (tgt := 44) S dX11_noStretch_37 (by decide) (by omega) (fun _ => ?_) (fun c53 => absurd c53 (by omega))
          refine si_const S dX11_noStretch_44 ?_
          exact sr_z E hQ (Or.inl rfl) dX11_noStretch_45 ⟨Nat.le_of_ble_eq_true rfl, Nat.le_of_ble_eq_true rfl⟩ hV (⟨rfl, fun x q0 => (hf52 x (by omega)).trans (hf6 x (by omega)), Or.inr (Or.inr (⟨(by omega), rfl, hc51⟩))⟩)
  · rw [ez12]
    refine sz_ne (tgt := 40) S dX11_noStretch_5 (by decide) (by omega) (fun _ => ?_) (fun c54 => absurd c54 (by omega))
    refine si_const S dX11_noStretch_40 ?_
    refine lv_goto (tgt := 45) hx_ hb_ dX11_noStretch_41 (by decide) ?_
    exact sr_z E hQ (Or.inr rfl) dX11_noStretch_45 ⟨Nat.le_of_ble_eq_true rfl, Nat.le_of_ble_eq_true rfl⟩ hV (⟨rfl, fun x q0 => hf6 x (by omega), Or.inl ⟨(by omega), rfl, hc13⟩⟩)

abbrev rmX11_away : Room := { frames := 5, cells := 0, slots := 0, locals := 124 }
set_option maxHeartbeats 4000000 in
set_option maxRecDepth 100000 in
theorem kX11_away (l_ : Launch) (G : sG) (b_ : Nat) (M : sM) (N : Nat) (m : Nat) (th ch tn ea sn nm wn : Int) (f : sF) (s a b : Int) (hm0 : M m = some (mO m th ch tn ea sn nm wn)) (hm1 : M (m + 1) = some (sArr G 574 f)) (hok : sOk f) (hr : sR s ∧ sR a ∧ sR b) : cI l_ yX11_away wsX11_away rmX11_away G b_ M N [.ref m, .int (sI s), .int (sI a), .int (sI b)] (fun z_ M1 N1 => N1 = N ∧ (∀ x : Nat, ¬ (x = m) → M1 x = M x) ∧ (((¬ (0 ≤ s ∧ s < f 568)) ∧ z_ = 0 ∧ M1 m = some (mO m 1 ch tn ea sn nm wn)) ∨ (((0 ≤ s ∧ s < f 568) ∧ ¬ (isDt a ∧ isDt b ∧ a ≤ b)) ∧ z_ = 0 ∧ M1 m = some (mO m 2 ch tn ea sn nm wn)) ∨ (((0 ≤ s ∧ s < f 568) ∧ isDt a ∧ isDt b ∧ a ≤ b) ∧ z_ = isum (dayI b - dayI a + 1) (awT f s (dayI a + 3652)) ∧ M1 m = some (mO m 0 ch tn ea sn nm wn)))) := by
  refine sE.ofI (cc := cX11_away) (nL := 6) (ret := (some .int)) (by decide) rfl (Nat.le_of_ble_eq_true rfl) ?_
  intro p_ e_ s_ m_ args_ below_ meth_ c_ ls Q hQ E hl
  have E : sE p_ l_ e_ rmX11_away s_ m_ args_ below_ meth_ c_ cX11_away 6 wsX11_away RX11 "away" (some .int) G b_ M N := E
  have S := E.1
  have hx_ := S.1
  have hb_ := S.2.1
  have hK := E.2.2.2.2.1
  have hV := E.2.2.2.2.2.2
  have hl : lv_has ls 6 [(0, .ref m), (1, .int (sI s)), (2, .int (sI a)), (3, .int (sI b))] := hl
  have inX11_ : ∀ w ∈ wsX110, w ∈ wsX11_away := fun _ h => List.mem_cons_of_mem _ (List.mem_append_right _ h)
  have kn0 := sOk_N hok
  refine lv_aload_n hx_ hb_ dX11_away_0 rfl (lv_at hl 0 rfl) ?_
  refine si_const S dX11_away_1 ?_
  refine sc_put (ci := 9) (C := RX11) (T := TX11) (n := 22) S hK hV inX11_ tyX11_ok nmX11 hm0 rfl 0 (by decide) (S.2.2.2.2 _ (List.mem_of_getElem? (i := 1) rfl)) rfl rfl rfl rfl (Nat.le_of_ble_eq_true rfl) dX11_away_2 (fs1 := [.int (sI 0), .ref (m + 1), .ref (m + 2), .int (sI ch), .ref (m + 3), .int (sI tn), .int (sI ea), .ref (m + 4), .ref (m + 5), .ref (m + 6), .ref (m + 7), .ref (m + 8), .ref (m + 9), .int (sI sn), .ref (m + 10), .ref (m + 11), .ref (m + 12), .ref (m + 13), .int (sI nm), .ref (m + 14), .ref (m + 15), .int (sI wn)]) rfl (fun M1 H locs hM1 hV => ?_)
  have hc2 : M1 m = some (mO m 0 ch tn ea sn nm wn) := (congrFun hM1 m).trans (va_up_self M m _)
  refine lv_aload_n hx_ hb_ dX11_away_5 rfl (lv_at hl 0 rfl) ?_
  refine lv_iload_n hx_ hb_ dX11_away_6 rfl (lv_at hl 1 rfl) ?_
  refine lv_iload_n hx_ hb_ dX11_away_7 rfl (lv_at hl 2 rfl) ?_
  refine lv_iload_n hx_ hb_ dX11_away_8 rfl (lv_at hl 3 rfl) ?_
  have hc3 : M1 (m + 1) = some (sArr G 574 f) := ((congrFun hM1 (m + 1)).trans (va_up_ne M _ (by omega))).trans hm1
  refine sk_Vi E hV (As := [.int (sI s), .int (sI a), .int (sI b)]) (rest := []) (kX11_noStretch l_ G b_ M1 N m ch tn ea sn nm wn f s a b hc2 hc3 (by omega) (by omega)) (cwV 3 S.2.2.2.2 gX11_away_X11_noStretch rfl rfl rfl (by decide +kernel) ⟨Nat.le_of_ble_eq_true rfl, Nat.le_of_ble_eq_true rfl⟩) (ci := 9) hc2 rfl rfl rfl hl.1 (Nat.le_of_ble_eq_true rfl) dX11_away_9 (c1 := 0) (s1 := 0) ⟨⟨rfl, rfl⟩, by decide, by decide⟩ (fun z7 M4 N5 H locs hp6 hV => ?_)
  obtain ⟨hN8, hf9, hq10⟩ := hp6
  rw [hN8] at hV
  rcases hq10 with ⟨c11, ez12, hc13⟩ | ⟨c14, ez15, hc16⟩ | ⟨c17, ez18, hc19⟩
  · rw [ez12]
    refine sz_eq (tgt := 17) S dX11_away_12 (by decide) (by omega) (fun c20 => absurd c20 (by omega)) (fun _ => ?_)
    refine si_const S dX11_away_15 ?_
    exact sr_i E hQ dX11_away_16 ⟨Nat.le_of_ble_eq_true rfl, Nat.le_of_ble_eq_true rfl⟩ hV (⟨rfl, fun x q0 => (hf9 x (by omega)).trans ((congrFun hM1 x).trans (va_up_ne M _ (by omega))), Or.inl ⟨(by omega), rfl, hc13⟩⟩)
  · rw [ez15]
    refine sz_eq (tgt := 17) S dX11_away_12 (by decide) (by omega) (fun c21 => absurd c21 (by omega)) (fun _ => ?_)
    refine si_const S dX11_away_15 ?_
    exact sr_i E hQ dX11_away_16 ⟨Nat.le_of_ble_eq_true rfl, Nat.le_of_ble_eq_true rfl⟩ hV (⟨rfl, fun x q0 => (hf9 x (by omega)).trans ((congrFun hM1 x).trans (va_up_ne M _ (by omega))), Or.inr (Or.inl ⟨(by omega), rfl, hc16⟩)⟩)
  · rw [ez18]
    refine sz_eq (tgt := 17) S dX11_away_12 (by decide) (by omega) (fun _ => ?_) (fun c22 => absurd c22 (by omega))
    have ha := dayI_r (d := a) (by omega)
    have hb2 := dayI_r (d := b) (by omega)
    have hab := (dayI_le (isDt_x (d := a) (by omega)) (isDt_x (d := b) (by omega))).mpr (by omega)
    refine si_const S dX11_away_17 ?_
    refine lv_istore (lv' := [(4, .int (sI 0)), (0, .ref m), (1, .int (sI s)), (2, .int (sI a)), (3, .int (sI b))]) hx_ hb_ dX11_away_18 hl (by decide) rfl (fun ls hl => ?_)
    refine lv_iload_n hx_ hb_ dX11_away_20 rfl (lv_at hl 3 rfl) ?_
    refine sk_SP E hV (As := [.int (sI a)]) (rest := []) (kX11_dayOf l_ G b_ M4 N a (by omega)) (va_cwS 1 S.2.2.2.2 gX11_away_X11_dayOf rfl rfl rfl (by decide +kernel) ⟨Nat.le_of_ble_eq_true rfl, Nat.le_of_ble_eq_true rfl⟩) rfl rfl hl.1 (Nat.le_of_ble_eq_true rfl) dX11_away_21 (c1 := 0) (s1 := 0) ⟨⟨rfl, rfl⟩, by decide, by decide⟩ (fun H locs hV => ?_)
    refine lv_istore (lv' := [(5, .int (sI (dayI a + 3652))), (4, .int (sI 0)), (0, .ref m), (1, .int (sI s)), (2, .int (sI a)), (3, .int (sI b))]) hx_ hb_ dX11_away_24 hl (by decide) rfl (fun ls hl => ?_)
    have L26 : ∀ (fuel : Nat) (c : Int) (x : Int)  (H : Heap) (locs : List Loc) (ls : Array Slot), ((dayI b + 3653 - x).toNat) < fuel → (dayI a + 3652 ≤ x ∧ x ≤ dayI b + 3653) → (c = isum (x - (dayI a + 3652)) (awT f s (dayI a + 3652))) → sV G b_ M4 N s_ H locs → lv_has ls 6 [(0, .ref m), (1, .int (sI s)), (3, .int (sI b)), (4, .int (sI c)), (5, .int (sI x))] → W p_ l_ e_ rmX11_away s_ m_ args_ below_ meth_ c_ H locs 0 0 Q (F0 m_ 26 ls []) := by
      intro fuel
      induction fuel with
      | zero => intro c x H locs ls hmu; exact absurd hmu (Nat.not_lt_zero _)
      | succ fuel ih26 =>
        intro c x H locs ls hmu26 hv26_0 hc  hV hl
        have hh := hnd_r hok s x (f 571)
        refine lv_iload hx_ hb_ dX11_away_26 (lv_at hl 4 rfl) ?_
        refine lv_iload_n hx_ hb_ dX11_away_28 rfl (lv_at hl 2 rfl) ?_
        refine sk_SP E hV (As := [.int (sI b)]) (rest := [.int (sI x)]) (kX11_dayOf l_ G b_ M4 N b (by omega)) (va_cwS 1 S.2.2.2.2 gX11_away_X11_dayOf rfl rfl rfl (by decide +kernel) ⟨Nat.le_of_ble_eq_true rfl, Nat.le_of_ble_eq_true rfl⟩) rfl rfl hl.1 (Nat.le_of_ble_eq_true rfl) dX11_away_29 (c1 := 0) (s1 := 0) ⟨⟨rfl, rfl⟩, by decide, by decide⟩ (fun H locs hV => ?_)
        refine sb_gt (tgt := 69) S dX11_away_32 (by decide) (by omega) (fun c23 => ?_) (fun c23 => ?_)
        · refine lv_iload hx_ hb_ dX11_away_69 (lv_at hl 3 rfl) ?_
          exact sr_i E hQ dX11_away_71 ⟨Nat.le_of_ble_eq_true rfl, Nat.le_of_ble_eq_true rfl⟩ hV (⟨rfl, fun x q0 => (hf9 x (by omega)).trans ((congrFun hM1 x).trans (va_up_ne M _ (by omega))), Or.inr (Or.inr (⟨(by omega), by rw [hc, show x - (dayI a + 3652) = dayI b - dayI a + 1 by omega], hc19⟩))⟩)
        · refine lv_iload hx_ hb_ dX11_away_35 (lv_at hl 3 rfl) ?_
          refine lv_aload_n hx_ hb_ dX11_away_37 rfl (lv_at hl 0 rfl) ?_
          refine lv_iload_n hx_ hb_ dX11_away_38 rfl (lv_at hl 1 rfl) ?_
          refine lv_iload hx_ hb_ dX11_away_39 (lv_at hl 4 rfl) ?_
          refine lv_aload_n hx_ hb_ dX11_away_41 rfl (lv_at hl 0 rfl) ?_
          refine sc_get (ci := 9) (C := RX11) (T := TX11) (n := 22) S hK hV inX11_ hc19 rfl 1 (by decide) (S.2.2.2.2 _ (List.mem_of_getElem? (i := 2) rfl)) rfl rfl dX11_away_42 ?_
          refine si_sipush S dX11_away_45 (by decide) ?_
          have hc24 : M4 (m + 1) = some (sArr G 574 f) := (hf9 (m + 1) (by omega)).trans hc3
          refine sc_iald S hK hV hc24 (by omega) dX11_away_48 ?_
          refine sk_VP E hV (As := [.int (sI s), .int (sI x), .int (sI (f 571))]) (rest := [.int (sI c)]) (kX11_hand l_ G b_ M4 N m 0 ch tn ea sn nm wn f s x (f 571) hc19 hc24 (by omega) (by omega)) (cwV 3 S.2.2.2.2 gX11_away_X11_hand rfl rfl rfl (by decide +kernel) ⟨Nat.le_of_ble_eq_true rfl, Nat.le_of_ble_eq_true rfl⟩) (ci := 9) hc19 rfl rfl rfl hl.1 (Nat.le_of_ble_eq_true rfl) dX11_away_49 (c1 := 0) (s1 := 0) ⟨⟨rfl, rfl⟩, by decide, by decide⟩ (fun H locs hV => ?_)
          refine sz_eq (tgt := 59) S dX11_away_52 (by decide) (by omega) (fun c25 => ?_) (fun c25 => ?_)
          · refine si_const S dX11_away_59 ?_
            refine si_add S dX11_away_60 ?_
            refine lv_istore (lv' := [(4, .int (sI (c + 0))), (0, .ref m), (1, .int (sI s)), (3, .int (sI b)), (5, .int (sI x))]) hx_ hb_ dX11_away_61 hl (by decide) rfl (fun ls hl => ?_)
            refine si_inc (lv' := [(5, .int (sI (x + 1))), (4, .int (sI (c + 0))), (0, .ref m), (1, .int (sI s)), (3, .int (sI b))]) S dX11_away_63 hl (k := 4) rfl (by decide) rfl (fun ls hl => ?_)
            refine lv_goto (tgt := 26) hx_ hb_ dX11_away_66 (by decide) ?_
            exact ih26 (c + 0) (x + 1) _ _ _ (by omega) (by omega) (by have e := isum_s (awT f s (dayI a + 3652)) (show 0 ≤ x - (dayI a + 3652) by omega); rw [show x + 1 - (dayI a + 3652) = x - (dayI a + 3652) + 1 by omega]; have e2 : awT f s (dayI a + 3652) (x - (dayI a + 3652)) = if hnd f s (dayI a + 3652 + (x - (dayI a + 3652))) (f 571) ≠ 0 then 1 else 0 := rfl; rw [show dayI a + 3652 + (x - (dayI a + 3652)) = x by omega] at e2; split at e2 <;> omega) hV (lv_sub hl [2, 3, 4, 1, 0] rfl)
          · refine si_const S dX11_away_55 ?_
            refine lv_goto (tgt := 60) hx_ hb_ dX11_away_56 (by decide) ?_
            refine si_add S dX11_away_60 ?_
            refine lv_istore (lv' := [(4, .int (sI (c + 1))), (0, .ref m), (1, .int (sI s)), (3, .int (sI b)), (5, .int (sI x))]) hx_ hb_ dX11_away_61 hl (by decide) rfl (fun ls hl => ?_)
            refine si_inc (lv' := [(5, .int (sI (x + 1))), (4, .int (sI (c + 1))), (0, .ref m), (1, .int (sI s)), (3, .int (sI b))]) S dX11_away_63 hl (k := 4) rfl (by decide) rfl (fun ls hl => ?_)
            refine lv_goto (tgt := 26) hx_ hb_ dX11_away_66 (by decide) ?_
            exact ih26 (c + 1) (x + 1) _ _ _ (by omega) (by omega) (by have e := isum_s (awT f s (dayI a + 3652)) (show 0 ≤ x - (dayI a + 3652) by omega); rw [show x + 1 - (dayI a + 3652) = x - (dayI a + 3652) + 1 by omega]; have e2 : awT f s (dayI a + 3652) (x - (dayI a + 3652)) = if hnd f s (dayI a + 3652 + (x - (dayI a + 3652))) (f 571) ≠ 0 then 1 else 0 := rfl; rw [show dayI a + 3652 + (x - (dayI a + 3652)) = x by omega] at e2; split at e2 <;> omega) hV (lv_sub hl [2, 3, 4, 1, 0] rfl)
    exact L26 _ 0 (dayI a + 3652) _ _ _ (Nat.lt_succ_self _) (by omega) (by rw [show dayI a + 3652 - (dayI a + 3652) = 0 by omega]; rfl) hV (lv_sub hl [2, 3, 5, 1, 0] rfl)

abbrev rmX11_fee : Room := { frames := 5, cells := 0, slots := 0, locals := 124 }
set_option maxHeartbeats 4000000 in
set_option maxRecDepth 100000 in
theorem kX11_fee (l_ : Launch) (G : sG) (b_ : Nat) (M : sM) (N : Nat) (m : Nat) (th ch tn ea sn nm wn : Int) (f : sF) (s a b : Int) (hm0 : M m = some (mO m th ch tn ea sn nm wn)) (hm1 : M (m + 1) = some (sArr G 574 f)) (hok : sOk f) (hr : sR s ∧ sR a ∧ sR b) : cL l_ yX11_fee wsX11_fee rmX11_fee G b_ M N [.ref m, .int (sI s), .int (sI a), .int (sI b)] (fun z_ M1 N1 => N1 = N ∧ (∀ x : Nat, ¬ (x = m) → M1 x = M x) ∧ (((¬ (0 ≤ s ∧ s < f 568)) ∧ z_ = 0 ∧ M1 m = some (mO m 1 ch tn ea sn nm wn)) ∨ (((0 ≤ s ∧ s < f 568) ∧ ¬ (isDt a ∧ isDt b ∧ a ≤ b)) ∧ z_ = 0 ∧ M1 m = some (mO m 2 ch tn ea sn nm wn)) ∨ (((0 ≤ s ∧ s < f 568) ∧ isDt a ∧ isDt b ∧ a ≤ b) ∧ z_ = isum (dayI b - dayI a + 1) (fdT f s (dayI a + 3652)) / 1000 ∧ M1 m = some (mO m 0 ch tn ea sn nm wn)))) := by
  refine sE.ofL (cc := cX11_fee) (nL := 9) (ret := (some .long)) (by decide) rfl (Nat.le_of_ble_eq_true rfl) ?_
  intro p_ e_ s_ m_ args_ below_ meth_ c_ ls Q hQ E hl
  have E : sE p_ l_ e_ rmX11_fee s_ m_ args_ below_ meth_ c_ cX11_fee 9 wsX11_fee RX11 "fee" (some .long) G b_ M N := E
  have S := E.1
  have hx_ := S.1
  have hb_ := S.2.1
  have hK := E.2.2.2.2.1
  have hV := E.2.2.2.2.2.2
  have hl : lv_has ls 9 [(0, .ref m), (1, .int (sI s)), (2, .int (sI a)), (3, .int (sI b))] := hl
  have inX11_ : ∀ w ∈ wsX110, w ∈ wsX11_fee := fun _ h => List.mem_cons_of_mem _ (List.mem_append_right _ h)
  have kn0 := sOk_N hok
  refine lv_aload_n hx_ hb_ dX11_fee_0 rfl (lv_at hl 0 rfl) ?_
  refine si_const S dX11_fee_1 ?_
  refine sc_put (ci := 9) (C := RX11) (T := TX11) (n := 22) S hK hV inX11_ tyX11_ok nmX11 hm0 rfl 0 (by decide) (S.2.2.2.2 _ (List.mem_of_getElem? (i := 1) rfl)) rfl rfl rfl rfl (Nat.le_of_ble_eq_true rfl) dX11_fee_2 (fs1 := [.int (sI 0), .ref (m + 1), .ref (m + 2), .int (sI ch), .ref (m + 3), .int (sI tn), .int (sI ea), .ref (m + 4), .ref (m + 5), .ref (m + 6), .ref (m + 7), .ref (m + 8), .ref (m + 9), .int (sI sn), .ref (m + 10), .ref (m + 11), .ref (m + 12), .ref (m + 13), .int (sI nm), .ref (m + 14), .ref (m + 15), .int (sI wn)]) rfl (fun M1 H locs hM1 hV => ?_)
  have hc2 : M1 m = some (mO m 0 ch tn ea sn nm wn) := (congrFun hM1 m).trans (va_up_self M m _)
  refine lv_aload_n hx_ hb_ dX11_fee_5 rfl (lv_at hl 0 rfl) ?_
  refine lv_iload_n hx_ hb_ dX11_fee_6 rfl (lv_at hl 1 rfl) ?_
  refine lv_iload_n hx_ hb_ dX11_fee_7 rfl (lv_at hl 2 rfl) ?_
  refine lv_iload_n hx_ hb_ dX11_fee_8 rfl (lv_at hl 3 rfl) ?_
  have hc3 : M1 (m + 1) = some (sArr G 574 f) := ((congrFun hM1 (m + 1)).trans (va_up_ne M _ (by omega))).trans hm1
  refine sk_Vi E hV (As := [.int (sI s), .int (sI a), .int (sI b)]) (rest := []) (kX11_noStretch l_ G b_ M1 N m ch tn ea sn nm wn f s a b hc2 hc3 (by omega) (by omega)) (cwV 3 S.2.2.2.2 gX11_fee_X11_noStretch rfl rfl rfl (by decide +kernel) ⟨Nat.le_of_ble_eq_true rfl, Nat.le_of_ble_eq_true rfl⟩) (ci := 9) hc2 rfl rfl rfl hl.1 (Nat.le_of_ble_eq_true rfl) dX11_fee_9 (c1 := 0) (s1 := 0) ⟨⟨rfl, rfl⟩, by decide, by decide⟩ (fun z7 M4 N5 H locs hp6 hV => ?_)
  obtain ⟨hN8, hf9, hq10⟩ := hp6
  rw [hN8] at hV
  rcases hq10 with ⟨c11, ez12, hc13⟩ | ⟨c14, ez15, hc16⟩ | ⟨c17, ez18, hc19⟩
  · rw [ez12]
    refine sz_eq (tgt := 17) S dX11_fee_12 (by decide) (by omega) (fun c20 => absurd c20 (by omega)) (fun _ => ?_)
    refine sl_const S (z := 0) dX11_fee_15 (by decide) ?_
    exact sr_l E hQ dX11_fee_16 ⟨Nat.le_of_ble_eq_true rfl, Nat.le_of_ble_eq_true rfl⟩ hV (⟨rfl, fun x q0 => (hf9 x (by omega)).trans ((congrFun hM1 x).trans (va_up_ne M _ (by omega))), Or.inl ⟨(by omega), rfl, hc13⟩⟩)
  · rw [ez15]
    refine sz_eq (tgt := 17) S dX11_fee_12 (by decide) (by omega) (fun c21 => absurd c21 (by omega)) (fun _ => ?_)
    refine sl_const S (z := 0) dX11_fee_15 (by decide) ?_
    exact sr_l E hQ dX11_fee_16 ⟨Nat.le_of_ble_eq_true rfl, Nat.le_of_ble_eq_true rfl⟩ hV (⟨rfl, fun x q0 => (hf9 x (by omega)).trans ((congrFun hM1 x).trans (va_up_ne M _ (by omega))), Or.inr (Or.inl ⟨(by omega), rfl, hc16⟩)⟩)
  · rw [ez18]
    refine sz_eq (tgt := 17) S dX11_fee_12 (by decide) (by omega) (fun _ => ?_) (fun c22 => absurd c22 (by omega))
    have ha := dayI_r (d := a) (by omega)
    have hb2 := dayI_r (d := b) (by omega)
    have hab := (dayI_le (isDt_x (d := a) (by omega)) (isDt_x (d := b) (by omega))).mpr (by omega)
    refine sl_const S (z := 0) dX11_fee_17 (by decide) ?_
    refine lv_lstore (lv' := [(4, .long (sL 0)), (0, .ref m), (1, .int (sI s)), (2, .int (sI a)), (3, .int (sI b))]) hx_ hb_ dX11_fee_18 hl (by decide) rfl (fun ls hl => ?_)
    refine lv_iload_n hx_ hb_ dX11_fee_20 rfl (lv_at hl 4 rfl) ?_
    refine sk_SP E hV (As := [.int (sI b)]) (rest := []) (kX11_dayOf l_ G b_ M4 N b (by omega)) (va_cwS 1 S.2.2.2.2 gX11_fee_X11_dayOf rfl rfl rfl (by decide +kernel) ⟨Nat.le_of_ble_eq_true rfl, Nat.le_of_ble_eq_true rfl⟩) rfl rfl hl.1 (Nat.le_of_ble_eq_true rfl) dX11_fee_21 (c1 := 0) (s1 := 0) ⟨⟨rfl, rfl⟩, by decide, by decide⟩ (fun H locs hV => ?_)
    refine lv_istore (lv' := [(6, .int (sI (dayI b + 3652))), (4, .long (sL 0)), (0, .ref m), (1, .int (sI s)), (2, .int (sI a)), (3, .int (sI b))]) hx_ hb_ dX11_fee_24 hl (by decide) rfl (fun ls hl => ?_)
    refine lv_iload_n hx_ hb_ dX11_fee_26 rfl (lv_at hl 4 rfl) ?_
    refine sk_SP E hV (As := [.int (sI a)]) (rest := []) (kX11_dayOf l_ G b_ M4 N a (by omega)) (va_cwS 1 S.2.2.2.2 gX11_fee_X11_dayOf rfl rfl rfl (by decide +kernel) ⟨Nat.le_of_ble_eq_true rfl, Nat.le_of_ble_eq_true rfl⟩) rfl rfl hl.1 (Nat.le_of_ble_eq_true rfl) dX11_fee_27 (c1 := 0) (s1 := 0) ⟨⟨rfl, rfl⟩, by decide, by decide⟩ (fun H locs hV => ?_)
    refine lv_istore (lv' := [(7, .int (sI (dayI a + 3652))), (6, .int (sI (dayI b + 3652))), (4, .long (sL 0)), (0, .ref m), (1, .int (sI s)), (2, .int (sI a)), (3, .int (sI b))]) hx_ hb_ dX11_fee_30 hl (by decide) rfl (fun ls hl => ?_)
    have L32 : ∀ (fuel : Nat) (c : Int) (x : Int)  (H : Heap) (locs : List Loc) (ls : Array Slot), ((dayI b + 3653 - x).toNat) < fuel → (dayI a + 3652 ≤ x ∧ x ≤ dayI b + 3653) → (c = isum (x - (dayI a + 3652)) (fdT f s (dayI a + 3652))) → sV G b_ M4 N s_ H locs → lv_has ls 9 [(0, .ref m), (1, .int (sI s)), (4, .long (sL c)), (6, .int (sI (dayI b + 3652))), (7, .int (sI x))] → W p_ l_ e_ rmX11_fee s_ m_ args_ below_ meth_ c_ H locs 0 0 Q (F0 m_ 32 ls []) := by
      intro fuel
      induction fuel with
      | zero => intro c x H locs ls hmu; exact absurd hmu (Nat.not_lt_zero _)
      | succ fuel ih32 =>
        intro c x H locs ls hmu32 hv32_0 hc  hV hl
        have hh := hnd_r hok s x (f 571)
        refine lv_iload hx_ hb_ dX11_fee_32 (lv_at hl 4 rfl) ?_
        refine lv_iload hx_ hb_ dX11_fee_34 (lv_at hl 3 rfl) ?_
        refine sb_gt (tgt := 92) S dX11_fee_36 (by decide) (by omega) (fun c23 => ?_) (fun c23 => ?_)
        · have hfr9 := fd_r hok s (dayI a + 3652) (x - (dayI a + 3652)) (by omega) (by omega)
          refine lv_lload hx_ hb_ dX11_fee_92 (lv_at hl 2 rfl) ?_
          refine sl_ldc2 S (1000) (S.2.2.2.2 _ (List.mem_of_getElem? (i := 3) rfl)) (by decide) dX11_fee_94 ?_
          refine sl_div S dX11_fee_97 (by omega) ?_
          exact sr_l E hQ dX11_fee_98 ⟨Nat.le_of_ble_eq_true rfl, Nat.le_of_ble_eq_true rfl⟩ hV (⟨rfl, fun x q0 => (hf9 x (by omega)).trans ((congrFun hM1 x).trans (va_up_ne M _ (by omega))), Or.inr (Or.inr (⟨(by omega), by rw [hc, show x - (dayI a + 3652) = dayI b - dayI a + 1 by omega], hc19⟩))⟩)
        · refine lv_aload_n hx_ hb_ dX11_fee_39 rfl (lv_at hl 0 rfl) ?_
          refine lv_iload_n hx_ hb_ dX11_fee_40 rfl (lv_at hl 1 rfl) ?_
          refine lv_iload hx_ hb_ dX11_fee_41 (lv_at hl 4 rfl) ?_
          refine lv_aload_n hx_ hb_ dX11_fee_43 rfl (lv_at hl 0 rfl) ?_
          refine sc_get (ci := 9) (C := RX11) (T := TX11) (n := 22) S hK hV inX11_ hc19 rfl 1 (by decide) (S.2.2.2.2 _ (List.mem_of_getElem? (i := 2) rfl)) rfl rfl dX11_fee_44 ?_
          refine si_sipush S dX11_fee_47 (by decide) ?_
          have hc24 : M4 (m + 1) = some (sArr G 574 f) := (hf9 (m + 1) (by omega)).trans hc3
          refine sc_iald S hK hV hc24 (by omega) dX11_fee_50 ?_
          refine sk_VP E hV (As := [.int (sI s), .int (sI x), .int (sI (f 571))]) (rest := []) (kX11_hand l_ G b_ M4 N m 0 ch tn ea sn nm wn f s x (f 571) hc19 hc24 (by omega) (by omega)) (cwV 3 S.2.2.2.2 gX11_fee_X11_hand rfl rfl rfl (by decide +kernel) ⟨Nat.le_of_ble_eq_true rfl, Nat.le_of_ble_eq_true rfl⟩) (ci := 9) hc19 rfl rfl rfl hl.1 (Nat.le_of_ble_eq_true rfl) dX11_fee_51 (c1 := 0) (s1 := 0) ⟨⟨rfl, rfl⟩, by decide, by decide⟩ (fun H locs hV => ?_)
          refine lv_istore (lv' := [(8, .int (sI (hnd f s x (f 571)))), (0, .ref m), (1, .int (sI s)), (4, .long (sL c)), (6, .int (sI (dayI b + 3652))), (7, .int (sI x))]) hx_ hb_ dX11_fee_54 hl (by decide) rfl (fun ls hl => ?_)
          refine lv_lload hx_ hb_ dX11_fee_56 (lv_at hl 3 rfl) ?_
          refine lv_iload hx_ hb_ dX11_fee_58 (lv_at hl 0 rfl) ?_
          refine si_bipush S dX11_fee_60 (by decide) ?_
          refine sb_ne (tgt := 69) S dX11_fee_62 (by decide) (by omega) (fun c25 => ?_) (fun c25 => ?_)
          · refine lv_aload_n hx_ hb_ dX11_fee_69 rfl (lv_at hl 1 rfl) ?_
            refine sc_get (ci := 9) (C := RX11) (T := TX11) (n := 22) S hK hV inX11_ hc19 rfl 1 (by decide) (S.2.2.2.2 _ (List.mem_of_getElem? (i := 2) rfl)) rfl rfl dX11_fee_70 ?_
            refine si_bipush S dX11_fee_73 (by decide) ?_
            refine lv_iload_n hx_ hb_ dX11_fee_75 rfl (lv_at hl 2 rfl) ?_
            refine si_add S dX11_fee_76 ?_
            refine sc_iald S hK hV hc24 (by omega) dX11_fee_77 ?_
            have kn26 : 0 ≤ f (40 + s) ∧ f (40 + s) ≤ 10000 := (sOk_S hok s (by omega) (by omega)).2.2.2.2.1
            refine sl_i2l S dX11_fee_78 (by omega) ?_
            refine lv_iload hx_ hb_ dX11_fee_79 (lv_at hl 0 rfl) ?_
            refine sl_i2l S dX11_fee_81 (by omega) ?_
            refine sl_mul S dX11_fee_82 ?_
            refine sl_add S dX11_fee_83 ?_
            refine lv_lstore (lv' := [(4, .long (sL (c + ((f (40 + s)) * (hnd f s x (f 571)))))), (8, .int (sI (hnd f s x (f 571)))), (0, .ref m), (1, .int (sI s)), (6, .int (sI (dayI b + 3652))), (7, .int (sI x))]) hx_ hb_ dX11_fee_84 hl (by decide) rfl (fun ls hl => ?_)
            refine si_inc (lv' := [(7, .int (sI (x + 1))), (4, .long (sL (c + ((f (40 + s)) * (hnd f s x (f 571)))))), (8, .int (sI (hnd f s x (f 571)))), (0, .ref m), (1, .int (sI s)), (6, .int (sI (dayI b + 3652)))]) S dX11_fee_86 hl (k := 5) rfl (by decide) rfl (fun ls hl => ?_)
            refine lv_goto (tgt := 32) hx_ hb_ dX11_fee_89 (by decide) ?_
            exact ih32 (c + ((f (40 + s)) * (hnd f s x (f 571)))) (x + 1) _ _ _ (by omega) (by omega) (by have e := isum_s (fdT f s (dayI a + 3652)) (show 0 ≤ x - (dayI a + 3652) by omega); rw [show x + 1 - (dayI a + 3652) = x - (dayI a + 3652) + 1 by omega]; have e2 : fdT f s (dayI a + 3652) (x - (dayI a + 3652)) = if hnd f s (dayI a + 3652 + (x - (dayI a + 3652))) (f 571) = 6 then 0 else f (40 + s) * hnd f s (dayI a + 3652 + (x - (dayI a + 3652))) (f 571) := rfl; rw [show dayI a + 3652 + (x - (dayI a + 3652)) = x by omega] at e2; split at e2 <;> omega) hV (lv_sub hl [3, 4, 1, 5, 0] rfl)
          · refine sl_const S (z := 0) dX11_fee_65 (by decide) ?_
            refine lv_goto (tgt := 83) hx_ hb_ dX11_fee_66 (by decide) ?_
            refine sl_add S dX11_fee_83 ?_
            refine lv_lstore (lv' := [(4, .long (sL (c + 0))), (8, .int (sI (hnd f s x (f 571)))), (0, .ref m), (1, .int (sI s)), (6, .int (sI (dayI b + 3652))), (7, .int (sI x))]) hx_ hb_ dX11_fee_84 hl (by decide) rfl (fun ls hl => ?_)
            refine si_inc (lv' := [(7, .int (sI (x + 1))), (4, .long (sL (c + 0))), (8, .int (sI (hnd f s x (f 571)))), (0, .ref m), (1, .int (sI s)), (6, .int (sI (dayI b + 3652)))]) S dX11_fee_86 hl (k := 5) rfl (by decide) rfl (fun ls hl => ?_)
            refine lv_goto (tgt := 32) hx_ hb_ dX11_fee_89 (by decide) ?_
            exact ih32 (c + 0) (x + 1) _ _ _ (by omega) (by omega) (by have e := isum_s (fdT f s (dayI a + 3652)) (show 0 ≤ x - (dayI a + 3652) by omega); rw [show x + 1 - (dayI a + 3652) = x - (dayI a + 3652) + 1 by omega]; have e2 : fdT f s (dayI a + 3652) (x - (dayI a + 3652)) = if hnd f s (dayI a + 3652 + (x - (dayI a + 3652))) (f 571) = 6 then 0 else f (40 + s) * hnd f s (dayI a + 3652 + (x - (dayI a + 3652))) (f 571) := rfl; rw [show dayI a + 3652 + (x - (dayI a + 3652)) = x by omega] at e2; split at e2 <;> omega) hV (lv_sub hl [3, 4, 1, 5, 0] rfl)
    exact L32 _ 0 (dayI a + 3652) _ _ _ (Nat.lt_succ_self _) (by omega) (by rw [show dayI a + 3652 - (dayI a + 3652) = 0 by omega]; rfl) hV (lv_sub hl [3, 4, 2, 1, 0] rfl)
