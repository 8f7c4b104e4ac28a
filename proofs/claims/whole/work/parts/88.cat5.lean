/-! What the class writes. -/
theorem byt_d {x k : Int} (hx : 0 ≤ x ∧ x ≤ 2147483647) (hk : k = 0 ∨ k = 8 ∨ k = 16 ∨ k = 24) : byt x k = x / ((2 ^ k.toNat : Nat) : Int) % 256 := by
  have e : ishr x k = x / ((2 ^ k.toNat : Nat) : Int) := by
    rw [ishr_n hx (by omega), Nat.shiftRight_eq_div_pow, Int.natCast_ediv, Int.toNat_of_nonneg hx.1]
  have h0 : 0 ≤ x / ((2 ^ k.toNat : Nat) : Int) ∧ x / ((2 ^ k.toNat : Nat) : Int) ≤ x := ⟨Int.ediv_nonneg hx.1 (Int.natCast_nonneg _), Int.ediv_le_self _ hx.1⟩
  unfold byt
  rw [e]
  generalize x / ((2 ^ k.toNat : Nat) : Int) = y at h0 ⊢
  rw [iand_n (by omega) (by omega), show (255 : Int).toNat = 2 ^ 8 - 1 from rfl, Nat.and_two_pow_sub_one_eq_mod]
  omega
def hcP (h u : Int) : Prop := (h = 24 ∧ u = 19683) ∨ (h = 16 ∧ u = 729) ∨ (h = 8 ∧ u = 27) ∨ (h = 0 ∧ u = 1) ∨ (h = -8 ∧ u = 0)
theorem hc_b {v h u : Int} (hv : 0 ≤ v ∧ v < 531441) (hh : 0 ≤ h) (hc : hcP h u) : byt (cod v) h = cby (v / u % 27) ∧ ucP u ∧ hcP (h - 8) (u / 27) := by
  have r := cod_r hv
  have b1 := cby_r (v / 19683) (by omega)
  have b2 := cby_r (v / 729 % 27) (by omega)
  have b3 := cby_r (v / 27 % 27) (by omega)
  have b4 := cby_r (v % 27) (by omega)
  have b1 : 0 ≤ cby (v / 19683) ∧ cby (v / 19683) ≤ 122 := ⟨b1.1, b1.2.1⟩
  have b2 : 0 ≤ cby (v / 729 % 27) ∧ cby (v / 729 % 27) ≤ 122 := ⟨b2.1, b2.2.1⟩
  have b3 : 0 ≤ cby (v / 27 % 27) ∧ cby (v / 27 % 27) ≤ 122 := ⟨b3.1, b3.2.1⟩
  have b4 : 0 ≤ cby (v % 27) ∧ cby (v % 27) ≤ 122 := ⟨b4.1, b4.2.1⟩
  unfold hcP at hc ⊢
  unfold ucP
  rcases hc with ⟨e, e2⟩ | ⟨e, e2⟩ | ⟨e, e2⟩ | ⟨e, e2⟩ | ⟨e, e2⟩
  · subst e; subst e2
    refine ⟨?_, by omega, by omega⟩
    rw [byt_d (by omega) (by omega), show (((2 ^ (24 : Int).toNat : Nat)) : Int) = 16777216 from rfl, show v / 19683 % 27 = v / 19683 by omega]
    unfold cod at r ⊢
    omega
  · subst e; subst e2
    refine ⟨?_, by omega, by omega⟩
    rw [byt_d (by omega) (by omega), show (((2 ^ (16 : Int).toNat : Nat)) : Int) = 65536 from rfl]
    unfold cod at r ⊢
    omega
  · subst e; subst e2
    refine ⟨?_, by omega, by omega⟩
    rw [byt_d (by omega) (by omega), show (((2 ^ (8 : Int).toNat : Nat)) : Int) = 256 from rfl]
    unfold cod at r ⊢
    omega
  · subst e; subst e2
    refine ⟨?_, by omega, by omega⟩
    rw [byt_d (by omega) (by omega), show (((2 ^ (0 : Int).toNat : Nat)) : Int) = 1 from rfl, show v / 1 % 27 = v % 27 by omega]
    unfold cod at r ⊢
    omega
  · omega
def pcQ (v : Int) (sg : wG) (w0 h w2 : Int) (T2 : sF) : Prop := ∃ (u : Int) (g : wG), hcP h u ∧ coR u v g = coW v sg ∧ wrE g w2 T2 ∧ w0 ≤ w2 ∧ w2 + kcI u ≤ w0 + 4
theorem pc_s {v h w0 w2 : Int} {sg : wG} {T2 : sF} (hE : wrE sg w0 T2) (hw : w2 = w0) (hh : h = 24) : pcQ v sg w0 h w2 T2 := ⟨19683, sg, Or.inl ⟨hh, rfl⟩, rfl, by rw [hw]; exact hE, by omega, by rw [show kcI 19683 = 4 from rfl]; omega⟩
theorem pc_t {v h w0 w2 : Int} {sg : wG} {T2 : sF} (hv : 0 ≤ v ∧ v < 531441) (hh : 0 ≤ h) (hl : byt (cod v) h ≠ 0) (q : pcQ v sg w0 h w2 T2) : pcQ v sg w0 (h - 8) (w2 + 1) (iup T2 w2 (byt (cod v) h)) := by
  obtain ⟨u, g, q1, q2, q3, q4, q5⟩ := q
  obtain ⟨c1, c2, c3⟩ := hc_b hv hh q1
  have k := kc_s c2
  have u1 := uc_r c2
  have hm : 0 ≤ v / u % 27 := Int.emod_nonneg _ (by omega)
  rw [c1] at hl ⊢
  unfold cby at hl ⊢
  by_cases e : v / u % 27 = 0
  · rw [if_pos e] at hl; exact absurd rfl hl
  · rw [if_neg e]
    refine ⟨u / 27, wrA g (96 + v / u % 27), c3, ?_, wrE_a q3 _, by omega, by omega⟩
    rw [← q2, coR_s c2]
    unfold cdW
    rw [if_pos (show 0 < v / u % 27 by omega)]
theorem pc_f {v h w0 w2 : Int} {sg : wG} {T2 : sF} (hv : 0 ≤ v ∧ v < 531441) (hh : 0 ≤ h) (hl : byt (cod v) h = 0) (q : pcQ v sg w0 h w2 T2) : pcQ v sg w0 (h - 8) w2 T2 := by
  obtain ⟨u, g, q1, q2, q3, q4, q5⟩ := q
  obtain ⟨c1, c2, c3⟩ := hc_b hv hh q1
  have k := kc_s c2
  have u1 := uc_r c2
  have hm : 0 ≤ v / u % 27 := Int.emod_nonneg _ (by omega)
  rw [c1] at hl
  unfold cby at hl
  by_cases e : v / u % 27 = 0
  · refine ⟨u / 27, g, c3, ?_, q3, by omega, by omega⟩
    rw [← q2, coR_s c2]
    unfold cdW
    rw [if_neg (show ¬ 0 < v / u % 27 by omega)]
  · rw [if_neg e] at hl; omega
theorem pc_w {v h w0 w2 : Int} {sg : wG} {T2 : sF} (hh : 0 ≤ h) (q : pcQ v sg w0 h w2 T2) : w0 ≤ w2 ∧ w2 + 1 ≤ w0 + 4 ∧ (h = 0 ∨ h = 8 ∨ h = 16 ∨ h = 24) := by
  obtain ⟨u, g, q1, q2, q3, q4, q5⟩ := q
  unfold hcP at q1
  have k : 1 ≤ kcI u := kc_1 (by unfold ucP; omega)
  omega
theorem pc_h {v h w0 w2 : Int} {sg : wG} {T2 : sF} (q : pcQ v sg w0 h w2 T2) : -8 ≤ h ∧ h ≤ 24 := by
  obtain ⟨u, g, q1, _⟩ := q
  unfold hcP at q1
  omega
theorem pc_e {v h w0 w2 : Int} {sg : wG} {T2 : sF} (hh : h < 0) (q : pcQ v sg w0 h w2 T2) : wrE (coW v sg) w2 T2 ∧ w0 ≤ w2 ∧ w2 ≤ w0 + 4 := by
  obtain ⟨u, g, q1, q2, q3, q4, q5⟩ := q
  have e : u = 0 := by unfold hcP at q1; omega
  have k := kc_r u
  rw [e, coR_0] at q2
  rw [← q2]
  exact ⟨q3, by omega, by omega⟩
def nmQ (v : Int) (sg : wG) (w0 u w2 : Int) (T2 : sF) : Prop := (u = 0 ∨ unP u) ∧ (∃ g, nmR u v g = nmW v sg ∧ wrE g w2 T2) ∧ w0 ≤ w2 ∧ (w2 = w0 ∨ w2 + kdI u ≤ w0 + nmL v)
theorem nm_0 {v w0 : Int} {sg : wG} {T2 : sF} (hE : wrE sg w0 T2) : nmQ v sg w0 10000 w0 T2 := ⟨Or.inr (by unfold unP; omega), ⟨sg, rfl, hE⟩, by omega, Or.inl rfl⟩
theorem nm_u {v w0 u w2 : Int} {sg : wG} {T2 : sF} (h : 0 < u) (q : nmQ v sg w0 u w2 T2) : unP u ∧ (u = 1 ∨ u ≤ v → w2 + 1 ≤ w0 + nmL v) := by
  have hu : unP u := by rcases q.1 with e | e; omega; exact e
  refine ⟨hu, fun w => ?_⟩
  have k1 := kd_1 hu
  have k2 := kd_0 hu w
  have := q.2.2
  omega
theorem nm_t {v w0 u w2 : Int} {sg : wG} {T2 : sF} (h : 0 < u) (hw : u ≤ v ∨ u = 1) (q : nmQ v sg w0 u w2 T2) : nmQ v sg w0 (u / 10) (w2 + 1) (iup T2 w2 (48 + v / u % 10)) := by
  have hu := (nm_u h q).1
  obtain ⟨q1, ⟨g, g1, g2⟩, q3, q4⟩ := q
  have k := kd_s hu
  have k2 := kd_0 (v := v) hu (by omega)
  exact ⟨k.2.1, ⟨wrA g (48 + v / u % 10), by rw [← g1, nmR_s hu, dgW_t hw], wrE_a g2 _⟩, by omega, by omega⟩
theorem nm_f {v w0 u w2 : Int} {sg : wG} {T2 : sF} (h : 0 < u) (hw : v < u ∧ u ≠ 1) (q : nmQ v sg w0 u w2 T2) : nmQ v sg w0 (u / 10) w2 T2 := by
  have hu := (nm_u h q).1
  obtain ⟨q1, ⟨g, g1, g2⟩, q3, q4⟩ := q
  have k := kd_s hu
  exact ⟨k.2.1, ⟨g, by rw [← g1, nmR_s hu, dgW_f hw.1 hw.2], g2⟩, by omega, by omega⟩
theorem nmq_e {v w0 u w2 : Int} {sg : wG} {T2 : sF} (h : u ≤ 0) (q : nmQ v sg w0 u w2 T2) : wrE (nmW v sg) w2 T2 ∧ w0 ≤ w2 ∧ w2 ≤ w0 + nmL v := by
  obtain ⟨q1, ⟨g, g1, g2⟩, q3, q4⟩ := q
  have e : u = 0 := by rcases q1 with e | e; exact e; have := un_r e; omega
  have k := kd_r u
  have k2 := nmL_r v
  rw [e, nmR_0] at g1
  rw [← g1]
  exact ⟨g2, by omega, by omega⟩
theorem nmq_r {v w0 u w2 : Int} {sg : wG} {T2 : sF} (q : nmQ v sg w0 u w2 T2) : 0 ≤ u ∧ u ≤ 10000 ∧ w0 ≤ w2 := by
  have := q.2.2
  rcases q.1 with e | e
  · omega
  · have := un_r e; omega

abbrev rmX1_signAt : Room := { frames := 1, cells := 0, slots := 0, locals := 40 }
set_option maxHeartbeats 4000000 in
set_option maxRecDepth 100000 in
theorem kX1_signAt (l_ : Launch) (G : sG) (b_ : Nat) (M : sM) (N : Nat) (q : Nat) (wc tk ts te tv : Int) (T : sF) (i : Int) (hq0 : M q = some (sObj 0 [.ref (q + 1), .ref (q + 3), .int (sI wc), .int (sI tk), .int (sI ts), .int (sI te), .int (sI tv)])) (hw : M (q + 3) = some (sArC G 180 T)) (hr : sR i ∧ sR wc) (hwc : wc ≤ 180) (hT : ∀ q, 0 ≤ q → q < wc → 0 ≤ T q ∧ T q < 65536) : cP l_ yX1_signAt wsX1_signAt rmX1_signAt G b_ M N [.ref q, .int (sI i)] (if 0 ≤ i ∧ i < wc then T i else 32) := by
  refine sE.ofI (cc := cX1_signAt) (nL := 2) (ret := (some .char)) (by decide) rfl (Nat.le_of_ble_eq_true rfl) ?_
  intro p_ e_ s_ m_ args_ below_ meth_ c_ ls Q hQ E hl
  have E : sE p_ l_ e_ rmX1_signAt s_ m_ args_ below_ meth_ c_ cX1_signAt 2 wsX1_signAt RX1 "signAt" (some .char) G b_ M N := E
  have S := E.1
  have hx_ := S.1
  have hb_ := S.2.1
  have hK := E.2.2.2.2.1
  have hV := E.2.2.2.2.2.2
  have hl : lv_has ls 2 [(0, .ref q), (1, .int (sI i))] := hl
  have inX1_ : ∀ w ∈ wsX10, w ∈ wsX1_signAt := fun _ h => List.mem_cons_of_mem _ (List.mem_append_right _ h)
  refine lv_iload_n hx_ hb_ dX1_signAt_0 rfl (lv_at hl 1 rfl) ?_
  refine sz_lt (tgt := 21) S dX1_signAt_1 (by decide) (by omega) (fun c1 => ?_) (fun c1 => ?_)
  · refine si_bipush S dX1_signAt_21 (by decide) ?_
    exact sr_c E hQ (by omega) dX1_signAt_23 ⟨Nat.le_of_ble_eq_true rfl, Nat.le_of_ble_eq_true rfl⟩ hV (⟨by rw [if_neg (by omega)], rfl, rfl⟩)
  · refine lv_iload_n hx_ hb_ dX1_signAt_4 rfl (lv_at hl 1 rfl) ?_
    refine lv_aload_n hx_ hb_ dX1_signAt_5 rfl (lv_at hl 0 rfl) ?_
    refine sc_get (ci := 0) (C := RX1) (T := TX1) (n := 7) S hK hV inX1_ hq0 rfl 2 (by decide) (S.2.2.2.2 _ (List.mem_of_getElem? (i := 1) rfl)) rfl rfl dX1_signAt_6 ?_
    refine sb_ge (tgt := 21) S dX1_signAt_9 (by decide) (by omega) (fun c2 => ?_) (fun c2 => ?_)
    · refine si_bipush S dX1_signAt_21 (by decide) ?_
      exact sr_c E hQ (by omega) dX1_signAt_23 ⟨Nat.le_of_ble_eq_true rfl, Nat.le_of_ble_eq_true rfl⟩ hV (⟨by rw [if_neg (by omega)], rfl, rfl⟩)
    · refine lv_aload_n hx_ hb_ dX1_signAt_12 rfl (lv_at hl 0 rfl) ?_
      refine sc_get (ci := 0) (C := RX1) (T := TX1) (n := 7) S hK hV inX1_ hq0 rfl 1 (by decide) (S.2.2.2.2 _ (List.mem_of_getElem? (i := 2) rfl)) rfl rfl dX1_signAt_13 ?_
      refine lv_iload_n hx_ hb_ dX1_signAt_16 rfl (lv_at hl 1 rfl) ?_
      refine sc_cald S hK hV hw (by omega) dX1_signAt_17 ?_
      have hTi := hT i (by omega) (by omega)
      refine lv_goto (tgt := 23) hx_ hb_ dX1_signAt_18 (by decide) ?_
      exact sr_c E hQ (by omega) dX1_signAt_23 ⟨Nat.le_of_ble_eq_true rfl, Nat.le_of_ble_eq_true rfl⟩ hV (⟨by rw [if_pos (by omega)], rfl, rfl⟩)

abbrev rmX1_putNumber : Room := { frames := 2, cells := 0, slots := 0, locals := 61 }
set_option maxHeartbeats 4000000 in
set_option maxRecDepth 100000 in
theorem kX1_putNumber (l_ : Launch) (G : sG) (b_ : Nat) (M : sM) (N : Nat) (q : Nat) (wc tk ts te tv : Int) (T : sF) (v : Int) (sg : wG) (hq0 : M q = some (sObj 0 [.ref (q + 1), .ref (q + 3), .int (sI wc), .int (sI tk), .int (sI ts), .int (sI te), .int (sI tv)])) (hw : M (q + 3) = some (sArC G 180 T)) (hv : 0 ≤ v ∧ v ≤ 10000) (hE : wrE sg wc T) (hb : 0 ≤ wc ∧ wc + nmL v ≤ 180) : cV l_ yX1_putNumber wsX1_putNumber rmX1_putNumber G b_ M N [.ref q, .int (sI v)] (fun M1 N1 => ∃ w9 : Int, ∃ T9 : Int → Int, N1 = N ∧ M1 q = some (sObj 0 [.ref (q + 1), .ref (q + 3), .int (sI w9), .int (sI tk), .int (sI ts), .int (sI te), .int (sI tv)]) ∧ M1 (q + 3) = some (sArC G 180 T9) ∧ (∀ x : Nat, ¬ (x = q) → ¬ (x = q + 3) → M1 x = M x) ∧ (wrE (nmW v sg) w9 T9) ∧ (wc ≤ w9 ∧ w9 ≤ wc + nmL v)) := by
  refine sE.ofV (cc := cX1_putNumber) (nL := 3) (ret := none) (by decide) rfl (Nat.le_of_ble_eq_true rfl) ?_
  intro p_ e_ s_ m_ args_ below_ meth_ c_ ls Q hQ E hl
  have E : sE p_ l_ e_ rmX1_putNumber s_ m_ args_ below_ meth_ c_ cX1_putNumber 3 wsX1_putNumber RX1 "putNumber" none G b_ M N := E
  have S := E.1
  have hx_ := S.1
  have hb_ := S.2.1
  have hK := E.2.2.2.2.1
  have hV := E.2.2.2.2.2.2
  have hl : lv_has ls 3 [(0, .ref q), (1, .int (sI v))] := hl
  have inX1_ : ∀ w ∈ wsX10, w ∈ wsX1_putNumber := fun _ h => List.mem_cons_of_mem _ (List.mem_append_right _ h)
  refine si_sipush S dX1_putNumber_0 (by decide) ?_
  refine lv_istore_n (lv' := [(2, .int (sI 10000)), (0, .ref q), (1, .int (sI v))]) hx_ hb_ dX1_putNumber_3 rfl hl (by decide) rfl (fun ls hl => ?_)
  have L4 : ∀ (fuel : Nat) (u : Int) (w2 : Int) (T2 : Int → Int) (Ml4 : sM) (H : Heap) (locs : List Loc) (ls : Array Slot), (u.toNat) < fuel → (nmQ v sg wc u w2 T2) → (Ml4 q = some (sObj 0 [.ref (q + 1), .ref (q + 3), .int (sI w2), .int (sI tk), .int (sI ts), .int (sI te), .int (sI tv)])) → (Ml4 (q + 3) = some (sArC G 180 T2)) → (∀ x : Nat, ¬ (x = q) → ¬ (x = q + 3) → Ml4 x = M x) → sV G b_ Ml4 N s_ H locs → lv_has ls 3 [(0, .ref q), (1, .int (sI v)), (2, .int (sI u))] → W p_ l_ e_ rmX1_putNumber s_ m_ args_ below_ meth_ c_ H locs 0 0 Q (F0 m_ 4 ls []) := by
    intro fuel
    induction fuel with
    | zero => intro u w2 T2 Ml4 H locs ls hmu; exact absurd hmu (Nat.not_lt_zero _)
    | succ fuel ih4 =>
      intro u w2 T2 Ml4 H locs ls hmu4 hq2 hm4_0 hm4_1 hfr4 hV hl
      have hnr := nmq_r hq2
      refine lv_iload_n hx_ hb_ dX1_putNumber_4 rfl (lv_at hl 2 rfl) ?_
      refine sz_le (tgt := 40) S dX1_putNumber_5 (by decide) (by omega) (fun c1 => ?_) (fun c1 => ?_)
      · exact sr_v E hQ dX1_putNumber_40 ⟨Nat.le_of_ble_eq_true rfl, Nat.le_of_ble_eq_true rfl⟩ hV (⟨w2, T2, rfl, hm4_0, hm4_1, fun x q0 q1 => hfr4 x (by omega) (by omega), (nmq_e (by omega) hq2).1, (nmq_e (by omega) hq2).2⟩)
      · have hnu := nm_u (by omega) hq2
        have hks := kd_s hnu.1
        refine lv_iload_n hx_ hb_ dX1_putNumber_8 rfl (lv_at hl 1 rfl) ?_
        refine lv_iload_n hx_ hb_ dX1_putNumber_9 rfl (lv_at hl 2 rfl) ?_
        refine sb_ge (tgt := 18) S dX1_putNumber_10 (by decide) (by omega) (fun c2 => ?_) (fun c2 => ?_)
        · refine lv_aload_n hx_ hb_ dX1_putNumber_18 rfl (lv_at hl 0 rfl) ?_
          have hdv : 0 ≤ v / u ∧ v / u ≤ v := ⟨Int.ediv_nonneg (by omega) (by omega), Int.ediv_le_self _ (by omega)⟩
          have hnw := hnu.2 (by omega)
          refine si_bipush S dX1_putNumber_19 (by decide) ?_
          refine lv_iload_n hx_ hb_ dX1_putNumber_21 rfl (lv_at hl 1 rfl) ?_
          refine lv_iload_n hx_ hb_ dX1_putNumber_22 rfl (lv_at hl 2 rfl) ?_
          refine si_divN S dX1_putNumber_23 (by omega) ?_
          refine si_bipush S dX1_putNumber_24 (by decide) ?_
          refine si_remN S dX1_putNumber_26 (by omega) ?_
          refine si_add S dX1_putNumber_27 ?_
          refine si_i2c S dX1_putNumber_28 (by omega) ?_
          refine sk_Vv E hV (As := [.int (sI (48 + ((v / u) % 10)))]) (rest := []) (kX1_putSign l_ G b_ Ml4 N q w2 tk ts te tv T2 (48 + ((v / u) % 10)) hm4_0 hm4_1 (by omega) (by omega)) (cwV 1 S.2.2.2.2 gX1_putNumber_X1_putSign rfl rfl rfl (by decide +kernel) ⟨Nat.le_of_ble_eq_true rfl, Nat.le_of_ble_eq_true rfl⟩) (ci := 0) hm4_0 rfl rfl rfl hl.1 (Nat.le_of_ble_eq_true rfl) dX1_putNumber_29 (c1 := 0) (s1 := 0) ⟨⟨rfl, rfl⟩, by decide, by decide⟩ (fun M3 N4 H locs hp5 hV => ?_)
          obtain ⟨hN7, hc8, hc9, hf10⟩ := hp5
          rw [hN7] at hV
          refine lv_iload_n hx_ hb_ dX1_putNumber_32 rfl (lv_at hl 2 rfl) ?_
          refine si_bipush S dX1_putNumber_33 (by decide) ?_
          refine si_divN S dX1_putNumber_35 (by omega) ?_
          refine lv_istore_n (lv' := [(2, .int (sI (u / 10))), (0, .ref q), (1, .int (sI v))]) hx_ hb_ dX1_putNumber_36 rfl hl (by decide) rfl (fun ls hl => ?_)
          refine lv_goto (tgt := 4) hx_ hb_ dX1_putNumber_37 (by decide) ?_
          exact ih4 (u / 10) (w2 + 1) (iup T2 w2 (48 + ((v / u) % 10))) M3 _ _ _ (by omega) (nm_t (by omega) (by omega) hq2) hc8 hc9 (fun x q0 q1 => (hf10 x (by omega) (by omega)).trans (hfr4 x (by omega) (by omega))) hV (lv_sub hl [1, 2, 0] rfl)
        · refine lv_iload_n hx_ hb_ dX1_putNumber_13 rfl (lv_at hl 2 rfl) ?_
          refine si_const S dX1_putNumber_14 ?_
          refine sb_ne (tgt := 32) S dX1_putNumber_15 (by decide) (by omega) (fun c11 => ?_) (fun c11 => ?_)
          · refine lv_iload_n hx_ hb_ dX1_putNumber_32 rfl (lv_at hl 2 rfl) ?_
            refine si_bipush S dX1_putNumber_33 (by decide) ?_
            refine si_divN S dX1_putNumber_35 (by omega) ?_
            refine lv_istore_n (lv' := [(2, .int (sI (u / 10))), (0, .ref q), (1, .int (sI v))]) hx_ hb_ dX1_putNumber_36 rfl hl (by decide) rfl (fun ls hl => ?_)
            refine lv_goto (tgt := 4) hx_ hb_ dX1_putNumber_37 (by decide) ?_
            exact ih4 (u / 10) w2 T2 Ml4 _ _ _ (by omega) (nm_f (by omega) (by omega) hq2) hm4_0 hm4_1 (fun x q0 q1 => hfr4 x (by omega) (by omega)) hV (lv_sub hl [1, 2, 0] rfl)
          · refine lv_aload_n hx_ hb_ dX1_putNumber_18 rfl (lv_at hl 0 rfl) ?_
            have hdv : 0 ≤ v / u ∧ v / u ≤ v := ⟨Int.ediv_nonneg (by omega) (by omega), Int.ediv_le_self _ (by omega)⟩
            have hnw := hnu.2 (by omega)
            refine si_bipush S dX1_putNumber_19 (by decide) ?_
            refine lv_iload_n hx_ hb_ dX1_putNumber_21 rfl (lv_at hl 1 rfl) ?_
            refine lv_iload_n hx_ hb_ dX1_putNumber_22 rfl (lv_at hl 2 rfl) ?_
            refine si_divN S dX1_putNumber_23 (by omega) ?_
            refine si_bipush S dX1_putNumber_24 (by decide) ?_
            refine si_remN S dX1_putNumber_26 (by omega) ?_
            refine si_add S dX1_putNumber_27 ?_
            refine si_i2c S dX1_putNumber_28 (by omega) ?_
            refine sk_Vv E hV (As := [.int (sI (48 + ((v / u) % 10)))]) (rest := []) (kX1_putSign l_ G b_ Ml4 N q w2 tk ts te tv T2 (48 + ((v / u) % 10)) hm4_0 hm4_1 (by omega) (by omega)) (cwV 1 S.2.2.2.2 gX1_putNumber_X1_putSign rfl rfl rfl (by decide +kernel) ⟨Nat.le_of_ble_eq_true rfl, Nat.le_of_ble_eq_true rfl⟩) (ci := 0) hm4_0 rfl rfl rfl hl.1 (Nat.le_of_ble_eq_true rfl) dX1_putNumber_29 (c1 := 0) (s1 := 0) ⟨⟨rfl, rfl⟩, by decide, by decide⟩ (fun M12 N13 H locs hp14 hV => ?_)
            obtain ⟨hN16, hc17, hc18, hf19⟩ := hp14
            rw [hN16] at hV
            refine lv_iload_n hx_ hb_ dX1_putNumber_32 rfl (lv_at hl 2 rfl) ?_
            refine si_bipush S dX1_putNumber_33 (by decide) ?_
            refine si_divN S dX1_putNumber_35 (by omega) ?_
            refine lv_istore_n (lv' := [(2, .int (sI (u / 10))), (0, .ref q), (1, .int (sI v))]) hx_ hb_ dX1_putNumber_36 rfl hl (by decide) rfl (fun ls hl => ?_)
            refine lv_goto (tgt := 4) hx_ hb_ dX1_putNumber_37 (by decide) ?_
            exact ih4 (u / 10) (w2 + 1) (iup T2 w2 (48 + ((v / u) % 10))) M12 _ _ _ (by omega) (nm_t (by omega) (by omega) hq2) hc17 hc18 (fun x q0 q1 => (hf19 x (by omega) (by omega)).trans (hfr4 x (by omega) (by omega))) hV (lv_sub hl [1, 2, 0] rfl)
  exact L4 _ 10000 wc T M _ _ _ (Nat.lt_succ_self _) (nm_0 hE) hq0 hw (fun x q0 q1 => rfl) hV (lv_sub hl [1, 2, 0] rfl)

abbrev rmX1_putCode : Room := { frames := 2, cells := 0, slots := 0, locals := 61 }
set_option maxHeartbeats 4000000 in
set_option maxRecDepth 100000 in
theorem kX1_putCode (l_ : Launch) (G : sG) (b_ : Nat) (M : sM) (N : Nat) (q : Nat) (wc tk ts te tv : Int) (T : sF) (v : Int) (sg : wG) (hq0 : M q = some (sObj 0 [.ref (q + 1), .ref (q + 3), .int (sI wc), .int (sI tk), .int (sI ts), .int (sI te), .int (sI tv)])) (hw : M (q + 3) = some (sArC G 180 T)) (hv : 0 ≤ v ∧ v < 531441) (hE : wrE sg wc T) (hb : 0 ≤ wc ∧ wc + 4 ≤ 180) : cV l_ yX1_putCode wsX1_putCode rmX1_putCode G b_ M N [.ref q, .int (sI (cod v))] (fun M1 N1 => ∃ w9 : Int, ∃ T9 : Int → Int, N1 = N ∧ M1 q = some (sObj 0 [.ref (q + 1), .ref (q + 3), .int (sI w9), .int (sI tk), .int (sI ts), .int (sI te), .int (sI tv)]) ∧ M1 (q + 3) = some (sArC G 180 T9) ∧ (∀ x : Nat, ¬ (x = q) → ¬ (x = q + 3) → M1 x = M x) ∧ (wrE (coW v sg) w9 T9) ∧ (wc ≤ w9 ∧ w9 ≤ wc + 4)) := by
  refine sE.ofV (cc := cX1_putCode) (nL := 4) (ret := none) (by decide) rfl (Nat.le_of_ble_eq_true rfl) ?_
  intro p_ e_ s_ m_ args_ below_ meth_ c_ ls Q hQ E hl
  have E : sE p_ l_ e_ rmX1_putCode s_ m_ args_ below_ meth_ c_ cX1_putCode 4 wsX1_putCode RX1 "putCode" none G b_ M N := E
  have S := E.1
  have hx_ := S.1
  have hb_ := S.2.1
  have hK := E.2.2.2.2.1
  have hV := E.2.2.2.2.2.2
  have hl : lv_has ls 4 [(0, .ref q), (1, .int (sI (cod v)))] := hl
  have inX1_ : ∀ w ∈ wsX10, w ∈ wsX1_putCode := fun _ h => List.mem_cons_of_mem _ (List.mem_append_right _ h)
  refine si_bipush S dX1_putCode_0 (by decide) ?_
  refine lv_istore_n (lv' := [(2, .int (sI 24)), (0, .ref q), (1, .int (sI (cod v)))]) hx_ hb_ dX1_putCode_2 rfl hl (by decide) rfl (fun ls hl => ?_)
  have L3 : ∀ (fuel : Nat) (h : Int) (w2 : Int) (T2 : Int → Int) (Ml3 : sM) (H : Heap) (locs : List Loc) (ls : Array Slot), ((h + 8).toNat) < fuel → (pcQ v sg wc h w2 T2) → (Ml3 q = some (sObj 0 [.ref (q + 1), .ref (q + 3), .int (sI w2), .int (sI tk), .int (sI ts), .int (sI te), .int (sI tv)])) → (Ml3 (q + 3) = some (sArC G 180 T2)) → (∀ x : Nat, ¬ (x = q) → ¬ (x = q + 3) → Ml3 x = M x) → sV G b_ Ml3 N s_ H locs → lv_has ls 4 [(0, .ref q), (1, .int (sI (cod v))), (2, .int (sI h))] → W p_ l_ e_ rmX1_putCode s_ m_ args_ below_ meth_ c_ H locs 0 0 Q (F0 m_ 3 ls []) := by
    intro fuel
    induction fuel with
    | zero => intro h w2 T2 Ml3 H locs ls hmu; exact absurd hmu (Nat.not_lt_zero _)
    | succ fuel ih3 =>
      intro h w2 T2 Ml3 H locs ls hmu3 hq2 hm3_0 hm3_1 hfr3 hV hl
      have hph := pc_h hq2
      refine lv_iload_n hx_ hb_ dX1_putCode_3 rfl (lv_at hl 2 rfl) ?_
      refine sz_lt (tgt := 31) S dX1_putCode_4 (by decide) (by omega) (fun c1 => ?_) (fun c1 => ?_)
      · exact sr_v E hQ dX1_putCode_31 ⟨Nat.le_of_ble_eq_true rfl, Nat.le_of_ble_eq_true rfl⟩ hV (⟨w2, T2, rfl, hm3_0, hm3_1, fun x q0 q1 => hfr3 x (by omega) (by omega), (pc_e (by omega) hq2).1, (pc_e (by omega) hq2).2⟩)
      · have hpw := pc_w (by omega) hq2
        refine lv_iload_n hx_ hb_ dX1_putCode_7 rfl (lv_at hl 1 rfl) ?_
        refine lv_iload_n hx_ hb_ dX1_putCode_8 rfl (lv_at hl 2 rfl) ?_
        refine si_ushr S dX1_putCode_9 ?_
        refine si_sipush S dX1_putCode_10 (by decide) ?_
        refine si_and S dX1_putCode_13 ?_
        rw [iushr_255 (x := cod v) (k := h) (by omega)]
        have hbr := byt_r (cod v) h
        refine lv_istore_n (lv' := [(3, .int (sI (byt (cod v) h))), (0, .ref q), (1, .int (sI (cod v))), (2, .int (sI h))]) hx_ hb_ dX1_putCode_14 rfl hl (by decide) rfl (fun ls hl => ?_)
        refine lv_iload_n hx_ hb_ dX1_putCode_15 rfl (lv_at hl 0 rfl) ?_
        refine sz_eq (tgt := 25) S dX1_putCode_16 (by decide) (by omega) (fun c2 => ?_) (fun c2 => ?_)
        · refine si_inc (lv' := [(2, .int (sI (h + (-8)))), (3, .int (sI (byt (cod v) h))), (0, .ref q), (1, .int (sI (cod v)))]) S dX1_putCode_25 hl (k := 3) rfl (by decide) rfl (fun ls hl => ?_)
          refine lv_goto (tgt := 3) hx_ hb_ dX1_putCode_28 (by decide) ?_
          exact ih3 (h + (-8)) w2 T2 Ml3 _ _ _ (by omega) (pc_f hv (by omega) (by omega) hq2) hm3_0 hm3_1 (fun x q0 q1 => hfr3 x (by omega) (by omega)) hV (lv_sub hl [2, 3, 0] rfl)
        · refine lv_aload_n hx_ hb_ dX1_putCode_19 rfl (lv_at hl 1 rfl) ?_
          refine lv_iload_n hx_ hb_ dX1_putCode_20 rfl (lv_at hl 0 rfl) ?_
          refine si_i2c S dX1_putCode_21 (by omega) ?_
          refine sk_Vv E hV (As := [.int (sI (byt (cod v) h))]) (rest := []) (kX1_putSign l_ G b_ Ml3 N q w2 tk ts te tv T2 (byt (cod v) h) hm3_0 hm3_1 (by omega) (by omega)) (cwV 1 S.2.2.2.2 gX1_putCode_X1_putSign rfl rfl rfl (by decide +kernel) ⟨Nat.le_of_ble_eq_true rfl, Nat.le_of_ble_eq_true rfl⟩) (ci := 0) hm3_0 rfl rfl rfl hl.1 (Nat.le_of_ble_eq_true rfl) dX1_putCode_22 (c1 := 0) (s1 := 0) ⟨⟨rfl, rfl⟩, by decide, by decide⟩ (fun M3 N4 H locs hp5 hV => ?_)
          obtain ⟨hN7, hc8, hc9, hf10⟩ := hp5
          rw [hN7] at hV
          refine si_inc (lv' := [(2, .int (sI (h + (-8)))), (3, .int (sI (byt (cod v) h))), (0, .ref q), (1, .int (sI (cod v)))]) S dX1_putCode_25 hl (k := 3) rfl (by decide) rfl (fun ls hl => ?_)
          refine lv_goto (tgt := 3) hx_ hb_ dX1_putCode_28 (by decide) ?_
          exact ih3 (h + (-8)) (w2 + 1) (iup T2 w2 (byt (cod v) h)) M3 _ _ _ (by omega) (pc_t hv (by omega) (by omega) hq2) hc8 hc9 (fun x q0 q1 => (hf10 x (by omega) (by omega)).trans (hfr3 x (by omega) (by omega))) hV (lv_sub hl [2, 3, 0] rfl)
  exact L3 _ 24 wc T M _ _ _ (Nat.lt_succ_self _) (pc_s hE rfl rfl) hq0 hw (fun x q0 q1 => rfl) hV (lv_sub hl [1, 2, 0] rfl)
