/-! What is written: how many signs, and which. -/
abbrev wG : Type := Int × (Int → Int)
def wrA (g : wG) (x : Int) : wG := (g.1 + 1, iup g.2 g.1 x)
def wrE (g : wG) (n : Int) (T : sF) : Prop := n = g.1 ∧ ∀ q, 0 ≤ q → q < g.1 → T q = g.2 q
theorem wrE_a {g : wG} {n : Int} {T : sF} (h : wrE g n T) (x : Int) : wrE (wrA g x) (n + 1) (iup T n x) := by
  obtain ⟨h1, h2⟩ := h
  refine ⟨by rw [h1]; rfl, fun q a b => ?_⟩
  show iup T n x q = iup g.2 g.1 x q
  have b2 : q < g.1 + 1 := b
  unfold iup
  rw [h1]
  by_cases e : q = g.1
  · rw [if_pos e, if_pos e]
  · rw [if_neg e, if_neg e]; exact h2 q a (by omega)
def dgW (u v : Int) (g : wG) : wG := if u ≤ v ∨ u = 1 then wrA g (48 + v / u % 10) else g
def nmR (u v : Int) (g : wG) : wG := if u = 10000 then dgW 1 v (dgW 10 v (dgW 100 v (dgW 1000 v (dgW 10000 v g)))) else if u = 1000 then dgW 1 v (dgW 10 v (dgW 100 v (dgW 1000 v g))) else if u = 100 then dgW 1 v (dgW 10 v (dgW 100 v g)) else if u = 10 then dgW 1 v (dgW 10 v g) else if u = 1 then dgW 1 v g else g
def nmW (v : Int) (g : wG) : wG := nmR 10000 v g
def unP (u : Int) : Prop := u = 1 ∨ u = 10 ∨ u = 100 ∨ u = 1000 ∨ u = 10000
theorem nmR_s {u v : Int} {g : wG} (hu : unP u) : nmR u v g = nmR (u / 10) v (dgW u v g) := by
  rcases hu with rfl | rfl | rfl | rfl | rfl
  · rw [show (1 / 10 : Int) = 0 by omega]
    unfold nmR
    rw [if_neg (show ¬ (1 : Int) = 10000 by omega), if_neg (show ¬ (1 : Int) = 1000 by omega), if_neg (show ¬ (1 : Int) = 100 by omega), if_neg (show ¬ (1 : Int) = 10 by omega), if_pos (show (1 : Int) = 1 from rfl), if_neg (show ¬ (0 : Int) = 10000 by omega), if_neg (show ¬ (0 : Int) = 1000 by omega), if_neg (show ¬ (0 : Int) = 100 by omega), if_neg (show ¬ (0 : Int) = 10 by omega), if_neg (show ¬ (0 : Int) = 1 by omega)]
  · rw [show (10 / 10 : Int) = 1 by omega]
    unfold nmR
    rw [if_neg (show ¬ (10 : Int) = 10000 by omega), if_neg (show ¬ (10 : Int) = 1000 by omega), if_neg (show ¬ (10 : Int) = 100 by omega), if_pos (show (10 : Int) = 10 from rfl), if_neg (show ¬ (1 : Int) = 10000 by omega), if_neg (show ¬ (1 : Int) = 1000 by omega), if_neg (show ¬ (1 : Int) = 100 by omega), if_neg (show ¬ (1 : Int) = 10 by omega), if_pos (show (1 : Int) = 1 from rfl)]
  · rw [show (100 / 10 : Int) = 10 by omega]
    unfold nmR
    rw [if_neg (show ¬ (100 : Int) = 10000 by omega), if_neg (show ¬ (100 : Int) = 1000 by omega), if_pos (show (100 : Int) = 100 from rfl), if_neg (show ¬ (10 : Int) = 10000 by omega), if_neg (show ¬ (10 : Int) = 1000 by omega), if_neg (show ¬ (10 : Int) = 100 by omega), if_pos (show (10 : Int) = 10 from rfl)]
  · rw [show (1000 / 10 : Int) = 100 by omega]
    unfold nmR
    rw [if_neg (show ¬ (1000 : Int) = 10000 by omega), if_pos (show (1000 : Int) = 1000 from rfl), if_neg (show ¬ (100 : Int) = 10000 by omega), if_neg (show ¬ (100 : Int) = 1000 by omega), if_pos (show (100 : Int) = 100 from rfl)]
  · rw [show (10000 / 10 : Int) = 1000 by omega]
    unfold nmR
    rw [if_pos (show (10000 : Int) = 10000 from rfl), if_neg (show ¬ (1000 : Int) = 10000 by omega), if_pos (show (1000 : Int) = 1000 from rfl)]
theorem nmR_0 (v : Int) (g : wG) : nmR 0 v g = g := rfl
theorem dgW_f {u v : Int} {g : wG} (h : v < u) (h1 : u ≠ 1) : dgW u v g = g := if_neg (by omega)
theorem dgW_t {u v : Int} {g : wG} (h : u ≤ v ∨ u = 1) : dgW u v g = wrA g (48 + v / u % 10) := if_pos h
theorem nm_by {u v : Int} {g : wG} (hu : unP u) (h : v < 10 * u) (hv : v ≤ 99999) : nmW v g = nmR u v g := by
  unfold nmW
  rcases hu with rfl | rfl | rfl | rfl | rfl
  · rw [nmR_s (u := 10000) (by unfold unP; omega), dgW_f (by omega) (by omega)]
    rw [show (10000 / 10 : Int) = 1000 from rfl, nmR_s (u := 1000) (by unfold unP; omega), dgW_f (by omega) (by omega)]
    rw [show (1000 / 10 : Int) = 100 from rfl, nmR_s (u := 100) (by unfold unP; omega), dgW_f (by omega) (by omega)]
    rw [show (100 / 10 : Int) = 10 from rfl, nmR_s (u := 10) (by unfold unP; omega), dgW_f (by omega) (by omega)]
    rfl
  · rw [nmR_s (u := 10000) (by unfold unP; omega), dgW_f (by omega) (by omega)]
    rw [show (10000 / 10 : Int) = 1000 from rfl, nmR_s (u := 1000) (by unfold unP; omega), dgW_f (by omega) (by omega)]
    rw [show (1000 / 10 : Int) = 100 from rfl, nmR_s (u := 100) (by unfold unP; omega), dgW_f (by omega) (by omega)]
    rfl
  · rw [nmR_s (u := 10000) (by unfold unP; omega), dgW_f (by omega) (by omega)]
    rw [show (10000 / 10 : Int) = 1000 from rfl, nmR_s (u := 1000) (by unfold unP; omega), dgW_f (by omega) (by omega)]
    rfl
  · rw [nmR_s (u := 10000) (by unfold unP; omega), dgW_f (by omega) (by omega)]
    rfl
  · rfl
def nmL (v : Int) : Int := if v < 10 then 1 else if v < 100 then 2 else 5
def kdI (u : Int) : Int := if u = 10000 then 5 else if u = 1000 then 4 else if u = 100 then 3 else if u = 10 then 2 else if u = 1 then 1 else 0
theorem kd_0 {u v : Int} (hu : unP u) (h : u = 1 ∨ u ≤ v) : kdI u ≤ nmL v := by
  unfold nmL
  rcases hu with rfl | rfl | rfl | rfl | rfl
  · rw [show kdI 1 = 1 from rfl]; split; omega; split <;> omega
  · rw [show kdI 10 = 2 from rfl, if_neg (by omega)]; split <;> omega
  · rw [show kdI 100 = 3 from rfl, if_neg (by omega), if_neg (by omega)]; omega
  · rw [show kdI 1000 = 4 from rfl, if_neg (by omega), if_neg (by omega)]; omega
  · rw [show kdI 10000 = 5 from rfl, if_neg (by omega), if_neg (by omega)]; omega
theorem kd_s {u : Int} (hu : unP u) : kdI (u / 10) = kdI u - 1 ∧ (u / 10 = 0 ∨ unP (u / 10)) ∧ 0 ≤ u / 10 ∧ u / 10 < u := by
  rcases hu with rfl | rfl | rfl | rfl | rfl
  · exact ⟨rfl, Or.inl rfl, by omega, by omega⟩
  · exact ⟨rfl, Or.inr (Or.inl rfl), by omega, by omega⟩
  · exact ⟨rfl, Or.inr (Or.inr (Or.inl rfl)), by omega, by omega⟩
  · exact ⟨rfl, Or.inr (Or.inr (Or.inr (Or.inl rfl))), by omega, by omega⟩
  · exact ⟨rfl, Or.inr (Or.inr (Or.inr (Or.inr (Or.inl rfl)))), by omega, by omega⟩
theorem un_10 {u v : Int} (hu : unP u) (hv : 0 ≤ v ∧ v ≤ 10000) (h : ¬ v / u < 10) : unP (u * 10) ∧ u * 10 ≤ v := by
  unfold unP at hu ⊢
  rcases hu with rfl | rfl | rfl | rfl | rfl <;> omega
theorem un_lt {u v : Int} (hu : unP u) (hv : 0 ≤ v) (h : v / u < 10) : v < 10 * u := by
  unfold unP at hu
  rcases hu with rfl | rfl | rfl | rfl | rfl <;> omega
theorem un_r {u : Int} (hu : unP u) : 1 ≤ u ∧ u ≤ 10000 := by unfold unP at hu; omega
theorem kd_r (u : Int) : 0 ≤ kdI u ∧ kdI u ≤ 5 := by
  unfold kdI
  split; omega
  split; omega
  split; omega
  split; omega
  split <;> omega
theorem kd_1 {u : Int} (hu : unP u) : 1 ≤ kdI u := by
  unfold unP at hu
  rcases hu with rfl | rfl | rfl | rfl | rfl <;> decide
theorem nmL_r (v : Int) : 1 ≤ nmL v ∧ nmL v ≤ 5 := by
  unfold nmL
  split; omega
  split <;> omega
/-- letters of a code -/
def cdW (u v : Int) (g : wG) : wG := if 0 < v / u % 27 then wrA g (96 + v / u % 27) else g
def coR (u v : Int) (g : wG) : wG := if u = 19683 then cdW 1 v (cdW 27 v (cdW 729 v (cdW 19683 v g))) else if u = 729 then cdW 1 v (cdW 27 v (cdW 729 v g)) else if u = 27 then cdW 1 v (cdW 27 v g) else if u = 1 then cdW 1 v g else g
def coW (v : Int) (g : wG) : wG := coR 19683 v g
def ucP (u : Int) : Prop := u = 1 ∨ u = 27 ∨ u = 729 ∨ u = 19683
def kcI (u : Int) : Int := if u = 19683 then 4 else if u = 729 then 3 else if u = 27 then 2 else if u = 1 then 1 else 0
theorem coR_s {u v : Int} {g : wG} (hu : ucP u) : coR u v g = coR (u / 27) v (cdW u v g) := by
  rcases hu with rfl | rfl | rfl | rfl
  · rw [show (1 / 27 : Int) = 0 by omega]
    unfold coR
    rw [if_neg (show ¬ (1 : Int) = 19683 by omega), if_neg (show ¬ (1 : Int) = 729 by omega), if_neg (show ¬ (1 : Int) = 27 by omega), if_pos (show (1 : Int) = 1 from rfl), if_neg (show ¬ (0 : Int) = 19683 by omega), if_neg (show ¬ (0 : Int) = 729 by omega), if_neg (show ¬ (0 : Int) = 27 by omega), if_neg (show ¬ (0 : Int) = 1 by omega)]
  · rw [show (27 / 27 : Int) = 1 by omega]
    unfold coR
    rw [if_neg (show ¬ (27 : Int) = 19683 by omega), if_neg (show ¬ (27 : Int) = 729 by omega), if_pos (show (27 : Int) = 27 from rfl), if_neg (show ¬ (1 : Int) = 19683 by omega), if_neg (show ¬ (1 : Int) = 729 by omega), if_neg (show ¬ (1 : Int) = 27 by omega), if_pos (show (1 : Int) = 1 from rfl)]
  · rw [show (729 / 27 : Int) = 27 by omega]
    unfold coR
    rw [if_neg (show ¬ (729 : Int) = 19683 by omega), if_pos (show (729 : Int) = 729 from rfl), if_neg (show ¬ (27 : Int) = 19683 by omega), if_neg (show ¬ (27 : Int) = 729 by omega), if_pos (show (27 : Int) = 27 from rfl)]
  · rw [show (19683 / 27 : Int) = 729 by omega]
    unfold coR
    rw [if_pos (show (19683 : Int) = 19683 from rfl), if_neg (show ¬ (729 : Int) = 19683 by omega), if_pos (show (729 : Int) = 729 from rfl)]
theorem coR_0 (v : Int) (g : wG) : coR 0 v g = g := rfl
theorem kc_s {u : Int} (hu : ucP u) : kcI (u / 27) = kcI u - 1 ∧ (u / 27 = 0 ∨ ucP (u / 27)) ∧ 0 ≤ u / 27 ∧ u / 27 < u := by
  rcases hu with rfl | rfl | rfl | rfl
  · exact ⟨rfl, Or.inl rfl, by omega, by omega⟩
  · exact ⟨rfl, Or.inr (Or.inl rfl), by omega, by omega⟩
  · exact ⟨rfl, Or.inr (Or.inr (Or.inl rfl)), by omega, by omega⟩
  · exact ⟨rfl, Or.inr (Or.inr (Or.inr (Or.inl rfl))), by omega, by omega⟩
theorem uc_r {u : Int} (hu : ucP u) : 1 ≤ u ∧ u ≤ 19683 := by unfold ucP at hu; omega
theorem kc_1 {u : Int} (hu : ucP u) : 1 ≤ kcI u := by
  unfold ucP at hu
  rcases hu with rfl | rfl | rfl | rfl <;> decide
theorem kc_r (u : Int) : 0 ≤ kcI u ∧ kcI u ≤ 4 := by
  unfold kcI
  split; omega
  split; omega
  split; omega
  split <;> omega
/-- the numbers of a stone, w of the four; a stone; the stones in the order of codes -/
def nuW (f : sF) (s : Int) (g : wG) : Nat → wG
  | 0 => g
  | j + 1 => nmW (f (10 + 10 * (j : Int) + s)) (wrA (nuW f s g j) 32)
theorem nuW_s (f : sF) (s : Int) (g : wG) (j : Int) (h : 0 ≤ j) : nuW f s g (j + 1).toNat = nmW (f (10 + 10 * j + s)) (wrA (nuW f s g j.toNat) 32) := by
  rw [show (j + 1).toNat = j.toNat + 1 by omega]
  show nmW (f (10 + 10 * ((j.toNat : Nat) : Int) + s)) _ = _
  rw [show ((j.toNat : Nat) : Int) = j by omega]
def wr1 (f : sF) (s : Int) (g : wG) : wG := wrA (nuW f s (coW (f s) g) 4) 59
noncomputable def wrS (f : sF) : Nat → wG
  | 0 => (0, fun _ => 0)
  | x + 1 => wr1 f (eoI f (f 568) (x : Int)) (wrS f x)
theorem wrS_s (f : sF) (x : Int) (h : 0 ≤ x) : wrS f (x + 1).toNat = wr1 f (eoI f (f 568) x) (wrS f x.toNat) := by
  rw [show (x + 1).toNat = x.toNat + 1 by omega]
  show wr1 f (eoI f (f 568) ((x.toNat : Nat) : Int)) _ = _
  rw [show ((x.toNat : Nat) : Int) = x by omega]
/-- how long the numbers are, w of the four -/
def nlI (w : Int) : Int := if w = 0 then 0 else if w = 1 then 2 else if w = 2 then 4 else if w = 3 then 7 else 13
theorem nl_s {f : sF} (h : sOk f) (s w : Int) (hs : 0 ≤ s ∧ s < f 568) (hw : 0 ≤ w ∧ w ≤ 3) : nlI w + 1 + nmL (f (10 + 10 * w + s)) ≤ nlI (w + 1) := by
  have h1 := sOk_S h s hs.1 hs.2
  unfold okS at h1
  unfold nmL
  rcases (show w = 0 ∨ w = 1 ∨ w = 2 ∨ w = 3 by omega) with rfl | rfl | rfl | rfl
  · rw [show (10 + 10 * 0 + s : Int) = 10 + s by omega, show nlI 0 = 0 from rfl, show nlI (0 + 1) = 2 from rfl, if_pos (by omega)]; omega
  · rw [show (10 + 10 * 1 + s : Int) = 20 + s by omega, show nlI 1 = 2 from rfl, show nlI (1 + 1) = 4 from rfl, if_pos (by omega)]; omega
  · rw [show (10 + 10 * 2 + s : Int) = 30 + s by omega, show nlI 2 = 4 from rfl, show nlI (2 + 1) = 7 from rfl]
    split; omega
    split <;> omega
  · rw [show (10 + 10 * 3 + s : Int) = 40 + s by omega, show nlI 3 = 7 from rfl, show nlI (3 + 1) = 13 from rfl]
    split; omega
    split <;> omega
theorem nl_r (w : Int) : 0 ≤ nlI w ∧ nlI w ≤ 13 := by
  unfold nlI
  split; omega
  split; omega
  split; omega
  split <;> omega
def chN (f : sF) : Nat → Int
  | 0 => 17
  | s + 1 => 31 * chN f s + f (10 + (s : Int)) + f (20 + (s : Int)) + f (30 + (s : Int)) + f (40 + (s : Int)) + f (50 + (s : Int))
theorem chN_s (f : sF) (s : Int) (h : 0 ≤ s) : chN f (s + 1).toNat = 31 * chN f s.toNat + f (10 + s) + f (20 + s) + f (30 + s) + f (40 + s) + f (50 + s) := by
  rw [show (s + 1).toNat = s.toNat + 1 by omega]
  show 31 * chN f s.toNat + f (10 + ((s.toNat : Nat) : Int)) + f (20 + ((s.toNat : Nat) : Int)) + f (30 + ((s.toNat : Nat) : Int)) + f (40 + ((s.toNat : Nat) : Int)) + f (50 + ((s.toNat : Nat) : Int)) = _
  rw [show ((s.toNat : Nat) : Int) = s by omega]

abbrev rmX11_errors : Room := { frames := 1, cells := 0, slots := 0, locals := 40 }
set_option maxHeartbeats 4000000 in
set_option maxRecDepth 100000 in
theorem kX11_errors (l_ : Launch) (G : sG) (b_ : Nat) (M : sM) (N : Nat) (m : Nat) (th ch tn ea sn nm wn : Int) (hm0 : M m = some (mO m th ch tn ea sn nm wn)) : cI l_ yX11_errors wsX11_errors rmX11_errors G b_ M N [.ref m] (fun z_ M1 N1 => z_ = 0 ∧ N1 = N ∧ M1 m = some (mO m 0 ch tn ea sn nm wn) ∧ (∀ x : Nat, ¬ (x = m) → M1 x = M x)) := by
  refine sE.ofI (cc := cX11_errors) (nL := 1) (ret := (some .int)) (by decide) rfl (Nat.le_of_ble_eq_true rfl) ?_
  intro p_ e_ s_ m_ args_ below_ meth_ c_ ls Q hQ E hl
  have E : sE p_ l_ e_ rmX11_errors s_ m_ args_ below_ meth_ c_ cX11_errors 1 wsX11_errors RX11 "errors" (some .int) G b_ M N := E
  have S := E.1
  have hx_ := S.1
  have hb_ := S.2.1
  have hK := E.2.2.2.2.1
  have hV := E.2.2.2.2.2.2
  have hl : lv_has ls 1 [(0, .ref m)] := hl
  have inX11_ : ∀ w ∈ wsX110, w ∈ wsX11_errors := fun _ h => List.mem_cons_of_mem _ (List.mem_append_right _ h)
  refine lv_aload_n hx_ hb_ dX11_errors_0 rfl (lv_at hl 0 rfl) ?_
  refine si_const S dX11_errors_1 ?_
  refine sc_put (ci := 9) (C := RX11) (T := TX11) (n := 22) S hK hV inX11_ tyX11_ok nmX11 hm0 rfl 0 (by decide) (S.2.2.2.2 _ (List.mem_of_getElem? (i := 1) rfl)) rfl rfl rfl rfl (Nat.le_of_ble_eq_true rfl) dX11_errors_2 (fs1 := [.int (sI 0), .ref (m + 1), .ref (m + 2), .int (sI ch), .ref (m + 3), .int (sI tn), .int (sI ea), .ref (m + 4), .ref (m + 5), .ref (m + 6), .ref (m + 7), .ref (m + 8), .ref (m + 9), .int (sI sn), .ref (m + 10), .ref (m + 11), .ref (m + 12), .ref (m + 13), .int (sI nm), .ref (m + 14), .ref (m + 15), .int (sI wn)]) rfl (fun M1 H locs hM1 hV => ?_)
  have hc2 : M1 m = some (mO m 0 ch tn ea sn nm wn) := (congrFun hM1 m).trans (va_up_self M m _)
  refine si_const S dX11_errors_5 ?_
  exact sr_i E hQ dX11_errors_6 ⟨Nat.le_of_ble_eq_true rfl, Nat.le_of_ble_eq_true rfl⟩ hV (⟨rfl, rfl, hc2, fun x q0 => (congrFun hM1 x).trans (va_up_ne M _ (by omega))⟩)

abbrev rmX11_checksum : Room := { frames := 2, cells := 0, slots := 0, locals := 60 }
set_option maxHeartbeats 4000000 in
set_option maxRecDepth 100000 in
theorem kX11_checksum (l_ : Launch) (G : sG) (b_ : Nat) (M : sM) (N : Nat) (m : Nat) (th ch tn ea sn nm wn : Int) (f : sF) (hm0 : M m = some (mO m th ch tn ea sn nm wn)) (hm1 : M (m + 1) = some (sArr G 574 f)) (hok : sOk f) : cI l_ yX11_checksum wsX11_checksum rmX11_checksum G b_ M N [.ref m] (fun z_ M1 N1 => z_ = chN f (f 568).toNat ∧ N1 = N ∧ M1 m = some (mO m 0 ch tn ea sn nm wn) ∧ (∀ x : Nat, ¬ (x = m) → M1 x = M x)) := by
  refine sE.ofI (cc := cX11_checksum) (nL := 3) (ret := (some .int)) (by decide) rfl (Nat.le_of_ble_eq_true rfl) ?_
  intro p_ e_ s_ m_ args_ below_ meth_ c_ ls Q hQ E hl
  have E : sE p_ l_ e_ rmX11_checksum s_ m_ args_ below_ meth_ c_ cX11_checksum 3 wsX11_checksum RX11 "checksum" (some .int) G b_ M N := E
  have S := E.1
  have hx_ := S.1
  have hb_ := S.2.1
  have hK := E.2.2.2.2.1
  have hV := E.2.2.2.2.2.2
  have hl : lv_has ls 3 [(0, .ref m)] := hl
  have inX11_ : ∀ w ∈ wsX110, w ∈ wsX11_checksum := fun _ h => List.mem_cons_of_mem _ (List.mem_append_right _ h)
  have kn0 := sOk_N hok
  refine lv_aload_n hx_ hb_ dX11_checksum_0 rfl (lv_at hl 0 rfl) ?_
  refine si_const S dX11_checksum_1 ?_
  refine sc_put (ci := 9) (C := RX11) (T := TX11) (n := 22) S hK hV inX11_ tyX11_ok nmX11 hm0 rfl 0 (by decide) (S.2.2.2.2 _ (List.mem_of_getElem? (i := 1) rfl)) rfl rfl rfl rfl (Nat.le_of_ble_eq_true rfl) dX11_checksum_2 (fs1 := [.int (sI 0), .ref (m + 1), .ref (m + 2), .int (sI ch), .ref (m + 3), .int (sI tn), .int (sI ea), .ref (m + 4), .ref (m + 5), .ref (m + 6), .ref (m + 7), .ref (m + 8), .ref (m + 9), .int (sI sn), .ref (m + 10), .ref (m + 11), .ref (m + 12), .ref (m + 13), .int (sI nm), .ref (m + 14), .ref (m + 15), .int (sI wn)]) rfl (fun M1 H locs hM1 hV => ?_)
  have hc2 : M1 m = some (mO m 0 ch tn ea sn nm wn) := (congrFun hM1 m).trans (va_up_self M m _)
  refine si_bipush S dX11_checksum_5 (by decide) ?_
  refine lv_istore_n (lv' := [(1, .int (sI 17)), (0, .ref m)]) hx_ hb_ dX11_checksum_7 rfl hl (by decide) rfl (fun ls hl => ?_)
  refine si_const S dX11_checksum_8 ?_
  refine lv_istore_n (lv' := [(2, .int (sI 0)), (1, .int (sI 17)), (0, .ref m)]) hx_ hb_ dX11_checksum_9 rfl hl (by decide) rfl (fun ls hl => ?_)
  have L10 : ∀ (fuel : Nat) (h : Int) (s : Int)  (H : Heap) (locs : List Loc) (ls : Array Slot), ((f 568 - s).toNat) < fuel → (0 ≤ s ∧ s ≤ f 568) → (h = chN f s.toNat) → sV G b_ M1 N s_ H locs → lv_has ls 3 [(0, .ref m), (1, .int (sI h)), (2, .int (sI s))] → W p_ l_ e_ rmX11_checksum s_ m_ args_ below_ meth_ c_ H locs 0 0 Q (F0 m_ 10 ls []) := by
    intro fuel
    induction fuel with
    | zero => intro h s H locs ls hmu; exact absurd hmu (Nat.not_lt_zero _)
    | succ fuel ih10 =>
      intro h s H locs ls hmu10 hv10_0 hh  hV hl
      refine lv_iload_n hx_ hb_ dX11_checksum_10 rfl (lv_at hl 2 rfl) ?_
      refine lv_aload_n hx_ hb_ dX11_checksum_11 rfl (lv_at hl 0 rfl) ?_
      have hc3 : M1 (m + 1) = some (sArr G 574 f) := ((congrFun hM1 (m + 1)).trans (va_up_ne M _ (by omega))).trans hm1
      refine sk_VP E hV (As := []) (rest := [.int (sI s)]) (kX11_many l_ G b_ M1 N m 0 ch tn ea sn nm wn f hc2 hc3) (cwV 0 S.2.2.2.2 gX11_checksum_X11_many rfl rfl rfl (by decide +kernel) ⟨Nat.le_of_ble_eq_true rfl, Nat.le_of_ble_eq_true rfl⟩) (ci := 9) hc2 rfl rfl rfl hl.1 (Nat.le_of_ble_eq_true rfl) dX11_checksum_12 (c1 := 0) (s1 := 0) ⟨⟨rfl, rfl⟩, by decide, by decide⟩ (fun H locs hV => ?_)
      refine sb_ge (tgt := 79) S dX11_checksum_15 (by decide) (by omega) (fun c4 => ?_) (fun c4 => ?_)
      · refine lv_iload_n hx_ hb_ dX11_checksum_79 rfl (lv_at hl 1 rfl) ?_
        exact sr_i E hQ dX11_checksum_80 ⟨Nat.le_of_ble_eq_true rfl, Nat.le_of_ble_eq_true rfl⟩ hV (⟨by rw [hh, show s = f 568 by omega], rfl, hc2, fun x q0 => (congrFun hM1 x).trans (va_up_ne M _ (by omega))⟩)
      · refine si_bipush S dX11_checksum_18 (by decide) ?_
        refine lv_iload_n hx_ hb_ dX11_checksum_20 rfl (lv_at hl 1 rfl) ?_
        refine si_mul S dX11_checksum_21 ?_
        refine lv_aload_n hx_ hb_ dX11_checksum_22 rfl (lv_at hl 0 rfl) ?_
        refine sc_get (ci := 9) (C := RX11) (T := TX11) (n := 22) S hK hV inX11_ hc2 rfl 1 (by decide) (S.2.2.2.2 _ (List.mem_of_getElem? (i := 2) rfl)) rfl rfl dX11_checksum_23 ?_
        refine si_bipush S dX11_checksum_26 (by decide) ?_
        refine lv_iload_n hx_ hb_ dX11_checksum_28 rfl (lv_at hl 2 rfl) ?_
        refine si_add S dX11_checksum_29 ?_
        refine sc_iald S hK hV hc3 (by omega) dX11_checksum_30 ?_
        have kn5 : 0 ≤ f (10 + s) ∧ f (10 + s) ≤ 5 := (sOk_S hok s (by omega) (by omega)).2.1
        refine si_add S dX11_checksum_31 ?_
        refine lv_aload_n hx_ hb_ dX11_checksum_32 rfl (lv_at hl 0 rfl) ?_
        refine sc_get (ci := 9) (C := RX11) (T := TX11) (n := 22) S hK hV inX11_ hc2 rfl 1 (by decide) (S.2.2.2.2 _ (List.mem_of_getElem? (i := 2) rfl)) rfl rfl dX11_checksum_33 ?_
        refine si_bipush S dX11_checksum_36 (by decide) ?_
        refine lv_iload_n hx_ hb_ dX11_checksum_38 rfl (lv_at hl 2 rfl) ?_
        refine si_add S dX11_checksum_39 ?_
        refine sc_iald S hK hV hc3 (by omega) dX11_checksum_40 ?_
        have kn6 : 1 ≤ f (20 + s) ∧ f (20 + s) ≤ 9 := (sOk_S hok s (by omega) (by omega)).2.2.1
        refine si_add S dX11_checksum_41 ?_
        refine lv_aload_n hx_ hb_ dX11_checksum_42 rfl (lv_at hl 0 rfl) ?_
        refine sc_get (ci := 9) (C := RX11) (T := TX11) (n := 22) S hK hV inX11_ hc2 rfl 1 (by decide) (S.2.2.2.2 _ (List.mem_of_getElem? (i := 2) rfl)) rfl rfl dX11_checksum_43 ?_
        refine si_bipush S dX11_checksum_46 (by decide) ?_
        refine lv_iload_n hx_ hb_ dX11_checksum_48 rfl (lv_at hl 2 rfl) ?_
        refine si_add S dX11_checksum_49 ?_
        refine sc_iald S hK hV hc3 (by omega) dX11_checksum_50 ?_
        have kn7 : 1 ≤ f (30 + s) ∧ f (30 + s) ≤ 99 := (sOk_S hok s (by omega) (by omega)).2.2.2.1
        refine si_add S dX11_checksum_51 ?_
        refine lv_aload_n hx_ hb_ dX11_checksum_52 rfl (lv_at hl 0 rfl) ?_
        refine sc_get (ci := 9) (C := RX11) (T := TX11) (n := 22) S hK hV inX11_ hc2 rfl 1 (by decide) (S.2.2.2.2 _ (List.mem_of_getElem? (i := 2) rfl)) rfl rfl dX11_checksum_53 ?_
        refine si_bipush S dX11_checksum_56 (by decide) ?_
        refine lv_iload_n hx_ hb_ dX11_checksum_58 rfl (lv_at hl 2 rfl) ?_
        refine si_add S dX11_checksum_59 ?_
        refine sc_iald S hK hV hc3 (by omega) dX11_checksum_60 ?_
        have kn8 : 0 ≤ f (40 + s) ∧ f (40 + s) ≤ 10000 := (sOk_S hok s (by omega) (by omega)).2.2.2.2.1
        refine si_add S dX11_checksum_61 ?_
        refine lv_aload_n hx_ hb_ dX11_checksum_62 rfl (lv_at hl 0 rfl) ?_
        refine sc_get (ci := 9) (C := RX11) (T := TX11) (n := 22) S hK hV inX11_ hc2 rfl 1 (by decide) (S.2.2.2.2 _ (List.mem_of_getElem? (i := 2) rfl)) rfl rfl dX11_checksum_63 ?_
        refine si_bipush S dX11_checksum_66 (by decide) ?_
        refine lv_iload_n hx_ hb_ dX11_checksum_68 rfl (lv_at hl 2 rfl) ?_
        refine si_add S dX11_checksum_69 ?_
        refine sc_iald S hK hV hc3 (by omega) dX11_checksum_70 ?_
        have kn9 : -1 ≤ f (50 + s) ∧ f (50 + s) ≤ 3 := (sOk_S hok s (by omega) (by omega)).2.2.2.2.2.1
        refine si_add S dX11_checksum_71 ?_
        refine lv_istore_n (lv' := [(1, .int (sI ((((((31 * h) + (f (10 + s))) + (f (20 + s))) + (f (30 + s))) + (f (40 + s))) + (f (50 + s))))), (0, .ref m), (2, .int (sI s))]) hx_ hb_ dX11_checksum_72 rfl hl (by decide) rfl (fun ls hl => ?_)
        refine si_inc (lv' := [(2, .int (sI (s + 1))), (1, .int (sI ((((((31 * h) + (f (10 + s))) + (f (20 + s))) + (f (30 + s))) + (f (40 + s))) + (f (50 + s))))), (0, .ref m)]) S dX11_checksum_73 hl (k := 2) rfl (by decide) rfl (fun ls hl => ?_)
        refine lv_goto (tgt := 10) hx_ hb_ dX11_checksum_76 (by decide) ?_
        exact ih10 ((((((31 * h) + (f (10 + s))) + (f (20 + s))) + (f (30 + s))) + (f (40 + s))) + (f (50 + s))) (s + 1) _ _ _ (by omega) (by omega) (by rw [chN_s f s (by omega), ← hh]) hV (lv_sub hl [2, 1, 0] rfl)
  exact L10 _ 17 0 _ _ _ (Nat.lt_succ_self _) (by omega) (rfl) hV (lv_sub hl [2, 1, 0] rfl)

abbrev rmX11_writes : Room := { frames := 1, cells := 0, slots := 0, locals := 40 }
set_option maxHeartbeats 4000000 in
set_option maxRecDepth 100000 in
theorem kX11_writes (l_ : Launch) (G : sG) (b_ : Nat) (M : sM) (N : Nat) (m : Nat) (th ch tn ea sn nm wn : Int) (T : sF) (x : Int) (hm0 : M m = some (mO m th ch tn ea sn nm wn)) (hm15 : M (m + 15) = some (sArr G 200 T)) (hb : 0 ≤ wn ∧ wn < 200) : cV l_ yX11_writes wsX11_writes rmX11_writes G b_ M N [.ref m, .int (sI x)] (fun M1 N1 => N1 = N ∧ M1 m = some (mO m th ch tn ea sn nm (wn + 1)) ∧ M1 (m + 15) = some (sArr G 200 (iup T wn x)) ∧ (∀ x : Nat, ¬ (x = m) → ¬ (x = m + 15) → M1 x = M x)) := by
  refine sE.ofV (cc := cX11_writes) (nL := 2) (ret := none) (by decide) rfl (Nat.le_of_ble_eq_true rfl) ?_
  intro p_ e_ s_ m_ args_ below_ meth_ c_ ls Q hQ E hl
  have E : sE p_ l_ e_ rmX11_writes s_ m_ args_ below_ meth_ c_ cX11_writes 2 wsX11_writes RX11 "writes" none G b_ M N := E
  have S := E.1
  have hx_ := S.1
  have hb_ := S.2.1
  have hK := E.2.2.2.2.1
  have hV := E.2.2.2.2.2.2
  have hl : lv_has ls 2 [(0, .ref m), (1, .int (sI x))] := hl
  have inX11_ : ∀ w ∈ wsX110, w ∈ wsX11_writes := fun _ h => List.mem_cons_of_mem _ (List.mem_append_right _ h)
  refine lv_aload_n hx_ hb_ dX11_writes_0 rfl (lv_at hl 0 rfl) ?_
  refine sc_get (ci := 9) (C := RX11) (T := TX11) (n := 22) S hK hV inX11_ hm0 rfl 20 (by decide) (S.2.2.2.2 _ (List.mem_of_getElem? (i := 1) rfl)) rfl rfl dX11_writes_1 ?_
  refine lv_aload_n hx_ hb_ dX11_writes_4 rfl (lv_at hl 0 rfl) ?_
  refine sc_get (ci := 9) (C := RX11) (T := TX11) (n := 22) S hK hV inX11_ hm0 rfl 21 (by decide) (S.2.2.2.2 _ (List.mem_of_getElem? (i := 2) rfl)) rfl rfl dX11_writes_5 ?_
  refine lv_iload_n hx_ hb_ dX11_writes_8 rfl (lv_at hl 1 rfl) ?_
  refine sc_iast S hK hV hm15 (by omega) dX11_writes_9 (fun M1 H locs hM1 hV => ?_)
  have hc2 : M1 (m + 15) = some (sArr G 200 (iup T wn x)) := (congrFun hM1 (m + 15)).trans (va_up_self M (m + 15) _)
  refine lv_aload_n hx_ hb_ dX11_writes_10 rfl (lv_at hl 0 rfl) ?_
  refine lv_dup hx_ hb_ dX11_writes_11 rfl ?_
  have hc3 : M1 m = some (mO m th ch tn ea sn nm wn) := ((congrFun hM1 m).trans (va_up_ne M _ (by omega))).trans hm0
  refine sc_get (ci := 9) (C := RX11) (T := TX11) (n := 22) S hK hV inX11_ hc3 rfl 21 (by decide) (S.2.2.2.2 _ (List.mem_of_getElem? (i := 2) rfl)) rfl rfl dX11_writes_12 ?_
  refine si_const S dX11_writes_15 ?_
  refine si_add S dX11_writes_16 ?_
  refine sc_put (ci := 9) (C := RX11) (T := TX11) (n := 22) S hK hV inX11_ tyX11_ok nmX11 hc3 rfl 21 (by decide) (S.2.2.2.2 _ (List.mem_of_getElem? (i := 2) rfl)) rfl rfl rfl rfl (Nat.le_of_ble_eq_true rfl) dX11_writes_17 (fs1 := [.int (sI th), .ref (m + 1), .ref (m + 2), .int (sI ch), .ref (m + 3), .int (sI tn), .int (sI ea), .ref (m + 4), .ref (m + 5), .ref (m + 6), .ref (m + 7), .ref (m + 8), .ref (m + 9), .int (sI sn), .ref (m + 10), .ref (m + 11), .ref (m + 12), .ref (m + 13), .int (sI nm), .ref (m + 14), .ref (m + 15), .int (sI (wn + 1))]) rfl (fun M4 H locs hM4 hV => ?_)
  have hc5 : M4 m = some (mO m th ch tn ea sn nm (wn + 1)) := (congrFun hM4 m).trans (va_up_self M1 m _)
  have hc6 : M4 (m + 15) = some (sArr G 200 (iup T wn x)) := ((congrFun hM4 (m + 15)).trans (va_up_ne M1 _ (by omega))).trans hc2
  exact sr_v E hQ dX11_writes_20 ⟨Nat.le_of_ble_eq_true rfl, Nat.le_of_ble_eq_true rfl⟩ hV (⟨rfl, hc5, hc6, fun x q0 q1 => ((congrFun hM4 x).trans (va_up_ne M1 _ (by omega))).trans ((congrFun hM1 x).trans (va_up_ne M _ (by omega)))⟩)

abbrev rmX11_writesNumber : Room := { frames := 2, cells := 0, slots := 0, locals := 61 }
set_option maxHeartbeats 4000000 in
set_option maxRecDepth 100000 in
theorem kX11_writesNumber (l_ : Launch) (G : sG) (b_ : Nat) (M : sM) (N : Nat) (m : Nat) (th ch tn ea sn nm wn : Int) (T : sF) (v : Int) (sg : wG) (hm0 : M m = some (mO m th ch tn ea sn nm wn)) (hm15 : M (m + 15) = some (sArr G 200 T)) (hv : 0 ≤ v ∧ v ≤ 10000) (hE : wrE sg wn T) (hb : 0 ≤ wn ∧ wn + nmL v ≤ 200) : cV l_ yX11_writesNumber wsX11_writesNumber rmX11_writesNumber G b_ M N [.ref m, .int (sI v)] (fun M1 N1 => ∃ w9 : Int, ∃ T9 : Int → Int, N1 = N ∧ M1 m = some (mO m th ch tn ea sn nm w9) ∧ M1 (m + 15) = some (sArr G 200 T9) ∧ (∀ x : Nat, ¬ (x = m) → ¬ (x = m + 15) → M1 x = M x) ∧ (wrE (nmW v sg) w9 T9) ∧ (wn ≤ w9 ∧ w9 ≤ wn + nmL v)) := by
  refine sE.ofV (cc := cX11_writesNumber) (nL := 4) (ret := none) (by decide) rfl (Nat.le_of_ble_eq_true rfl) ?_
  intro p_ e_ s_ m_ args_ below_ meth_ c_ ls Q hQ E hl
  have E : sE p_ l_ e_ rmX11_writesNumber s_ m_ args_ below_ meth_ c_ cX11_writesNumber 4 wsX11_writesNumber RX11 "writesNumber" none G b_ M N := E
  have S := E.1
  have hx_ := S.1
  have hb_ := S.2.1
  have hK := E.2.2.2.2.1
  have hV := E.2.2.2.2.2.2
  have hl : lv_has ls 4 [(0, .ref m), (1, .int (sI v))] := hl
  have inX11_ : ∀ w ∈ wsX110, w ∈ wsX11_writesNumber := fun _ h => List.mem_cons_of_mem _ (List.mem_append_right _ h)
  refine si_const S dX11_writesNumber_0 ?_
  refine lv_istore_n (lv' := [(2, .int (sI 1)), (0, .ref m), (1, .int (sI v))]) hx_ hb_ dX11_writesNumber_1 rfl hl (by decide) rfl (fun ls hl => ?_)
  have L2 : ∀ (fuel : Nat) (u : Int)  (H : Heap) (locs : List Loc) (ls : Array Slot), ((10001 - u).toNat) < fuel → (unP u) → (u = 1 ∨ u ≤ v) → sV G b_ M N s_ H locs → lv_has ls 4 [(0, .ref m), (1, .int (sI v)), (2, .int (sI u))] → W p_ l_ e_ rmX11_writesNumber s_ m_ args_ below_ meth_ c_ H locs 0 0 Q (F0 m_ 2 ls []) := by
    intro fuel
    induction fuel with
    | zero => intro u H locs ls hmu; exact absurd hmu (Nat.not_lt_zero _)
    | succ fuel ih2 =>
      intro u H locs ls hmu2 hu huv  hV hl
      have hur := un_r hu
      have hdv : 0 ≤ v / u ∧ v / u ≤ v := ⟨Int.ediv_nonneg (by omega) (by omega), Int.ediv_le_self _ (by omega)⟩
      refine lv_iload_n hx_ hb_ dX11_writesNumber_2 rfl (lv_at hl 1 rfl) ?_
      refine lv_iload_n hx_ hb_ dX11_writesNumber_3 rfl (lv_at hl 2 rfl) ?_
      refine si_divN S dX11_writesNumber_4 (by omega) ?_
      refine si_bipush S dX11_writesNumber_5 (by decide) ?_
      refine sb_lt (tgt := 18) S dX11_writesNumber_7 (by decide) (by omega) (fun c1 => ?_) (fun c1 => ?_)
      · refine lv_iload_n hx_ hb_ dX11_writesNumber_18 rfl (lv_at hl 2 rfl) ?_
        refine lv_istore_n (lv' := [(3, .int (sI u)), (0, .ref m), (1, .int (sI v)), (2, .int (sI u))]) hx_ hb_ dX11_writesNumber_19 rfl hl (by decide) rfl (fun ls hl => ?_)
        have L20 : ∀ (fuel : Nat) (k : Int) (w2 : Int) (T2 : Int → Int) (Ml20 : sM) (H : Heap) (locs : List Loc) (ls : Array Slot), (k.toNat) < fuel → (k = 0 ∨ unP k) → (k = 0 ∨ k = 1 ∨ k ≤ v) → (∃ g, nmR k v g = nmW v sg ∧ wrE g w2 T2) → (wn ≤ w2 ∧ w2 + kdI k ≤ wn + nmL v) → (Ml20 m = some (mO m th ch tn ea sn nm w2)) → (Ml20 (m + 15) = some (sArr G 200 T2)) → (∀ x : Nat, ¬ (x = m) → ¬ (x = m + 15) → Ml20 x = M x) → sV G b_ Ml20 N s_ H locs → lv_has ls 4 [(0, .ref m), (1, .int (sI v)), (3, .int (sI k))] → W p_ l_ e_ rmX11_writesNumber s_ m_ args_ below_ meth_ c_ H locs 0 0 Q (F0 m_ 20 ls []) := by
          intro fuel
          induction fuel with
          | zero => intro k w2 T2 Ml20 H locs ls hmu; exact absurd hmu (Nat.not_lt_zero _)
          | succ fuel ih20 =>
            intro k w2 T2 Ml20 H locs ls hmu20 hk hkv hg hwk hm20_0 hm20_1 hfr20 hV hl
            obtain ⟨g, hg1, hg2⟩ := hg
            have hkr := kd_r k
            have hkr2 : 0 ≤ k ∧ k ≤ 10000 := by rcases hk with e | e; omega; have := un_r e; omega
            refine lv_iload_n hx_ hb_ dX11_writesNumber_20 rfl (lv_at hl 2 rfl) ?_
            refine sz_le (tgt := 45) S dX11_writesNumber_21 (by decide) (by omega) (fun c2 => ?_) (fun c2 => ?_)
            · exact sr_v E hQ dX11_writesNumber_45 ⟨Nat.le_of_ble_eq_true rfl, Nat.le_of_ble_eq_true rfl⟩ hV (⟨w2, T2, rfl, hm20_0, hm20_1, fun x q0 q1 => hfr20 x (by omega) (by omega), by rw [← hg1, show k = 0 by omega, nmR_0]; exact hg2, by omega⟩)
            · have hk1 : unP k := by rcases hk with e | e; omega; exact e
              have hk2 := kd_1 hk1
              have hk3 := kd_s hk1
              have hdk : 0 ≤ v / k ∧ v / k ≤ v := ⟨Int.ediv_nonneg (by omega) (by omega), Int.ediv_le_self _ (by omega)⟩
              refine lv_aload_n hx_ hb_ dX11_writesNumber_24 rfl (lv_at hl 0 rfl) ?_
              refine si_bipush S dX11_writesNumber_25 (by decide) ?_
              refine lv_iload_n hx_ hb_ dX11_writesNumber_27 rfl (lv_at hl 1 rfl) ?_
              refine lv_iload_n hx_ hb_ dX11_writesNumber_28 rfl (lv_at hl 2 rfl) ?_
              refine si_divN S dX11_writesNumber_29 (by omega) ?_
              refine si_bipush S dX11_writesNumber_30 (by decide) ?_
              refine si_remN S dX11_writesNumber_32 (by omega) ?_
              refine si_add S dX11_writesNumber_33 ?_
              refine sk_Vv E hV (As := [.int (sI (48 + ((v / k) % 10)))]) (rest := []) (kX11_writes l_ G b_ Ml20 N m th ch tn ea sn nm w2 T2 (48 + ((v / k) % 10)) hm20_0 hm20_1 (by omega)) (cwV 1 S.2.2.2.2 gX11_writesNumber_X11_writes rfl rfl rfl (by decide +kernel) ⟨Nat.le_of_ble_eq_true rfl, Nat.le_of_ble_eq_true rfl⟩) (ci := 9) hm20_0 rfl rfl rfl hl.1 (Nat.le_of_ble_eq_true rfl) dX11_writesNumber_34 (c1 := 0) (s1 := 0) ⟨⟨rfl, rfl⟩, by decide, by decide⟩ (fun M3 N4 H locs hp5 hV => ?_)
              obtain ⟨hN7, hc8, hc9, hf10⟩ := hp5
              rw [hN7] at hV
              refine lv_iload_n hx_ hb_ dX11_writesNumber_37 rfl (lv_at hl 2 rfl) ?_
              refine si_bipush S dX11_writesNumber_38 (by decide) ?_
              refine si_divN S dX11_writesNumber_40 (by omega) ?_
              refine lv_istore_n (lv' := [(3, .int (sI (k / 10))), (0, .ref m), (1, .int (sI v))]) hx_ hb_ dX11_writesNumber_41 rfl hl (by decide) rfl (fun ls hl => ?_)
              refine lv_goto (tgt := 20) hx_ hb_ dX11_writesNumber_42 (by decide) ?_
              exact ih20 (k / 10) (w2 + 1) (iup T2 w2 (48 + ((v / k) % 10))) M3 _ _ _ (by have := (kd_s hk1).2.2; omega) ((kd_s hk1).2.1) (by have := (kd_s hk1).2.2; omega) (⟨_, by rw [← hg1, nmR_s hk1, dgW_t (by omega)], wrE_a hg2 _⟩) (by have := (kd_s hk1).1; omega) hc8 hc9 (fun x q0 q1 => (hf10 x (by omega) (by omega)).trans (hfr20 x (by omega) (by omega))) hV (lv_sub hl [1, 2, 0] rfl)
        exact L20 _ u wn T M _ _ _ (Nat.lt_succ_self _) (Or.inr hu) (by omega) (⟨sg, (nm_by hu (un_lt hu hv.1 (by omega)) (by omega)).symm, hE⟩) (by have := kd_0 hu huv; omega) hm0 hm15 (fun x q0 q1 => rfl) hV (lv_sub hl [1, 2, 0] rfl)
      · refine lv_iload_n hx_ hb_ dX11_writesNumber_10 rfl (lv_at hl 2 rfl) ?_
        refine si_bipush S dX11_writesNumber_11 (by decide) ?_
        refine si_mul S dX11_writesNumber_13 ?_
        refine lv_istore_n (lv' := [(2, .int (sI (u * 10))), (0, .ref m), (1, .int (sI v))]) hx_ hb_ dX11_writesNumber_14 rfl hl (by decide) rfl (fun ls hl => ?_)
        refine lv_goto (tgt := 2) hx_ hb_ dX11_writesNumber_15 (by decide) ?_
        exact ih2 (u * 10) _ _ _ (by omega) ((un_10 hu hv (by omega)).1) (Or.inr (un_10 hu hv (by omega)).2) hV (lv_sub hl [1, 2, 0] rfl)
  exact L2 _ 1 _ _ _ (Nat.lt_succ_self _) (Or.inl rfl) (Or.inl rfl) hV (lv_sub hl [1, 2, 0] rfl)

abbrev rmX11_write : Room := { frames := 3, cells := 0, slots := 0, locals := 84 }
set_option maxHeartbeats 4000000 in
set_option maxRecDepth 100000 in
theorem kX11_write (l_ : Launch) (G : sG) (b_ : Nat) (M : sM) (N : Nat) (m : Nat) (th ch tn ea sn nm wn : Int) (f : sF) (T : sF) (hm0 : M m = some (mO m th ch tn ea sn nm wn)) (hm1 : M (m + 1) = some (sArr G 574 f)) (hm15 : M (m + 15) = some (sArr G 200 T)) (hok : sOk f) : cI l_ yX11_write wsX11_write rmX11_write G b_ M N [.ref m] (fun z_ M1 N1 => ∃ w9 : Int, ∃ T9 : Int → Int, z_ = (wrS f (f 568).toNat).1 ∧ N1 = N ∧ M1 m = some (mO m 0 ch tn ea sn nm w9) ∧ M1 (m + 15) = some (sArr G 200 T9) ∧ (∀ x : Nat, ¬ (x = m) → ¬ (x = m + 15) → M1 x = M x) ∧ (wrE (wrS f (f 568).toNat) w9 T9 ∧ 0 ≤ w9 ∧ w9 ≤ 180)) := by
  refine sE.ofI (cc := cX11_write) (nL := 4) (ret := (some .int)) (by decide) rfl (Nat.le_of_ble_eq_true rfl) ?_
  intro p_ e_ s_ m_ args_ below_ meth_ c_ ls Q hQ E hl
  have E : sE p_ l_ e_ rmX11_write s_ m_ args_ below_ meth_ c_ cX11_write 4 wsX11_write RX11 "write" (some .int) G b_ M N := E
  have S := E.1
  have hx_ := S.1
  have hb_ := S.2.1
  have hK := E.2.2.2.2.1
  have hV := E.2.2.2.2.2.2
  have hl : lv_has ls 4 [(0, .ref m)] := hl
  have inX11_ : ∀ w ∈ wsX110, w ∈ wsX11_write := fun _ h => List.mem_cons_of_mem _ (List.mem_append_right _ h)
  have kn0 := sOk_N hok
  have hds := ds_ok hok
  refine lv_aload_n hx_ hb_ dX11_write_0 rfl (lv_at hl 0 rfl) ?_
  refine si_const S dX11_write_1 ?_
  refine sc_put (ci := 9) (C := RX11) (T := TX11) (n := 22) S hK hV inX11_ tyX11_ok nmX11 hm0 rfl 0 (by decide) (S.2.2.2.2 _ (List.mem_of_getElem? (i := 1) rfl)) rfl rfl rfl rfl (Nat.le_of_ble_eq_true rfl) dX11_write_2 (fs1 := [.int (sI 0), .ref (m + 1), .ref (m + 2), .int (sI ch), .ref (m + 3), .int (sI tn), .int (sI ea), .ref (m + 4), .ref (m + 5), .ref (m + 6), .ref (m + 7), .ref (m + 8), .ref (m + 9), .int (sI sn), .ref (m + 10), .ref (m + 11), .ref (m + 12), .ref (m + 13), .int (sI nm), .ref (m + 14), .ref (m + 15), .int (sI wn)]) rfl (fun M1 H locs hM1 hV => ?_)
  have hc2 : M1 m = some (mO m 0 ch tn ea sn nm wn) := (congrFun hM1 m).trans (va_up_self M m _)
  refine lv_aload_n hx_ hb_ dX11_write_5 rfl (lv_at hl 0 rfl) ?_
  refine si_const S dX11_write_6 ?_
  refine sc_put (ci := 9) (C := RX11) (T := TX11) (n := 22) S hK hV inX11_ tyX11_ok nmX11 hc2 rfl 21 (by decide) (S.2.2.2.2 _ (List.mem_of_getElem? (i := 2) rfl)) rfl rfl rfl rfl (Nat.le_of_ble_eq_true rfl) dX11_write_7 (fs1 := [.int (sI 0), .ref (m + 1), .ref (m + 2), .int (sI ch), .ref (m + 3), .int (sI tn), .int (sI ea), .ref (m + 4), .ref (m + 5), .ref (m + 6), .ref (m + 7), .ref (m + 8), .ref (m + 9), .int (sI sn), .ref (m + 10), .ref (m + 11), .ref (m + 12), .ref (m + 13), .int (sI nm), .ref (m + 14), .ref (m + 15), .int (sI 0)]) rfl (fun M3 H locs hM3 hV => ?_)
  have hc4 : M3 m = some (mO m 0 ch tn ea sn nm 0) := (congrFun hM3 m).trans (va_up_self M1 m _)
  refine si_const S dX11_write_10 ?_
  refine lv_istore_n (lv' := [(1, .int (sI 0)), (0, .ref m)]) hx_ hb_ dX11_write_11 rfl hl (by decide) rfl (fun ls hl => ?_)
  have L12 : ∀ (fuel : Nat) (x : Int) (w2 : Int) (T2 : Int → Int) (Ml12 : sM) (H : Heap) (locs : List Loc) (ls : Array Slot), ((f 568 - x).toNat) < fuel → (0 ≤ x ∧ x ≤ f 568) → (wrE (wrS f x.toNat) w2 T2) → (0 ≤ w2 ∧ w2 ≤ 18 * x) → (Ml12 m = some (mO m 0 ch tn ea sn nm w2)) → (Ml12 (m + 15) = some (sArr G 200 T2)) → (∀ x : Nat, ¬ (x = m) → ¬ (x = m + 15) → Ml12 x = M3 x) → sV G b_ Ml12 N s_ H locs → lv_has ls 4 [(0, .ref m), (1, .int (sI x))] → W p_ l_ e_ rmX11_write s_ m_ args_ below_ meth_ c_ H locs 0 0 Q (F0 m_ 12 ls []) := by
    intro fuel
    induction fuel with
    | zero => intro x w2 T2 Ml12 H locs ls hmu; exact absurd hmu (Nat.not_lt_zero _)
    | succ fuel ih12 =>
      intro x w2 T2 Ml12 H locs ls hmu12 hv12_0 hE hw2 hm12_0 hm12_1 hfr12 hV hl
      have heo := eo_i hds
      refine lv_iload_n hx_ hb_ dX11_write_12 rfl (lv_at hl 1 rfl) ?_
      refine lv_aload_n hx_ hb_ dX11_write_13 rfl (lv_at hl 0 rfl) ?_
      have hc5 : Ml12 (m + 1) = some (sArr G 574 f) := (((hfr12 (m + 1) (by omega) (by omega)).trans ((congrFun hM3 (m + 1)).trans (va_up_ne M1 _ (by omega)))).trans ((congrFun hM1 (m + 1)).trans (va_up_ne M _ (by omega)))).trans hm1
      refine sk_VP E hV (As := []) (rest := [.int (sI x)]) (kX11_many l_ G b_ Ml12 N m 0 ch tn ea sn nm w2 f hm12_0 hc5) (cwV 0 S.2.2.2.2 gX11_write_X11_many rfl rfl rfl (by decide +kernel) ⟨Nat.le_of_ble_eq_true rfl, Nat.le_of_ble_eq_true rfl⟩) (ci := 9) hm12_0 rfl rfl rfl hl.1 (Nat.le_of_ble_eq_true rfl) dX11_write_14 (c1 := 0) (s1 := 0) ⟨⟨rfl, rfl⟩, by decide, by decide⟩ (fun H locs hV => ?_)
      refine sb_ge (tgt := 138) S dX11_write_17 (by decide) (by omega) (fun c6 => ?_) (fun c6 => ?_)
      · refine lv_aload_n hx_ hb_ dX11_write_138 rfl (lv_at hl 0 rfl) ?_
        refine sc_get (ci := 9) (C := RX11) (T := TX11) (n := 22) S hK hV inX11_ hm12_0 rfl 21 (by decide) (S.2.2.2.2 _ (List.mem_of_getElem? (i := 2) rfl)) rfl rfl dX11_write_139 ?_
        exact sr_i E hQ dX11_write_142 ⟨Nat.le_of_ble_eq_true rfl, Nat.le_of_ble_eq_true rfl⟩ hV (⟨w2, T2, by rw [hE.1, show x = f 568 by omega], rfl, hm12_0, hm12_1, fun x q0 q1 => ((hfr12 x (by omega) (by omega)).trans ((congrFun hM3 x).trans (va_up_ne M1 _ (by omega)))).trans ((congrFun hM1 x).trans (va_up_ne M _ (by omega))), ⟨by rw [show f 568 = x by omega]; exact hE, by omega⟩⟩)
      · have hex := heo x (by omega)
        refine si_const S dX11_write_20 ?_
        refine lv_istore_n (lv' := [(2, .int (sI 0)), (0, .ref m), (1, .int (sI x))]) hx_ hb_ dX11_write_21 rfl hl (by decide) rfl (fun ls hl => ?_)
        have L22 : ∀ (fuel : Nat) (s : Int)  (H : Heap) (locs : List Loc) (ls : Array Slot), ((eoI f (f 568) x - s).toNat) < fuel → (0 ≤ s ∧ s ≤ eoI f (f 568) x) → (∀ y, 0 ≤ y → y < s → ¬ isum (f 568) (plT f y) = x) → sV G b_ Ml12 N s_ H locs → lv_has ls 4 [(0, .ref m), (1, .int (sI x)), (2, .int (sI s))] → W p_ l_ e_ rmX11_write s_ m_ args_ below_ meth_ c_ H locs 0 0 Q (F0 m_ 22 ls []) := by
          intro fuel
          induction fuel with
          | zero => intro s H locs ls hmu; exact absurd hmu (Nat.not_lt_zero _)
          | succ fuel ih22 =>
            intro s H locs ls hmu22 hv22_0 hns  hV hl
            have hnp := np_r f (f 568) s (by omega)
            refine lv_aload_n hx_ hb_ dX11_write_22 rfl (lv_at hl 0 rfl) ?_
            refine lv_iload_n hx_ hb_ dX11_write_23 rfl (lv_at hl 2 rfl) ?_
            have hex := heo x (by omega)
            refine sk_VP E hV (As := [.int (sI s)]) (rest := []) (kX11_placeOf l_ G b_ Ml12 N m 0 ch tn ea sn nm w2 f s hm12_0 hc5 (by omega) (by omega)) (cwV 1 S.2.2.2.2 gX11_write_X11_placeOf rfl rfl rfl (by decide +kernel) ⟨Nat.le_of_ble_eq_true rfl, Nat.le_of_ble_eq_true rfl⟩) (ci := 9) hm12_0 rfl rfl rfl hl.1 (Nat.le_of_ble_eq_true rfl) dX11_write_24 (c1 := 0) (s1 := 0) ⟨⟨rfl, rfl⟩, by decide, by decide⟩ (fun H locs hV => ?_)
            refine lv_iload_n hx_ hb_ dX11_write_27 rfl (lv_at hl 1 rfl) ?_
            refine sb_eq (tgt := 37) S dX11_write_28 (by decide) (by omega) (fun h28 => ?_) (fun h28 => ?_)
            · have hsx : s = eoI f (f 568) x := eo_u hds (by omega) (by omega)
              refine si_sipush S dX11_write_37 (by decide) ?_
              refine lv_istore_n (lv' := [(3, .int (sI 19683)), (0, .ref m), (1, .int (sI x)), (2, .int (sI s))]) hx_ hb_ dX11_write_40 rfl hl (by decide) rfl (fun ls hl => ?_)
              have L41 : ∀ (fuel : Nat) (u : Int) (w3 : Int) (T3 : Int → Int) (Ml41 : sM) (H : Heap) (locs : List Loc) (ls : Array Slot), (u.toNat) < fuel → (u = 0 ∨ ucP u) → (∃ g, coR u (f s) g = coW (f s) (wrS f x.toNat) ∧ wrE g w3 T3) → (0 ≤ w3 ∧ w3 + kcI u ≤ w2 + 4) → (Ml41 m = some (mO m 0 ch tn ea sn nm w3)) → (Ml41 (m + 15) = some (sArr G 200 T3)) → (∀ x : Nat, ¬ (x = m) → ¬ (x = m + 15) → Ml41 x = Ml12 x) → sV G b_ Ml41 N s_ H locs → lv_has ls 4 [(0, .ref m), (1, .int (sI x)), (2, .int (sI s)), (3, .int (sI u))] → W p_ l_ e_ rmX11_write s_ m_ args_ below_ meth_ c_ H locs 0 0 Q (F0 m_ 41 ls []) := by
                intro fuel
                induction fuel with
                | zero => intro u w3 T3 Ml41 H locs ls hmu; exact absurd hmu (Nat.not_lt_zero _)
                | succ fuel ih41 =>
                  intro u w3 T3 Ml41 H locs ls hmu41 hu hg hw3 hm41_0 hm41_1 hfr41 hV hl
                  obtain ⟨g, hg1, hg2⟩ := hg
                  have hur2 : 0 ≤ u ∧ u ≤ 19683 := by rcases hu with e | e; omega; have := uc_r e; omega
                  have hkc := kc_r u
                  refine lv_iload_n hx_ hb_ dX11_write_41 rfl (lv_at hl 3 rfl) ?_
                  refine sz_le (tgt := 89) S dX11_write_42 (by decide) (by omega) (fun c7 => ?_) (fun c7 => ?_)
                  · refine si_const S dX11_write_89 ?_
                    refine lv_istore_n (lv' := [(3, .int (sI 0)), (0, .ref m), (1, .int (sI x)), (2, .int (sI s))]) hx_ hb_ dX11_write_90 rfl hl (by decide) rfl (fun ls hl => ?_)
                    have L91 : ∀ (fuel : Nat) (w : Int) (w4 : Int) (T4 : Int → Int) (Ml91 : sM) (H : Heap) (locs : List Loc) (ls : Array Slot), ((4 - w).toNat) < fuel → (0 ≤ w ∧ w ≤ 4) → (wrE (nuW f s (coW (f s) (wrS f x.toNat)) w.toNat) w4 T4) → (0 ≤ w4 ∧ w4 ≤ w2 + 4 + nlI w) → (Ml91 m = some (mO m 0 ch tn ea sn nm w4)) → (Ml91 (m + 15) = some (sArr G 200 T4)) → (∀ x : Nat, ¬ (x = m) → ¬ (x = m + 15) → Ml91 x = Ml41 x) → sV G b_ Ml91 N s_ H locs → lv_has ls 4 [(0, .ref m), (1, .int (sI x)), (2, .int (sI s)), (3, .int (sI w))] → W p_ l_ e_ rmX11_write s_ m_ args_ below_ meth_ c_ H locs 0 0 Q (F0 m_ 91 ls []) := by
                      intro fuel
                      induction fuel with
                      | zero => intro w w4 T4 Ml91 H locs ls hmu; exact absurd hmu (Nat.not_lt_zero _)
                      | succ fuel ih91 =>
                        intro w w4 T4 Ml91 H locs ls hmu91 hv91_0 hE4 hw4 hm91_0 hm91_1 hfr91 hV hl
                        have hnl := nl_r w
                        refine lv_iload_n hx_ hb_ dX11_write_91 rfl (lv_at hl 3 rfl) ?_
                        refine si_const S dX11_write_92 ?_
                        refine sb_ge (tgt := 126) S dX11_write_93 (by decide) (by omega) (fun c8 => ?_) (fun c8 => ?_)
                        · refine lv_aload_n hx_ hb_ dX11_write_126 rfl (lv_at hl 0 rfl) ?_
                          refine si_bipush S dX11_write_127 (by decide) ?_
                          refine sk_Vv E hV (As := [.int (sI 59)]) (rest := []) (kX11_writes l_ G b_ Ml91 N m 0 ch tn ea sn nm w4 T4 59 hm91_0 hm91_1 (by omega)) (cwV 1 S.2.2.2.2 gX11_write_X11_writes rfl rfl rfl (by decide +kernel) ⟨Nat.le_of_ble_eq_true rfl, Nat.le_of_ble_eq_true rfl⟩) (ci := 9) hm91_0 rfl rfl rfl hl.1 (Nat.le_of_ble_eq_true rfl) dX11_write_129 (c1 := 0) (s1 := 0) ⟨⟨rfl, rfl⟩, by decide, by decide⟩ (fun M9 N10 H locs hp11 hV => ?_)
                          obtain ⟨hN13, hc14, hc15, hf16⟩ := hp11
                          rw [hN13] at hV
                          refine si_inc (lv' := [(1, .int (sI (x + 1))), (0, .ref m), (2, .int (sI s)), (3, .int (sI w))]) S dX11_write_132 hl (k := 1) rfl (by decide) rfl (fun ls hl => ?_)
                          refine lv_goto (tgt := 12) hx_ hb_ dX11_write_135 (by decide) ?_
                          exact ih12 (x + 1) (w4 + 1) (iup T4 w4 59) M9 _ _ _ (by omega) (by omega) (by rw [wrS_s f x (by omega), ← hsx]; unfold wr1; rw [show nuW f s (coW (f s) (wrS f x.toNat)) 4 = nuW f s (coW (f s) (wrS f x.toNat)) w.toNat by rw [show w = 4 by omega]; rfl]; exact wrE_a hE4 59) (by rw [show w = 4 by omega, show nlI 4 = 13 from rfl] at hw4; omega) hc14 hc15 (fun x q0 q1 => (((hf16 x (by omega) (by omega)).trans (hfr91 x (by omega) (by omega))).trans (hfr41 x (by omega) (by omega))).trans (hfr12 x (by omega) (by omega))) hV (lv_sub hl [1, 0] rfl)
                        · refine lv_aload_n hx_ hb_ dX11_write_96 rfl (lv_at hl 0 rfl) ?_
                          refine si_bipush S dX11_write_97 (by decide) ?_
                          refine sk_Vv E hV (As := [.int (sI 32)]) (rest := []) (kX11_writes l_ G b_ Ml91 N m 0 ch tn ea sn nm w4 T4 32 hm91_0 hm91_1 (by omega)) (cwV 1 S.2.2.2.2 gX11_write_X11_writes rfl rfl rfl (by decide +kernel) ⟨Nat.le_of_ble_eq_true rfl, Nat.le_of_ble_eq_true rfl⟩) (ci := 9) hm91_0 rfl rfl rfl hl.1 (Nat.le_of_ble_eq_true rfl) dX11_write_99 (c1 := 0) (s1 := 0) ⟨⟨rfl, rfl⟩, by decide, by decide⟩ (fun M17 N18 H locs hp19 hV => ?_)
                          obtain ⟨hN21, hc22, hc23, hf24⟩ := hp19
                          rw [hN21] at hV
                          refine lv_aload_n hx_ hb_ dX11_write_102 rfl (lv_at hl 0 rfl) ?_
                          refine lv_aload_n hx_ hb_ dX11_write_103 rfl (lv_at hl 0 rfl) ?_
                          refine sc_get (ci := 9) (C := RX11) (T := TX11) (n := 22) S hK hV inX11_ hc22 rfl 1 (by decide) (S.2.2.2.2 _ (List.mem_of_getElem? (i := 3) rfl)) rfl rfl dX11_write_104 ?_
                          refine si_bipush S dX11_write_107 (by decide) ?_
                          refine si_bipush S dX11_write_109 (by decide) ?_
                          refine lv_iload_n hx_ hb_ dX11_write_111 rfl (lv_at hl 3 rfl) ?_
                          refine si_mul S dX11_write_112 ?_
                          refine si_add S dX11_write_113 ?_
                          refine lv_iload_n hx_ hb_ dX11_write_114 rfl (lv_at hl 2 rfl) ?_
                          refine si_add S dX11_write_115 ?_
                          have hc25 : M17 (m + 1) = some (sArr G 574 f) := (((hf24 (m + 1) (by omega) (by omega)).trans (hfr91 (m + 1) (by omega) (by omega))).trans (hfr41 (m + 1) (by omega) (by omega))).trans hc5
                          refine sc_iald S hK hV hc25 (by omega) dX11_write_116 ?_
                          refine sk_Vv E hV (As := [.int (sI (f ((10 + (10 * w)) + s)))]) (rest := []) (kX11_writesNumber l_ G b_ M17 N m 0 ch tn ea sn nm (w4 + 1) (iup T4 w4 32) (f ((10 + (10 * w)) + s)) (wrA (nuW f s (coW (f s) (wrS f x.toNat)) w.toNat) 32) hc22 hc23 (ok_num hok s w (by omega) (by omega)) (wrE_a hE4 32) (by have := nl_s hok s w (by omega) (by omega); have := nl_r (w + 1); omega)) (cwV 1 S.2.2.2.2 gX11_write_X11_writesNumber rfl rfl rfl (by decide +kernel) ⟨Nat.le_of_ble_eq_true rfl, Nat.le_of_ble_eq_true rfl⟩) (ci := 9) hc22 rfl rfl rfl hl.1 (Nat.le_of_ble_eq_true rfl) dX11_write_117 (c1 := 0) (s1 := 0) ⟨⟨rfl, rfl⟩, by decide, by decide⟩ (fun M26 N27 H locs hp28 hV => ?_)
                          obtain ⟨w930, T931, hN32, hc33, hc34, hf35, hE936, hw937⟩ := hp28
                          rw [hN32] at hV
                          have hE9 := hE936
                          have hw9 := hw937
                          refine si_inc (lv' := [(3, .int (sI (w + 1))), (0, .ref m), (1, .int (sI x)), (2, .int (sI s))]) S dX11_write_120 hl (k := 3) rfl (by decide) rfl (fun ls hl => ?_)
                          refine lv_goto (tgt := 91) hx_ hb_ dX11_write_123 (by decide) ?_
                          exact ih91 (w + 1) w930 T931 M26 _ _ _ (by omega) (by omega) (by rw [nuW_s _ _ _ _ (by omega)]; exact hE9) (by have := nl_s hok s w (by omega) (by omega); omega) hc33 hc34 (fun x q0 q1 => ((hf35 x (by omega) (by omega)).trans (hf24 x (by omega) (by omega))).trans (hfr91 x (by omega) (by omega))) hV (lv_sub hl [1, 2, 3, 0] rfl)
                    exact L91 _ 0 w3 T3 Ml41 _ _ _ (Nat.lt_succ_self _) (by omega) (by show wrE (coW (f s) (wrS f x.toNat)) w3 T3; rw [← hg1, show u = 0 by omega, coR_0]; exact hg2) (by rw [show nlI 0 = 0 from rfl]; omega) hm41_0 hm41_1 (fun x q0 q1 => rfl) hV (lv_sub hl [1, 2, 3, 0] rfl)
                  · have hu1 : ucP u := by rcases hu with e | e; omega; exact e
                    have hk2 := kc_1 hu1
                    have hsS := sOk_S hok s (by omega) (by omega)
                    have hdk : 0 ≤ f s / u ∧ f s / u ≤ f s := ⟨Int.ediv_nonneg (by omega) (by omega), Int.ediv_le_self _ (by omega)⟩
                    refine lv_aload_n hx_ hb_ dX11_write_45 rfl (lv_at hl 0 rfl) ?_
                    refine sc_get (ci := 9) (C := RX11) (T := TX11) (n := 22) S hK hV inX11_ hm41_0 rfl 1 (by decide) (S.2.2.2.2 _ (List.mem_of_getElem? (i := 3) rfl)) rfl rfl dX11_write_46 ?_
                    refine si_const S dX11_write_49 ?_
                    refine lv_iload_n hx_ hb_ dX11_write_50 rfl (lv_at hl 2 rfl) ?_
                    refine si_add S dX11_write_51 ?_
                    rw [Int.zero_add]
                    have hc38 : Ml41 (m + 1) = some (sArr G 574 f) := (hfr41 (m + 1) (by omega) (by omega)).trans hc5
                    refine sc_iald S hK hV hc38 (by omega) dX11_write_52 ?_
                    refine lv_iload_n hx_ hb_ dX11_write_53 rfl (lv_at hl 3 rfl) ?_
                    refine si_divN S dX11_write_54 (by omega) ?_
                    refine si_bipush S dX11_write_55 (by decide) ?_
                    refine si_remN S dX11_write_57 (by omega) ?_
                    refine sz_le (tgt := 81) S dX11_write_58 (by decide) (by omega) (fun c39 => ?_) (fun c39 => ?_)
                    · refine lv_iload_n hx_ hb_ dX11_write_81 rfl (lv_at hl 3 rfl) ?_
                      refine si_bipush S dX11_write_82 (by decide) ?_
                      refine si_divN S dX11_write_84 (by omega) ?_
                      refine lv_istore_n (lv' := [(3, .int (sI (u / 27))), (0, .ref m), (1, .int (sI x)), (2, .int (sI s))]) hx_ hb_ dX11_write_85 rfl hl (by decide) rfl (fun ls hl => ?_)
                      refine lv_goto (tgt := 41) hx_ hb_ dX11_write_86 (by decide) ?_
                      exact ih41 (u / 27) w3 T3 Ml41 _ _ _ (by have := (kc_s hu1).2.2; omega) ((kc_s hu1).2.1) (⟨_, by rw [← hg1, coR_s hu1]; unfold cdW; rw [if_neg (by omega)], hg2⟩) (by have := (kc_s hu1).1; omega) hm41_0 hm41_1 (fun x q0 q1 => hfr41 x (by omega) (by omega)) hV (lv_sub hl [1, 2, 3, 0] rfl)
                    · refine lv_aload_n hx_ hb_ dX11_write_61 rfl (lv_at hl 0 rfl) ?_
                      refine si_bipush S dX11_write_62 (by decide) ?_
                      refine lv_aload_n hx_ hb_ dX11_write_64 rfl (lv_at hl 0 rfl) ?_
                      refine sc_get (ci := 9) (C := RX11) (T := TX11) (n := 22) S hK hV inX11_ hm41_0 rfl 1 (by decide) (S.2.2.2.2 _ (List.mem_of_getElem? (i := 3) rfl)) rfl rfl dX11_write_65 ?_
                      refine si_const S dX11_write_68 ?_
                      refine lv_iload_n hx_ hb_ dX11_write_69 rfl (lv_at hl 2 rfl) ?_
                      refine si_add S dX11_write_70 ?_
                      rw [Int.zero_add]
                      refine sc_iald S hK hV hc38 (by omega) dX11_write_71 ?_
                      refine lv_iload_n hx_ hb_ dX11_write_72 rfl (lv_at hl 3 rfl) ?_
                      refine si_divN S dX11_write_73 (by omega) ?_
                      refine si_bipush S dX11_write_74 (by decide) ?_
                      refine si_remN S dX11_write_76 (by omega) ?_
                      refine si_add S dX11_write_77 ?_
                      refine sk_Vv E hV (As := [.int (sI (96 + (((f s) / u) % 27)))]) (rest := []) (kX11_writes l_ G b_ Ml41 N m 0 ch tn ea sn nm w3 T3 (96 + (((f s) / u) % 27)) hm41_0 hm41_1 (by omega)) (cwV 1 S.2.2.2.2 gX11_write_X11_writes rfl rfl rfl (by decide +kernel) ⟨Nat.le_of_ble_eq_true rfl, Nat.le_of_ble_eq_true rfl⟩) (ci := 9) hm41_0 rfl rfl rfl hl.1 (Nat.le_of_ble_eq_true rfl) dX11_write_78 (c1 := 0) (s1 := 0) ⟨⟨rfl, rfl⟩, by decide, by decide⟩ (fun M40 N41 H locs hp42 hV => ?_)
                      obtain ⟨hN44, hc45, hc46, hf47⟩ := hp42
                      rw [hN44] at hV
                      refine lv_iload_n hx_ hb_ dX11_write_81 rfl (lv_at hl 3 rfl) ?_
                      refine si_bipush S dX11_write_82 (by decide) ?_
                      refine si_divN S dX11_write_84 (by omega) ?_
                      refine lv_istore_n (lv' := [(3, .int (sI (u / 27))), (0, .ref m), (1, .int (sI x)), (2, .int (sI s))]) hx_ hb_ dX11_write_85 rfl hl (by decide) rfl (fun ls hl => ?_)
                      refine lv_goto (tgt := 41) hx_ hb_ dX11_write_86 (by decide) ?_
                      exact ih41 (u / 27) (w3 + 1) (iup T3 w3 (96 + (((f s) / u) % 27))) M40 _ _ _ (by have := (kc_s hu1).2.2; omega) ((kc_s hu1).2.1) (⟨_, by rw [← hg1, coR_s hu1]; unfold cdW; rw [if_pos (by omega)], wrE_a hg2 _⟩) (by have := (kc_s hu1).1; omega) hc45 hc46 (fun x q0 q1 => (hf47 x (by omega) (by omega)).trans (hfr41 x (by omega) (by omega))) hV (lv_sub hl [1, 2, 3, 0] rfl)
              exact L41 _ 19683 w2 T2 Ml12 _ _ _ (Nat.lt_succ_self _) (Or.inr (Or.inr (Or.inr (Or.inr rfl)))) (⟨_, rfl, hE⟩) (by rw [show kcI 19683 = 4 from rfl]; omega) hm12_0 hm12_1 (fun x q0 q1 => rfl) hV (lv_sub hl [1, 2, 3, 0] rfl)
            · have hlt : s ≠ eoI f (f 568) x := fun e => h28 (by rw [e]; exact hex.2)
              refine si_inc (lv' := [(2, .int (sI (s + 1))), (0, .ref m), (1, .int (sI x))]) S dX11_write_31 hl (k := 2) rfl (by decide) rfl (fun ls hl => ?_)
              refine lv_goto (tgt := 22) hx_ hb_ dX11_write_34 (by decide) ?_
              exact ih22 (s + 1) _ _ _ (by omega) (by omega) (idx_st hns h28) hV (lv_sub hl [1, 2, 0] rfl)
        exact L22 _ 0 _ _ _ (Nat.lt_succ_self _) (by omega) (fun y a b => by omega) hV (lv_sub hl [1, 2, 0] rfl)
  have hc48 : M3 (m + 15) = some (sArr G 200 T) := (((congrFun hM3 (m + 15)).trans (va_up_ne M1 _ (by omega))).trans ((congrFun hM1 (m + 15)).trans (va_up_ne M _ (by omega)))).trans hm15
  exact L12 _ 0 0 T M3 _ _ _ (Nat.lt_succ_self _) (by omega) (⟨rfl, fun q a b => by have b2 : q < 0 := b; omega⟩) (by omega) hc4 hc48 (fun x q0 q1 => rfl) hV (lv_sub hl [1, 0] rfl)

