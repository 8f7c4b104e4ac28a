/-! Rows of characters. -/
section SC
variable {p : Program} {l : Launch} {e : Env} {R : Room} {s : State} {m : MethodId} {args : Array Value} {below : List Frame} {meth : Method} {c : Code} {H : Heap} {locs : List Loc} {cells slots : Nat} {Q : State → Prop}
variable {cc : ByteArray} {nL : Nat} {Ts : List Cond} {own nm : String} {pc : Nat} {ls : Array Slot} {rest : List Value} {ret : Option FieldType}
variable {G : sG} {b : Nat} {M M0 : sM} {N N0 : Nat}
theorem sc_cald (S : CallFix p m c cc nL s args Ts own) (hK : va_K G.1 vwCl (sTy G) s) (hV : sV G b M N s H locs) {a : Nat} {n : Nat} {g : Int → Int} (he : M a = some (sArC G n g)) {i : Int} (hi : 0 ≤ i ∧ i < n ∧ (n : Int) ≤ 2147483647) (hdg : decode cc pc = .ok (.caload, 1))
    (kk : W p l e R s m args below meth c H locs cells slots Q (F0 m (pc + 1) ls (.int (sI (g i)) :: rest))) : W p l e R s m args below meth c H locs cells slots Q (F0 m pc ls (.int (sI i) :: .ref a :: rest)) := by
  have hc : (sI i).toNatClampNeg = i.toNat := sI_clamp (by omega)
  have hlt : i.toNat < n := by omega
  have hg : (((i.toNat : Nat) : Int)) = i := by omega
  refine W.cald (v := .int (sI (g i))) S.1 S.2.1 (hV.1.2 a _ he).2 ((hK.2 1 _ rfl).1 n (fun j => .int (sI (g (j : Int))))) (fun q => by cases q) (by show ¬ (sI i < 0 ∨ (arrV _ _ _).slots.size ≤ _); rw [arrV_size]; exact sI_in hi) ?_ rfl rfl hdg kk
  show (arrV G.2.2.1 n (fun j => .int (sI (g (j : Int))))).slots[_]? = _
  rw [hc, arrV_read _ _ hlt, hg]
theorem sc_cast (S : CallFix p m c cc nL s args Ts own) (hK : va_K G.1 vwCl (sTy G) s) (hV : sV G b M N s H locs) {a : Nat} {n : Nat} {g : Int → Int} (he : M a = some (sArC G n g)) {i x : Int} (hi : (0 ≤ i ∧ i < n ∧ (n : Int) ≤ 2147483647) ∧ 0 ≤ x ∧ x < 65536) (hdg : decode cc pc = .ok (.castore, 1))
    (kk : ∀ (M1 : sM) (H1 : Heap) (locs1 : List Loc), M1 = va_up M a (some (sArC G n (iup g i x))) → sV G b M1 N s H1 locs1 → W p l e R s m args below meth c H1 locs1 cells slots Q (F0 m (pc + 1) ls rest)) : W p l e R s m args below meth c H locs cells slots Q (F0 m pc ls (.int (sI x) :: .int (sI i) :: .ref a :: rest)) := by
  have hc : (sI i).toNatClampNeg = i.toNat := sI_clamp (by omega)
  have hba := (hV.1.2 a _ he).1
  refine W.cast S.1 S.2.1 (hV.1.2 a _ he).2 ((hK.2 1 _ rfl).1 n (fun j => .int (sI (g (j : Int))))) (fun q => by cases q) (by show ¬ (sI i < 0 ∨ (arrV _ _ _).slots.size ≤ _); rw [arrV_size]; exact sI_in hi.1) rfl rfl hdg fun H1 e z oq => ?_
  refine kk _ H1 _ rfl ⟨hV.1.put he ?_ z oq, hV.2.1.put z oq hba, hV.2.2⟩
  show H1[a]? = some (vp_cell _ _)
  rw [e]
  rw [vp_cell_i, vp_cell_i, arrV_store, hc]
  congr 2
  funext q
  by_cases hq : q = i.toNat
  · have hg : ((q : Nat) : Int) = i := by omega
    show (if q = i.toNat then _ else _) = _
    rw [if_pos hq]
    unfold iup
    rw [if_pos hg]
    show Value.int (((sI x).toUInt32 % 65536).toInt32) = _
    rw [sI_char hi.2]
  · have hg : ¬ ((q : Nat) : Int) = i := by omega
    show (if q = i.toNat then _ else _) = _
    rw [if_neg hq]
    unfold iup
    rw [if_neg hg]
end SC

abbrev rmX1_putSign : Room := { frames := 1, cells := 0, slots := 0, locals := 40 }
set_option maxHeartbeats 4000000 in
set_option maxRecDepth 100000 in
theorem kX1_putSign (l_ : Launch) (G : sG) (b_ : Nat) (M : sM) (N : Nat) (q : Nat) (wc tk ts te tv : Int) (T : sF) (x : Int) (hq0 : M q = some (sObj 0 [.ref (q + 1), .ref (q + 3), .int (sI wc), .int (sI tk), .int (sI ts), .int (sI te), .int (sI tv)])) (hw : M (q + 3) = some (sArC G 180 T)) (hx : 0 ≤ x ∧ x < 65536) (hb : 0 ≤ wc ∧ wc < 180) : cV l_ yX1_putSign wsX1_putSign rmX1_putSign G b_ M N [.ref q, .int (sI x)] (fun M1 N1 => N1 = N ∧ M1 q = some (sObj 0 [.ref (q + 1), .ref (q + 3), .int (sI (wc + 1)), .int (sI tk), .int (sI ts), .int (sI te), .int (sI tv)]) ∧ M1 (q + 3) = some (sArC G 180 (iup T wc x)) ∧ (∀ x : Nat, ¬ (x = q) → ¬ (x = q + 3) → M1 x = M x)) := by
  refine sE.ofV (cc := cX1_putSign) (nL := 2) (ret := none) (by decide) rfl (Nat.le_of_ble_eq_true rfl) ?_
  intro p_ e_ s_ m_ args_ below_ meth_ c_ ls Q hQ E hl
  have E : sE p_ l_ e_ rmX1_putSign s_ m_ args_ below_ meth_ c_ cX1_putSign 2 wsX1_putSign RX1 "putSign" none G b_ M N := E
  have S := E.1
  have hx_ := S.1
  have hb_ := S.2.1
  have hK := E.2.2.2.2.1
  have hV := E.2.2.2.2.2.2
  have hl : lv_has ls 2 [(0, .ref q), (1, .int (sI x))] := hl
  have inX1_ : ∀ w ∈ wsX10, w ∈ wsX1_putSign := fun _ h => List.mem_cons_of_mem _ (List.mem_append_right _ h)
  refine lv_aload_n hx_ hb_ dX1_putSign_0 rfl (lv_at hl 0 rfl) ?_
  refine sc_get (ci := 0) (C := RX1) (T := TX1) (n := 7) S hK hV inX1_ hq0 rfl 2 (by decide) (S.2.2.2.2 _ (List.mem_of_getElem? (i := 1) rfl)) rfl rfl dX1_putSign_1 ?_
  refine lv_aload_n hx_ hb_ dX1_putSign_4 rfl (lv_at hl 0 rfl) ?_
  refine sc_get (ci := 0) (C := RX1) (T := TX1) (n := 7) S hK hV inX1_ hq0 rfl 1 (by decide) (S.2.2.2.2 _ (List.mem_of_getElem? (i := 2) rfl)) rfl rfl dX1_putSign_5 ?_
  refine sc_alen S hK hV 1 hw rfl dX1_putSign_8 ?_
  rw [show ((180 : Nat) : Int) = 180 from rfl]
  refine sb_ge (tgt := 32) S dX1_putSign_9 (by decide) (by omega) (fun c1 => absurd c1 (by omega)) (fun _ => ?_)
  refine lv_aload_n hx_ hb_ dX1_putSign_12 rfl (lv_at hl 0 rfl) ?_
  refine sc_get (ci := 0) (C := RX1) (T := TX1) (n := 7) S hK hV inX1_ hq0 rfl 1 (by decide) (S.2.2.2.2 _ (List.mem_of_getElem? (i := 2) rfl)) rfl rfl dX1_putSign_13 ?_
  refine lv_aload_n hx_ hb_ dX1_putSign_16 rfl (lv_at hl 0 rfl) ?_
  refine sc_get (ci := 0) (C := RX1) (T := TX1) (n := 7) S hK hV inX1_ hq0 rfl 2 (by decide) (S.2.2.2.2 _ (List.mem_of_getElem? (i := 1) rfl)) rfl rfl dX1_putSign_17 ?_
  refine lv_iload_n hx_ hb_ dX1_putSign_20 rfl (lv_at hl 1 rfl) ?_
  refine sc_cast S hK hV hw (by omega) dX1_putSign_21 (fun M2 H locs hM2 hV => ?_)
  have hc3 : M2 (q + 3) = some (sArC G 180 (iup T wc x)) := (congrFun hM2 (q + 3)).trans (va_up_self M (q + 3) _)
  refine lv_aload_n hx_ hb_ dX1_putSign_22 rfl (lv_at hl 0 rfl) ?_
  refine lv_dup hx_ hb_ dX1_putSign_23 rfl ?_
  have hc4 : M2 q = some (sObj 0 [.ref (q + 1), .ref (q + 3), .int (sI wc), .int (sI tk), .int (sI ts), .int (sI te), .int (sI tv)]) := ((congrFun hM2 q).trans (va_up_ne M _ (by omega))).trans hq0
  refine sc_get (ci := 0) (C := RX1) (T := TX1) (n := 7) S hK hV inX1_ hc4 rfl 2 (by decide) (S.2.2.2.2 _ (List.mem_of_getElem? (i := 1) rfl)) rfl rfl dX1_putSign_24 ?_
  refine si_const S dX1_putSign_27 ?_
  refine si_add S dX1_putSign_28 ?_
  refine sc_put (ci := 0) (C := RX1) (T := TX1) (n := 7) S hK hV inX1_ tyX1_ok nmX1 hc4 rfl 2 (by decide) (S.2.2.2.2 _ (List.mem_of_getElem? (i := 1) rfl)) rfl rfl rfl rfl (Nat.le_of_ble_eq_true rfl) dX1_putSign_29 (fs1 := [.ref (q + 1), .ref (q + 3), .int (sI (wc + 1)), .int (sI tk), .int (sI ts), .int (sI te), .int (sI tv)]) rfl (fun M5 H locs hM5 hV => ?_)
  have hc6 : M5 q = some (sObj 0 [.ref (q + 1), .ref (q + 3), .int (sI (wc + 1)), .int (sI tk), .int (sI ts), .int (sI te), .int (sI tv)]) := (congrFun hM5 q).trans (va_up_self M2 q _)
  have hc7 : M5 (q + 3) = some (sArC G 180 (iup T wc x)) := ((congrFun hM5 (q + 3)).trans (va_up_ne M2 _ (by omega))).trans hc3
  exact sr_v E hQ dX1_putSign_32 ⟨Nat.le_of_ble_eq_true rfl, Nat.le_of_ble_eq_true rfl⟩ hV (⟨rfl, hc6, hc7, fun x q0 q1 => ((congrFun hM5 x).trans (va_up_ne M2 _ (by omega))).trans ((congrFun hM2 x).trans (va_up_ne M _ (by omega)))⟩)

abbrev rmX1_signs : Room := { frames := 1, cells := 0, slots := 0, locals := 40 }
set_option maxHeartbeats 4000000 in
set_option maxRecDepth 100000 in
theorem kX1_signs (l_ : Launch) (G : sG) (b_ : Nat) (M : sM) (N : Nat) (q : Nat) (wc tk ts te tv : Int) (hq0 : M q = some (sObj 0 [.ref (q + 1), .ref (q + 3), .int (sI wc), .int (sI tk), .int (sI ts), .int (sI te), .int (sI tv)])) : cP l_ yX1_signs wsX1_signs rmX1_signs G b_ M N [.ref q] wc := by
  refine sE.ofI (cc := cX1_signs) (nL := 1) (ret := (some .int)) (by decide) rfl (Nat.le_of_ble_eq_true rfl) ?_
  intro p_ e_ s_ m_ args_ below_ meth_ c_ ls Q hQ E hl
  have E : sE p_ l_ e_ rmX1_signs s_ m_ args_ below_ meth_ c_ cX1_signs 1 wsX1_signs RX1 "signs" (some .int) G b_ M N := E
  have S := E.1
  have hx_ := S.1
  have hb_ := S.2.1
  have hK := E.2.2.2.2.1
  have hV := E.2.2.2.2.2.2
  have hl : lv_has ls 1 [(0, .ref q)] := hl
  have inX1_ : ∀ w ∈ wsX10, w ∈ wsX1_signs := fun _ h => List.mem_cons_of_mem _ (List.mem_append_right _ h)
  refine lv_aload_n hx_ hb_ dX1_signs_0 rfl (lv_at hl 0 rfl) ?_
  refine sc_get (ci := 0) (C := RX1) (T := TX1) (n := 7) S hK hV inX1_ hq0 rfl 2 (by decide) (S.2.2.2.2 _ (List.mem_of_getElem? (i := 1) rfl)) rfl rfl dX1_signs_1 ?_
  exact sr_i E hQ dX1_signs_4 ⟨Nat.le_of_ble_eq_true rfl, Nat.le_of_ble_eq_true rfl⟩ hV (⟨rfl, rfl, rfl⟩)
