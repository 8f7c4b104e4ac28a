/-! The law's start: what the Statement gives of it. -/
theorem f0_1 {x : Int} (h : x < 150 ∨ 158 ≤ x) : f0 x = 0 := by
  unfold f0
  rw [if_neg (by omega), if_neg (by omega)]
theorem f0_20 {x : Int} (h : 150 ≤ x ∧ x < 154) : f0 x = 20 := if_pos h
theorem f0_200 {x : Int} (h : 154 ≤ x ∧ x < 158) : f0 x = 200 := by
  unfold f0
  rw [if_neg (by omega), if_pos h]
theorem st_b0 (k : Int) : ¬ tb 0 k := by
  unfold tb
  simp
theorem ok_0 : sOk f0 := by
  have e8 : f0 568 = 0 := f0_1 (by omega)
  have e9 : f0 569 = 0 := f0_1 (by omega)
  have e10 : f0 570 = 0 := f0_1 (by omega)
  have e11 : f0 571 = 0 := f0_1 (by omega)
  have e12 : f0 572 = 0 := f0_1 (by omega)
  have e13 : f0 573 = 0 := f0_1 (by omega)
  refine ⟨by rw [okN, e8, e9, e10, e11, e12, e13]; omega, fun s a b => absurd b (by omega), fun s a b => absurd b (by omega), fun d a b => ?_, ⟨fun i a b => ?_, fun i j a b c d => ?_⟩, fun s a b => absurd b (by omega), fun s a b => absurd b (by omega), fun s a b => absurd b (by omega), fun s o a b => absurd b (by omega)⟩
  · rw [okD, f0_20 (by omega), f0_200 (by omega)]
    omega
  · rw [okP, f0_1 (by omega)]
    omega
  · rw [f0_1 (x := 158 + i) (by omega), f0_1 (x := 158 + j) (by omega)]
    exact ⟨fun h => absurd h (st_b0 _), fun h => absurd h (st_b0 _)⟩
theorem dI_0 : dI f0 := by
  have e8 : f0 568 = 0 := f0_1 (by omega)
  intro d a b
  refine wf_0.mpr ⟨?_, ?_, ?_⟩
  · rw [isum_neg _ (show f0 568 ≤ 0 by omega), f0_20 (by omega)]
    omega
  · rw [isum_neg _ (show f0 568 ≤ 0 by omega), f0_200 (by omega)]
    omega
  · rintro ⟨x, o, ⟨h1, h2, h3⟩, -⟩
    omega
theorem sL_0 : sLi f0 := by
  have e8 : f0 568 = 0 := f0_1 (by omega)
  exact fun s y a b _ _ => absurd b (by omega)
theorem gS_0 : gS 0 f0 := ⟨ok_0, dI_0, sL_0, by rw [f0_1 (x := 571) (by omega)]; omega⟩
/-! words of the tables, by their places -/
theorem hT_in {w : Cond} {i : Nat} (h : tables_1[i]? = some w) : w ∈ lw_tbl := List.mem_append_right _ (List.mem_of_getElem? h)
theorem tb_in {α : Type} (f : α → Cond) (l : List α) (ps : List Nat) (h : l.map f = ps.filterMap (fun i => tables_1[i]?)) : ∀ q ∈ l, f q ∈ lw_tbl := by
  intro q hq
  have h1 : f q ∈ l.map f := List.mem_map.mpr ⟨q, hq, rfl⟩
  rw [h] at h1
  obtain ⟨i, -, hi⟩ := List.mem_filterMap.mp h1
  exact hT_in hi
theorem st_own : ∀ q ∈ sStrs, q.1 = "Stonecabinet" := by decide +kernel
theorem st_strs : ∀ q ∈ sStrs, Cond.stringRef q.1 q.2.1 q.2.2 ∈ lw_tbl := tb_in (fun q : String × Nat × String => Cond.stringRef q.1 q.2.1 q.2.2) sStrs [731, 810, 818, 848, 858, 874, 875, 884, 897, 942, 955, 967, 1000, 1001, 1009, 1010, 1040, 1060, 1092, 1108, 1131, 1132, 1140, 1188, 1206, 1218] (by decide +kernel)
theorem st_nf : ∀ q ∈ sNF, Cond.fieldLinkNest q.1 q.2.1 q.2.2.1 q.2.2.2.1 q.2.2.2.2 "Stonecabinet" ∈ lw_tbl := tb_in (fun q : String × Nat × String × String × String => Cond.fieldLinkNest q.1 q.2.1 q.2.2.1 q.2.2.2.1 q.2.2.2.2 "Stonecabinet") sNF [71, 72, 73, 74, 75, 77, 78, 80, 81, 84, 85, 87, 88, 90, 92] (by decide +kernel)
theorem st_nm : ∀ q ∈ sNM, Cond.methodLinkNest q.1 q.2.1 q.2.2 "Stonecabinet" ∈ lw_tbl := tb_in (fun q : String × Nat × MethodName => Cond.methodLinkNest q.1 q.2.1 q.2.2 "Stonecabinet") sNM [113, 129, 160, 200, 229, 245] (by decide +kernel)
theorem st_ca : ∀ q ∈ xcC, Cond.castable q q ∈ lw_tbl := tb_in (fun q : String => Cond.castable q q) xcC [803, 692, 841] (by decide +kernel)
theorem st_de : ∀ q ∈ xcD, Cond.declares q ∈ lw_tbl := tb_in (fun q : MethodName => Cond.declares q) xcD [694, 696, 698] (by decide +kernel)
set_option maxHeartbeats 4000000 in
set_option maxRecDepth 100000 in
theorem st_T {args : Array Value} {s : State} {c10 : Nat} (hts : ∀ w ∈ lw_tbl, w.before args s = true) (hg : (Jvm.Cond.and given_1 narrow_1).before args s = true) (hfc : s.vm.findClass "Stonecabinet" = some c10) : sT s.heap.size s s.heap := by
  have hs := flat_of_before _ hg
  have hA : ∀ a : Nat, a < s.heap.size → ¬ sA s.heap.size a := fun a h => Nat.not_le.mpr h
  refine ⟨⟨fun q hq => ?_, fun q hq => va_Nw.of rfl (hts _ (st_nf q hq)), fun q hq => va_Nw.of rfl (hts _ (st_nm q hq))⟩, ?_, ?_, ?_, ?_⟩
  · have hfc2 : s.vm.findClass q.1 = some c10 := by rw [st_own q hq]; exact hfc
    obtain ⟨k, cf, i, a, -, -, -, -, -, h6⟩ := Cond.stringRef_spec hfc2 (hts _ (st_strs q hq))
    exact ⟨a, vk_R.of (hts _ (st_strs q hq)) h6⟩
  · exact vx_Zqof (hts _ (hT_in (i := 717) (by decide +kernel))) (hts _ (hT_in (i := 12) (by decide +kernel))) (hs _ (by decide +kernel)) hA
  · exact vx_Zqof (hts _ (hT_in (i := 719) (by decide +kernel))) (hts _ (hT_in (i := 12) (by decide +kernel))) (hs _ (by decide +kernel)) hA
  · have el : ∀ j : Nat, j < 13 → (Term.elem (.static "Stonecabinet$Calendar" "DAYS_AHEAD_OF_MONTH" "[I") (.int (Int32.ofNat j))).eval args s none [] s = some (.int (sI (sDays j))) := by
      intro j hj
      rcases (show j = 0 ∨ j = 1 ∨ j = 2 ∨ j = 3 ∨ j = 4 ∨ j = 5 ∨ j = 6 ∨ j = 7 ∨ j = 8 ∨ j = 9 ∨ j = 10 ∨ j = 11 ∨ j = 12 by omega) with rfl | rfl | rfl | rfl | rfl | rfl | rfl | rfl | rfl | rfl | rfl | rfl | rfl
      · rw [show sI (sDays 0) = (0 : Int32) from by decide +kernel]
        exact va_eqt (z := 0) (hs (.eq (.elem (.static "Stonecabinet$Calendar" "DAYS_AHEAD_OF_MONTH" "[I") (.int (Int32.ofNat 0))) (.int 0)) (by decide +kernel))
      · rw [show sI (sDays 1) = (31 : Int32) from by decide +kernel]
        exact va_eqt (z := 31) (hs (.eq (.elem (.static "Stonecabinet$Calendar" "DAYS_AHEAD_OF_MONTH" "[I") (.int (Int32.ofNat 1))) (.int 31)) (by decide +kernel))
      · rw [show sI (sDays 2) = (59 : Int32) from by decide +kernel]
        exact va_eqt (z := 59) (hs (.eq (.elem (.static "Stonecabinet$Calendar" "DAYS_AHEAD_OF_MONTH" "[I") (.int (Int32.ofNat 2))) (.int 59)) (by decide +kernel))
      · rw [show sI (sDays 3) = (90 : Int32) from by decide +kernel]
        exact va_eqt (z := 90) (hs (.eq (.elem (.static "Stonecabinet$Calendar" "DAYS_AHEAD_OF_MONTH" "[I") (.int (Int32.ofNat 3))) (.int 90)) (by decide +kernel))
      · rw [show sI (sDays 4) = (120 : Int32) from by decide +kernel]
        exact va_eqt (z := 120) (hs (.eq (.elem (.static "Stonecabinet$Calendar" "DAYS_AHEAD_OF_MONTH" "[I") (.int (Int32.ofNat 4))) (.int 120)) (by decide +kernel))
      · rw [show sI (sDays 5) = (151 : Int32) from by decide +kernel]
        exact va_eqt (z := 151) (hs (.eq (.elem (.static "Stonecabinet$Calendar" "DAYS_AHEAD_OF_MONTH" "[I") (.int (Int32.ofNat 5))) (.int 151)) (by decide +kernel))
      · rw [show sI (sDays 6) = (181 : Int32) from by decide +kernel]
        exact va_eqt (z := 181) (hs (.eq (.elem (.static "Stonecabinet$Calendar" "DAYS_AHEAD_OF_MONTH" "[I") (.int (Int32.ofNat 6))) (.int 181)) (by decide +kernel))
      · rw [show sI (sDays 7) = (212 : Int32) from by decide +kernel]
        exact va_eqt (z := 212) (hs (.eq (.elem (.static "Stonecabinet$Calendar" "DAYS_AHEAD_OF_MONTH" "[I") (.int (Int32.ofNat 7))) (.int 212)) (by decide +kernel))
      · rw [show sI (sDays 8) = (243 : Int32) from by decide +kernel]
        exact va_eqt (z := 243) (hs (.eq (.elem (.static "Stonecabinet$Calendar" "DAYS_AHEAD_OF_MONTH" "[I") (.int (Int32.ofNat 8))) (.int 243)) (by decide +kernel))
      · rw [show sI (sDays 9) = (273 : Int32) from by decide +kernel]
        exact va_eqt (z := 273) (hs (.eq (.elem (.static "Stonecabinet$Calendar" "DAYS_AHEAD_OF_MONTH" "[I") (.int (Int32.ofNat 9))) (.int 273)) (by decide +kernel))
      · rw [show sI (sDays 10) = (304 : Int32) from by decide +kernel]
        exact va_eqt (z := 304) (hs (.eq (.elem (.static "Stonecabinet$Calendar" "DAYS_AHEAD_OF_MONTH" "[I") (.int (Int32.ofNat 10))) (.int 304)) (by decide +kernel))
      · rw [show sI (sDays 11) = (334 : Int32) from by decide +kernel]
        exact va_eqt (z := 334) (hs (.eq (.elem (.static "Stonecabinet$Calendar" "DAYS_AHEAD_OF_MONTH" "[I") (.int (Int32.ofNat 11))) (.int 334)) (by decide +kernel))
      · rw [show sI (sDays 12) = (365 : Int32) from by decide +kernel]
        exact va_eqt (z := 365) (hs (.eq (.elem (.static "Stonecabinet$Calendar" "DAYS_AHEAD_OF_MONTH" "[I") (.int (Int32.ofNat 12))) (.int 365)) (by decide +kernel))
    obtain ⟨t, ht, hT⟩ := va_Tof (tm := .static "Stonecabinet$Calendar" "DAYS_AHEAD_OF_MONTH" "[I") (ty := .int) (N := 13) (f := fun j => .int (sI (sDays j))) (A := sA s.heap.size) (by omega) (hs (.arrayOf (.static "Stonecabinet$Calendar" "DAYS_AHEAD_OF_MONTH" "[I") .int) (by decide +kernel)) (va_eqt (z := Int32.ofNat 13) (hs (.eq (.length (.static "Stonecabinet$Calendar" "DAYS_AHEAD_OF_MONTH" "[I")) (.int (Int32.ofNat 13))) (by decide +kernel))) el hA
    exact ⟨t, va_Zof (hts _ (hT_in (i := 636) (by decide +kernel))) (hts _ (hT_in (i := 21) (by decide +kernel))) ht hA, hT⟩
  · have el : ∀ j : Nat, j < 8 → (Term.elem (.static "Stonecabinet$Exchange" "DIGITS" "[I") (.int (Int32.ofNat j))).eval args s none [] s = some (.int (sI (sDig j))) := by
      intro j hj
      rcases (show j = 0 ∨ j = 1 ∨ j = 2 ∨ j = 3 ∨ j = 4 ∨ j = 5 ∨ j = 6 ∨ j = 7 by omega) with rfl | rfl | rfl | rfl | rfl | rfl | rfl | rfl
      · rw [show sI (sDig 0) = (4782969 : Int32) from by decide +kernel]
        exact va_eqt (z := 4782969) (hs (.eq (.elem (.static "Stonecabinet$Exchange" "DIGITS" "[I") (.int (Int32.ofNat 0))) (.int 4782969)) (by decide +kernel))
      · rw [show sI (sDig 1) = (531441 : Int32) from by decide +kernel]
        exact va_eqt (z := 531441) (hs (.eq (.elem (.static "Stonecabinet$Exchange" "DIGITS" "[I") (.int (Int32.ofNat 1))) (.int 531441)) (by decide +kernel))
      · rw [show sI (sDig 2) = (59049 : Int32) from by decide +kernel]
        exact va_eqt (z := 59049) (hs (.eq (.elem (.static "Stonecabinet$Exchange" "DIGITS" "[I") (.int (Int32.ofNat 2))) (.int 59049)) (by decide +kernel))
      · rw [show sI (sDig 3) = (6561 : Int32) from by decide +kernel]
        exact va_eqt (z := 6561) (hs (.eq (.elem (.static "Stonecabinet$Exchange" "DIGITS" "[I") (.int (Int32.ofNat 3))) (.int 6561)) (by decide +kernel))
      · rw [show sI (sDig 4) = (729 : Int32) from by decide +kernel]
        exact va_eqt (z := 729) (hs (.eq (.elem (.static "Stonecabinet$Exchange" "DIGITS" "[I") (.int (Int32.ofNat 4))) (.int 729)) (by decide +kernel))
      · rw [show sI (sDig 5) = (81 : Int32) from by decide +kernel]
        exact va_eqt (z := 81) (hs (.eq (.elem (.static "Stonecabinet$Exchange" "DIGITS" "[I") (.int (Int32.ofNat 5))) (.int 81)) (by decide +kernel))
      · rw [show sI (sDig 6) = (9 : Int32) from by decide +kernel]
        exact va_eqt (z := 9) (hs (.eq (.elem (.static "Stonecabinet$Exchange" "DIGITS" "[I") (.int (Int32.ofNat 6))) (.int 9)) (by decide +kernel))
      · rw [show sI (sDig 7) = (1 : Int32) from by decide +kernel]
        exact va_eqt (z := 1) (hs (.eq (.elem (.static "Stonecabinet$Exchange" "DIGITS" "[I") (.int (Int32.ofNat 7))) (.int 1)) (by decide +kernel))
    obtain ⟨t, ht, hT⟩ := va_Tof (tm := .static "Stonecabinet$Exchange" "DIGITS" "[I") (ty := .int) (N := 8) (f := fun j => .int (sI (sDig j))) (A := sA s.heap.size) (by omega) (hs (.arrayOf (.static "Stonecabinet$Exchange" "DIGITS" "[I") .int) (by decide +kernel)) (va_eqt (z := Int32.ofNat 8) (hs (.eq (.length (.static "Stonecabinet$Exchange" "DIGITS" "[I")) (.int (Int32.ofNat 8))) (by decide +kernel))) el hA
    exact ⟨t, va_Zof (hts _ (hT_in (i := 523) (by decide +kernel))) (hts _ (hT_in (i := 10) (by decide +kernel))) ht hA, hT⟩
set_option maxHeartbeats 4000000 in
theorem st_F {args : Array Value} {s : State} (hts : ∀ w ∈ lw_tbl, w.before args s = true) (hg : (Jvm.Cond.and given_1 narrow_1).before args s = true) : xcF s := by
  have hs := flat_of_before _ hg
  have n0 : va_Nc "java/lang/IllegalArgumentException" "java/lang/IllegalStateException" s := va_Nc.of (hs (.not (.castable "java/lang/IllegalArgumentException" "java/lang/IllegalStateException")) (by decide +kernel))
  have n1 : va_Nc "java/lang/IllegalArgumentException" "java/lang/IndexOutOfBoundsException" s := va_Nc.of (hs (.not (.castable "java/lang/IllegalArgumentException" "java/lang/IndexOutOfBoundsException")) (by decide +kernel))
  have n2 : va_Nc "java/lang/IllegalStateException" "java/lang/IllegalArgumentException" s := va_Nc.of (hs (.not (.castable "java/lang/IllegalStateException" "java/lang/IllegalArgumentException")) (by decide +kernel))
  have n3 : va_Nc "java/lang/IllegalStateException" "java/lang/IndexOutOfBoundsException" s := va_Nc.of (hs (.not (.castable "java/lang/IllegalStateException" "java/lang/IndexOutOfBoundsException")) (by decide +kernel))
  have n4 : va_Nc "java/lang/IndexOutOfBoundsException" "java/lang/IllegalArgumentException" s := va_Nc.of (hs (.not (.castable "java/lang/IndexOutOfBoundsException" "java/lang/IllegalArgumentException")) (by decide +kernel))
  have n5 : va_Nc "java/lang/IndexOutOfBoundsException" "java/lang/IllegalStateException" s := va_Nc.of (hs (.not (.castable "java/lang/IndexOutOfBoundsException" "java/lang/IllegalStateException")) (by decide +kernel))
  refine ⟨⟨fun q hq => va_Nw.of rfl (hts _ (st_ca q hq)), fun q hq r hr hne => ?_⟩, fun x hx => va_Nw.of rfl (hts _ (st_de x hx))⟩
  simp only [xcC, List.mem_cons, List.not_mem_nil, or_false] at hq hr
  rcases hq with rfl | rfl | rfl <;> rcases hr with rfl | rfl | rfl
  · exact absurd rfl hne
  · exact n0
  · exact n1
  · exact n2
  · exact absurd rfl hne
  · exact n3
  · exact n4
  · exact n5
  · exact absurd rfl hne
theorem st_ai {args : Array Value} {s : State} (h : (Cond.arrayClass .int).before args s = true) : ∃ cA : ClassId, ArrOfT s cA .int ∧ va_RA s cA .int := by
  obtain ⟨c, k, comp, h1, h2, h3⟩ := Cond.arrayClass_spec h
  exact ⟨c, fun n z => ⟨fun k h => (by cases h), k, h2, comp, h3⟩, h1⟩
theorem st_ac {args : Array Value} {s : State} (h : (Cond.arrayClass .char).before args s = true) : ∃ cA : ClassId, ArrOfT s cA .char ∧ va_RA s cA .char := by
  obtain ⟨c, k, comp, h1, h2, h3⟩ := Cond.arrayClass_spec h
  exact ⟨c, fun n z => ⟨fun k h => (by cases h), k, h2, comp, h3⟩, h1⟩
theorem st_al {args : Array Value} {s : State} (h : (Cond.arrayClass .long).before args s = true) : ∃ cA : ClassId, ArrOfT s cA .long ∧ va_RA s cA .long := by
  obtain ⟨c, k, comp, h1, h2, h3⟩ := Cond.arrayClass_spec h
  exact ⟨c, fun n z => ⟨fun k h => (by cases h), k, h2, comp, h3⟩, h1⟩
theorem st_as {args : Array Value} {s : State} (h : (Cond.arrayOver (.object "Stonecabinet$State")).before args s = true) : ∃ cA : ClassId, ArrOfT s cA (.object "Stonecabinet$State") ∧ va_RA s cA (.object "Stonecabinet$State") := by
  obtain ⟨comp, c, k, h1, h2, h3, h4, h5⟩ := Cond.arrayOver_spec h
  exact ⟨c, fun n z => ⟨fun k h => (by cases h), k, h3, comp, h4⟩, k, comp, h3, h4, h1, h5⟩
set_option maxHeartbeats 4000000 in
theorem st_K {args : Array Value} {s : State} (hts : ∀ w ∈ lw_tbl, w.before args s = true) : ∃ G : sG, va_K G.1 vwCl (sTy G) s := by
  obtain ⟨c0, i0, k0⟩ := u_known (C := RX1) (T := TX1) (N := 7) (n := 7) hts inX1 (hts _ (hT_in (i := 128) (by decide +kernel)))
  obtain ⟨c1, i1, k1⟩ := u_known (C := RX2) (T := TX2) (N := 4) (n := 4) hts inX2 (hts _ (hT_in (i := 244) (by decide +kernel)))
  obtain ⟨c2, i2, k2⟩ := u_known (C := RX3) (T := TX3) (N := 7) (n := 7) hts inX3 (hts _ (hT_in (i := 199) (by decide +kernel)))
  obtain ⟨c3, i3, k3⟩ := u_known (C := RX5) (T := TX5) (N := 11) (n := 11) hts inX5 (hts _ (hT_in (i := 159) (by decide +kernel)))
  obtain ⟨c4, i4, k4⟩ := u_known (C := RX6) (T := TX6) (N := 8) (n := 8) hts inX6 (hts _ (hT_in (i := 32) (by decide +kernel)))
  obtain ⟨c5, i5, k5⟩ := u_known (C := RX7) (T := TX7) (N := 3) (n := 3) hts inX7 (hts _ (hT_in (i := 228) (by decide +kernel)))
  obtain ⟨c6, i6, k6⟩ := u_known (C := RX8) (T := TX8) (N := 3) (n := 3) hts inX8 (hts _ (hT_in (i := 38) (by decide +kernel)))
  obtain ⟨c7, i7, k7⟩ := u_known (C := RX9) (T := TX9) (N := 3) (n := 3) hts inX9 (hts _ (hT_in (i := 112) (by decide +kernel)))
  obtain ⟨c8, i8, k8⟩ := u_known (C := RX10) (T := TX10) (N := 11) (n := 11) hts inX10 (hts _ (hT_in (i := 24) (by decide +kernel)))
  obtain ⟨c9, i9, k9⟩ := u_known (C := RX11) (T := TX11) (N := 22) (n := 22) hts inX11 (hts _ (hT_in (i := 1228) (by decide +kernel)))
  obtain ⟨cI, hI⟩ := st_ai (hts _ (hT_in (i := 56) (by decide +kernel)))
  obtain ⟨cC, hC⟩ := st_ac (hts _ (hT_in (i := 157) (by decide +kernel)))
  obtain ⟨cL, hL⟩ := st_al (hts _ (hT_in (i := 1703) (by decide +kernel)))
  obtain ⟨cS, hS⟩ := st_as (hts _ (hT_in (i := 110) (by decide +kernel)))
  have hq : ∀ q ∈ vwCl, ∃ r : ClassId × (Nat → Nat), u_Kn s q.1 q.2.1 q.2.2 r.1 r.2 := by
    intro q hq
    simp only [vwCl, List.mem_cons, List.not_mem_nil, or_false] at hq
    rcases hq with rfl | rfl | rfl | rfl | rfl | rfl | rfl | rfl | rfl | rfl
    · exact ⟨(c0, i0), k0⟩
    · exact ⟨(c1, i1), k1⟩
    · exact ⟨(c2, i2), k2⟩
    · exact ⟨(c3, i3), k3⟩
    · exact ⟨(c4, i4), k4⟩
    · exact ⟨(c5, i5), k5⟩
    · exact ⟨(c6, i6), k6⟩
    · exact ⟨(c7, i7), k7⟩
    · exact ⟨(c8, i8), k8⟩
    · exact ⟨(c9, i9), k9⟩
  have h : ∀ k : Nat, ∃ r : ClassId × (Nat → Nat), ∀ q, vwCl[k]? = some q → u_Kn s q.1 q.2.1 q.2.2 r.1 r.2 := by
    intro k
    cases e : vwCl[k]? with
    | none => exact ⟨(c8, i8), fun q h => by cases h⟩
    | some q =>
      obtain ⟨r, hr⟩ := hq q (List.mem_of_getElem? e)
      exact ⟨r, fun q2 h => by cases h; exact hr⟩
  refine ⟨((fun k => (Classical.choose (h k)).1, fun k => (Classical.choose (h k)).2), cI, cC, cS, cL), fun k q hk => Classical.choose_spec (h k) q hk, fun k q hk => ?_⟩
  have hm := List.mem_of_getElem? hk
  simp only [List.mem_cons, List.not_mem_nil, or_false] at hm
  rcases hm with rfl | rfl | rfl | rfl
  · exact hI
  · exact hC
  · exact hS
  · exact hL
