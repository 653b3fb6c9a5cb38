/-! what holds at the law's start -/
theorem iL_RJ0 : ∀ w ∈ u_ws RJ0 TJ0 4, w ∈ lw_tbl := by decide +kernel
theorem iL_RJ4 : ∀ w ∈ u_ws RJ4 TJ4 4, w ∈ lw_tbl := by decide +kernel
theorem iL_RJ6 : ∀ w ∈ u_ws RJ6 TJ6 1, w ∈ lw_tbl := by decide +kernel
theorem iL_RJx00060 : ∀ w ∈ u_ws RJx00060 TJx00060 6, w ∈ lw_tbl := by decide +kernel
theorem iL_RJx7c733 : ∀ w ∈ u_ws RJx7c733 TJx7c733 6, w ∈ lw_tbl := by decide +kernel
theorem iL_RJx35411 : ∀ w ∈ u_ws RJx35411 TJx35411 4, w ∈ lw_tbl := by decide +kernel
theorem iL_RJx4a65c : ∀ w ∈ u_ws RJx4a65c TJx4a65c 3, w ∈ lw_tbl := by decide +kernel
theorem iL_RX0 : ∀ w ∈ u_ws RX0 TX0 5, w ∈ lw_tbl := by decide +kernel
theorem iL_RX1 : ∀ w ∈ u_ws RX1 TX1 10, w ∈ lw_tbl := by decide +kernel
theorem iL_RX2 : ∀ w ∈ u_ws RX2 TX2 12, w ∈ lw_tbl := by decide +kernel
theorem iL_RX3 : ∀ w ∈ u_ws RX3 TX3 4, w ∈ lw_tbl := by decide +kernel
theorem iL_RX4 : ∀ w ∈ u_ws RX4 TX4 4, w ∈ lw_tbl := by decide +kernel
theorem iL_RX5 : ∀ w ∈ u_ws RX5 TX5 2, w ∈ lw_tbl := by decide +kernel
theorem iL_RX6 : ∀ w ∈ u_ws RX6 TX6 2, w ∈ lw_tbl := by decide +kernel
theorem iL_RX7 : ∀ w ∈ u_ws RX7 TX7 2, w ∈ lw_tbl := by decide +kernel
theorem iL_RX8 : ∀ w ∈ u_ws RX8 TX8 14, w ∈ lw_tbl := by decide +kernel
theorem iL_RX9 : ∀ w ∈ u_ws RX9 TX9 1, w ∈ lw_tbl := by decide +kernel
theorem iL_RX10 : ∀ w ∈ u_ws RX10 TX10 6, w ∈ lw_tbl := by decide +kernel
theorem iL_RX11 : ∀ w ∈ u_ws RX11 TX11 19, w ∈ lw_tbl := by decide +kernel
theorem iL_RX12 : ∀ w ∈ u_ws RX12 TX12 3, w ∈ lw_tbl := by decide +kernel
theorem iL_RX13 : ∀ w ∈ u_ws RX13 TX13 2, w ∈ lw_tbl := by decide +kernel
theorem iL_RX14 : ∀ w ∈ u_ws RX14 TX14 2, w ∈ lw_tbl := by decide +kernel
theorem iL_RX15 : ∀ w ∈ u_ws RX15 TX15 23, w ∈ lw_tbl := by decide +kernel
set_option maxHeartbeats 4000000 in
set_option maxRecDepth 100000 in
theorem ut_known {args : Array Value} {s : State} (hts : ∀ w ∈ lw_tbl, w.before args s = true) : ∃ (dC : Nat → ClassId) (dI : Nat → Nat → Nat) (cI cO cL : ClassId), va_K (dC, dI) vwCl (ty0 cI cO) s ∧ va_K (dC, dI) vwCl [(cL, .long)] s := by
  obtain ⟨c0, i0, k0⟩ := u_known (C := RJ0) (T := TJ0) (N := 4) (n := 4) hts iL_RJ0 (hts (.instantiable RJ0 4) (by decide +kernel))
  obtain ⟨c1, i1, k1⟩ := u_known (C := RJ4) (T := TJ4) (N := 4) (n := 4) hts iL_RJ4 (hts (.instantiable RJ4 4) (by decide +kernel))
  obtain ⟨c2, i2, k2⟩ := u_known (C := RJ6) (T := TJ6) (N := 1) (n := 1) hts iL_RJ6 (hts (.instantiable RJ6 1) (by decide +kernel))
  obtain ⟨c3, i3, k3⟩ := u_known (C := RJx00060) (T := TJx00060) (N := 6) (n := 6) hts iL_RJx00060 (hts (.instantiable RJx00060 6) (by decide +kernel))
  obtain ⟨c4, i4, k4⟩ := u_known (C := RJx7c733) (T := TJx7c733) (N := 6) (n := 6) hts iL_RJx7c733 (hts (.instantiable RJx7c733 6) (by decide +kernel))
  obtain ⟨c5, i5, k5⟩ := u_known (C := RJx35411) (T := TJx35411) (N := 4) (n := 4) hts iL_RJx35411 (hts (.instantiable RJx35411 4) (by decide +kernel))
  obtain ⟨c6, i6, k6⟩ := u_known (C := RJx4a65c) (T := TJx4a65c) (N := 3) (n := 3) hts iL_RJx4a65c (hts (.instantiable RJx4a65c 3) (by decide +kernel))
  obtain ⟨c7, i7, k7⟩ := u_known (C := RX0) (T := TX0) (N := 5) (n := 5) hts iL_RX0 (hts (.instantiable RX0 5) (by decide +kernel))
  obtain ⟨c8, i8, k8⟩ := u_known (C := RX1) (T := TX1) (N := 10) (n := 10) hts iL_RX1 (hts (.instantiable RX1 10) (by decide +kernel))
  obtain ⟨c9, i9, k9⟩ := u_known (C := RX2) (T := TX2) (N := 12) (n := 12) hts iL_RX2 (hts (.instantiable RX2 12) (by decide +kernel))
  obtain ⟨c10, i10, k10⟩ := u_known (C := RX3) (T := TX3) (N := 4) (n := 4) hts iL_RX3 (hts (.instantiable RX3 4) (by decide +kernel))
  obtain ⟨c11, i11, k11⟩ := u_known (C := RX4) (T := TX4) (N := 4) (n := 4) hts iL_RX4 (hts (.instantiable RX4 4) (by decide +kernel))
  obtain ⟨c12, i12, k12⟩ := u_known (C := RX5) (T := TX5) (N := 2) (n := 2) hts iL_RX5 (hts (.instantiable RX5 2) (by decide +kernel))
  obtain ⟨c13, i13, k13⟩ := u_known (C := RX6) (T := TX6) (N := 2) (n := 2) hts iL_RX6 (hts (.instantiable RX6 2) (by decide +kernel))
  obtain ⟨c14, i14, k14⟩ := u_known (C := RX7) (T := TX7) (N := 2) (n := 2) hts iL_RX7 (hts (.instantiable RX7 2) (by decide +kernel))
  obtain ⟨c15, i15, k15⟩ := u_known (C := RX8) (T := TX8) (N := 14) (n := 14) hts iL_RX8 (hts (.instantiable RX8 14) (by decide +kernel))
  obtain ⟨c16, i16, k16⟩ := u_known (C := RX9) (T := TX9) (N := 1) (n := 1) hts iL_RX9 (hts (.instantiable RX9 1) (by decide +kernel))
  obtain ⟨c17, i17, k17⟩ := u_known (C := RX10) (T := TX10) (N := 6) (n := 6) hts iL_RX10 (hts (.instantiable RX10 6) (by decide +kernel))
  obtain ⟨c18, i18, k18⟩ := u_known (C := RX11) (T := TX11) (N := 19) (n := 19) hts iL_RX11 (hts (.instantiable RX11 19) (by decide +kernel))
  obtain ⟨c19, i19, k19⟩ := u_known (C := RX12) (T := TX12) (N := 3) (n := 3) hts iL_RX12 (hts (.instantiable RX12 3) (by decide +kernel))
  obtain ⟨c20, i20, k20⟩ := u_known (C := RX13) (T := TX13) (N := 2) (n := 2) hts iL_RX13 (hts (.instantiable RX13 2) (by decide +kernel))
  obtain ⟨c21, i21, k21⟩ := u_known (C := RX14) (T := TX14) (N := 2) (n := 2) hts iL_RX14 (hts (.instantiable RX14 2) (by decide +kernel))
  obtain ⟨c22, i22, k22⟩ := u_known (C := RX15) (T := TX15) (N := 23) (n := 23) hts iL_RX15 (hts (.instantiable RX15 23) (by decide +kernel))
  obtain ⟨dC, dI, hKc⟩ : ∃ (dC : Nat → ClassId) (dI : Nat → Nat → Nat), ∀ (k : Nat) (q : vw_C), vwCl[k]? = some q → u_Kn s q.1 q.2.1 q.2.2 (dC k) (dI k) := by
    refine ⟨fun k => [c0, c1, c2, c3, c4, c5, c6, c7, c8, c9, c10, c11, c12, c13, c14, c15, c16, c17, c18, c19, c20, c21, c22].getD k c0, fun k => [i0, i1, i2, i3, i4, i5, i6, i7, i8, i9, i10, i11, i12, i13, i14, i15, i16, i17, i18, i19, i20, i21, i22].getD k i0, ?_⟩
    intro k q hq
    match k, hq with
    | 0, hq => cases hq; exact k0
    | 1, hq => cases hq; exact k1
    | 2, hq => cases hq; exact k2
    | 3, hq => cases hq; exact k3
    | 4, hq => cases hq; exact k4
    | 5, hq => cases hq; exact k5
    | 6, hq => cases hq; exact k6
    | 7, hq => cases hq; exact k7
    | 8, hq => cases hq; exact k8
    | 9, hq => cases hq; exact k9
    | 10, hq => cases hq; exact k10
    | 11, hq => cases hq; exact k11
    | 12, hq => cases hq; exact k12
    | 13, hq => cases hq; exact k13
    | 14, hq => cases hq; exact k14
    | 15, hq => cases hq; exact k15
    | 16, hq => cases hq; exact k16
    | 17, hq => cases hq; exact k17
    | 18, hq => cases hq; exact k18
    | 19, hq => cases hq; exact k19
    | 20, hq => cases hq; exact k20
    | 21, hq => cases hq; exact k21
    | 22, hq => cases hq; exact k22
    | k + 23, hq => exact absurd hq (by simp [vwCl])
  obtain ⟨cI, kI, cpI, a1, a2, a3⟩ := Cond.arrayClass_spec (hts (.arrayClass .int) (by decide +kernel))
  obtain ⟨cL, kL, cpL, b1, b2, b3⟩ := Cond.arrayClass_spec (hts (.arrayClass .long) (by decide +kernel))
  obtain ⟨cpO, cO, kO, d1, -, d2, d3, d4⟩ := Cond.arrayOver_spec (hts (.arrayOver (.object "java/lang/Object")) (by decide +kernel))
  refine ⟨dC, dI, cI, cO, cL, ⟨hKc, fun k q hq => ?_⟩, ⟨hKc, fun k q hq => ?_⟩⟩
  · match k, hq with
    | 0, hq => cases hq; exact ⟨fun N z => ⟨(fun k h => by cases h), kI, a2, cpI, a3⟩, a1⟩
    | 1, hq => cases hq; exact ⟨fun N z => ⟨(fun k h => by cases h), kO, d2, cpO, d3⟩, kO, cpO, d2, d3, d1, d4⟩
    | k + 2, hq => exact absurd hq (by simp [ty0])
  · match k, hq with
    | 0, hq => cases hq; exact ⟨fun N z => ⟨(fun k h => by cases h), kL, b2, cpL, b3⟩, b1⟩
    | k + 1, hq => exact absurd hq (by simp)
theorem ut_asg {args : Array Value} {s : State} {C : String} (h : (Cond.castable C "java/lang/Object").before args s = true) : uA C s := by
  intro comp c0 h1 h2
  obtain ⟨c, g, hc, hg, hasg⟩ := Cond.castable_spec h
  cases h2.symm.trans hc
  cases h1.symm.trans hg
  exact hasg
set_option maxHeartbeats 4000000 in
set_option maxRecDepth 100000 in
theorem ut_start {args : Array Value} {s : State} (hts : ∀ w ∈ lw_tbl, w.before args s = true) (hgv : (Jvm.Cond.and given_1 narrow_1).before args s = true) : ∃ (z0 qs : Nat), uz z0 (fun q : Nat => s.heap.size ≤ q) s ∧ vk_R RX15 13 "" qs s := by
  have hs := flat_of_before _ hgv
  have hA : ∀ a : Nat, a < s.heap.size → ¬ (fun q : Nat => s.heap.size ≤ q) a := fun a h => Nat.not_le.mpr h
  have e1 : (Cond.arrayOf (.static "java/util/ArrayList" "DEFAULTCAPACITY_EMPTY_ELEMENTDATA" "[Ljava/lang/Object;") (.object "java/lang/Object")).before args s = true := hs _ (by decide +kernel)
  have e2 : (Cond.eq (.length (.static "java/util/ArrayList" "DEFAULTCAPACITY_EMPTY_ELEMENTDATA" "[Ljava/lang/Object;")) (.int 0)).before args s = true := hs _ (by decide +kernel)
  have e3 : (Cond.eq (.static "java/lang/String" "COMPACT_STRINGS" "Z") (.int 1)).before args s = true := hs _ (by decide +kernel)
  have e4 : (Cond.exactly (.string "PatchferryModel" 13) "java/lang/String").before args s = true := hs _ (by decide +kernel)
  obtain ⟨z0, hz, hT⟩ := va_Tof (N := 0) (f := fun _ => .null) (by omega) e1 (va_eqt e2) (fun j hj => absurd hj (Nat.not_lt_zero j)) hA
  obtain ⟨qs, _, _, _, hq, -⟩ := Cond.exactly_spec e4
  refine ⟨z0, qs, ⟨va_Zof (hts (.laysStatic "java/util/ArrayList" "DEFAULTCAPACITY_EMPTY_ELEMENTDATA" "[Ljava/lang/Object;") (by decide +kernel)) (hts (.initialized "java/util/ArrayList") (by decide +kernel)) hz hA, ⟨_, hT⟩, va_AO.of (hts (.arrayOver (.object "java/lang/Object")) (by decide +kernel)), ut_asg (hts (.castable "Patchferry$Row" "java/lang/Object") (by decide +kernel)), ut_asg (hts (.castable "[I" "java/lang/Object") (by decide +kernel)), va_Zof (hts (.laysStatic "java/lang/String" "COMPACT_STRINGS" "Z") (by decide +kernel)) (hts (.initialized "java/lang/String") (by decide +kernel)) (va_eqi e3) hA⟩, vk_R.of (hts (.stringRef "PatchferryModel" 13 "") (by decide +kernel)) hq⟩
