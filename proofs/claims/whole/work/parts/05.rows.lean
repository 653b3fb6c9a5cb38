/-! laid by wip/whole: names, words and decode rows from the print of the task; the contracts are told in wip/whole/*.py -/
theorem dX6_size_0 : decode cX6_size 0 = .ok (.aload_n 0, 1) := by decide +kernel
theorem dX6_size_1 : decode cX6_size 1 = .ok (.getfield 21, 3) := by decide +kernel
theorem dX6_size_4 : decode cX6_size 4 = .ok (.ireturn, 1) := by decide +kernel
theorem dX6_get_0 : decode cX6_get 0 = .ok (.iload_n 1, 1) := by decide +kernel
theorem dX6_get_1 : decode cX6_get 1 = .ok (.ifCond .lt 20, 3) := by decide +kernel
theorem dX6_get_4 : decode cX6_get 4 = .ok (.iload_n 1, 1) := by decide +kernel
theorem dX6_get_5 : decode cX6_get 5 = .ok (.aload_n 0, 1) := by decide +kernel
theorem dX6_get_6 : decode cX6_get 6 = .ok (.getfield 21, 3) := by decide +kernel
theorem dX6_get_9 : decode cX6_get 9 = .ok (.if_icmp .ge 12, 3) := by decide +kernel
theorem dX6_get_12 : decode cX6_get 12 = .ok (.aload_n 0, 1) := by decide +kernel
theorem dX6_get_13 : decode cX6_get 13 = .ok (.getfield 15, 3) := by decide +kernel
theorem dX6_get_16 : decode cX6_get 16 = .ok (.iload_n 1, 1) := by decide +kernel
theorem dX6_get_17 : decode cX6_get 17 = .ok (.iaload, 1) := by decide +kernel
theorem dX6_get_18 : decode cX6_get 18 = .ok (.goto 4, 3) := by decide +kernel
theorem dX6_get_21 : decode cX6_get 21 = .ok (.iconst 0, 1) := by decide +kernel
theorem dX6_get_22 : decode cX6_get 22 = .ok (.ireturn, 1) := by decide +kernel
theorem dX6_set_0 : decode cX6_set 0 = .ok (.iload_n 1, 1) := by decide +kernel
theorem dX6_set_1 : decode cX6_set 1 = .ok (.ifCond .lt 18, 3) := by decide +kernel
theorem dX6_set_4 : decode cX6_set 4 = .ok (.iload_n 1, 1) := by decide +kernel
theorem dX6_set_5 : decode cX6_set 5 = .ok (.aload_n 0, 1) := by decide +kernel
theorem dX6_set_6 : decode cX6_set 6 = .ok (.getfield 21, 3) := by decide +kernel
theorem dX6_set_9 : decode cX6_set 9 = .ok (.if_icmp .ge 10, 3) := by decide +kernel
theorem dX6_set_12 : decode cX6_set 12 = .ok (.aload_n 0, 1) := by decide +kernel
theorem dX6_set_13 : decode cX6_set 13 = .ok (.getfield 15, 3) := by decide +kernel
theorem dX6_set_16 : decode cX6_set 16 = .ok (.iload_n 1, 1) := by decide +kernel
theorem dX6_set_17 : decode cX6_set 17 = .ok (.iload_n 2, 1) := by decide +kernel
theorem dX6_set_18 : decode cX6_set 18 = .ok (.iastore, 1) := by decide +kernel
theorem dX6_set_19 : decode cX6_set 19 = .ok (.return_, 1) := by decide +kernel
theorem dX6_add_0 : decode cX6_add 0 = .ok (.aload_n 0, 1) := by decide +kernel
theorem dX6_add_1 : decode cX6_add 1 = .ok (.getfield 21, 3) := by decide +kernel
theorem dX6_add_4 : decode cX6_add 4 = .ok (.aload_n 0, 1) := by decide +kernel
theorem dX6_add_5 : decode cX6_add 5 = .ok (.getfield 15, 3) := by decide +kernel
theorem dX6_add_8 : decode cX6_add 8 = .ok (.arraylength, 1) := by decide +kernel
theorem dX6_add_9 : decode cX6_add 9 = .ok (.if_icmp .ge 23, 3) := by decide +kernel
theorem dX6_add_12 : decode cX6_add 12 = .ok (.aload_n 0, 1) := by decide +kernel
theorem dX6_add_13 : decode cX6_add 13 = .ok (.getfield 15, 3) := by decide +kernel
theorem dX6_add_16 : decode cX6_add 16 = .ok (.aload_n 0, 1) := by decide +kernel
theorem dX6_add_17 : decode cX6_add 17 = .ok (.getfield 21, 3) := by decide +kernel
theorem dX6_add_20 : decode cX6_add 20 = .ok (.iload_n 1, 1) := by decide +kernel
theorem dX6_add_21 : decode cX6_add 21 = .ok (.iastore, 1) := by decide +kernel
theorem dX6_add_22 : decode cX6_add 22 = .ok (.aload_n 0, 1) := by decide +kernel
theorem dX6_add_23 : decode cX6_add 23 = .ok (.dup, 1) := by decide +kernel
theorem dX6_add_24 : decode cX6_add 24 = .ok (.getfield 21, 3) := by decide +kernel
theorem dX6_add_27 : decode cX6_add 27 = .ok (.iconst 1, 1) := by decide +kernel
theorem dX6_add_28 : decode cX6_add 28 = .ok (.iadd, 1) := by decide +kernel
theorem dX6_add_29 : decode cX6_add 29 = .ok (.putfield 21, 3) := by decide +kernel
theorem dX6_add_32 : decode cX6_add 32 = .ok (.return_, 1) := by decide +kernel
theorem dX6_clear_0 : decode cX6_clear 0 = .ok (.aload_n 0, 1) := by decide +kernel
theorem dX6_clear_1 : decode cX6_clear 1 = .ok (.iconst 0, 1) := by decide +kernel
theorem dX6_clear_2 : decode cX6_clear 2 = .ok (.putfield 21, 3) := by decide +kernel
theorem dX6_clear_5 : decode cX6_clear 5 = .ok (.return_, 1) := by decide +kernel
theorem dX6_init_0 : decode cX6_init 0 = .ok (.aload_n 0, 1) := by decide +kernel
theorem dX6_init_1 : decode cX6_init 1 = .ok (.invokespecial 3, 3) := by decide +kernel
theorem dX6_init_4 : decode cX6_init 4 = .ok (.aload_n 0, 1) := by decide +kernel
theorem dX6_init_5 : decode cX6_init 5 = .ok (.iload_n 1, 1) := by decide +kernel
theorem dX6_init_6 : decode cX6_init 6 = .ok (.iconst 0, 1) := by decide +kernel
theorem dX6_init_7 : decode cX6_init 7 = .ok (.invokestatic 9, 3) := by decide +kernel
theorem dX6_init_10 : decode cX6_init 10 = .ok (.newarray .int, 2) := by decide +kernel
theorem dX6_init_12 : decode cX6_init 12 = .ok (.putfield 15, 3) := by decide +kernel
theorem dX6_init_15 : decode cX6_init 15 = .ok (.return_, 1) := by decide +kernel
def usX6_size : List Cond := .code yX6_size cX6_size 1 (some .int) :: ([.fieldLink RX6 21 "Patchferry$Row" "size" "I"] ++ wsX60)
def usX6_get : List Cond := .code yX6_get cX6_get 2 (some .int) :: ([.fieldLink RX6 21 "Patchferry$Row" "size" "I", .fieldLink RX6 15 "Patchferry$Row" "cells" "[I"] ++ wsX60)
def usX6_set : List Cond := .code yX6_set cX6_set 3 none :: ([.fieldLink RX6 21 "Patchferry$Row" "size" "I", .fieldLink RX6 15 "Patchferry$Row" "cells" "[I"] ++ wsX60)
def usX6_add : List Cond := .code yX6_add cX6_add 2 none :: ([.fieldLink RX6 21 "Patchferry$Row" "size" "I", .fieldLink RX6 15 "Patchferry$Row" "cells" "[I"] ++ wsX60)
def usX6_clear : List Cond := .code yX6_clear cX6_clear 1 none :: ([.fieldLink RX6 21 "Patchferry$Row" "size" "I"] ++ wsX60)
def usX6_init : List Cond := .code yX6_init cX6_init 2 none :: ([.methodLink RX6 3 objectInit, .instanceMethod objectInit, .code objectInit ⟨#[0xb1]⟩ 1 none, .methodLink RX6 9 Lib.Math.max.name, .static Lib.Math.max.name, .initialized "java/lang/Math", .code Lib.Math.max.name Lib.Math.max.code 2 (some .int), .arrayClass .int, .fieldLink RX6 15 "Patchferry$Row" "cells" "[I"] ++ wsX60)
theorem inX6_size_RX6 : ∀ w ∈ u_ws RX6 TX6 2, w ∈ usX6_size := by decide +kernel
theorem inX6_get_RX6 : ∀ w ∈ u_ws RX6 TX6 2, w ∈ usX6_get := by decide +kernel
theorem inX6_set_RX6 : ∀ w ∈ u_ws RX6 TX6 2, w ∈ usX6_set := by decide +kernel
theorem inX6_add_RX6 : ∀ w ∈ u_ws RX6 TX6 2, w ∈ usX6_add := by decide +kernel
theorem inX6_clear_RX6 : ∀ w ∈ u_ws RX6 TX6 2, w ∈ usX6_clear := by decide +kernel
theorem inX6_init_RX6 : ∀ w ∈ u_ws RX6 TX6 2, w ∈ usX6_init := by decide +kernel
set_option maxHeartbeats 4000000 in
set_option maxRecDepth 100000 in
theorem p_size (l : Launch) (dC : Nat → ClassId) (dI : Nat → Nat → Nat) (cI cO : ClassId) (h : Nat) (ca : Nat) (n : Nat) : Met l yX6_size usX6_size ({ frames := 0, cells := 0, slots := 0, locals := 0 }) (va_Pc [.ref h] (fun U => va_P (dC, dI) vwCl [(h, .inr (13, [.ref ca, .int (nI n)]))] U.heap ∧ va_K (dC, dI) vwCl (ty0 cI cO) U)) (vp_Si (fun r => r = nI n)) 0 0 (fun _ => False) := by
  refine Met.ofW (cc := cX6_size) (maxL := 1) (ret := (some .int)) (by decide) rfl ?_
  intro p e s m args below meth c s₁ B hml hv
  obtain ⟨rfl, hP, hK⟩ := hv
  have hx := B.exec
  have hb := B.bytes
  have hr := B.returns
  have hts := atoms_spec (ws := usX6_size) B.pre
  have hown : s.vm.findClass RX6 = some m.cls := findClass_of_methodNamed B.named
  have hlocks := B.notSynchronized
  have hl := lv_entry ([.ref h]) (n := 1) (Nat.le_of_ble_eq_true rfl)
  rw [lg_entry_eq]
  generalize (lg_sl ([.ref h]) ++ List.replicate (1 - (lg_sl ([.ref h])).length) Slot.unset).toArray = ls at hl ⊢
  have hl : lv_has ls 1 [(0, .ref h)] := hl
  refine lv_aload_n hx hb dX6_size_0 rfl (lv_at hl 0 rfl) ?_
  refine va_get (D := (dC, dI)) (ci := 13) (v := .int (nI n)) (C := RX6) (T := TX6) (N := 2) hx hb hts inX6_size_RX6 hown hK hP 0 rfl rfl 1 (by decide) (hts (.fieldLink RX6 21 "Patchferry$Row" "size" "I") (by decide +kernel)) (fun _ h9 => h9) rfl dX6_size_1 ?_
  exact W.iret (v := nI n) hx hb hr (fun t ht hW => ⟨_, rfl, rfl, ht⟩) (fun q hq => by cases hq) dX6_size_4
set_option maxHeartbeats 4000000 in
set_option maxRecDepth 100000 in
theorem p_get (l : Launch) (dC : Nat → ClassId) (dI : Nat → Nat → Nat) (cI cO : ClassId) (h : Nat) (ca : Nat) (n : Nat) (L : Nat) (f : Nat → Int32) (p0 : Int32) (hn : n ≤ L) (hL : L ≤ 100000) : Met l yX6_get usX6_get ({ frames := 0, cells := 0, slots := 0, locals := 0 }) (va_Pc [.ref h, .int p0] (fun U => va_P (dC, dI) vwCl [(h, .inr (13, [.ref ca, .int (nI n)])), wa ca cI L f] U.heap ∧ va_K (dC, dI) vwCl (ty0 cI cO) U)) (vp_Si (fun r => (∀ j, j < n → p0 = nI j → r = f j) ∧ (∀ j, n ≤ j → j < 2 ^ 31 → p0 = nI j → r = 0))) 0 0 (fun _ => False) := by
  refine Met.ofW (cc := cX6_get) (maxL := 2) (ret := (some .int)) (by decide) rfl ?_
  intro p e s m args below meth c s₁ B hml hv
  obtain ⟨rfl, hP, hK⟩ := hv
  have hx := B.exec
  have hb := B.bytes
  have hr := B.returns
  have hts := atoms_spec (ws := usX6_get) B.pre
  have hown : s.vm.findClass RX6 = some m.cls := findClass_of_methodNamed B.named
  have hlocks := B.notSynchronized
  have hl := lv_entry ([.ref h, .int p0]) (n := 2) (Nat.le_of_ble_eq_true rfl)
  rw [lg_entry_eq]
  generalize (lg_sl ([.ref h, .int p0]) ++ List.replicate (2 - (lg_sl ([.ref h, .int p0])).length) Slot.unset).toArray = ls at hl ⊢
  have hl : lv_has ls 2 [(0, .ref h), (1, .int p0)] := hl
  refine lv_iload_n hx hb dX6_get_0 rfl (lv_at hl 1 rfl) ?_
  refine lv_if_lt (tgt := 21) hx hb dX6_get_1 (by decide) (fun c_1 => ?_) (fun c_1 => ?_)
  · refine lv_iconst (v := nI 0) hx hb dX6_get_21 (by decide) ?_
    exact W.iret (v := nI 0) hx hb hr (fun t ht hW => ⟨_, rfl, ⟨fun j hj e => absurd c_1 (by rw [e]; exact nI_pos (by omega)), fun _ _ _ _ => rfl⟩, ht⟩) (fun q hq => by cases hq) dX6_get_22
  · refine lv_iload_n hx hb dX6_get_4 rfl (lv_at hl 1 rfl) ?_
    refine lv_aload_n hx hb dX6_get_5 rfl (lv_at hl 0 rfl) ?_
    refine va_get (D := (dC, dI)) (ci := 13) (v := .int (nI n)) (C := RX6) (T := TX6) (N := 2) hx hb hts inX6_get_RX6 hown hK hP 0 rfl rfl 1 (by decide) (hts (.fieldLink RX6 21 "Patchferry$Row" "size" "I") (by decide +kernel)) (fun _ h9 => h9) rfl dX6_get_6 ?_
    refine lv_icmp_ge (tgt := 21) hx hb dX6_get_9 (by decide) (fun c_2 => ?_) (fun c_2 => ?_)
    · refine lv_iconst (v := nI 0) hx hb dX6_get_21 (by decide) ?_
      exact W.iret (v := nI 0) hx hb hr (fun t ht hW => ⟨_, rfl, ⟨fun j hj e => absurd c_2 (by rw [e]; exact nI_ge hj (by omega)), fun _ _ _ _ => rfl⟩, ht⟩) (fun q hq => by cases hq) dX6_get_22
    · refine lv_aload_n hx hb dX6_get_12 rfl (lv_at hl 0 rfl) ?_
      refine va_get (D := (dC, dI)) (ci := 13) (v := .ref ca) (C := RX6) (T := TX6) (N := 2) hx hb hts inX6_get_RX6 hown hK hP 0 rfl rfl 0 (by decide) (hts (.fieldLink RX6 15 "Patchferry$Row" "cells" "[I") (by decide +kernel)) (fun _ h9 => h9) rfl dX6_get_13 ?_
      refine lv_iload_n hx hb dX6_get_16 rfl (lv_at hl 1 rfl) ?_
      obtain ⟨j, hj, ej⟩ : ∃ j : Nat, j < n ∧ p0 = nI j := by
        rcases pk_ix p0 (n := n) (by omega) with q | q | q
        · exact absurd q c_1
        · exact absurd q c_2
        · exact q
      refine va_iald (D := (dC, dI)) hx hb hK hP 1 0 rfl rfl (by rw [ej]; exact vp_in_nI (by omega) (by omega)) dX6_get_17 ?_
      refine lv_goto (tgt := 22) hx hb dX6_get_18 (by decide) ?_
      exact W.iret (v := f (p0).toNatClampNeg) hx hb hr (fun t ht hW => ⟨_, rfl, ⟨fun i hi e => by rw [e, nI_clamp (by omega)], fun i hi hi2 e => absurd ((nI_eq (by omega) hi2).mp (ej.symm.trans e)) (by omega)⟩, ht⟩) (fun q hq => by cases hq) dX6_get_22
set_option maxHeartbeats 4000000 in
set_option maxRecDepth 100000 in
theorem c_set (l : Launch) (dC : Nat → ClassId) (dI : Nat → Nat → Nat) (cI cO : ClassId) (sz : Nat) (h : Nat) (ca : Nat) (n : Nat) (L : Nat) (f : Nat → Int32) (p0 : Int32) (p1 : Int32) (hn : n ≤ L) (hL : L ≤ 100000) : Met l yX6_set usX6_set ({ frames := 0, cells := 0, slots := 0, locals := 0 }) (va_Pc [.ref h, .int p0, .int p1] (fun U => U.heap.size = sz ∧ va_P (dC, dI) vwCl [(h, .inr (13, [.ref ca, .int (nI n)])), wa ca cI L f] U.heap ∧ va_K (dC, dI) vwCl (ty0 cI cO) U ∧ va_D (fun _ => True) [(h, .inr (13, [.ref ca, .int (nI n)])), wa ca cI L f])) (va_Qv (fun _ : Unit => True) (fun _ t => ∃ (f2 : Nat → Int32), va_P (dC, dI) vwCl [(h, .inr (13, [.ref ca, .int (nI n)])), wa ca cI L f2] t.heap ∧ va_K (dC, dI) vwCl (ty0 cI cO) t ∧ va_D (va_A [(h, .inr (13, [.ref ca, .int (nI n)])), wa ca cI L f] sz) [(h, .inr (13, [.ref ca, .int (nI n)])), wa ca cI L f2]) (va_A [(h, .inr (13, [.ref ca, .int (nI n)])), wa ca cI L f] sz)) 0 0 (va_A [(h, .inr (13, [.ref ca, .int (nI n)])), wa ca cI L f] sz) := by
  refine Met.ofW (cc := cX6_set) (maxL := 3) (ret := none) (by decide) rfl ?_
  intro p e s m args below meth c s₁ B hml hv
  obtain ⟨rfl, hsz, hP, hK, hD0⟩ := hv
  have hx := B.exec
  have hb := B.bytes
  have hr := B.returns
  have hts := atoms_spec (ws := usX6_set) B.pre
  have hown : s.vm.findClass RX6 = some m.cls := findClass_of_methodNamed B.named
  have hlocks := B.notSynchronized
  subst hsz
  have hD := hD0.self (sz := s.heap.size)
  generalize hAe : va_A [(h, .inr (13, [.ref ca, .int (nI n)])), wa ca cI L f] s.heap.size = A at hD ⊢
  have hA : ∀ q : Nat, s.heap.size ≤ q → A q := fun q h => by rw [← hAe]; exact Or.inr h
  have hS : va_S A s.heap s.heap [] := va_S.rf
  have hl := lv_entry ([.ref h, .int p0, .int p1]) (n := 3) (Nat.le_of_ble_eq_true rfl)
  rw [lg_entry_eq]
  generalize (lg_sl ([.ref h, .int p0, .int p1]) ++ List.replicate (3 - (lg_sl ([.ref h, .int p0, .int p1])).length) Slot.unset).toArray = ls at hl ⊢
  have hl : lv_has ls 3 [(0, .ref h), (1, .int p0), (2, .int p1)] := hl
  refine lv_iload_n hx hb dX6_set_0 rfl (lv_at hl 1 rfl) ?_
  refine lv_if_lt (tgt := 19) hx hb dX6_set_1 (by decide) (fun c_1 => ?_) (fun c_1 => ?_)
  · have hPe : va_P (dC, dI) vwCl [(h, .inr (13, [.ref ca, .int (nI n)])), wa ca cI L f] _ := hP.sub [0, 1] rfl
    have hDe : va_D A [(h, .inr (13, [.ref ca, .int (nI n)])), wa ca cI L f] := hD.sub [0, 1] (by decide) rfl
    refine W.widen (k := 0) (n := 0) (by first | exact Nat.le_of_ble_eq_true rfl | omega | (dsimp only [headSpec]; omega) | (simp only [headSpec]; omega) | omega) (by first | exact Nat.le_of_ble_eq_true rfl | omega | (dsimp only [headSpec]; omega) | (simp only [headSpec]; omega) | omega) ?_
    exact W.vret hx hb hr (fun t ht hW => ⟨⟨(), rfl, trivial, _, by rw [ht]; exact hPe, va_K.moved hW.alike hK, hDe⟩, hS.F ht⟩) hS.2.2 dX6_set_19
  · refine lv_iload_n hx hb dX6_set_4 rfl (lv_at hl 1 rfl) ?_
    refine lv_aload_n hx hb dX6_set_5 rfl (lv_at hl 0 rfl) ?_
    refine va_get (D := (dC, dI)) (ci := 13) (v := .int (nI n)) (C := RX6) (T := TX6) (N := 2) hx hb hts inX6_set_RX6 hown hK hP 0 rfl rfl 1 (by decide) (hts (.fieldLink RX6 21 "Patchferry$Row" "size" "I") (by decide +kernel)) (fun _ h9 => h9) rfl dX6_set_6 ?_
    refine lv_icmp_ge (tgt := 19) hx hb dX6_set_9 (by decide) (fun c_2 => ?_) (fun c_2 => ?_)
    · have hPe : va_P (dC, dI) vwCl [(h, .inr (13, [.ref ca, .int (nI n)])), wa ca cI L f] _ := hP.sub [0, 1] rfl
      have hDe : va_D A [(h, .inr (13, [.ref ca, .int (nI n)])), wa ca cI L f] := hD.sub [0, 1] (by decide) rfl
      refine W.widen (k := 0) (n := 0) (by first | exact Nat.le_of_ble_eq_true rfl | omega | (dsimp only [headSpec]; omega) | (simp only [headSpec]; omega) | omega) (by first | exact Nat.le_of_ble_eq_true rfl | omega | (dsimp only [headSpec]; omega) | (simp only [headSpec]; omega) | omega) ?_
      exact W.vret hx hb hr (fun t ht hW => ⟨⟨(), rfl, trivial, _, by rw [ht]; exact hPe, va_K.moved hW.alike hK, hDe⟩, hS.F ht⟩) hS.2.2 dX6_set_19
    · refine lv_aload_n hx hb dX6_set_12 rfl (lv_at hl 0 rfl) ?_
      refine va_get (D := (dC, dI)) (ci := 13) (v := .ref ca) (C := RX6) (T := TX6) (N := 2) hx hb hts inX6_set_RX6 hown hK hP 0 rfl rfl 0 (by decide) (hts (.fieldLink RX6 15 "Patchferry$Row" "cells" "[I") (by decide +kernel)) (fun _ h9 => h9) rfl dX6_set_13 ?_
      refine lv_iload_n hx hb dX6_set_16 rfl (lv_at hl 1 rfl) ?_
      refine lv_iload_n hx hb dX6_set_17 rfl (lv_at hl 2 rfl) ?_
      obtain ⟨j, hj, ej⟩ : ∃ j : Nat, j < n ∧ p0 = nI j := by
        rcases pk_ix p0 (n := n) (by omega) with q | q | q
        · exact absurd q c_1
        · exact absurd q c_2
        · exact q
      refine va_iast (D := (dC, dI)) hx hb hK hP hD hS 1 0 rfl rfl (by rw [ej]; exact vp_in_nI (by omega) (by omega)) dX6_set_18 (fun H locs hP hD hS => ?_)
      have hP : va_P (dC, dI) vwCl [(h, .inr (13, [.ref ca, .int (nI n)])), wa ca cI L (upd f (p0).toNatClampNeg p1)] H := hP
      have hD : va_D A [(h, .inr (13, [.ref ca, .int (nI n)])), wa ca cI L (upd f (p0).toNatClampNeg p1)] := hD
      have hPe : va_P (dC, dI) vwCl [(h, .inr (13, [.ref ca, .int (nI n)])), wa ca cI L (upd f (p0).toNatClampNeg p1)] _ := hP.sub [0, 1] rfl
      have hDe : va_D A [(h, .inr (13, [.ref ca, .int (nI n)])), wa ca cI L (upd f (p0).toNatClampNeg p1)] := hD.sub [0, 1] (by decide) rfl
      refine W.widen (k := 0) (n := 0) (by first | exact Nat.le_of_ble_eq_true rfl | omega | (dsimp only [headSpec]; omega) | (simp only [headSpec]; omega) | omega) (by first | exact Nat.le_of_ble_eq_true rfl | omega | (dsimp only [headSpec]; omega) | (simp only [headSpec]; omega) | omega) ?_
      exact W.vret hx hb hr (fun t ht hW => ⟨⟨(), rfl, trivial, _, by rw [ht]; exact hPe, va_K.moved hW.alike hK, hDe⟩, hS.F ht⟩) hS.2.2 dX6_set_19
set_option maxHeartbeats 4000000 in
set_option maxRecDepth 100000 in
theorem c_add (l : Launch) (dC : Nat → ClassId) (dI : Nat → Nat → Nat) (cI cO : ClassId) (sz : Nat) (h : Nat) (ca : Nat) (n : Nat) (L : Nat) (f : Nat → Int32) (p0 : Int32) (hn : n ≤ L) (hL : L ≤ 100000) : Met l yX6_add usX6_add ({ frames := 0, cells := 0, slots := 0, locals := 0 }) (va_Pc [.ref h, .int p0] (fun U => U.heap.size = sz ∧ va_P (dC, dI) vwCl [(h, .inr (13, [.ref ca, .int (nI n)])), wa ca cI L f] U.heap ∧ va_K (dC, dI) vwCl (ty0 cI cO) U ∧ va_D (fun _ => True) [(h, .inr (13, [.ref ca, .int (nI n)])), wa ca cI L f])) (va_Qv (fun _ : Unit => True) (fun _ t => ∃ (n2 : Nat), ∃ (f2 : Nat → Int32), (n2 ≤ L) ∧ (n < L → n2 = n + 1 ∧ f2 n = p0 ∧ ∀ j, j < n → f2 j = f j) ∧ va_P (dC, dI) vwCl [(h, .inr (13, [.ref ca, .int (nI n2)])), wa ca cI L f2] t.heap ∧ va_K (dC, dI) vwCl (ty0 cI cO) t ∧ va_D (va_A [(h, .inr (13, [.ref ca, .int (nI n)])), wa ca cI L f] sz) [(h, .inr (13, [.ref ca, .int (nI n2)])), wa ca cI L f2]) (va_A [(h, .inr (13, [.ref ca, .int (nI n)])), wa ca cI L f] sz)) 0 0 (va_A [(h, .inr (13, [.ref ca, .int (nI n)])), wa ca cI L f] sz) := by
  refine Met.ofW (cc := cX6_add) (maxL := 2) (ret := none) (by decide) rfl ?_
  intro p e s m args below meth c s₁ B hml hv
  obtain ⟨rfl, hsz, hP, hK, hD0⟩ := hv
  have hx := B.exec
  have hb := B.bytes
  have hr := B.returns
  have hts := atoms_spec (ws := usX6_add) B.pre
  have hown : s.vm.findClass RX6 = some m.cls := findClass_of_methodNamed B.named
  have hlocks := B.notSynchronized
  subst hsz
  have hD := hD0.self (sz := s.heap.size)
  generalize hAe : va_A [(h, .inr (13, [.ref ca, .int (nI n)])), wa ca cI L f] s.heap.size = A at hD ⊢
  have hA : ∀ q : Nat, s.heap.size ≤ q → A q := fun q h => by rw [← hAe]; exact Or.inr h
  have hS : va_S A s.heap s.heap [] := va_S.rf
  have hl := lv_entry ([.ref h, .int p0]) (n := 2) (Nat.le_of_ble_eq_true rfl)
  rw [lg_entry_eq]
  generalize (lg_sl ([.ref h, .int p0]) ++ List.replicate (2 - (lg_sl ([.ref h, .int p0])).length) Slot.unset).toArray = ls at hl ⊢
  have hl : lv_has ls 2 [(0, .ref h), (1, .int p0)] := hl
  refine lv_aload_n hx hb dX6_add_0 rfl (lv_at hl 0 rfl) ?_
  refine va_get (D := (dC, dI)) (ci := 13) (v := .int (nI n)) (C := RX6) (T := TX6) (N := 2) hx hb hts inX6_add_RX6 hown hK hP 0 rfl rfl 1 (by decide) (hts (.fieldLink RX6 21 "Patchferry$Row" "size" "I") (by decide +kernel)) (fun _ h9 => h9) rfl dX6_add_1 ?_
  refine lv_aload_n hx hb dX6_add_4 rfl (lv_at hl 0 rfl) ?_
  refine va_get (D := (dC, dI)) (ci := 13) (v := .ref ca) (C := RX6) (T := TX6) (N := 2) hx hb hts inX6_add_RX6 hown hK hP 0 rfl rfl 0 (by decide) (hts (.fieldLink RX6 15 "Patchferry$Row" "cells" "[I") (by decide +kernel)) (fun _ h9 => h9) rfl dX6_add_5 ?_
  refine va_alen (D := (dC, dI)) hx hb hK hP 1 0 rfl rfl rfl dX6_add_8 ?_
  refine lv_icmp_ge (tgt := 32) hx hb dX6_add_9 (by decide) (fun c_1 => ?_) (fun c_1 => ?_)
  · have hge : L ≤ n := by
      rcases Nat.lt_or_ge n L with q | q
      · exact absurd c_1 (nI_ge q (by omega))
      · exact q
    have hPe : va_P (dC, dI) vwCl [(h, .inr (13, [.ref ca, .int (nI n)])), wa ca cI L f] _ := hP.sub [0, 1] rfl
    have hDe : va_D A [(h, .inr (13, [.ref ca, .int (nI n)])), wa ca cI L f] := hD.sub [0, 1] (by decide) rfl
    refine W.widen (k := 0) (n := 0) (by first | exact Nat.le_of_ble_eq_true rfl | omega | (dsimp only [headSpec]; omega) | (simp only [headSpec]; omega) | omega) (by first | exact Nat.le_of_ble_eq_true rfl | omega | (dsimp only [headSpec]; omega) | (simp only [headSpec]; omega) | omega) ?_
    exact W.vret hx hb hr (fun t ht hW => ⟨⟨(), rfl, trivial, _, _, hn, fun q => absurd q (by omega), by rw [ht]; exact hPe, va_K.moved hW.alike hK, hDe⟩, hS.F ht⟩) hS.2.2 dX6_add_32
  · have hlt : n < L := by
      rcases Nat.lt_or_ge n L with q | q
      · exact q
      · exact absurd (nI_le q (by omega)) c_1
    refine lv_aload_n hx hb dX6_add_12 rfl (lv_at hl 0 rfl) ?_
    refine va_get (D := (dC, dI)) (ci := 13) (v := .ref ca) (C := RX6) (T := TX6) (N := 2) hx hb hts inX6_add_RX6 hown hK hP 0 rfl rfl 0 (by decide) (hts (.fieldLink RX6 15 "Patchferry$Row" "cells" "[I") (by decide +kernel)) (fun _ h9 => h9) rfl dX6_add_13 ?_
    refine lv_aload_n hx hb dX6_add_16 rfl (lv_at hl 0 rfl) ?_
    refine va_get (D := (dC, dI)) (ci := 13) (v := .int (nI n)) (C := RX6) (T := TX6) (N := 2) hx hb hts inX6_add_RX6 hown hK hP 0 rfl rfl 1 (by decide) (hts (.fieldLink RX6 21 "Patchferry$Row" "size" "I") (by decide +kernel)) (fun _ h9 => h9) rfl dX6_add_17 ?_
    refine lv_iload_n hx hb dX6_add_20 rfl (lv_at hl 1 rfl) ?_
    refine va_iast (D := (dC, dI)) hx hb hK hP hD hS 1 0 rfl rfl (vp_in_nI hlt (by omega)) dX6_add_21 (fun H locs hP hD hS => ?_)
    have hP : va_P (dC, dI) vwCl [(h, .inr (13, [.ref ca, .int (nI n)])), wa ca cI L (upd f (nI n).toNatClampNeg p0)] H := hP
    have hD : va_D A [(h, .inr (13, [.ref ca, .int (nI n)])), wa ca cI L (upd f (nI n).toNatClampNeg p0)] := hD
    refine lv_aload_n hx hb dX6_add_22 rfl (lv_at hl 0 rfl) ?_
    refine lv_dup hx hb dX6_add_23 rfl ?_
    refine va_get (D := (dC, dI)) (ci := 13) (v := .int (nI n)) (C := RX6) (T := TX6) (N := 2) hx hb hts inX6_add_RX6 hown hK hP 0 rfl rfl 1 (by decide) (hts (.fieldLink RX6 21 "Patchferry$Row" "size" "I") (by decide +kernel)) (fun _ h9 => h9) rfl dX6_add_24 ?_
    refine lv_iconst (v := nI 1) hx hb dX6_add_27 (by decide) ?_
    refine lv_iadd hx hb dX6_add_28 ?_
    refine lv_topi (fun y_2 ey_2 => ?_)
    have h_3 : y_2 = nI (n + 1) := ey_2.trans (nI_1 n)
    subst h_3
    refine va_put (D := (dC, dI)) (ci := 13) (v := .int (nI (n + 1))) (ty := .int) (C := RX6) (T := TX6) (N := 2) hx hb hts inX6_add_RX6 tyX6 tyX6_ok nmX6 hown hK hP hD hS 0 rfl rfl 1 (by decide) (hts (.fieldLink RX6 21 "Patchferry$Row" "size" "I") (by decide +kernel)) (fun _ h9 => h9) rfl (by decide +kernel) rfl rfl (Nat.le_of_ble_eq_true rfl) dX6_add_29 (fun H locs hP hD hS => ?_)
    have hP : va_P (dC, dI) vwCl [(h, .inr (13, [.ref ca, .int (nI (n + 1))])), wa ca cI L (upd f (nI n).toNatClampNeg p0)] H := hP
    have hD : va_D A [(h, .inr (13, [.ref ca, .int (nI (n + 1))])), wa ca cI L (upd f (nI n).toNatClampNeg p0)] := hD
    have hPe : va_P (dC, dI) vwCl [(h, .inr (13, [.ref ca, .int (nI (n + 1))])), wa ca cI L (upd f (nI n).toNatClampNeg p0)] _ := hP.sub [0, 1] rfl
    have hDe : va_D A [(h, .inr (13, [.ref ca, .int (nI (n + 1))])), wa ca cI L (upd f (nI n).toNatClampNeg p0)] := hD.sub [0, 1] (by decide) rfl
    refine W.widen (k := 0) (n := 0) (by first | exact Nat.le_of_ble_eq_true rfl | omega | (dsimp only [headSpec]; omega) | (simp only [headSpec]; omega) | omega) (by first | exact Nat.le_of_ble_eq_true rfl | omega | (dsimp only [headSpec]; omega) | (simp only [headSpec]; omega) | omega) ?_
    exact W.vret hx hb hr (fun t ht hW => ⟨⟨(), rfl, trivial, _, _, hlt, fun _ => ⟨rfl, by rw [nI_clamp (by omega)]; exact pk_us, fun j hj => by rw [nI_clamp (by omega)]; exact pk_un (by omega)⟩, by rw [ht]; exact hPe, va_K.moved hW.alike hK, hDe⟩, hS.F ht⟩) hS.2.2 dX6_add_32
set_option maxHeartbeats 4000000 in
set_option maxRecDepth 100000 in
theorem c_clear (l : Launch) (dC : Nat → ClassId) (dI : Nat → Nat → Nat) (cI cO : ClassId) (sz : Nat) (h : Nat) (ca : Nat) (x : Int32) : Met l yX6_clear usX6_clear ({ frames := 0, cells := 0, slots := 0, locals := 0 }) (va_Pc [.ref h] (fun U => U.heap.size = sz ∧ va_P (dC, dI) vwCl [(h, .inr (13, [.ref ca, .int x]))] U.heap ∧ va_K (dC, dI) vwCl (ty0 cI cO) U ∧ va_D (fun _ => True) [(h, .inr (13, [.ref ca, .int x]))])) (va_Qv (fun _ : Unit => True) (fun _ t => va_P (dC, dI) vwCl [(h, .inr (13, [.ref ca, .int (nI 0)]))] t.heap ∧ va_K (dC, dI) vwCl (ty0 cI cO) t ∧ va_D (va_A [(h, .inr (13, [.ref ca, .int x]))] sz) [(h, .inr (13, [.ref ca, .int (nI 0)]))]) (va_A [(h, .inr (13, [.ref ca, .int x]))] sz)) 0 0 (va_A [(h, .inr (13, [.ref ca, .int x]))] sz) := by
  refine Met.ofW (cc := cX6_clear) (maxL := 1) (ret := none) (by decide) rfl ?_
  intro p e s m args below meth c s₁ B hml hv
  obtain ⟨rfl, hsz, hP, hK, hD0⟩ := hv
  have hx := B.exec
  have hb := B.bytes
  have hr := B.returns
  have hts := atoms_spec (ws := usX6_clear) B.pre
  have hown : s.vm.findClass RX6 = some m.cls := findClass_of_methodNamed B.named
  have hlocks := B.notSynchronized
  subst hsz
  have hD := hD0.self (sz := s.heap.size)
  generalize hAe : va_A [(h, .inr (13, [.ref ca, .int x]))] s.heap.size = A at hD ⊢
  have hA : ∀ q : Nat, s.heap.size ≤ q → A q := fun q h => by rw [← hAe]; exact Or.inr h
  have hS : va_S A s.heap s.heap [] := va_S.rf
  have hl := lv_entry ([.ref h]) (n := 1) (Nat.le_of_ble_eq_true rfl)
  rw [lg_entry_eq]
  generalize (lg_sl ([.ref h]) ++ List.replicate (1 - (lg_sl ([.ref h])).length) Slot.unset).toArray = ls at hl ⊢
  have hl : lv_has ls 1 [(0, .ref h)] := hl
  refine lv_aload_n hx hb dX6_clear_0 rfl (lv_at hl 0 rfl) ?_
  refine lv_iconst (v := nI 0) hx hb dX6_clear_1 (by decide) ?_
  refine va_put (D := (dC, dI)) (ci := 13) (v := .int (nI 0)) (ty := .int) (C := RX6) (T := TX6) (N := 2) hx hb hts inX6_clear_RX6 tyX6 tyX6_ok nmX6 hown hK hP hD hS 0 rfl rfl 1 (by decide) (hts (.fieldLink RX6 21 "Patchferry$Row" "size" "I") (by decide +kernel)) (fun _ h9 => h9) rfl (by decide +kernel) rfl rfl (Nat.le_of_ble_eq_true rfl) dX6_clear_2 (fun H locs hP hD hS => ?_)
  have hP : va_P (dC, dI) vwCl [(h, .inr (13, [.ref ca, .int (nI 0)]))] H := hP
  have hD : va_D A [(h, .inr (13, [.ref ca, .int (nI 0)]))] := hD
  have hPe : va_P (dC, dI) vwCl [(h, .inr (13, [.ref ca, .int (nI 0)]))] _ := hP.sub [0] rfl
  have hDe : va_D A [(h, .inr (13, [.ref ca, .int (nI 0)]))] := hD.sub [0] (by decide) rfl
  refine W.widen (k := 0) (n := 0) (by first | exact Nat.le_of_ble_eq_true rfl | omega | (dsimp only [headSpec]; omega) | (simp only [headSpec]; omega) | omega) (by first | exact Nat.le_of_ble_eq_true rfl | omega | (dsimp only [headSpec]; omega) | (simp only [headSpec]; omega) | omega) ?_
  exact W.vret hx hb hr (fun t ht hW => ⟨⟨(), rfl, trivial, by rw [ht]; exact hPe, va_K.moved hW.alike hK, hDe⟩, hS.F ht⟩) hS.2.2 dX6_clear_5
set_option maxHeartbeats 4000000 in
set_option maxRecDepth 100000 in
theorem c_rowinit (l : Launch) (dC : Nat → ClassId) (dI : Nat → Nat → Nat) (cI cO : ClassId) (sz : Nat) (h : Nat) (k : Nat) (hk : k ≤ 100000) : Met l yX6_init usX6_init ({ frames := 1, cells := 1, slots := k, locals := 16 }) (va_Pc [.ref h, .int (nI k)] (fun U => U.heap.size = sz ∧ va_P (dC, dI) vwCl [(h, .inr (13, [.null, .int (nI 0)]))] U.heap ∧ va_K (dC, dI) vwCl (ty0 cI cO) U ∧ va_D (fun _ => True) [(h, .inr (13, [.null, .int (nI 0)]))])) (va_Qv (fun _ : Unit => True) (fun _ t => ∃ (ca : Nat), va_P (dC, dI) vwCl [(h, .inr (13, [.ref ca, .int (nI 0)])), wa ca cI k (fun _ => 0)] t.heap ∧ va_K (dC, dI) vwCl (ty0 cI cO) t ∧ va_D (va_A [(h, .inr (13, [.null, .int (nI 0)]))] sz) [(h, .inr (13, [.ref ca, .int (nI 0)])), wa ca cI k (fun _ => 0)]) (va_A [(h, .inr (13, [.null, .int (nI 0)]))] sz)) 1 k (va_A [(h, .inr (13, [.null, .int (nI 0)]))] sz) := by
  refine Met.ofW (cc := cX6_init) (maxL := 2) (ret := none) (by decide) rfl ?_
  intro p e s m args below meth c s₁ B hml hv
  obtain ⟨rfl, hsz, hP, hK, hD0⟩ := hv
  have hx := B.exec
  have hb := B.bytes
  have hr := B.returns
  have hts := atoms_spec (ws := usX6_init) B.pre
  have hown : s.vm.findClass RX6 = some m.cls := findClass_of_methodNamed B.named
  have hlocks := B.notSynchronized
  have hin : meth.name = "<init>" := (name_of_methodNamed B.named B.method).1
  subst hsz
  have hD := hD0.self (sz := s.heap.size)
  generalize hAe : va_A [(h, .inr (13, [.null, .int (nI 0)]))] s.heap.size = A at hD ⊢
  have hA : ∀ q : Nat, s.heap.size ≤ q → A q := fun q h => by rw [← hAe]; exact Or.inr h
  have hS : va_S A s.heap s.heap [] := va_S.rf
  have hl := lv_entry ([.ref h, .int (nI k)]) (n := 2) (Nat.le_of_ble_eq_true rfl)
  rw [lg_entry_eq]
  generalize (lg_sl ([.ref h, .int (nI k)]) ++ List.replicate (2 - (lg_sl ([.ref h, .int (nI k)])).length) Slot.unset).toArray = ls at hl ⊢
  have hl : lv_has ls 2 [(0, .ref h), (1, .int (nI k))] := hl
  refine lv_aload_n hx hb dX6_init_0 rfl (lv_at hl 0 rfl) ?_
  refine W.objInit hx hb hown (hts (.methodLink RX6 3 objectInit) (by decide +kernel)) (hts (.instanceMethod objectInit) (by decide +kernel)) (hts _ (List.mem_of_getElem? (i := 3) rfl)) rfl (by rw [hml]; exact hl.1) rfl dX6_init_1 (by first | exact Nat.le_of_ble_eq_true rfl | omega | (dsimp only [headSpec]; omega) | (simp only [headSpec]; omega) | omega) (by first | exact Nat.le_of_ble_eq_true rfl | omega | (dsimp only [headSpec]; omega) | (simp only [headSpec]; omega) | omega) ?_
  refine W.eq (g2 := F0 m 4 ls []) rfl ?_
  refine lv_aload_n hx hb dX6_init_4 rfl (lv_at hl 0 rfl) ?_
  refine lv_iload_n hx hb dX6_init_5 rfl (lv_at hl 1 rfl) ?_
  refine lv_iconst (v := nI 0) hx hb dX6_init_6 (by decide) ?_
  refine va_mmax hx hb (hml.trans hl.1.symm) hown (hts (.methodLink RX6 9 Lib.Math.max.name) (by decide +kernel)) (hts (.static Lib.Math.max.name) (by decide +kernel)) (hts (.initialized "java/lang/Math") (by decide +kernel)) (hts _ (List.mem_of_getElem? (i := 7) rfl)) (by first | exact Nat.le_of_ble_eq_true rfl | omega | (dsimp only [headSpec]; omega) | (simp only [headSpec]; omega) | omega) (by first | exact Nat.le_of_ble_eq_true rfl | omega | (dsimp only [headSpec]; omega) | (simp only [headSpec]; omega) | omega) (by first | exact Nat.le_of_ble_eq_true rfl | omega | (dsimp only [headSpec]; omega) | (simp only [headSpec]; omega) | omega) (by first | exact Nat.le_of_ble_eq_true rfl | omega | (dsimp only [headSpec]; omega) | (simp only [headSpec]; omega) | omega) dX6_init_7 ?_
  rw [if_neg (nI_nlt (a := k) (b := 0) (by omega) (by omega))]
  refine va_newa (D := (dC, dI)) (atype := .int) (N' := k) (a0 := (k, .inl (fun _ => 0))) hx hb (hts (.arrayClass .int) (by decide +kernel)) rfl hK hP hD hS hA (fun _ => rfl) (nI_pos (by omega)) (nI_clamp (by omega)) (by show k * 4 ≤ 536870912; omega) (by first | exact Nat.le_of_ble_eq_true rfl | omega | (dsimp only [headSpec]; omega) | (simp only [headSpec]; omega) | omega) (by first | exact Nat.le_of_ble_eq_true rfl | omega | (dsimp only [headSpec]; omega) | (simp only [headSpec]; omega) | omega) dX6_init_10 (fun q_1 cQ_2 H hK2 hP hD hS => ?_)
  obtain rfl := uc_eq hK2 0 2 rfl rfl
  have hP : va_P (dC, dI) vwCl [(h, .inr (13, [.null, .int (nI 0)])), wa q_1 cI k (fun _ => 0)] H := hP
  have hD : va_D A [(h, .inr (13, [.null, .int (nI 0)])), wa q_1 cI k (fun _ => 0)] := hD
  refine W.widen (k := 1) (n := k) (by first | exact Nat.le_of_ble_eq_true rfl | omega | (dsimp only [headSpec]; omega) | (simp only [headSpec]; omega) | omega) (by first | exact Nat.le_of_ble_eq_true rfl | omega | (dsimp only [headSpec]; omega) | (simp only [headSpec]; omega) | omega) ?_
  refine va_putF (D := (dC, dI)) (ci := 13) (v := .ref q_1) (ty := .array .int) (C := RX6) (T := TX6) (N := 2) hx hb hts inX6_init_RX6 tyX6 tyX6_ok nmX6 hown hK hP hD hS 0 rfl rfl 0 (by decide) (hts (.fieldLink RX6 15 "Patchferry$Row" "cells" "[I") (by decide +kernel)) (fun _ h9 => h9) rfl hin rfl (by decide +kernel) rfl rfl (Nat.le_of_ble_eq_true rfl) dX6_init_12 (fun H locs hP hD hS => ?_)
  have hP : va_P (dC, dI) vwCl [(h, .inr (13, [.ref q_1, .int (nI 0)])), wa q_1 cI k (fun _ => 0)] H := hP
  have hD : va_D A [(h, .inr (13, [.ref q_1, .int (nI 0)])), wa q_1 cI k (fun _ => 0)] := hD
  have hPe : va_P (dC, dI) vwCl [(h, .inr (13, [.ref q_1, .int (nI 0)])), wa q_1 cI k (fun _ => 0)] _ := hP.sub [0, 1] rfl
  have hDe : va_D A [(h, .inr (13, [.ref q_1, .int (nI 0)])), wa q_1 cI k (fun _ => 0)] := hD.sub [0, 1] (by decide) rfl
  refine W.widen (k := 1) (n := k) (by first | exact Nat.le_of_ble_eq_true rfl | omega | (dsimp only [headSpec]; omega) | (simp only [headSpec]; omega) | omega) (by first | exact Nat.le_of_ble_eq_true rfl | omega | (dsimp only [headSpec]; omega) | (simp only [headSpec]; omega) | omega) ?_
  exact W.vret hx hb hr (fun t ht hW => ⟨⟨(), rfl, trivial, _, by rw [ht]; exact hPe, va_K.moved hW.alike hK, hDe⟩, hS.F ht⟩) hS.2.2 dX6_init_15
