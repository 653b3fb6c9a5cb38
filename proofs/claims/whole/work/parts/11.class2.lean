/-! laid by wip/whole: names, words and decode rows from the print of the task; the contracts are told in wip/whole/*.py -/
theorem dX7_clear_0 : decode cX7_clear 0 = .ok (.aload_n 0, 1) := by decide +kernel
theorem dX7_clear_1 : decode cX7_clear 1 = .ok (.getfield 14, 3) := by decide +kernel
theorem dX7_clear_4 : decode cX7_clear 4 = .ok (.invokevirtual 38, 3) := by decide +kernel
theorem dX7_clear_7 : decode cX7_clear 7 = .ok (.aload_n 0, 1) := by decide +kernel
theorem dX7_clear_8 : decode cX7_clear 8 = .ok (.getfield 20, 3) := by decide +kernel
theorem dX7_clear_11 : decode cX7_clear 11 = .ok (.invokevirtual 38, 3) := by decide +kernel
theorem dX7_clear_14 : decode cX7_clear 14 = .ok (.return_, 1) := by decide +kernel
theorem dX7_put_0 : decode cX7_put 0 = .ok (.aload_n 0, 1) := by decide +kernel
theorem dX7_put_1 : decode cX7_put 1 = .ok (.getfield 14, 3) := by decide +kernel
theorem dX7_put_4 : decode cX7_put 4 = .ok (.invokevirtual 23, 3) := by decide +kernel
theorem dX7_put_7 : decode cX7_put 7 = .ok (.iconst 1, 1) := by decide +kernel
theorem dX7_put_8 : decode cX7_put 8 = .ok (.isub, 1) := by decide +kernel
theorem dX7_put_9 : decode cX7_put 9 = .ok (.istore_n 3, 1) := by decide +kernel
theorem dX7_put_10 : decode cX7_put 10 = .ok (.aload_n 0, 1) := by decide +kernel
theorem dX7_put_11 : decode cX7_put 11 = .ok (.getfield 20, 3) := by decide +kernel
theorem dX7_put_14 : decode cX7_put 14 = .ok (.iload_n 3, 1) := by decide +kernel
theorem dX7_put_15 : decode cX7_put 15 = .ok (.invokevirtual 27, 3) := by decide +kernel
theorem dX7_put_18 : decode cX7_put 18 = .ok (.iload_n 2, 1) := by decide +kernel
theorem dX7_put_19 : decode cX7_put 19 = .ok (.iadd, 1) := by decide +kernel
theorem dX7_put_20 : decode cX7_put 20 = .ok (.istore 4, 2) := by decide +kernel
theorem dX7_put_22 : decode cX7_put 22 = .ok (.iload_n 3, 1) := by decide +kernel
theorem dX7_put_23 : decode cX7_put 23 = .ok (.ifCond .lt 26, 3) := by decide +kernel
theorem dX7_put_26 : decode cX7_put 26 = .ok (.aload_n 0, 1) := by decide +kernel
theorem dX7_put_27 : decode cX7_put 27 = .ok (.getfield 14, 3) := by decide +kernel
theorem dX7_put_30 : decode cX7_put 30 = .ok (.iload_n 3, 1) := by decide +kernel
theorem dX7_put_31 : decode cX7_put 31 = .ok (.invokevirtual 27, 3) := by decide +kernel
theorem dX7_put_34 : decode cX7_put 34 = .ok (.iload_n 1, 1) := by decide +kernel
theorem dX7_put_35 : decode cX7_put 35 = .ok (.if_icmp .ne 14, 3) := by decide +kernel
theorem dX7_put_38 : decode cX7_put 38 = .ok (.aload_n 0, 1) := by decide +kernel
theorem dX7_put_39 : decode cX7_put 39 = .ok (.getfield 20, 3) := by decide +kernel
theorem dX7_put_42 : decode cX7_put 42 = .ok (.iload_n 3, 1) := by decide +kernel
theorem dX7_put_43 : decode cX7_put 43 = .ok (.iload 4, 2) := by decide +kernel
theorem dX7_put_45 : decode cX7_put 45 = .ok (.invokevirtual 31, 3) := by decide +kernel
theorem dX7_put_48 : decode cX7_put 48 = .ok (.return_, 1) := by decide +kernel
theorem dX7_put_49 : decode cX7_put 49 = .ok (.aload_n 0, 1) := by decide +kernel
theorem dX7_put_50 : decode cX7_put 50 = .ok (.getfield 14, 3) := by decide +kernel
theorem dX7_put_53 : decode cX7_put 53 = .ok (.iload_n 1, 1) := by decide +kernel
theorem dX7_put_54 : decode cX7_put 54 = .ok (.invokevirtual 35, 3) := by decide +kernel
theorem dX7_put_57 : decode cX7_put 57 = .ok (.aload_n 0, 1) := by decide +kernel
theorem dX7_put_58 : decode cX7_put 58 = .ok (.getfield 20, 3) := by decide +kernel
theorem dX7_put_61 : decode cX7_put 61 = .ok (.iload 4, 2) := by decide +kernel
theorem dX7_put_63 : decode cX7_put 63 = .ok (.invokevirtual 35, 3) := by decide +kernel
theorem dX7_put_66 : decode cX7_put 66 = .ok (.return_, 1) := by decide +kernel
theorem dX7_unfold_0 : decode cX7_unfold 0 = .ok (.aload_n 0, 1) := by decide +kernel
theorem dX7_unfold_1 : decode cX7_unfold 1 = .ok (.invokevirtual 41, 3) := by decide +kernel
theorem dX7_unfold_4 : decode cX7_unfold 4 = .ok (.iconst 0, 1) := by decide +kernel
theorem dX7_unfold_5 : decode cX7_unfold 5 = .ok (.istore_n 2, 1) := by decide +kernel
theorem dX7_unfold_6 : decode cX7_unfold 6 = .ok (.iload_n 2, 1) := by decide +kernel
theorem dX7_unfold_7 : decode cX7_unfold 7 = .ok (.aload_n 1, 1) := by decide +kernel
theorem dX7_unfold_8 : decode cX7_unfold 8 = .ok (.invokevirtual 23, 3) := by decide +kernel
theorem dX7_unfold_11 : decode cX7_unfold 11 = .ok (.if_icmp .ge 73, 3) := by decide +kernel
theorem dX7_unfold_14 : decode cX7_unfold 14 = .ok (.aload_n 1, 1) := by decide +kernel
theorem dX7_unfold_15 : decode cX7_unfold 15 = .ok (.iload_n 2, 1) := by decide +kernel
theorem dX7_unfold_16 : decode cX7_unfold 16 = .ok (.invokevirtual 27, 3) := by decide +kernel
theorem dX7_unfold_19 : decode cX7_unfold 19 = .ok (.istore_n 3, 1) := by decide +kernel
theorem dX7_unfold_20 : decode cX7_unfold 20 = .ok (.iload_n 3, 1) := by decide +kernel
theorem dX7_unfold_21 : decode cX7_unfold 21 = .ok (.sipush 255, 3) := by decide +kernel
theorem dX7_unfold_24 : decode cX7_unfold 24 = .ok (.if_icmp .eq 15, 3) := by decide +kernel
theorem dX7_unfold_27 : decode cX7_unfold 27 = .ok (.aload_n 0, 1) := by decide +kernel
theorem dX7_unfold_28 : decode cX7_unfold 28 = .ok (.iload_n 3, 1) := by decide +kernel
theorem dX7_unfold_29 : decode cX7_unfold 29 = .ok (.iconst 1, 1) := by decide +kernel
theorem dX7_unfold_30 : decode cX7_unfold 30 = .ok (.invokevirtual 42, 3) := by decide +kernel
theorem dX7_unfold_33 : decode cX7_unfold 33 = .ok (.iinc 2 1, 3) := by decide +kernel
theorem dX7_unfold_36 : decode cX7_unfold 36 = .ok (.goto (-30), 3) := by decide +kernel
theorem dX7_unfold_39 : decode cX7_unfold 39 = .ok (.aload_n 1, 1) := by decide +kernel
theorem dX7_unfold_40 : decode cX7_unfold 40 = .ok (.iload_n 2, 1) := by decide +kernel
theorem dX7_unfold_41 : decode cX7_unfold 41 = .ok (.iconst 1, 1) := by decide +kernel
theorem dX7_unfold_42 : decode cX7_unfold 42 = .ok (.iadd, 1) := by decide +kernel
theorem dX7_unfold_43 : decode cX7_unfold 43 = .ok (.invokevirtual 27, 3) := by decide +kernel
theorem dX7_unfold_46 : decode cX7_unfold 46 = .ok (.istore 4, 2) := by decide +kernel
theorem dX7_unfold_48 : decode cX7_unfold 48 = .ok (.iload_n 2, 1) := by decide +kernel
theorem dX7_unfold_49 : decode cX7_unfold 49 = .ok (.iconst 2, 1) := by decide +kernel
theorem dX7_unfold_50 : decode cX7_unfold 50 = .ok (.iadd, 1) := by decide +kernel
theorem dX7_unfold_51 : decode cX7_unfold 51 = .ok (.aload_n 1, 1) := by decide +kernel
theorem dX7_unfold_52 : decode cX7_unfold 52 = .ok (.invokevirtual 23, 3) := by decide +kernel
theorem dX7_unfold_55 : decode cX7_unfold 55 = .ok (.if_icmp .ge 8, 3) := by decide +kernel
theorem dX7_unfold_58 : decode cX7_unfold 58 = .ok (.iload 4, 2) := by decide +kernel
theorem dX7_unfold_60 : decode cX7_unfold 60 = .ok (.ifCond .ne 5, 3) := by decide +kernel
theorem dX7_unfold_63 : decode cX7_unfold 63 = .ok (.iconst 0, 1) := by decide +kernel
theorem dX7_unfold_64 : decode cX7_unfold 64 = .ok (.ireturn, 1) := by decide +kernel
theorem dX7_unfold_65 : decode cX7_unfold 65 = .ok (.aload_n 0, 1) := by decide +kernel
theorem dX7_unfold_66 : decode cX7_unfold 66 = .ok (.aload_n 1, 1) := by decide +kernel
theorem dX7_unfold_67 : decode cX7_unfold 67 = .ok (.iload_n 2, 1) := by decide +kernel
theorem dX7_unfold_68 : decode cX7_unfold 68 = .ok (.iconst 2, 1) := by decide +kernel
theorem dX7_unfold_69 : decode cX7_unfold 69 = .ok (.iadd, 1) := by decide +kernel
theorem dX7_unfold_70 : decode cX7_unfold 70 = .ok (.invokevirtual 27, 3) := by decide +kernel
theorem dX7_unfold_73 : decode cX7_unfold 73 = .ok (.iload 4, 2) := by decide +kernel
theorem dX7_unfold_75 : decode cX7_unfold 75 = .ok (.invokevirtual 42, 3) := by decide +kernel
theorem dX7_unfold_78 : decode cX7_unfold 78 = .ok (.iinc 2 3, 3) := by decide +kernel
theorem dX7_unfold_81 : decode cX7_unfold 81 = .ok (.goto (-75), 3) := by decide +kernel
theorem dX7_unfold_84 : decode cX7_unfold 84 = .ok (.iconst 1, 1) := by decide +kernel
theorem dX7_unfold_85 : decode cX7_unfold 85 = .ok (.ireturn, 1) := by decide +kernel
def usX7_clear : List Cond := .code yX7_clear cX7_clear 1 none :: ([.fieldLink RX7 14 "Patchferry$Runs" "values" "LPatchferry$Row;", .fieldLink RX7 20 "Patchferry$Runs" "ends" "LPatchferry$Row;", .methodLink RX7 38 yX6_clear, .instanceMethod yX6_clear, .selects RX6 yX6_clear yX6_clear, .initialized RX6, .code yX6_clear cX6_clear 1 none, .fieldLink RX6 21 "Patchferry$Row" "size" "I"] ++ wsX70 ++ wsX60)
def usX7_put_r1 : List Cond := [Cond.fieldLink RX7 14 "Patchferry$Runs" "values" "LPatchferry$Row;", Cond.fieldLink RX7 20 "Patchferry$Runs" "ends" "LPatchferry$Row;", Cond.methodLink RX7 23 yX6_size, Cond.instanceMethod yX6_size, Cond.selects RX6 yX6_size yX6_size, Cond.initialized RX6, Cond.code yX6_size cX6_size 1 (some .int), Cond.fieldLink RX6 21 "Patchferry$Row" "size" "I", Cond.methodLink RX7 27 yX6_get, Cond.instanceMethod yX6_get, Cond.selects RX6 yX6_get yX6_get, Cond.code yX6_get cX6_get 2 (some .int), Cond.fieldLink RX6 15 "Patchferry$Row" "cells" "[I", Cond.methodLink RX7 31 yX6_set, Cond.instanceMethod yX6_set, Cond.selects RX6 yX6_set yX6_set, Cond.code yX6_set cX6_set 3 none, Cond.methodLink RX7 35 yX6_add, Cond.instanceMethod yX6_add, Cond.selects RX6 yX6_add yX6_add]
def usX7_put_r2 : List Cond := [Cond.code yX6_add cX6_add 2 none]
def usX7_put : List Cond := .code yX7_put cX7_put 5 none :: ((usX7_put_r1 ++ (usX7_put_r2)) ++ wsX70 ++ wsX60)
def usX7_unfold_r1 : List Cond := [Cond.methodLink RX7 41 yX7_clear, Cond.instanceMethod yX7_clear, Cond.selects RX7 yX7_clear yX7_clear, Cond.initialized RX7, Cond.code yX7_clear cX7_clear 1 none, Cond.fieldLink RX7 14 "Patchferry$Runs" "values" "LPatchferry$Row;", Cond.fieldLink RX7 20 "Patchferry$Runs" "ends" "LPatchferry$Row;", Cond.methodLink RX7 38 yX6_clear, Cond.instanceMethod yX6_clear, Cond.selects RX6 yX6_clear yX6_clear, Cond.initialized RX6, Cond.code yX6_clear cX6_clear 1 none, Cond.fieldLink RX6 21 "Patchferry$Row" "size" "I", Cond.methodLink RX7 23 yX6_size, Cond.instanceMethod yX6_size, Cond.selects RX6 yX6_size yX6_size, Cond.code yX6_size cX6_size 1 (some .int), Cond.methodLink RX7 27 yX6_get, Cond.instanceMethod yX6_get, Cond.selects RX6 yX6_get yX6_get]
def usX7_unfold_r2 : List Cond := [Cond.code yX6_get cX6_get 2 (some .int), Cond.fieldLink RX6 15 "Patchferry$Row" "cells" "[I", Cond.methodLink RX7 42 yX7_put, Cond.instanceMethod yX7_put, Cond.selects RX7 yX7_put yX7_put, Cond.code yX7_put cX7_put 5 none, Cond.methodLink RX7 31 yX6_set, Cond.instanceMethod yX6_set, Cond.selects RX6 yX6_set yX6_set, Cond.code yX6_set cX6_set 3 none, Cond.methodLink RX7 35 yX6_add, Cond.instanceMethod yX6_add, Cond.selects RX6 yX6_add yX6_add, Cond.code yX6_add cX6_add 2 none]
def usX7_unfold : List Cond := .code yX7_unfold cX7_unfold 5 (some .boolean) :: ((usX7_unfold_r1 ++ (usX7_unfold_r2)) ++ wsX70 ++ wsX60)
theorem inX7_clear_RX7 : ∀ w ∈ u_ws RX7 TX7 2, w ∈ usX7_clear := by decide +kernel
theorem inX7_put_RX7 : ∀ w ∈ u_ws RX7 TX7 2, w ∈ usX7_put := by decide +kernel
set_option maxRecDepth 20000 in
theorem ugX7_clear_X6_clear : GoodIn usX7_clear (wsV RX7 38 RX6 yX6_clear usX6_clear) := goodIn_p _ [7] (by decide +kernel) (by decide +kernel)
set_option maxRecDepth 20000 in
theorem ugX7_put_X6_size : GoodIn usX7_put (wsV RX7 23 RX6 yX6_size usX6_size) := goodIn_p _ [7] (by decide +kernel) (by decide +kernel)
set_option maxRecDepth 20000 in
theorem ugX7_put_X6_get : GoodIn usX7_put (wsV RX7 27 RX6 yX6_get usX6_get) := goodIn_p _ [12] (by decide +kernel) (by decide +kernel)
set_option maxRecDepth 20000 in
theorem ugX7_put_X6_add : GoodIn usX7_put (wsV RX7 35 RX6 yX6_add usX6_add) := goodIn_p _ [21] (by decide +kernel) (by decide +kernel)
set_option maxRecDepth 20000 in
theorem ugX7_put_X6_set : GoodIn usX7_put (wsV RX7 31 RX6 yX6_set usX6_set) := goodIn_p _ [17] (by decide +kernel) (by decide +kernel)
set_option maxRecDepth 20000 in
theorem ugX7_unfold_X6_size : GoodIn usX7_unfold (wsV RX7 23 RX6 yX6_size usX6_size) := goodIn_p _ [17] (by decide +kernel) (by decide +kernel)
set_option maxRecDepth 20000 in
theorem ugX7_unfold_X6_get : GoodIn usX7_unfold (wsV RX7 27 RX6 yX6_get usX6_get) := goodIn_p _ [21] (by decide +kernel) (by decide +kernel)
set_option maxRecDepth 20000 in
theorem ugX7_unfold_X7_put : GoodIn usX7_unfold (wsV RX7 42 RX7 yX7_put usX7_put) := goodIn_p _ [26, 17, 21, 30, 34] (by decide +kernel) (by decide +kernel)
set_option maxRecDepth 20000 in
theorem ugX7_unfold_X7_clear : GoodIn usX7_unfold (wsV RX7 41 RX7 yX7_clear usX7_clear) := goodIn_p _ [5, 12] (by decide +kernel) (by decide +kernel)
set_option maxHeartbeats 4000000 in
set_option maxRecDepth 100000 in
theorem c_runsclear (l : Launch) (dC : Nat → ClassId) (dI : Nat → Nat → Nat) (cI cO : ClassId) (sz : Nat) (rn : Nat) (vh : Nat) (vc : Nat) (vn : Nat) (vf : Nat → Int32) (eh : Nat) (ec : Nat) (en : Nat) (ef : Nat → Int32) : Met l yX7_clear usX7_clear ({ frames := 1, cells := 0, slots := 0, locals := 20 }) (va_Pc [.ref rn] (fun U => U.heap.size = sz ∧ va_P (dC, dI) vwCl [(rn, .inr (14, [.ref vh, .ref eh])), (vh, .inr (13, [.ref vc, .int (nI vn)])), wa vc cI 270 vf, (eh, .inr (13, [.ref ec, .int (nI en)])), wa ec cI 270 ef] U.heap ∧ va_K (dC, dI) vwCl (ty0 cI cO) U ∧ va_D (fun _ => True) [(rn, .inr (14, [.ref vh, .ref eh])), (vh, .inr (13, [.ref vc, .int (nI vn)])), wa vc cI 270 vf, (eh, .inr (13, [.ref ec, .int (nI en)])), wa ec cI 270 ef])) (va_Qv (fun _ : Unit => True) (fun _ t => va_P (dC, dI) vwCl [(rn, .inr (14, [.ref vh, .ref eh])), (vh, .inr (13, [.ref vc, .int (nI 0)])), wa vc cI 270 vf, (eh, .inr (13, [.ref ec, .int (nI 0)])), wa ec cI 270 ef] t.heap ∧ va_K (dC, dI) vwCl (ty0 cI cO) t ∧ va_D (va_A [(rn, .inr (14, [.ref vh, .ref eh])), (vh, .inr (13, [.ref vc, .int (nI vn)])), wa vc cI 270 vf, (eh, .inr (13, [.ref ec, .int (nI en)])), wa ec cI 270 ef] sz) [(rn, .inr (14, [.ref vh, .ref eh])), (vh, .inr (13, [.ref vc, .int (nI 0)])), wa vc cI 270 vf, (eh, .inr (13, [.ref ec, .int (nI 0)])), wa ec cI 270 ef]) (va_A [(rn, .inr (14, [.ref vh, .ref eh])), (vh, .inr (13, [.ref vc, .int (nI vn)])), wa vc cI 270 vf, (eh, .inr (13, [.ref ec, .int (nI en)])), wa ec cI 270 ef] sz)) 0 0 (va_A [(rn, .inr (14, [.ref vh, .ref eh])), (vh, .inr (13, [.ref vc, .int (nI vn)])), wa vc cI 270 vf, (eh, .inr (13, [.ref ec, .int (nI en)])), wa ec cI 270 ef] sz) := by
  refine Met.ofW (cc := cX7_clear) (maxL := 1) (ret := none) (by decide) rfl ?_
  intro p e s m args below meth c s₁ B hml hv
  obtain ⟨rfl, hsz, hP, hK, hD0⟩ := hv
  have hx := B.exec
  have hb := B.bytes
  have hr := B.returns
  have hts := atoms_spec (ws := usX7_clear) B.pre
  have hown : s.vm.findClass RX7 = some m.cls := findClass_of_methodNamed B.named
  have hlocks := B.notSynchronized
  subst hsz
  have hD := hD0.self (sz := s.heap.size)
  generalize hAe : va_A [(rn, .inr (14, [.ref vh, .ref eh])), (vh, .inr (13, [.ref vc, .int (nI vn)])), wa vc cI 270 vf, (eh, .inr (13, [.ref ec, .int (nI en)])), wa ec cI 270 ef] s.heap.size = A at hD ⊢
  have hA : ∀ q : Nat, s.heap.size ≤ q → A q := fun q h => by rw [← hAe]; exact Or.inr h
  have hS : va_S A s.heap s.heap [] := va_S.rf
  have hl := lv_entry ([.ref rn]) (n := 1) (Nat.le_of_ble_eq_true rfl)
  rw [lg_entry_eq]
  generalize (lg_sl ([.ref rn]) ++ List.replicate (1 - (lg_sl ([.ref rn])).length) Slot.unset).toArray = ls at hl ⊢
  have hl : lv_has ls 1 [(0, .ref rn)] := hl
  refine lv_aload_n hx hb dX7_clear_0 rfl (lv_at hl 0 rfl) ?_
  refine va_get (D := (dC, dI)) (ci := 14) (v := .ref vh) (C := RX7) (T := TX7) (N := 2) hx hb hts inX7_clear_RX7 hown hK hP 0 rfl rfl 0 (by decide) (hts (.fieldLink RX7 14 "Patchferry$Runs" "values" "LPatchferry$Row;") (by decide +kernel)) (fun _ h9 => h9) rfl dX7_clear_1 ?_
  have hPc : va_P (dC, dI) vwCl [(vh, .inr (13, [.ref vc, .int (nI vn)]))] _ := hP.sub [1] rfl
  have hDc : va_D _ [(vh, .inr (13, [.ref vc, .int (nI vn)]))] := hD.sub [1] (by decide) rfl
  have hFc := va_free (wc := [(vh, .inr (13, [.ref vc, .int (nI vn)]))]) hD hS hA [1] rfl
  refine va_callv (va_runV (As := []) (rest := []) ⟨hx, hb, hml, hown, hts⟩ (c_clear l dC dI cI cO s.heap.size vh vc (nI vn)) (cwV 0 hts ugX7_clear_X6_clear rfl rfl rfl (by decide +kernel) ⟨(by first | exact Nat.le_of_ble_eq_true rfl | omega | (dsimp only [headSpec]; omega) | (simp only [headSpec]; omega) | omega), (by first | exact Nat.le_of_ble_eq_true rfl | omega | (dsimp only [headSpec]; omega) | (simp only [headSpec]; omega) | omega)⟩) ⟨fun a U g mk q => by obtain ⟨q0, q1, qP, qK, qD⟩ := q; exact ⟨q0, q1, qP, va_K.moved (u := U) (U := U.calling g mk a) (Vm.Alike.refl U.vm) qK, qD⟩, va_recv hK hP (ci := 13) (q0 := 1) rfl rfl, fun U hU hW => ⟨rfl, by rw [hU], by rw [hU]; exact hPc, va_K.moved hW.alike hK, hDc.weaken (fun _ _ _ _ => trivial)⟩⟩ rfl rfl hl.1 rfl (lv_room (Nat.le_of_ble_eq_true rfl)) dX7_clear_4 ⟨(by first | exact Nat.le_of_ble_eq_true rfl | omega | (dsimp only [headSpec]; omega) | (simp only [headSpec]; omega) | omega), (by first | exact Nat.le_of_ble_eq_true rfl | omega | (dsimp only [headSpec]; omega) | (simp only [headSpec]; omega) | omega)⟩) hS (fun q _ h => hFc q h) hFc (fun u t H locs ht hvm hw hB hz1 hk1 hS => ?_)
  obtain ⟨hP1, hK1, hD1⟩ := hB
  rw [ht] at hP1
  obtain ⟨hP, hD⟩ := va_join (wr := [(rn, .inr (14, [.ref vh, .ref eh])), wa vc cI 270 vf, (eh, .inr (13, [.ref ec, .int (nI en)])), wa ec cI 270 ef]) (w1 := [(vh, .inr (13, [.ref vc, .int (nI 0)]))]) hP hD [1] [0, 2, 3, 4] rfl rfl (by decide) (by decide) hk1 hFc hP1 hD1
  have hP : va_P (dC, dI) vwCl [(rn, .inr (14, [.ref vh, .ref eh])), wa vc cI 270 vf, (eh, .inr (13, [.ref ec, .int (nI en)])), wa ec cI 270 ef, (vh, .inr (13, [.ref vc, .int (nI 0)]))] H := hP
  have hD : va_D A [(rn, .inr (14, [.ref vh, .ref eh])), wa vc cI 270 vf, (eh, .inr (13, [.ref ec, .int (nI en)])), wa ec cI 270 ef, (vh, .inr (13, [.ref vc, .int (nI 0)]))] := hD
  refine lv_aload_n hx hb dX7_clear_7 rfl (lv_at hl 0 rfl) ?_
  refine va_get (D := (dC, dI)) (ci := 14) (v := .ref eh) (C := RX7) (T := TX7) (N := 2) hx hb hts inX7_clear_RX7 hown hK hP 0 rfl rfl 1 (by decide) (hts (.fieldLink RX7 20 "Patchferry$Runs" "ends" "LPatchferry$Row;") (by decide +kernel)) (fun _ h9 => h9) rfl dX7_clear_8 ?_
  have hPc : va_P (dC, dI) vwCl [(eh, .inr (13, [.ref ec, .int (nI en)]))] _ := hP.sub [2] rfl
  have hDc : va_D _ [(eh, .inr (13, [.ref ec, .int (nI en)]))] := hD.sub [2] (by decide) rfl
  have hFc := va_free (wc := [(eh, .inr (13, [.ref ec, .int (nI en)]))]) hD hS hA [2] rfl
  refine va_callv (va_runV (As := []) (rest := []) ⟨hx, hb, hml, hown, hts⟩ (c_clear l dC dI cI cO H.size eh ec (nI en)) (cwV 0 hts ugX7_clear_X6_clear rfl rfl rfl (by decide +kernel) ⟨(by first | exact Nat.le_of_ble_eq_true rfl | omega | (dsimp only [headSpec]; omega) | (simp only [headSpec]; omega) | omega), (by first | exact Nat.le_of_ble_eq_true rfl | omega | (dsimp only [headSpec]; omega) | (simp only [headSpec]; omega) | omega)⟩) ⟨fun a U g mk q => by obtain ⟨q0, q1, qP, qK, qD⟩ := q; exact ⟨q0, q1, qP, va_K.moved (u := U) (U := U.calling g mk a) (Vm.Alike.refl U.vm) qK, qD⟩, va_recv hK hP (ci := 13) (q0 := 2) rfl rfl, fun U hU hW => ⟨rfl, by rw [hU], by rw [hU]; exact hPc, va_K.moved hW.alike hK, hDc.weaken (fun _ _ _ _ => trivial)⟩⟩ rfl rfl hl.1 rfl (lv_room (Nat.le_of_ble_eq_true rfl)) dX7_clear_11 ⟨(by first | exact Nat.le_of_ble_eq_true rfl | omega | (dsimp only [headSpec]; omega) | (simp only [headSpec]; omega) | omega), (by first | exact Nat.le_of_ble_eq_true rfl | omega | (dsimp only [headSpec]; omega) | (simp only [headSpec]; omega) | omega)⟩) hS (fun q _ h => hFc q h) hFc (fun u t H locs ht hvm hw hB hz1 hk1 hS => ?_)
  obtain ⟨hP1, hK1, hD1⟩ := hB
  rw [ht] at hP1
  obtain ⟨hP, hD⟩ := va_join (wr := [(rn, .inr (14, [.ref vh, .ref eh])), wa vc cI 270 vf, wa ec cI 270 ef, (vh, .inr (13, [.ref vc, .int (nI 0)]))]) (w1 := [(eh, .inr (13, [.ref ec, .int (nI 0)]))]) hP hD [2] [0, 1, 3, 4] rfl rfl (by decide) (by decide) hk1 hFc hP1 hD1
  have hP : va_P (dC, dI) vwCl [(rn, .inr (14, [.ref vh, .ref eh])), wa vc cI 270 vf, wa ec cI 270 ef, (vh, .inr (13, [.ref vc, .int (nI 0)])), (eh, .inr (13, [.ref ec, .int (nI 0)]))] H := hP
  have hD : va_D A [(rn, .inr (14, [.ref vh, .ref eh])), wa vc cI 270 vf, wa ec cI 270 ef, (vh, .inr (13, [.ref vc, .int (nI 0)])), (eh, .inr (13, [.ref ec, .int (nI 0)]))] := hD
  have hPe : va_P (dC, dI) vwCl [(rn, .inr (14, [.ref vh, .ref eh])), (vh, .inr (13, [.ref vc, .int (nI 0)])), wa vc cI 270 vf, (eh, .inr (13, [.ref ec, .int (nI 0)])), wa ec cI 270 ef] _ := hP.sub [0, 3, 1, 4, 2] rfl
  have hDe : va_D A [(rn, .inr (14, [.ref vh, .ref eh])), (vh, .inr (13, [.ref vc, .int (nI 0)])), wa vc cI 270 vf, (eh, .inr (13, [.ref ec, .int (nI 0)])), wa ec cI 270 ef] := hD.sub [0, 3, 1, 4, 2] (by decide) rfl
  refine W.widen (k := 0) (n := 0) (by first | exact Nat.le_of_ble_eq_true rfl | omega | (dsimp only [headSpec]; omega) | (simp only [headSpec]; omega) | omega) (by first | exact Nat.le_of_ble_eq_true rfl | omega | (dsimp only [headSpec]; omega) | (simp only [headSpec]; omega) | omega) ?_
  exact W.vret hx hb hr (fun t ht hW => ⟨⟨(), rfl, trivial, by rw [ht]; exact hPe, va_K.moved hW.alike hK, hDe⟩, hS.F ht⟩) hS.2.2 dX7_clear_14
set_option maxHeartbeats 4000000 in
set_option maxRecDepth 100000 in
theorem c_runsput (l : Launch) (dC : Nat → ClassId) (dI : Nat → Nat → Nat) (cI cO : ClassId) (sz : Nat) (rn : Nat) (vh : Nat) (vc : Nat) (vn : Nat) (vf : Nat → Int32) (eh : Nat) (ec : Nat) (en : Nat) (ef : Nat → Int32) (p0 : Int32) (p1 : Int32) (hvn : vn ≤ 270) (hen : en ≤ 270) : Met l yX7_put usX7_put ({ frames := 1, cells := 0, slots := 0, locals := 22 }) (va_Pc [.ref rn, .int p0, .int p1] (fun U => U.heap.size = sz ∧ va_P (dC, dI) vwCl [(rn, .inr (14, [.ref vh, .ref eh])), (vh, .inr (13, [.ref vc, .int (nI vn)])), wa vc cI 270 vf, (eh, .inr (13, [.ref ec, .int (nI en)])), wa ec cI 270 ef] U.heap ∧ va_K (dC, dI) vwCl (ty0 cI cO) U ∧ va_D (fun _ => True) [(rn, .inr (14, [.ref vh, .ref eh])), (vh, .inr (13, [.ref vc, .int (nI vn)])), wa vc cI 270 vf, (eh, .inr (13, [.ref ec, .int (nI en)])), wa ec cI 270 ef])) (va_Qv (fun _ : Unit => True) (fun _ t => ∃ (vn2 : Nat), ∃ (vf2 : Nat → Int32), ∃ (en2 : Nat), ∃ (ef2 : Nat → Int32), (vn2 ≤ 270) ∧ (en2 ≤ 270) ∧ va_P (dC, dI) vwCl [(rn, .inr (14, [.ref vh, .ref eh])), (vh, .inr (13, [.ref vc, .int (nI vn2)])), wa vc cI 270 vf2, (eh, .inr (13, [.ref ec, .int (nI en2)])), wa ec cI 270 ef2] t.heap ∧ va_K (dC, dI) vwCl (ty0 cI cO) t ∧ va_D (va_A [(rn, .inr (14, [.ref vh, .ref eh])), (vh, .inr (13, [.ref vc, .int (nI vn)])), wa vc cI 270 vf, (eh, .inr (13, [.ref ec, .int (nI en)])), wa ec cI 270 ef] sz) [(rn, .inr (14, [.ref vh, .ref eh])), (vh, .inr (13, [.ref vc, .int (nI vn2)])), wa vc cI 270 vf2, (eh, .inr (13, [.ref ec, .int (nI en2)])), wa ec cI 270 ef2]) (va_A [(rn, .inr (14, [.ref vh, .ref eh])), (vh, .inr (13, [.ref vc, .int (nI vn)])), wa vc cI 270 vf, (eh, .inr (13, [.ref ec, .int (nI en)])), wa ec cI 270 ef] sz)) 0 0 (va_A [(rn, .inr (14, [.ref vh, .ref eh])), (vh, .inr (13, [.ref vc, .int (nI vn)])), wa vc cI 270 vf, (eh, .inr (13, [.ref ec, .int (nI en)])), wa ec cI 270 ef] sz) := by
  refine Met.ofW (cc := cX7_put) (maxL := 5) (ret := none) (by decide) rfl ?_
  intro p e s m args below meth c s₁ B hml hv
  obtain ⟨rfl, hsz, hP, hK, hD0⟩ := hv
  have hx := B.exec
  have hb := B.bytes
  have hr := B.returns
  have hts := atoms_spec (ws := usX7_put) B.pre
  have hown : s.vm.findClass RX7 = some m.cls := findClass_of_methodNamed B.named
  have hlocks := B.notSynchronized
  subst hsz
  have hD := hD0.self (sz := s.heap.size)
  generalize hAe : va_A [(rn, .inr (14, [.ref vh, .ref eh])), (vh, .inr (13, [.ref vc, .int (nI vn)])), wa vc cI 270 vf, (eh, .inr (13, [.ref ec, .int (nI en)])), wa ec cI 270 ef] s.heap.size = A at hD ⊢
  have hA : ∀ q : Nat, s.heap.size ≤ q → A q := fun q h => by rw [← hAe]; exact Or.inr h
  have hS : va_S A s.heap s.heap [] := va_S.rf
  have hl := lv_entry ([.ref rn, .int p0, .int p1]) (n := 5) (Nat.le_of_ble_eq_true rfl)
  rw [lg_entry_eq]
  generalize (lg_sl ([.ref rn, .int p0, .int p1]) ++ List.replicate (5 - (lg_sl ([.ref rn, .int p0, .int p1])).length) Slot.unset).toArray = ls at hl ⊢
  have hl : lv_has ls 5 [(0, .ref rn), (1, .int p0), (2, .int p1)] := hl
  refine lv_aload_n hx hb dX7_put_0 rfl (lv_at hl 0 rfl) ?_
  refine va_get (D := (dC, dI)) (ci := 14) (v := .ref vh) (C := RX7) (T := TX7) (N := 2) hx hb hts inX7_put_RX7 hown hK hP 0 rfl rfl 0 (by decide) (hts (.fieldLink RX7 14 "Patchferry$Runs" "values" "LPatchferry$Row;") (by decide +kernel)) (fun _ h9 => h9) rfl dX7_put_1 ?_
  have hPc : va_P (dC, dI) vwCl [(vh, .inr (13, [.ref vc, .int (nI vn)]))] _ := hP.sub [1] rfl
  refine uc_i (va_runV (As := []) (rest := []) ⟨hx, hb, hml, hown, hts⟩ (p_size l dC dI cI cO vh vc vn) (cwV 0 hts ugX7_put_X6_size rfl rfl rfl (by decide +kernel) ⟨(by first | exact Nat.le_of_ble_eq_true rfl | omega | (dsimp only [headSpec]; omega) | (simp only [headSpec]; omega) | omega), (by first | exact Nat.le_of_ble_eq_true rfl | omega | (dsimp only [headSpec]; omega) | (simp only [headSpec]; omega) | omega)⟩) ⟨fun a U g mk q => by obtain ⟨q0, qP, qK⟩ := q; exact ⟨q0, qP, va_K.moved (u := U) (U := U.calling g mk a) (Vm.Alike.refl U.vm) qK⟩, va_recv hK hP (ci := 13) (q0 := 1) rfl rfl, fun U hU hW => ⟨rfl, by rw [hU]; exact hPc, va_K.moved hW.alike hK⟩⟩ rfl rfl hl.1 rfl (lv_room (Nat.le_of_ble_eq_true rfl)) dX7_put_4 ⟨(by first | exact Nat.le_of_ble_eq_true rfl | omega | (dsimp only [headSpec]; omega) | (simp only [headSpec]; omega) | omega), (by first | exact Nat.le_of_ble_eq_true rfl | omega | (dsimp only [headSpec]; omega) | (simp only [headSpec]; omega) | omega)⟩) (fun r1 er1 => ?_)
  refine lv_iconst (v := nI 1) hx hb dX7_put_7 (by decide) ?_
  refine lv_isub hx hb dX7_put_8 ?_
  refine lv_topi (fun y_1 ey_1 => ?_)
  refine lv_istore_n (lv' := [(3, .int y_1), (0, .ref rn), (1, .int p0), (2, .int p1)]) hx hb dX7_put_9 rfl hl (by decide) rfl (fun ls hl => ?_)
  refine lv_aload_n hx hb dX7_put_10 rfl (lv_at hl 1 rfl) ?_
  refine va_get (D := (dC, dI)) (ci := 14) (v := .ref eh) (C := RX7) (T := TX7) (N := 2) hx hb hts inX7_put_RX7 hown hK hP 0 rfl rfl 1 (by decide) (hts (.fieldLink RX7 20 "Patchferry$Runs" "ends" "LPatchferry$Row;") (by decide +kernel)) (fun _ h9 => h9) rfl dX7_put_11 ?_
  refine lv_iload_n hx hb dX7_put_14 rfl (lv_at hl 0 rfl) ?_
  have hPc : va_P (dC, dI) vwCl [(eh, .inr (13, [.ref ec, .int (nI en)])), wa ec cI 270 ef] _ := hP.sub [3, 4] rfl
  refine uc_i (va_runV (As := [.int y_1]) (rest := []) ⟨hx, hb, hml, hown, hts⟩ (p_get l dC dI cI cO eh ec en 270 ef y_1 hen (by omega)) (cwV 1 hts ugX7_put_X6_get rfl rfl rfl (by decide +kernel) ⟨(by first | exact Nat.le_of_ble_eq_true rfl | omega | (dsimp only [headSpec]; omega) | (simp only [headSpec]; omega) | omega), (by first | exact Nat.le_of_ble_eq_true rfl | omega | (dsimp only [headSpec]; omega) | (simp only [headSpec]; omega) | omega)⟩) ⟨fun a U g mk q => by obtain ⟨q0, qP, qK⟩ := q; exact ⟨q0, qP, va_K.moved (u := U) (U := U.calling g mk a) (Vm.Alike.refl U.vm) qK⟩, va_recv hK hP (ci := 13) (q0 := 3) rfl rfl, fun U hU hW => ⟨rfl, by rw [hU]; exact hPc, va_K.moved hW.alike hK⟩⟩ rfl rfl hl.1 rfl (lv_room (Nat.le_of_ble_eq_true rfl)) dX7_put_15 ⟨(by first | exact Nat.le_of_ble_eq_true rfl | omega | (dsimp only [headSpec]; omega) | (simp only [headSpec]; omega) | omega), (by first | exact Nat.le_of_ble_eq_true rfl | omega | (dsimp only [headSpec]; omega) | (simp only [headSpec]; omega) | omega)⟩) (fun r2 er2 => ?_)
  refine lv_iload_n hx hb dX7_put_18 rfl (lv_at hl 3 rfl) ?_
  refine lv_iadd hx hb dX7_put_19 ?_
  refine lv_topi (fun y_2 ey_2 => ?_)
  refine lv_istore (lv' := [(4, .int y_2), (3, .int y_1), (0, .ref rn), (1, .int p0), (2, .int p1)]) hx hb dX7_put_20 hl (by decide) rfl (fun ls hl => ?_)
  refine lv_iload_n hx hb dX7_put_22 rfl (lv_at hl 1 rfl) ?_
  refine lv_if_lt (tgt := 49) hx hb dX7_put_23 (by decide) (fun c_3 => ?_) (fun c_3 => ?_)
  · refine lv_aload_n hx hb dX7_put_49 rfl (lv_at hl 2 rfl) ?_
    refine va_get (D := (dC, dI)) (ci := 14) (v := .ref vh) (C := RX7) (T := TX7) (N := 2) hx hb hts inX7_put_RX7 hown hK hP 0 rfl rfl 0 (by decide) (hts (.fieldLink RX7 14 "Patchferry$Runs" "values" "LPatchferry$Row;") (by decide +kernel)) (fun _ h9 => h9) rfl dX7_put_50 ?_
    refine lv_iload_n hx hb dX7_put_53 rfl (lv_at hl 3 rfl) ?_
    have hPc : va_P (dC, dI) vwCl [(vh, .inr (13, [.ref vc, .int (nI vn)])), wa vc cI 270 vf] _ := hP.sub [1, 2] rfl
    have hDc : va_D _ [(vh, .inr (13, [.ref vc, .int (nI vn)])), wa vc cI 270 vf] := hD.sub [1, 2] (by decide) rfl
    have hFc := va_free (wc := [(vh, .inr (13, [.ref vc, .int (nI vn)])), wa vc cI 270 vf]) hD hS hA [1, 2] rfl
    refine va_callv (va_runV (As := [.int p0]) (rest := []) ⟨hx, hb, hml, hown, hts⟩ (c_add l dC dI cI cO s.heap.size vh vc vn 270 vf p0 hvn (by omega)) (cwV 1 hts ugX7_put_X6_add rfl rfl rfl (by decide +kernel) ⟨(by first | exact Nat.le_of_ble_eq_true rfl | omega | (dsimp only [headSpec]; omega) | (simp only [headSpec]; omega) | omega), (by first | exact Nat.le_of_ble_eq_true rfl | omega | (dsimp only [headSpec]; omega) | (simp only [headSpec]; omega) | omega)⟩) ⟨fun a U g mk q => by obtain ⟨q0, q1, qP, qK, qD⟩ := q; exact ⟨q0, q1, qP, va_K.moved (u := U) (U := U.calling g mk a) (Vm.Alike.refl U.vm) qK, qD⟩, va_recv hK hP (ci := 13) (q0 := 1) rfl rfl, fun U hU hW => ⟨rfl, by rw [hU], by rw [hU]; exact hPc, va_K.moved hW.alike hK, hDc.weaken (fun _ _ _ _ => trivial)⟩⟩ rfl rfl hl.1 rfl (lv_room (Nat.le_of_ble_eq_true rfl)) dX7_put_54 ⟨(by first | exact Nat.le_of_ble_eq_true rfl | omega | (dsimp only [headSpec]; omega) | (simp only [headSpec]; omega) | omega), (by first | exact Nat.le_of_ble_eq_true rfl | omega | (dsimp only [headSpec]; omega) | (simp only [headSpec]; omega) | omega)⟩) hS (fun q _ h => hFc q h) hFc (fun u t H locs ht hvm hw hB hz1 hk1 hS => ?_)
    obtain ⟨vn2, vf2, hv2, hv3, hP1, hK1, hD1⟩ := hB
    rw [ht] at hP1
    obtain ⟨hP, hD⟩ := va_join (wr := [(rn, .inr (14, [.ref vh, .ref eh])), (eh, .inr (13, [.ref ec, .int (nI en)])), wa ec cI 270 ef]) (w1 := [(vh, .inr (13, [.ref vc, .int (nI vn2)])), wa vc cI 270 vf2]) hP hD [1, 2] [0, 3, 4] rfl rfl (by decide) (by decide) hk1 hFc hP1 hD1
    have hP : va_P (dC, dI) vwCl [(rn, .inr (14, [.ref vh, .ref eh])), (eh, .inr (13, [.ref ec, .int (nI en)])), wa ec cI 270 ef, (vh, .inr (13, [.ref vc, .int (nI vn2)])), wa vc cI 270 vf2] H := hP
    have hD : va_D A [(rn, .inr (14, [.ref vh, .ref eh])), (eh, .inr (13, [.ref ec, .int (nI en)])), wa ec cI 270 ef, (vh, .inr (13, [.ref vc, .int (nI vn2)])), wa vc cI 270 vf2] := hD
    refine lv_aload_n hx hb dX7_put_57 rfl (lv_at hl 2 rfl) ?_
    refine va_get (D := (dC, dI)) (ci := 14) (v := .ref eh) (C := RX7) (T := TX7) (N := 2) hx hb hts inX7_put_RX7 hown hK hP 0 rfl rfl 1 (by decide) (hts (.fieldLink RX7 20 "Patchferry$Runs" "ends" "LPatchferry$Row;") (by decide +kernel)) (fun _ h9 => h9) rfl dX7_put_58 ?_
    refine lv_iload hx hb dX7_put_61 (lv_at hl 0 rfl) ?_
    have hPc : va_P (dC, dI) vwCl [(eh, .inr (13, [.ref ec, .int (nI en)])), wa ec cI 270 ef] _ := hP.sub [1, 2] rfl
    have hDc : va_D _ [(eh, .inr (13, [.ref ec, .int (nI en)])), wa ec cI 270 ef] := hD.sub [1, 2] (by decide) rfl
    have hFc := va_free (wc := [(eh, .inr (13, [.ref ec, .int (nI en)])), wa ec cI 270 ef]) hD hS hA [1, 2] rfl
    refine va_callv (va_runV (As := [.int y_2]) (rest := []) ⟨hx, hb, hml, hown, hts⟩ (c_add l dC dI cI cO H.size eh ec en 270 ef y_2 hen (by omega)) (cwV 1 hts ugX7_put_X6_add rfl rfl rfl (by decide +kernel) ⟨(by first | exact Nat.le_of_ble_eq_true rfl | omega | (dsimp only [headSpec]; omega) | (simp only [headSpec]; omega) | omega), (by first | exact Nat.le_of_ble_eq_true rfl | omega | (dsimp only [headSpec]; omega) | (simp only [headSpec]; omega) | omega)⟩) ⟨fun a U g mk q => by obtain ⟨q0, q1, qP, qK, qD⟩ := q; exact ⟨q0, q1, qP, va_K.moved (u := U) (U := U.calling g mk a) (Vm.Alike.refl U.vm) qK, qD⟩, va_recv hK hP (ci := 13) (q0 := 1) rfl rfl, fun U hU hW => ⟨rfl, by rw [hU], by rw [hU]; exact hPc, va_K.moved hW.alike hK, hDc.weaken (fun _ _ _ _ => trivial)⟩⟩ rfl rfl hl.1 rfl (lv_room (Nat.le_of_ble_eq_true rfl)) dX7_put_63 ⟨(by first | exact Nat.le_of_ble_eq_true rfl | omega | (dsimp only [headSpec]; omega) | (simp only [headSpec]; omega) | omega), (by first | exact Nat.le_of_ble_eq_true rfl | omega | (dsimp only [headSpec]; omega) | (simp only [headSpec]; omega) | omega)⟩) hS (fun q _ h => hFc q h) hFc (fun u t H locs ht hvm hw hB hz1 hk1 hS => ?_)
    obtain ⟨en2, ef2, he2, he3, hP1, hK1, hD1⟩ := hB
    rw [ht] at hP1
    obtain ⟨hP, hD⟩ := va_join (wr := [(rn, .inr (14, [.ref vh, .ref eh])), (vh, .inr (13, [.ref vc, .int (nI vn2)])), wa vc cI 270 vf2]) (w1 := [(eh, .inr (13, [.ref ec, .int (nI en2)])), wa ec cI 270 ef2]) hP hD [1, 2] [0, 3, 4] rfl rfl (by decide) (by decide) hk1 hFc hP1 hD1
    have hP : va_P (dC, dI) vwCl [(rn, .inr (14, [.ref vh, .ref eh])), (vh, .inr (13, [.ref vc, .int (nI vn2)])), wa vc cI 270 vf2, (eh, .inr (13, [.ref ec, .int (nI en2)])), wa ec cI 270 ef2] H := hP
    have hD : va_D A [(rn, .inr (14, [.ref vh, .ref eh])), (vh, .inr (13, [.ref vc, .int (nI vn2)])), wa vc cI 270 vf2, (eh, .inr (13, [.ref ec, .int (nI en2)])), wa ec cI 270 ef2] := hD
    have hPe : va_P (dC, dI) vwCl [(rn, .inr (14, [.ref vh, .ref eh])), (vh, .inr (13, [.ref vc, .int (nI vn2)])), wa vc cI 270 vf2, (eh, .inr (13, [.ref ec, .int (nI en2)])), wa ec cI 270 ef2] _ := hP.sub [0, 1, 2, 3, 4] rfl
    have hDe : va_D A [(rn, .inr (14, [.ref vh, .ref eh])), (vh, .inr (13, [.ref vc, .int (nI vn2)])), wa vc cI 270 vf2, (eh, .inr (13, [.ref ec, .int (nI en2)])), wa ec cI 270 ef2] := hD.sub [0, 1, 2, 3, 4] (by decide) rfl
    refine W.widen (k := 0) (n := 0) (by first | exact Nat.le_of_ble_eq_true rfl | omega | (dsimp only [headSpec]; omega) | (simp only [headSpec]; omega) | omega) (by first | exact Nat.le_of_ble_eq_true rfl | omega | (dsimp only [headSpec]; omega) | (simp only [headSpec]; omega) | omega) ?_
    exact W.vret hx hb hr (fun t ht hW => ⟨⟨(), rfl, trivial, _, _, _, _, hv2, he2, by rw [ht]; exact hPe, va_K.moved hW.alike hK, hDe⟩, hS.F ht⟩) hS.2.2 dX7_put_66
  · refine lv_aload_n hx hb dX7_put_26 rfl (lv_at hl 2 rfl) ?_
    refine va_get (D := (dC, dI)) (ci := 14) (v := .ref vh) (C := RX7) (T := TX7) (N := 2) hx hb hts inX7_put_RX7 hown hK hP 0 rfl rfl 0 (by decide) (hts (.fieldLink RX7 14 "Patchferry$Runs" "values" "LPatchferry$Row;") (by decide +kernel)) (fun _ h9 => h9) rfl dX7_put_27 ?_
    refine lv_iload_n hx hb dX7_put_30 rfl (lv_at hl 1 rfl) ?_
    have hPc : va_P (dC, dI) vwCl [(vh, .inr (13, [.ref vc, .int (nI vn)])), wa vc cI 270 vf] _ := hP.sub [1, 2] rfl
    refine uc_i (va_runV (As := [.int y_1]) (rest := []) ⟨hx, hb, hml, hown, hts⟩ (p_get l dC dI cI cO vh vc vn 270 vf y_1 hvn (by omega)) (cwV 1 hts ugX7_put_X6_get rfl rfl rfl (by decide +kernel) ⟨(by first | exact Nat.le_of_ble_eq_true rfl | omega | (dsimp only [headSpec]; omega) | (simp only [headSpec]; omega) | omega), (by first | exact Nat.le_of_ble_eq_true rfl | omega | (dsimp only [headSpec]; omega) | (simp only [headSpec]; omega) | omega)⟩) ⟨fun a U g mk q => by obtain ⟨q0, qP, qK⟩ := q; exact ⟨q0, qP, va_K.moved (u := U) (U := U.calling g mk a) (Vm.Alike.refl U.vm) qK⟩, va_recv hK hP (ci := 13) (q0 := 1) rfl rfl, fun U hU hW => ⟨rfl, by rw [hU]; exact hPc, va_K.moved hW.alike hK⟩⟩ rfl rfl hl.1 rfl (lv_room (Nat.le_of_ble_eq_true rfl)) dX7_put_31 ⟨(by first | exact Nat.le_of_ble_eq_true rfl | omega | (dsimp only [headSpec]; omega) | (simp only [headSpec]; omega) | omega), (by first | exact Nat.le_of_ble_eq_true rfl | omega | (dsimp only [headSpec]; omega) | (simp only [headSpec]; omega) | omega)⟩) (fun r3 er3 => ?_)
    refine lv_iload_n hx hb dX7_put_34 rfl (lv_at hl 3 rfl) ?_
    refine lv_icmp_ne (tgt := 49) hx hb dX7_put_35 (by decide) (fun c_4 => ?_) (fun c_4 => ?_)
    · refine lv_aload_n hx hb dX7_put_49 rfl (lv_at hl 2 rfl) ?_
      refine va_get (D := (dC, dI)) (ci := 14) (v := .ref vh) (C := RX7) (T := TX7) (N := 2) hx hb hts inX7_put_RX7 hown hK hP 0 rfl rfl 0 (by decide) (hts (.fieldLink RX7 14 "Patchferry$Runs" "values" "LPatchferry$Row;") (by decide +kernel)) (fun _ h9 => h9) rfl dX7_put_50 ?_
      refine lv_iload_n hx hb dX7_put_53 rfl (lv_at hl 3 rfl) ?_
      have hPc : va_P (dC, dI) vwCl [(vh, .inr (13, [.ref vc, .int (nI vn)])), wa vc cI 270 vf] _ := hP.sub [1, 2] rfl
      have hDc : va_D _ [(vh, .inr (13, [.ref vc, .int (nI vn)])), wa vc cI 270 vf] := hD.sub [1, 2] (by decide) rfl
      have hFc := va_free (wc := [(vh, .inr (13, [.ref vc, .int (nI vn)])), wa vc cI 270 vf]) hD hS hA [1, 2] rfl
      refine va_callv (va_runV (As := [.int p0]) (rest := []) ⟨hx, hb, hml, hown, hts⟩ (c_add l dC dI cI cO s.heap.size vh vc vn 270 vf p0 hvn (by omega)) (cwV 1 hts ugX7_put_X6_add rfl rfl rfl (by decide +kernel) ⟨(by first | exact Nat.le_of_ble_eq_true rfl | omega | (dsimp only [headSpec]; omega) | (simp only [headSpec]; omega) | omega), (by first | exact Nat.le_of_ble_eq_true rfl | omega | (dsimp only [headSpec]; omega) | (simp only [headSpec]; omega) | omega)⟩) ⟨fun a U g mk q => by obtain ⟨q0, q1, qP, qK, qD⟩ := q; exact ⟨q0, q1, qP, va_K.moved (u := U) (U := U.calling g mk a) (Vm.Alike.refl U.vm) qK, qD⟩, va_recv hK hP (ci := 13) (q0 := 1) rfl rfl, fun U hU hW => ⟨rfl, by rw [hU], by rw [hU]; exact hPc, va_K.moved hW.alike hK, hDc.weaken (fun _ _ _ _ => trivial)⟩⟩ rfl rfl hl.1 rfl (lv_room (Nat.le_of_ble_eq_true rfl)) dX7_put_54 ⟨(by first | exact Nat.le_of_ble_eq_true rfl | omega | (dsimp only [headSpec]; omega) | (simp only [headSpec]; omega) | omega), (by first | exact Nat.le_of_ble_eq_true rfl | omega | (dsimp only [headSpec]; omega) | (simp only [headSpec]; omega) | omega)⟩) hS (fun q _ h => hFc q h) hFc (fun u t H locs ht hvm hw hB hz1 hk1 hS => ?_)
      obtain ⟨vn2, vf2, hv2, hv3, hP1, hK1, hD1⟩ := hB
      rw [ht] at hP1
      obtain ⟨hP, hD⟩ := va_join (wr := [(rn, .inr (14, [.ref vh, .ref eh])), (eh, .inr (13, [.ref ec, .int (nI en)])), wa ec cI 270 ef]) (w1 := [(vh, .inr (13, [.ref vc, .int (nI vn2)])), wa vc cI 270 vf2]) hP hD [1, 2] [0, 3, 4] rfl rfl (by decide) (by decide) hk1 hFc hP1 hD1
      have hP : va_P (dC, dI) vwCl [(rn, .inr (14, [.ref vh, .ref eh])), (eh, .inr (13, [.ref ec, .int (nI en)])), wa ec cI 270 ef, (vh, .inr (13, [.ref vc, .int (nI vn2)])), wa vc cI 270 vf2] H := hP
      have hD : va_D A [(rn, .inr (14, [.ref vh, .ref eh])), (eh, .inr (13, [.ref ec, .int (nI en)])), wa ec cI 270 ef, (vh, .inr (13, [.ref vc, .int (nI vn2)])), wa vc cI 270 vf2] := hD
      refine lv_aload_n hx hb dX7_put_57 rfl (lv_at hl 2 rfl) ?_
      refine va_get (D := (dC, dI)) (ci := 14) (v := .ref eh) (C := RX7) (T := TX7) (N := 2) hx hb hts inX7_put_RX7 hown hK hP 0 rfl rfl 1 (by decide) (hts (.fieldLink RX7 20 "Patchferry$Runs" "ends" "LPatchferry$Row;") (by decide +kernel)) (fun _ h9 => h9) rfl dX7_put_58 ?_
      refine lv_iload hx hb dX7_put_61 (lv_at hl 0 rfl) ?_
      have hPc : va_P (dC, dI) vwCl [(eh, .inr (13, [.ref ec, .int (nI en)])), wa ec cI 270 ef] _ := hP.sub [1, 2] rfl
      have hDc : va_D _ [(eh, .inr (13, [.ref ec, .int (nI en)])), wa ec cI 270 ef] := hD.sub [1, 2] (by decide) rfl
      have hFc := va_free (wc := [(eh, .inr (13, [.ref ec, .int (nI en)])), wa ec cI 270 ef]) hD hS hA [1, 2] rfl
      refine va_callv (va_runV (As := [.int y_2]) (rest := []) ⟨hx, hb, hml, hown, hts⟩ (c_add l dC dI cI cO H.size eh ec en 270 ef y_2 hen (by omega)) (cwV 1 hts ugX7_put_X6_add rfl rfl rfl (by decide +kernel) ⟨(by first | exact Nat.le_of_ble_eq_true rfl | omega | (dsimp only [headSpec]; omega) | (simp only [headSpec]; omega) | omega), (by first | exact Nat.le_of_ble_eq_true rfl | omega | (dsimp only [headSpec]; omega) | (simp only [headSpec]; omega) | omega)⟩) ⟨fun a U g mk q => by obtain ⟨q0, q1, qP, qK, qD⟩ := q; exact ⟨q0, q1, qP, va_K.moved (u := U) (U := U.calling g mk a) (Vm.Alike.refl U.vm) qK, qD⟩, va_recv hK hP (ci := 13) (q0 := 1) rfl rfl, fun U hU hW => ⟨rfl, by rw [hU], by rw [hU]; exact hPc, va_K.moved hW.alike hK, hDc.weaken (fun _ _ _ _ => trivial)⟩⟩ rfl rfl hl.1 rfl (lv_room (Nat.le_of_ble_eq_true rfl)) dX7_put_63 ⟨(by first | exact Nat.le_of_ble_eq_true rfl | omega | (dsimp only [headSpec]; omega) | (simp only [headSpec]; omega) | omega), (by first | exact Nat.le_of_ble_eq_true rfl | omega | (dsimp only [headSpec]; omega) | (simp only [headSpec]; omega) | omega)⟩) hS (fun q _ h => hFc q h) hFc (fun u t H locs ht hvm hw hB hz1 hk1 hS => ?_)
      obtain ⟨en2, ef2, he2, he3, hP1, hK1, hD1⟩ := hB
      rw [ht] at hP1
      obtain ⟨hP, hD⟩ := va_join (wr := [(rn, .inr (14, [.ref vh, .ref eh])), (vh, .inr (13, [.ref vc, .int (nI vn2)])), wa vc cI 270 vf2]) (w1 := [(eh, .inr (13, [.ref ec, .int (nI en2)])), wa ec cI 270 ef2]) hP hD [1, 2] [0, 3, 4] rfl rfl (by decide) (by decide) hk1 hFc hP1 hD1
      have hP : va_P (dC, dI) vwCl [(rn, .inr (14, [.ref vh, .ref eh])), (vh, .inr (13, [.ref vc, .int (nI vn2)])), wa vc cI 270 vf2, (eh, .inr (13, [.ref ec, .int (nI en2)])), wa ec cI 270 ef2] H := hP
      have hD : va_D A [(rn, .inr (14, [.ref vh, .ref eh])), (vh, .inr (13, [.ref vc, .int (nI vn2)])), wa vc cI 270 vf2, (eh, .inr (13, [.ref ec, .int (nI en2)])), wa ec cI 270 ef2] := hD
      have hPe : va_P (dC, dI) vwCl [(rn, .inr (14, [.ref vh, .ref eh])), (vh, .inr (13, [.ref vc, .int (nI vn2)])), wa vc cI 270 vf2, (eh, .inr (13, [.ref ec, .int (nI en2)])), wa ec cI 270 ef2] _ := hP.sub [0, 1, 2, 3, 4] rfl
      have hDe : va_D A [(rn, .inr (14, [.ref vh, .ref eh])), (vh, .inr (13, [.ref vc, .int (nI vn2)])), wa vc cI 270 vf2, (eh, .inr (13, [.ref ec, .int (nI en2)])), wa ec cI 270 ef2] := hD.sub [0, 1, 2, 3, 4] (by decide) rfl
      refine W.widen (k := 0) (n := 0) (by first | exact Nat.le_of_ble_eq_true rfl | omega | (dsimp only [headSpec]; omega) | (simp only [headSpec]; omega) | omega) (by first | exact Nat.le_of_ble_eq_true rfl | omega | (dsimp only [headSpec]; omega) | (simp only [headSpec]; omega) | omega) ?_
      exact W.vret hx hb hr (fun t ht hW => ⟨⟨(), rfl, trivial, _, _, _, _, hv2, he2, by rw [ht]; exact hPe, va_K.moved hW.alike hK, hDe⟩, hS.F ht⟩) hS.2.2 dX7_put_66
    · refine lv_aload_n hx hb dX7_put_38 rfl (lv_at hl 2 rfl) ?_
      refine va_get (D := (dC, dI)) (ci := 14) (v := .ref eh) (C := RX7) (T := TX7) (N := 2) hx hb hts inX7_put_RX7 hown hK hP 0 rfl rfl 1 (by decide) (hts (.fieldLink RX7 20 "Patchferry$Runs" "ends" "LPatchferry$Row;") (by decide +kernel)) (fun _ h9 => h9) rfl dX7_put_39 ?_
      refine lv_iload_n hx hb dX7_put_42 rfl (lv_at hl 1 rfl) ?_
      refine lv_iload hx hb dX7_put_43 (lv_at hl 0 rfl) ?_
      have hPc : va_P (dC, dI) vwCl [(eh, .inr (13, [.ref ec, .int (nI en)])), wa ec cI 270 ef] _ := hP.sub [3, 4] rfl
      have hDc : va_D _ [(eh, .inr (13, [.ref ec, .int (nI en)])), wa ec cI 270 ef] := hD.sub [3, 4] (by decide) rfl
      have hFc := va_free (wc := [(eh, .inr (13, [.ref ec, .int (nI en)])), wa ec cI 270 ef]) hD hS hA [3, 4] rfl
      refine va_callv (va_runV (As := [.int y_1, .int y_2]) (rest := []) ⟨hx, hb, hml, hown, hts⟩ (c_set l dC dI cI cO s.heap.size eh ec en 270 ef y_1 y_2 hen (by omega)) (cwV 2 hts ugX7_put_X6_set rfl rfl rfl (by decide +kernel) ⟨(by first | exact Nat.le_of_ble_eq_true rfl | omega | (dsimp only [headSpec]; omega) | (simp only [headSpec]; omega) | omega), (by first | exact Nat.le_of_ble_eq_true rfl | omega | (dsimp only [headSpec]; omega) | (simp only [headSpec]; omega) | omega)⟩) ⟨fun a U g mk q => by obtain ⟨q0, q1, qP, qK, qD⟩ := q; exact ⟨q0, q1, qP, va_K.moved (u := U) (U := U.calling g mk a) (Vm.Alike.refl U.vm) qK, qD⟩, va_recv hK hP (ci := 13) (q0 := 3) rfl rfl, fun U hU hW => ⟨rfl, by rw [hU], by rw [hU]; exact hPc, va_K.moved hW.alike hK, hDc.weaken (fun _ _ _ _ => trivial)⟩⟩ rfl rfl hl.1 rfl (lv_room (Nat.le_of_ble_eq_true rfl)) dX7_put_45 ⟨(by first | exact Nat.le_of_ble_eq_true rfl | omega | (dsimp only [headSpec]; omega) | (simp only [headSpec]; omega) | omega), (by first | exact Nat.le_of_ble_eq_true rfl | omega | (dsimp only [headSpec]; omega) | (simp only [headSpec]; omega) | omega)⟩) hS (fun q _ h => hFc q h) hFc (fun u t H locs ht hvm hw hB hz1 hk1 hS => ?_)
      obtain ⟨ef2, hP1, hK1, hD1⟩ := hB
      rw [ht] at hP1
      obtain ⟨hP, hD⟩ := va_join (wr := [(rn, .inr (14, [.ref vh, .ref eh])), (vh, .inr (13, [.ref vc, .int (nI vn)])), wa vc cI 270 vf]) (w1 := [(eh, .inr (13, [.ref ec, .int (nI en)])), wa ec cI 270 ef2]) hP hD [3, 4] [0, 1, 2] rfl rfl (by decide) (by decide) hk1 hFc hP1 hD1
      have hP : va_P (dC, dI) vwCl [(rn, .inr (14, [.ref vh, .ref eh])), (vh, .inr (13, [.ref vc, .int (nI vn)])), wa vc cI 270 vf, (eh, .inr (13, [.ref ec, .int (nI en)])), wa ec cI 270 ef2] H := hP
      have hD : va_D A [(rn, .inr (14, [.ref vh, .ref eh])), (vh, .inr (13, [.ref vc, .int (nI vn)])), wa vc cI 270 vf, (eh, .inr (13, [.ref ec, .int (nI en)])), wa ec cI 270 ef2] := hD
      have hPe : va_P (dC, dI) vwCl [(rn, .inr (14, [.ref vh, .ref eh])), (vh, .inr (13, [.ref vc, .int (nI vn)])), wa vc cI 270 vf, (eh, .inr (13, [.ref ec, .int (nI en)])), wa ec cI 270 ef2] _ := hP.sub [0, 1, 2, 3, 4] rfl
      have hDe : va_D A [(rn, .inr (14, [.ref vh, .ref eh])), (vh, .inr (13, [.ref vc, .int (nI vn)])), wa vc cI 270 vf, (eh, .inr (13, [.ref ec, .int (nI en)])), wa ec cI 270 ef2] := hD.sub [0, 1, 2, 3, 4] (by decide) rfl
      refine W.widen (k := 0) (n := 0) (by first | exact Nat.le_of_ble_eq_true rfl | omega | (dsimp only [headSpec]; omega) | (simp only [headSpec]; omega) | omega) (by first | exact Nat.le_of_ble_eq_true rfl | omega | (dsimp only [headSpec]; omega) | (simp only [headSpec]; omega) | omega) ?_
      exact W.vret hx hb hr (fun t ht hW => ⟨⟨(), rfl, trivial, _, _, _, _, hvn, hen, by rw [ht]; exact hPe, va_K.moved hW.alike hK, hDe⟩, hS.F ht⟩) hS.2.2 dX7_put_48
set_option maxHeartbeats 4000000 in
set_option maxRecDepth 100000 in
theorem unfold_loop {p : Program} {l : Launch} {e : Env} {R : Room} {s : State} {m : MethodId} {args : Array Value} {below : List Frame} {meth : Method} {c : Code} {cells slots : Nat} {Q : State → Prop} {dC : Nat → ClassId} {dI : Nat → Nat → Nat} {cI cO : ClassId} {rn : Nat} {vh : Nat} {vc : Nat} {eh : Nat} {ec : Nat} {tx : Nat} {tc : Nat} {tf : Nat → Int32} {A : Nat → Prop} {H0 : Heap} (hx : p.tables.exec = Jvm.exec) (hb : c.code = cX7_unfold) (hml : c.maxLocals = 5) (hown : s.vm.findClass RX7 = some m.cls) (hts : ∀ w ∈ usX7_unfold, w.before args s = true) (hK : va_K (dC, dI) vwCl (ty0 cI cO) s) (hRf : 9 ≤ R.frames) (hRl : 99 ≤ R.locals) (hRc : cells + 0 ≤ R.cells) (hRs : slots + 0 ≤ R.slots) (hA : ∀ q : Nat, H0.size ≤ q → A q) (htf : ∀ j, j < 199 → tf j = nI 255) (kk : ∀ (vn : Nat) (vf : Nat → Int32) (en : Nat) (ef : Nat → Int32) (H : Heap) (locs : List Loc) (ls : Array Slot), (vn ≤ 270) → (en ≤ 270) → va_P (dC, dI) vwCl [(rn, .inr (14, [.ref vh, .ref eh])), (vh, .inr (13, [.ref vc, .int (nI vn)])), wa vc cI 270 vf, (eh, .inr (13, [.ref ec, .int (nI en)])), wa ec cI 270 ef, (tx, .inr (13, [.ref tc, .int (nI 199)])), wa tc cI 199 tf] H → va_D A [(rn, .inr (14, [.ref vh, .ref eh])), (vh, .inr (13, [.ref vc, .int (nI vn)])), wa vc cI 270 vf, (eh, .inr (13, [.ref ec, .int (nI en)])), wa ec cI 270 ef, (tx, .inr (13, [.ref tc, .int (nI 199)])), wa tc cI 199 tf] → va_S A H0 H locs → lv_has ls 5 [(0, .ref rn)] → W p l e R s m args below meth c H locs cells slots Q (F0 m 63 ls [])) :
    ∀ (k : Nat), ∀ (tt : Nat) (vn : Nat) (vf : Nat → Int32) (en : Nat) (ef : Nat → Int32) (H : Heap) (locs : List Loc) (ls : Array Slot), (66 < tt + k) → (tt ≤ 66) → (vn ≤ 270) → (en ≤ 270) → va_P (dC, dI) vwCl [(rn, .inr (14, [.ref vh, .ref eh])), (vh, .inr (13, [.ref vc, .int (nI vn)])), wa vc cI 270 vf, (eh, .inr (13, [.ref ec, .int (nI en)])), wa ec cI 270 ef, (tx, .inr (13, [.ref tc, .int (nI 199)])), wa tc cI 199 tf] H → va_D A [(rn, .inr (14, [.ref vh, .ref eh])), (vh, .inr (13, [.ref vc, .int (nI vn)])), wa vc cI 270 vf, (eh, .inr (13, [.ref ec, .int (nI en)])), wa ec cI 270 ef, (tx, .inr (13, [.ref tc, .int (nI 199)])), wa tc cI 199 tf] → va_S A H0 H locs → lv_has ls 5 [(0, .ref rn), (1, .ref tx), (2, .int (nI (3 * tt)))] → W p l e R s m args below meth c H locs cells slots Q (F0 m 6 ls []) := by
  intro k
  induction k with
  | zero => intro tt vn vf en ef H locs ls hk ht hvn hen hP hD hS hl; omega
  | succ k ih =>
    intro tt vn vf en ef H locs ls hk ht hvn hen hP hD hS hl
    refine lv_iload_n hx hb dX7_unfold_6 rfl (lv_at hl 2 rfl) ?_
    refine lv_aload_n hx hb dX7_unfold_7 rfl (lv_at hl 1 rfl) ?_
    have hPc : va_P (dC, dI) vwCl [(tx, .inr (13, [.ref tc, .int (nI 199)]))] _ := hP.sub [5] rfl
    refine uc_i (va_runV (As := []) (rest := [.int (nI (3 * tt))]) ⟨hx, hb, hml, hown, hts⟩ (p_size l dC dI cI cO tx tc 199) (cwV 0 hts ugX7_unfold_X6_size rfl rfl rfl (by decide +kernel) ⟨(by first | exact Nat.le_of_ble_eq_true rfl | omega | (dsimp only [headSpec]; omega) | (simp only [headSpec]; omega) | omega), (by first | exact Nat.le_of_ble_eq_true rfl | omega | (dsimp only [headSpec]; omega) | (simp only [headSpec]; omega) | omega)⟩) ⟨fun a U g mk q => by obtain ⟨q0, qP, qK⟩ := q; exact ⟨q0, qP, va_K.moved (u := U) (U := U.calling g mk a) (Vm.Alike.refl U.vm) qK⟩, va_recv hK hP (ci := 13) (q0 := 5) rfl rfl, fun U hU hW => ⟨rfl, by rw [hU]; exact hPc, va_K.moved hW.alike hK⟩⟩ rfl rfl hl.1 rfl (lv_room (Nat.le_of_ble_eq_true rfl)) dX7_unfold_8 ⟨(by first | exact Nat.le_of_ble_eq_true rfl | omega | (dsimp only [headSpec]; omega) | (simp only [headSpec]; omega) | omega), (by first | exact Nat.le_of_ble_eq_true rfl | omega | (dsimp only [headSpec]; omega) | (simp only [headSpec]; omega) | omega)⟩) (fun r1 er1 => ?_)
    subst er1
    refine lv_icmp_ge (tgt := 84) hx hb dX7_unfold_11 (by decide) (fun hh => absurd hh (nI_ge (a := 3 * tt) (b := 199) (by omega) (by omega))) (fun hh => ?_)
    refine lv_aload_n hx hb dX7_unfold_14 rfl (lv_at hl 1 rfl) ?_
    refine lv_iload_n hx hb dX7_unfold_15 rfl (lv_at hl 2 rfl) ?_
    have hPc : va_P (dC, dI) vwCl [(tx, .inr (13, [.ref tc, .int (nI 199)])), wa tc cI 199 tf] _ := hP.sub [5, 6] rfl
    refine uc_i (va_runV (As := [.int (nI (3 * tt))]) (rest := []) ⟨hx, hb, hml, hown, hts⟩ (p_get l dC dI cI cO tx tc 199 199 tf (nI (3 * tt)) (by omega) (by omega)) (cwV 1 hts ugX7_unfold_X6_get rfl rfl rfl (by decide +kernel) ⟨(by first | exact Nat.le_of_ble_eq_true rfl | omega | (dsimp only [headSpec]; omega) | (simp only [headSpec]; omega) | omega), (by first | exact Nat.le_of_ble_eq_true rfl | omega | (dsimp only [headSpec]; omega) | (simp only [headSpec]; omega) | omega)⟩) ⟨fun a U g mk q => by obtain ⟨q0, qP, qK⟩ := q; exact ⟨q0, qP, va_K.moved (u := U) (U := U.calling g mk a) (Vm.Alike.refl U.vm) qK⟩, va_recv hK hP (ci := 13) (q0 := 5) rfl rfl, fun U hU hW => ⟨rfl, by rw [hU]; exact hPc, va_K.moved hW.alike hK⟩⟩ rfl rfl hl.1 rfl (lv_room (Nat.le_of_ble_eq_true rfl)) dX7_unfold_16 ⟨(by first | exact Nat.le_of_ble_eq_true rfl | omega | (dsimp only [headSpec]; omega) | (simp only [headSpec]; omega) | omega), (by first | exact Nat.le_of_ble_eq_true rfl | omega | (dsimp only [headSpec]; omega) | (simp only [headSpec]; omega) | omega)⟩) (fun r2 er2 => ?_)
    obtain rfl : r2 = nI 255 := (er2.1 (3 * tt) (by omega) rfl).trans (htf _ (by omega))
    refine lv_istore_n (lv' := [(3, .int (nI 255)), (0, .ref rn), (1, .ref tx), (2, .int (nI (3 * tt)))]) hx hb dX7_unfold_19 rfl hl (by decide) rfl (fun ls hl => ?_)
    refine lv_iload_n hx hb dX7_unfold_20 rfl (lv_at hl 0 rfl) ?_
    refine lv_sipush (v := nI 255) hx hb dX7_unfold_21 (by decide) ?_
    refine lv_icmp_eq (tgt := 39) hx hb dX7_unfold_24 (by decide) (fun hq => ?_) (fun hq => absurd rfl hq)
    refine lv_aload_n hx hb dX7_unfold_39 rfl (lv_at hl 2 rfl) ?_
    refine lv_iload_n hx hb dX7_unfold_40 rfl (lv_at hl 3 rfl) ?_
    refine lv_iconst (v := nI 1) hx hb dX7_unfold_41 (by decide) ?_
    refine lv_iadd hx hb dX7_unfold_42 ?_
    refine lv_topi (fun y_1 ey_1 => ?_)
    have h_2 : y_1 = nI (3 * tt + 1) := ey_1.trans (nI_add _ _)
    subst h_2
    have hPc : va_P (dC, dI) vwCl [(tx, .inr (13, [.ref tc, .int (nI 199)])), wa tc cI 199 tf] _ := hP.sub [5, 6] rfl
    refine uc_i (va_runV (As := [.int (nI (3 * tt + 1))]) (rest := []) ⟨hx, hb, hml, hown, hts⟩ (p_get l dC dI cI cO tx tc 199 199 tf (nI (3 * tt + 1)) (by omega) (by omega)) (cwV 1 hts ugX7_unfold_X6_get rfl rfl rfl (by decide +kernel) ⟨(by first | exact Nat.le_of_ble_eq_true rfl | omega | (dsimp only [headSpec]; omega) | (simp only [headSpec]; omega) | omega), (by first | exact Nat.le_of_ble_eq_true rfl | omega | (dsimp only [headSpec]; omega) | (simp only [headSpec]; omega) | omega)⟩) ⟨fun a U g mk q => by obtain ⟨q0, qP, qK⟩ := q; exact ⟨q0, qP, va_K.moved (u := U) (U := U.calling g mk a) (Vm.Alike.refl U.vm) qK⟩, va_recv hK hP (ci := 13) (q0 := 5) rfl rfl, fun U hU hW => ⟨rfl, by rw [hU]; exact hPc, va_K.moved hW.alike hK⟩⟩ rfl rfl hl.1 rfl (lv_room (Nat.le_of_ble_eq_true rfl)) dX7_unfold_43 ⟨(by first | exact Nat.le_of_ble_eq_true rfl | omega | (dsimp only [headSpec]; omega) | (simp only [headSpec]; omega) | omega), (by first | exact Nat.le_of_ble_eq_true rfl | omega | (dsimp only [headSpec]; omega) | (simp only [headSpec]; omega) | omega)⟩) (fun r3 er3 => ?_)
    refine lv_istore (lv' := [(4, .int r3), (3, .int (nI 255)), (0, .ref rn), (1, .ref tx), (2, .int (nI (3 * tt)))]) hx hb dX7_unfold_46 hl (by decide) rfl (fun ls hl => ?_)
    refine lv_iload_n hx hb dX7_unfold_48 rfl (lv_at hl 4 rfl) ?_
    refine lv_iconst (v := nI 2) hx hb dX7_unfold_49 (by decide) ?_
    refine lv_iadd hx hb dX7_unfold_50 ?_
    refine lv_topi (fun y_3 ey_3 => ?_)
    have h_4 : y_3 = nI (3 * tt + 2) := ey_3.trans (nI_add _ _)
    subst h_4
    refine lv_aload_n hx hb dX7_unfold_51 rfl (lv_at hl 3 rfl) ?_
    have hPc : va_P (dC, dI) vwCl [(tx, .inr (13, [.ref tc, .int (nI 199)]))] _ := hP.sub [5] rfl
    refine uc_i (va_runV (As := []) (rest := [.int (nI (3 * tt + 2))]) ⟨hx, hb, hml, hown, hts⟩ (p_size l dC dI cI cO tx tc 199) (cwV 0 hts ugX7_unfold_X6_size rfl rfl rfl (by decide +kernel) ⟨(by first | exact Nat.le_of_ble_eq_true rfl | omega | (dsimp only [headSpec]; omega) | (simp only [headSpec]; omega) | omega), (by first | exact Nat.le_of_ble_eq_true rfl | omega | (dsimp only [headSpec]; omega) | (simp only [headSpec]; omega) | omega)⟩) ⟨fun a U g mk q => by obtain ⟨q0, qP, qK⟩ := q; exact ⟨q0, qP, va_K.moved (u := U) (U := U.calling g mk a) (Vm.Alike.refl U.vm) qK⟩, va_recv hK hP (ci := 13) (q0 := 5) rfl rfl, fun U hU hW => ⟨rfl, by rw [hU]; exact hPc, va_K.moved hW.alike hK⟩⟩ rfl rfl hl.1 rfl (lv_room (Nat.le_of_ble_eq_true rfl)) dX7_unfold_52 ⟨(by first | exact Nat.le_of_ble_eq_true rfl | omega | (dsimp only [headSpec]; omega) | (simp only [headSpec]; omega) | omega), (by first | exact Nat.le_of_ble_eq_true rfl | omega | (dsimp only [headSpec]; omega) | (simp only [headSpec]; omega) | omega)⟩) (fun r4 er4 => ?_)
    subst er4
    refine lv_icmp_ge (tgt := 63) hx hb dX7_unfold_55 (by decide) (fun c_5 => ?_) (fun c_5 => ?_)
    · exact kk vn vf en ef H locs ls hvn hen hP hD hS (lv_sub hl [2] rfl)
    · have hlt : 3 * tt + 2 < 199 := by
        rcases Nat.lt_or_ge (3 * tt + 2) 199 with q | q
        · exact q
        · exact absurd (nI_le q (by omega)) c_5
      obtain rfl : r3 = nI 255 := (er3.1 (3 * tt + 1) (by omega) rfl).trans (htf _ (by omega))
      refine lv_iload hx hb dX7_unfold_58 (lv_at hl 0 rfl) ?_
      refine lv_if_ne (tgt := 65) hx hb dX7_unfold_60 (by decide) (fun hz => ?_) (fun hz => absurd hz (by decide))
      refine lv_aload_n hx hb dX7_unfold_65 rfl (lv_at hl 2 rfl) ?_
      refine lv_aload_n hx hb dX7_unfold_66 rfl (lv_at hl 3 rfl) ?_
      refine lv_iload_n hx hb dX7_unfold_67 rfl (lv_at hl 4 rfl) ?_
      refine lv_iconst (v := nI 2) hx hb dX7_unfold_68 (by decide) ?_
      refine lv_iadd hx hb dX7_unfold_69 ?_
      refine lv_topi (fun y_6 ey_6 => ?_)
      have h_7 : y_6 = nI (3 * tt + 2) := ey_6.trans (nI_add _ _)
      subst h_7
      have hPc : va_P (dC, dI) vwCl [(tx, .inr (13, [.ref tc, .int (nI 199)])), wa tc cI 199 tf] _ := hP.sub [5, 6] rfl
      refine uc_i (va_runV (As := [.int (nI (3 * tt + 2))]) (rest := [.ref rn]) ⟨hx, hb, hml, hown, hts⟩ (p_get l dC dI cI cO tx tc 199 199 tf (nI (3 * tt + 2)) (by omega) (by omega)) (cwV 1 hts ugX7_unfold_X6_get rfl rfl rfl (by decide +kernel) ⟨(by first | exact Nat.le_of_ble_eq_true rfl | omega | (dsimp only [headSpec]; omega) | (simp only [headSpec]; omega) | omega), (by first | exact Nat.le_of_ble_eq_true rfl | omega | (dsimp only [headSpec]; omega) | (simp only [headSpec]; omega) | omega)⟩) ⟨fun a U g mk q => by obtain ⟨q0, qP, qK⟩ := q; exact ⟨q0, qP, va_K.moved (u := U) (U := U.calling g mk a) (Vm.Alike.refl U.vm) qK⟩, va_recv hK hP (ci := 13) (q0 := 5) rfl rfl, fun U hU hW => ⟨rfl, by rw [hU]; exact hPc, va_K.moved hW.alike hK⟩⟩ rfl rfl hl.1 rfl (lv_room (Nat.le_of_ble_eq_true rfl)) dX7_unfold_70 ⟨(by first | exact Nat.le_of_ble_eq_true rfl | omega | (dsimp only [headSpec]; omega) | (simp only [headSpec]; omega) | omega), (by first | exact Nat.le_of_ble_eq_true rfl | omega | (dsimp only [headSpec]; omega) | (simp only [headSpec]; omega) | omega)⟩) (fun r5 er5 => ?_)
      refine lv_iload hx hb dX7_unfold_73 (lv_at hl 0 rfl) ?_
      have hPc : va_P (dC, dI) vwCl [(rn, .inr (14, [.ref vh, .ref eh])), (vh, .inr (13, [.ref vc, .int (nI vn)])), wa vc cI 270 vf, (eh, .inr (13, [.ref ec, .int (nI en)])), wa ec cI 270 ef] _ := hP.sub [0, 1, 2, 3, 4] rfl
      have hDc : va_D _ [(rn, .inr (14, [.ref vh, .ref eh])), (vh, .inr (13, [.ref vc, .int (nI vn)])), wa vc cI 270 vf, (eh, .inr (13, [.ref ec, .int (nI en)])), wa ec cI 270 ef] := hD.sub [0, 1, 2, 3, 4] (by decide) rfl
      have hFc := va_free (wc := [(rn, .inr (14, [.ref vh, .ref eh])), (vh, .inr (13, [.ref vc, .int (nI vn)])), wa vc cI 270 vf, (eh, .inr (13, [.ref ec, .int (nI en)])), wa ec cI 270 ef]) hD hS hA [0, 1, 2, 3, 4] rfl
      refine va_callv (va_runV (As := [.int r5, .int (nI 255)]) (rest := []) ⟨hx, hb, hml, hown, hts⟩ (c_runsput l dC dI cI cO H.size rn vh vc vn vf eh ec en ef r5 (nI 255) hvn hen) (cwV 2 hts ugX7_unfold_X7_put rfl rfl rfl (by decide +kernel) ⟨(by first | exact Nat.le_of_ble_eq_true rfl | omega | (dsimp only [headSpec]; omega) | (simp only [headSpec]; omega) | omega), (by first | exact Nat.le_of_ble_eq_true rfl | omega | (dsimp only [headSpec]; omega) | (simp only [headSpec]; omega) | omega)⟩) ⟨fun a U g mk q => by obtain ⟨q0, q1, qP, qK, qD⟩ := q; exact ⟨q0, q1, qP, va_K.moved (u := U) (U := U.calling g mk a) (Vm.Alike.refl U.vm) qK, qD⟩, va_recv hK hP (ci := 14) (q0 := 0) rfl rfl, fun U hU hW => ⟨rfl, by rw [hU], by rw [hU]; exact hPc, va_K.moved hW.alike hK, hDc.weaken (fun _ _ _ _ => trivial)⟩⟩ rfl rfl hl.1 rfl (lv_room (Nat.le_of_ble_eq_true rfl)) dX7_unfold_75 ⟨(by first | exact Nat.le_of_ble_eq_true rfl | omega | (dsimp only [headSpec]; omega) | (simp only [headSpec]; omega) | omega), (by first | exact Nat.le_of_ble_eq_true rfl | omega | (dsimp only [headSpec]; omega) | (simp only [headSpec]; omega) | omega)⟩) hS (fun q _ h => hFc q h) hFc (fun u t H locs ht hvm hw hB hz1 hk1 hS => ?_)
      obtain ⟨vn2, vf2, en2, ef2, hvn2, hen2, hP1, hK1, hD1⟩ := hB
      rw [ht] at hP1
      obtain ⟨hP, hD⟩ := va_join (wr := [(tx, .inr (13, [.ref tc, .int (nI 199)])), wa tc cI 199 tf]) (w1 := [(rn, .inr (14, [.ref vh, .ref eh])), (vh, .inr (13, [.ref vc, .int (nI vn2)])), wa vc cI 270 vf2, (eh, .inr (13, [.ref ec, .int (nI en2)])), wa ec cI 270 ef2]) hP hD [0, 1, 2, 3, 4] [5, 6] rfl rfl (by decide) (by decide) hk1 hFc hP1 hD1
      have hP : va_P (dC, dI) vwCl [(tx, .inr (13, [.ref tc, .int (nI 199)])), wa tc cI 199 tf, (rn, .inr (14, [.ref vh, .ref eh])), (vh, .inr (13, [.ref vc, .int (nI vn2)])), wa vc cI 270 vf2, (eh, .inr (13, [.ref ec, .int (nI en2)])), wa ec cI 270 ef2] H := hP
      have hD : va_D A [(tx, .inr (13, [.ref tc, .int (nI 199)])), wa tc cI 199 tf, (rn, .inr (14, [.ref vh, .ref eh])), (vh, .inr (13, [.ref vc, .int (nI vn2)])), wa vc cI 270 vf2, (eh, .inr (13, [.ref ec, .int (nI en2)])), wa ec cI 270 ef2] := hD
      refine lv_iinc (v := (nI (3 * (tt + 1)))) (lv' := [(2, .int (nI (3 * (tt + 1)))), (4, .int (nI 255)), (3, .int (nI 255)), (0, .ref rn), (1, .ref tx)]) hx hb dX7_unfold_78 hl (k := 4) rfl (by rw [show Int32.ofInt 3 = nI 3 from rfl, nI_add]; rfl) (by decide) rfl (fun ls hl => ?_)
      refine lv_goto (tgt := 6) hx hb dX7_unfold_81 (by decide) ?_
      exact ih (tt + 1) vn2 vf2 en2 ef2 H locs ls (by omega) (by omega) hvn2 hen2 (hP.sub [2, 3, 4, 5, 6, 0, 1] rfl) (hD.sub [2, 3, 4, 5, 6, 0, 1] (by decide) rfl) hS (lv_sub hl [3, 4, 0] rfl)
set_option maxHeartbeats 4000000 in
set_option maxRecDepth 100000 in
theorem c_unfold (l : Launch) (dC : Nat → ClassId) (dI : Nat → Nat → Nat) (cI cO : ClassId) (sz : Nat) (rn : Nat) (vh : Nat) (vc : Nat) (vn : Nat) (vf : Nat → Int32) (eh : Nat) (ec : Nat) (en : Nat) (ef : Nat → Int32) (tx : Nat) (tc : Nat) (tf : Nat → Int32) (htf : ∀ j, j < 199 → tf j = nI 255) : Met l yX7_unfold usX7_unfold ({ frames := 9, cells := 0, slots := 0, locals := 99 }) (va_Pc [.ref rn, .ref tx] (fun U => U.heap.size = sz ∧ va_P (dC, dI) vwCl [(rn, .inr (14, [.ref vh, .ref eh])), (vh, .inr (13, [.ref vc, .int (nI vn)])), wa vc cI 270 vf, (eh, .inr (13, [.ref ec, .int (nI en)])), wa ec cI 270 ef, (tx, .inr (13, [.ref tc, .int (nI 199)])), wa tc cI 199 tf] U.heap ∧ va_K (dC, dI) vwCl (ty0 cI cO) U ∧ va_D (fun _ => True) [(rn, .inr (14, [.ref vh, .ref eh])), (vh, .inr (13, [.ref vc, .int (nI vn)])), wa vc cI 270 vf, (eh, .inr (13, [.ref ec, .int (nI en)])), wa ec cI 270 ef, (tx, .inr (13, [.ref tc, .int (nI 199)])), wa tc cI 199 tf])) (va_Qi (fun (r : Int32) (_ : Unit) => r = nI 0) (fun _ t => ∃ (vn2 : Nat), ∃ (vf2 : Nat → Int32), ∃ (en2 : Nat), ∃ (ef2 : Nat → Int32), (vn2 ≤ 270) ∧ (en2 ≤ 270) ∧ va_P (dC, dI) vwCl [(rn, .inr (14, [.ref vh, .ref eh])), (vh, .inr (13, [.ref vc, .int (nI vn2)])), wa vc cI 270 vf2, (eh, .inr (13, [.ref ec, .int (nI en2)])), wa ec cI 270 ef2, (tx, .inr (13, [.ref tc, .int (nI 199)])), wa tc cI 199 tf] t.heap ∧ va_K (dC, dI) vwCl (ty0 cI cO) t ∧ va_D (va_A [(rn, .inr (14, [.ref vh, .ref eh])), (vh, .inr (13, [.ref vc, .int (nI vn)])), wa vc cI 270 vf, (eh, .inr (13, [.ref ec, .int (nI en)])), wa ec cI 270 ef, (tx, .inr (13, [.ref tc, .int (nI 199)])), wa tc cI 199 tf] sz) [(rn, .inr (14, [.ref vh, .ref eh])), (vh, .inr (13, [.ref vc, .int (nI vn2)])), wa vc cI 270 vf2, (eh, .inr (13, [.ref ec, .int (nI en2)])), wa ec cI 270 ef2, (tx, .inr (13, [.ref tc, .int (nI 199)])), wa tc cI 199 tf]) (va_A [(rn, .inr (14, [.ref vh, .ref eh])), (vh, .inr (13, [.ref vc, .int (nI vn)])), wa vc cI 270 vf, (eh, .inr (13, [.ref ec, .int (nI en)])), wa ec cI 270 ef, (tx, .inr (13, [.ref tc, .int (nI 199)])), wa tc cI 199 tf] sz)) 0 0 (va_A [(rn, .inr (14, [.ref vh, .ref eh])), (vh, .inr (13, [.ref vc, .int (nI vn)])), wa vc cI 270 vf, (eh, .inr (13, [.ref ec, .int (nI en)])), wa ec cI 270 ef, (tx, .inr (13, [.ref tc, .int (nI 199)])), wa tc cI 199 tf] sz) := by
  refine Met.ofW (cc := cX7_unfold) (maxL := 5) (ret := (some .boolean)) (by decide) rfl ?_
  intro p e s m args below meth c s₁ B hml hv
  obtain ⟨rfl, hsz, hP, hK, hD0⟩ := hv
  have hx := B.exec
  have hb := B.bytes
  have hr := B.returns
  have hts := atoms_spec (ws := usX7_unfold) B.pre
  have hown : s.vm.findClass RX7 = some m.cls := findClass_of_methodNamed B.named
  have hlocks := B.notSynchronized
  subst hsz
  have hD := hD0.self (sz := s.heap.size)
  generalize hAe : va_A [(rn, .inr (14, [.ref vh, .ref eh])), (vh, .inr (13, [.ref vc, .int (nI vn)])), wa vc cI 270 vf, (eh, .inr (13, [.ref ec, .int (nI en)])), wa ec cI 270 ef, (tx, .inr (13, [.ref tc, .int (nI 199)])), wa tc cI 199 tf] s.heap.size = A at hD ⊢
  have hA : ∀ q : Nat, s.heap.size ≤ q → A q := fun q h => by rw [← hAe]; exact Or.inr h
  have hS : va_S A s.heap s.heap [] := va_S.rf
  have hl := lv_entry ([.ref rn, .ref tx]) (n := 5) (Nat.le_of_ble_eq_true rfl)
  rw [lg_entry_eq]
  generalize (lg_sl ([.ref rn, .ref tx]) ++ List.replicate (5 - (lg_sl ([.ref rn, .ref tx])).length) Slot.unset).toArray = ls at hl ⊢
  have hl : lv_has ls 5 [(0, .ref rn), (1, .ref tx)] := hl
  refine lv_aload_n hx hb dX7_unfold_0 rfl (lv_at hl 0 rfl) ?_
  have hPc : va_P (dC, dI) vwCl [(rn, .inr (14, [.ref vh, .ref eh])), (vh, .inr (13, [.ref vc, .int (nI vn)])), wa vc cI 270 vf, (eh, .inr (13, [.ref ec, .int (nI en)])), wa ec cI 270 ef] _ := hP.sub [0, 1, 2, 3, 4] rfl
  have hDc : va_D _ [(rn, .inr (14, [.ref vh, .ref eh])), (vh, .inr (13, [.ref vc, .int (nI vn)])), wa vc cI 270 vf, (eh, .inr (13, [.ref ec, .int (nI en)])), wa ec cI 270 ef] := hD.sub [0, 1, 2, 3, 4] (by decide) rfl
  have hFc := va_free (wc := [(rn, .inr (14, [.ref vh, .ref eh])), (vh, .inr (13, [.ref vc, .int (nI vn)])), wa vc cI 270 vf, (eh, .inr (13, [.ref ec, .int (nI en)])), wa ec cI 270 ef]) hD hS hA [0, 1, 2, 3, 4] rfl
  refine va_callv (va_runV (As := []) (rest := []) ⟨hx, hb, hml, hown, hts⟩ (c_runsclear l dC dI cI cO s.heap.size rn vh vc vn vf eh ec en ef) (cwV 0 hts ugX7_unfold_X7_clear rfl rfl rfl (by decide +kernel) ⟨(by first | exact Nat.le_of_ble_eq_true rfl | omega | (dsimp only [headSpec]; omega) | (simp only [headSpec]; omega) | omega), (by first | exact Nat.le_of_ble_eq_true rfl | omega | (dsimp only [headSpec]; omega) | (simp only [headSpec]; omega) | omega)⟩) ⟨fun a U g mk q => by obtain ⟨q0, q1, qP, qK, qD⟩ := q; exact ⟨q0, q1, qP, va_K.moved (u := U) (U := U.calling g mk a) (Vm.Alike.refl U.vm) qK, qD⟩, va_recv hK hP (ci := 14) (q0 := 0) rfl rfl, fun U hU hW => ⟨rfl, by rw [hU], by rw [hU]; exact hPc, va_K.moved hW.alike hK, hDc.weaken (fun _ _ _ _ => trivial)⟩⟩ rfl rfl hl.1 rfl (lv_room (Nat.le_of_ble_eq_true rfl)) dX7_unfold_1 ⟨(by first | exact Nat.le_of_ble_eq_true rfl | omega | (dsimp only [headSpec]; omega) | (simp only [headSpec]; omega) | omega), (by first | exact Nat.le_of_ble_eq_true rfl | omega | (dsimp only [headSpec]; omega) | (simp only [headSpec]; omega) | omega)⟩) hS (fun q _ h => hFc q h) hFc (fun u t H locs ht hvm hw hB hz1 hk1 hS => ?_)
  obtain ⟨hP1, hK1, hD1⟩ := hB
  rw [ht] at hP1
  obtain ⟨hP, hD⟩ := va_join (wr := [(tx, .inr (13, [.ref tc, .int (nI 199)])), wa tc cI 199 tf]) (w1 := [(rn, .inr (14, [.ref vh, .ref eh])), (vh, .inr (13, [.ref vc, .int (nI 0)])), wa vc cI 270 vf, (eh, .inr (13, [.ref ec, .int (nI 0)])), wa ec cI 270 ef]) hP hD [0, 1, 2, 3, 4] [5, 6] rfl rfl (by decide) (by decide) hk1 hFc hP1 hD1
  have hP : va_P (dC, dI) vwCl [(tx, .inr (13, [.ref tc, .int (nI 199)])), wa tc cI 199 tf, (rn, .inr (14, [.ref vh, .ref eh])), (vh, .inr (13, [.ref vc, .int (nI 0)])), wa vc cI 270 vf, (eh, .inr (13, [.ref ec, .int (nI 0)])), wa ec cI 270 ef] H := hP
  have hD : va_D A [(tx, .inr (13, [.ref tc, .int (nI 199)])), wa tc cI 199 tf, (rn, .inr (14, [.ref vh, .ref eh])), (vh, .inr (13, [.ref vc, .int (nI 0)])), wa vc cI 270 vf, (eh, .inr (13, [.ref ec, .int (nI 0)])), wa ec cI 270 ef] := hD
  refine lv_iconst (v := nI 0) hx hb dX7_unfold_4 (by decide) ?_
  refine lv_istore_n (lv' := [(2, .int (nI 0)), (0, .ref rn), (1, .ref tx)]) hx hb dX7_unfold_5 rfl hl (by decide) rfl (fun ls hl => ?_)
  refine unfold_loop (tf := tf) hx hb hml hown hts hK (by first | exact Nat.le_of_ble_eq_true rfl | omega | (dsimp only [headSpec]; omega) | (simp only [headSpec]; omega) | omega) (by first | exact Nat.le_of_ble_eq_true rfl | omega | (dsimp only [headSpec]; omega) | (simp only [headSpec]; omega) | omega) (by first | exact Nat.le_of_ble_eq_true rfl | omega | (dsimp only [headSpec]; omega) | (simp only [headSpec]; omega) | omega) (by first | exact Nat.le_of_ble_eq_true rfl | omega | (dsimp only [headSpec]; omega) | (simp only [headSpec]; omega) | omega) hA htf ?_ 67 0 0 vf 0 ef H locs ls (by omega) (by omega) (by omega) (by omega) (hP.sub [2, 3, 4, 5, 6, 0, 1] rfl) (hD.sub [2, 3, 4, 5, 6, 0, 1] (by decide) rfl) hS (lv_sub hl [1, 2, 0] rfl)
  intro vn2 vf2 en2 ef2 H locs ls hv2 he2 hP hD hS hl
  refine lv_iconst (v := nI 0) hx hb dX7_unfold_63 (by decide) ?_
  have hPe : va_P (dC, dI) vwCl [(rn, .inr (14, [.ref vh, .ref eh])), (vh, .inr (13, [.ref vc, .int (nI vn2)])), wa vc cI 270 vf2, (eh, .inr (13, [.ref ec, .int (nI en2)])), wa ec cI 270 ef2, (tx, .inr (13, [.ref tc, .int (nI 199)])), wa tc cI 199 tf] _ := hP.sub [0, 1, 2, 3, 4, 5, 6] rfl
  have hDe : va_D A [(rn, .inr (14, [.ref vh, .ref eh])), (vh, .inr (13, [.ref vc, .int (nI vn2)])), wa vc cI 270 vf2, (eh, .inr (13, [.ref ec, .int (nI en2)])), wa ec cI 270 ef2, (tx, .inr (13, [.ref tc, .int (nI 199)])), wa tc cI 199 tf] := hD.sub [0, 1, 2, 3, 4, 5, 6] (by decide) rfl
  refine W.widen (k := 0) (n := 0) (by first | exact Nat.le_of_ble_eq_true rfl | omega | (dsimp only [headSpec]; omega) | (simp only [headSpec]; omega) | omega) (by first | exact Nat.le_of_ble_eq_true rfl | omega | (dsimp only [headSpec]; omega) | (simp only [headSpec]; omega) | omega) ?_
  exact W.zret (v := nI 0) hx hb hr rfl (fun t ht hW => ⟨⟨_, (), rfl, rfl, _, _, _, _, hv2, he2, by rw [ht]; exact hPe, va_K.moved hW.alike hK, hDe⟩, hS.F ht⟩) hS.2.2 dX7_unfold_64
