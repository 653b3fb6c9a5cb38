/-! laid by wip/whole: names, words and decode rows from the print of the task; the contracts are told in wip/whole/*.py -/
theorem dX6_strongSum_0 : decode cX6_strongSum 0 = .ok (.iload_n 1, 1) := by decide +kernel
theorem dX6_strongSum_1 : decode cX6_strongSum 1 = .ok (.istore 4, 2) := by decide +kernel
theorem dX6_strongSum_3 : decode cX6_strongSum 3 = .ok (.iconst 0, 1) := by decide +kernel
theorem dX6_strongSum_4 : decode cX6_strongSum 4 = .ok (.istore 5, 2) := by decide +kernel
theorem dX6_strongSum_6 : decode cX6_strongSum 6 = .ok (.iload 5, 2) := by decide +kernel
theorem dX6_strongSum_8 : decode cX6_strongSum 8 = .ok (.iload_n 3, 1) := by decide +kernel
theorem dX6_strongSum_9 : decode cX6_strongSum 9 = .ok (.if_icmp .ge 31, 3) := by decide +kernel
theorem dX6_strongSum_12 : decode cX6_strongSum 12 = .ok (.sipush 257, 3) := by decide +kernel
theorem dX6_strongSum_15 : decode cX6_strongSum 15 = .ok (.iload 4, 2) := by decide +kernel
theorem dX6_strongSum_17 : decode cX6_strongSum 17 = .ok (.imul, 1) := by decide +kernel
theorem dX6_strongSum_18 : decode cX6_strongSum 18 = .ok (.aload_n 0, 1) := by decide +kernel
theorem dX6_strongSum_19 : decode cX6_strongSum 19 = .ok (.iload_n 2, 1) := by decide +kernel
theorem dX6_strongSum_20 : decode cX6_strongSum 20 = .ok (.iload 5, 2) := by decide +kernel
theorem dX6_strongSum_22 : decode cX6_strongSum 22 = .ok (.iadd, 1) := by decide +kernel
theorem dX6_strongSum_23 : decode cX6_strongSum 23 = .ok (.invokevirtual 38, 3) := by decide +kernel
theorem dX6_strongSum_26 : decode cX6_strongSum 26 = .ok (.iadd, 1) := by decide +kernel
theorem dX6_strongSum_27 : decode cX6_strongSum 27 = .ok (.iconst 1, 1) := by decide +kernel
theorem dX6_strongSum_28 : decode cX6_strongSum 28 = .ok (.iadd, 1) := by decide +kernel
theorem dX6_strongSum_29 : decode cX6_strongSum 29 = .ok (.ldc 53, 2) := by decide +kernel
theorem dX6_strongSum_31 : decode cX6_strongSum 31 = .ok (.irem, 1) := by decide +kernel
theorem dX6_strongSum_32 : decode cX6_strongSum 32 = .ok (.istore 4, 2) := by decide +kernel
theorem dX6_strongSum_34 : decode cX6_strongSum 34 = .ok (.iinc 5 1, 3) := by decide +kernel
theorem dX6_strongSum_37 : decode cX6_strongSum 37 = .ok (.goto (-31), 3) := by decide +kernel
theorem dX6_strongSum_40 : decode cX6_strongSum 40 = .ok (.iload 4, 2) := by decide +kernel
theorem dX6_strongSum_42 : decode cX6_strongSum 42 = .ok (.ireturn, 1) := by decide +kernel
theorem dX6_agrees_0 : decode cX6_agrees 0 = .ok (.iconst 0, 1) := by decide +kernel
theorem dX6_agrees_1 : decode cX6_agrees 1 = .ok (.istore 5, 2) := by decide +kernel
theorem dX6_agrees_3 : decode cX6_agrees 3 = .ok (.iload 5, 2) := by decide +kernel
theorem dX6_agrees_5 : decode cX6_agrees 5 = .ok (.iload 4, 2) := by decide +kernel
theorem dX6_agrees_7 : decode cX6_agrees 7 = .ok (.if_icmp .ge 30, 3) := by decide +kernel
theorem dX6_agrees_10 : decode cX6_agrees 10 = .ok (.aload_n 0, 1) := by decide +kernel
theorem dX6_agrees_11 : decode cX6_agrees 11 = .ok (.iload_n 1, 1) := by decide +kernel
theorem dX6_agrees_12 : decode cX6_agrees 12 = .ok (.iload 5, 2) := by decide +kernel
theorem dX6_agrees_14 : decode cX6_agrees 14 = .ok (.iadd, 1) := by decide +kernel
theorem dX6_agrees_15 : decode cX6_agrees 15 = .ok (.invokevirtual 38, 3) := by decide +kernel
theorem dX6_agrees_18 : decode cX6_agrees 18 = .ok (.aload_n 2, 1) := by decide +kernel
theorem dX6_agrees_19 : decode cX6_agrees 19 = .ok (.iload_n 3, 1) := by decide +kernel
theorem dX6_agrees_20 : decode cX6_agrees 20 = .ok (.iload 5, 2) := by decide +kernel
theorem dX6_agrees_22 : decode cX6_agrees 22 = .ok (.iadd, 1) := by decide +kernel
theorem dX6_agrees_23 : decode cX6_agrees 23 = .ok (.invokevirtual 38, 3) := by decide +kernel
theorem dX6_agrees_26 : decode cX6_agrees 26 = .ok (.if_icmp .eq 5, 3) := by decide +kernel
theorem dX6_agrees_29 : decode cX6_agrees 29 = .ok (.iconst 0, 1) := by decide +kernel
theorem dX6_agrees_30 : decode cX6_agrees 30 = .ok (.ireturn, 1) := by decide +kernel
theorem dX6_agrees_31 : decode cX6_agrees 31 = .ok (.iinc 5 1, 3) := by decide +kernel
theorem dX6_agrees_34 : decode cX6_agrees 34 = .ok (.goto (-31), 3) := by decide +kernel
theorem dX6_agrees_37 : decode cX6_agrees 37 = .ok (.iconst 1, 1) := by decide +kernel
theorem dX6_agrees_38 : decode cX6_agrees 38 = .ok (.ireturn, 1) := by decide +kernel
theorem dX6_copyFrom_0 : decode cX6_copyFrom 0 = .ok (.aload_n 0, 1) := by decide +kernel
theorem dX6_copyFrom_1 : decode cX6_copyFrom 1 = .ok (.invokevirtual 35, 3) := by decide +kernel
theorem dX6_copyFrom_4 : decode cX6_copyFrom 4 = .ok (.iconst 0, 1) := by decide +kernel
theorem dX6_copyFrom_5 : decode cX6_copyFrom 5 = .ok (.istore_n 2, 1) := by decide +kernel
theorem dX6_copyFrom_6 : decode cX6_copyFrom 6 = .ok (.iload_n 2, 1) := by decide +kernel
theorem dX6_copyFrom_7 : decode cX6_copyFrom 7 = .ok (.aload_n 1, 1) := by decide +kernel
theorem dX6_copyFrom_8 : decode cX6_copyFrom 8 = .ok (.getfield 21, 3) := by decide +kernel
theorem dX6_copyFrom_11 : decode cX6_copyFrom 11 = .ok (.if_icmp .ge 18, 3) := by decide +kernel
theorem dX6_copyFrom_14 : decode cX6_copyFrom 14 = .ok (.aload_n 0, 1) := by decide +kernel
theorem dX6_copyFrom_15 : decode cX6_copyFrom 15 = .ok (.aload_n 1, 1) := by decide +kernel
theorem dX6_copyFrom_16 : decode cX6_copyFrom 16 = .ok (.iload_n 2, 1) := by decide +kernel
theorem dX6_copyFrom_17 : decode cX6_copyFrom 17 = .ok (.invokevirtual 38, 3) := by decide +kernel
theorem dX6_copyFrom_20 : decode cX6_copyFrom 20 = .ok (.invokevirtual 42, 3) := by decide +kernel
theorem dX6_copyFrom_23 : decode cX6_copyFrom 23 = .ok (.iinc 2 1, 3) := by decide +kernel
theorem dX6_copyFrom_26 : decode cX6_copyFrom 26 = .ok (.goto (-20), 3) := by decide +kernel
theorem dX6_copyFrom_29 : decode cX6_copyFrom 29 = .ok (.return_, 1) := by decide +kernel
theorem dX6_copy_0 : decode cX6_copy 0 = .ok (.new 16, 3) := by decide +kernel
theorem dX6_copy_3 : decode cX6_copy 3 = .ok (.dup, 1) := by decide +kernel
theorem dX6_copy_4 : decode cX6_copy 4 = .ok (.aload_n 0, 1) := by decide +kernel
theorem dX6_copy_5 : decode cX6_copy 5 = .ok (.getfield 21, 3) := by decide +kernel
theorem dX6_copy_8 : decode cX6_copy 8 = .ok (.invokespecial 28, 3) := by decide +kernel
theorem dX6_copy_11 : decode cX6_copy 11 = .ok (.astore_n 1, 1) := by decide +kernel
theorem dX6_copy_12 : decode cX6_copy 12 = .ok (.aload_n 1, 1) := by decide +kernel
theorem dX6_copy_13 : decode cX6_copy 13 = .ok (.aload_n 0, 1) := by decide +kernel
theorem dX6_copy_14 : decode cX6_copy 14 = .ok (.invokevirtual 31, 3) := by decide +kernel
theorem dX6_copy_17 : decode cX6_copy 17 = .ok (.aload_n 1, 1) := by decide +kernel
theorem dX6_copy_18 : decode cX6_copy 18 = .ok (.areturn, 1) := by decide +kernel
def usX6_strongSum : List Cond := .code yX6_strongSum cX6_strongSum 6 (some .int) :: ([.constant RX6 53 (1000003), .methodLink RX6 38 yX6_get, .instanceMethod yX6_get, .selects RX6 yX6_get yX6_get, .initialized RX6, .code yX6_get cX6_get 2 (some .int), .fieldLink RX6 21 "Patchferry$Row" "size" "I", .fieldLink RX6 15 "Patchferry$Row" "cells" "[I"] ++ wsX60)
def usX6_agrees : List Cond := .code yX6_agrees cX6_agrees 6 (some .boolean) :: ([.methodLink RX6 38 yX6_get, .instanceMethod yX6_get, .selects RX6 yX6_get yX6_get, .initialized RX6, .code yX6_get cX6_get 2 (some .int), .fieldLink RX6 21 "Patchferry$Row" "size" "I", .fieldLink RX6 15 "Patchferry$Row" "cells" "[I"] ++ wsX60)
def usX6_copyFrom : List Cond := .code yX6_copyFrom cX6_copyFrom 3 none :: ([.fieldLink RX6 21 "Patchferry$Row" "size" "I", .methodLink RX6 35 yX6_clear, .instanceMethod yX6_clear, .selects RX6 yX6_clear yX6_clear, .initialized RX6, .code yX6_clear cX6_clear 1 none, .methodLink RX6 38 yX6_get, .instanceMethod yX6_get, .selects RX6 yX6_get yX6_get, .code yX6_get cX6_get 2 (some .int), .fieldLink RX6 15 "Patchferry$Row" "cells" "[I", .methodLink RX6 42 yX6_add, .instanceMethod yX6_add, .selects RX6 yX6_add yX6_add, .code yX6_add cX6_add 2 none] ++ wsX60)
def usX6_copy_r1 : List Cond := [Cond.classLink RX6 16 RX6, Cond.instantiable RX6 2, Cond.initialized RX6, Cond.fieldLink RX6 21 "Patchferry$Row" "size" "I", Cond.methodLink RX6 28 yX6_init, Cond.instanceMethod yX6_init, Cond.code yX6_init cX6_init 2 none, Cond.methodLink RX6 3 objectInit, Cond.instanceMethod objectInit, Cond.code objectInit ⟨#[0xb1]⟩ 1 none, Cond.methodLink RX6 9 Lib.Math.max.name, Cond.static Lib.Math.max.name, Cond.initialized "java/lang/Math", Cond.code Lib.Math.max.name Lib.Math.max.code 2 (some .int), Cond.arrayClass .int, Cond.fieldLink RX6 15 "Patchferry$Row" "cells" "[I", Cond.methodLink RX6 31 yX6_copyFrom, Cond.instanceMethod yX6_copyFrom, Cond.selects RX6 yX6_copyFrom yX6_copyFrom, Cond.code yX6_copyFrom cX6_copyFrom 3 none]
def usX6_copy_r2 : List Cond := [Cond.methodLink RX6 35 yX6_clear, Cond.instanceMethod yX6_clear, Cond.selects RX6 yX6_clear yX6_clear, Cond.code yX6_clear cX6_clear 1 none, Cond.methodLink RX6 38 yX6_get, Cond.instanceMethod yX6_get, Cond.selects RX6 yX6_get yX6_get, Cond.code yX6_get cX6_get 2 (some .int), Cond.methodLink RX6 42 yX6_add, Cond.instanceMethod yX6_add, Cond.selects RX6 yX6_add yX6_add, Cond.code yX6_add cX6_add 2 none]
def usX6_copy : List Cond := .code yX6_copy cX6_copy 2 (some (.object "Patchferry$Row")) :: ((usX6_copy_r1 ++ (usX6_copy_r2)) ++ wsX60)
theorem inX6_copyFrom_RX6 : ∀ w ∈ u_ws RX6 TX6 2, w ∈ usX6_copyFrom := by decide +kernel
theorem inX6_copy_RX6 : ∀ w ∈ u_ws RX6 TX6 2, w ∈ usX6_copy := by decide +kernel
set_option maxRecDepth 20000 in
theorem ugX6_strongSum_X6_get : GoodIn usX6_strongSum (wsV RX6 38 RX6 yX6_get usX6_get) := goodIn_p _ [6] (by decide +kernel) (by decide +kernel)
set_option maxRecDepth 20000 in
theorem ugX6_agrees_X6_get : GoodIn usX6_agrees (wsV RX6 38 RX6 yX6_get usX6_get) := goodIn_p _ [5] (by decide +kernel) (by decide +kernel)
set_option maxRecDepth 20000 in
theorem ugX6_copyFrom_X6_get : GoodIn usX6_copyFrom (wsV RX6 38 RX6 yX6_get usX6_get) := goodIn_p _ [10] (by decide +kernel) (by decide +kernel)
set_option maxRecDepth 20000 in
theorem ugX6_copyFrom_X6_add : GoodIn usX6_copyFrom (wsV RX6 42 RX6 yX6_add usX6_add) := goodIn_p _ [15] (by decide +kernel) (by decide +kernel)
set_option maxRecDepth 20000 in
theorem ugX6_copyFrom_X6_clear : GoodIn usX6_copyFrom (wsV RX6 35 RX6 yX6_clear usX6_clear) := goodIn_p _ [6] (by decide +kernel) (by decide +kernel)
set_option maxRecDepth 20000 in
theorem ugX6_copy_X6_init : GoodIn usX6_copy (usX6_init) := goodIn_p _ [7, 10, 14] (by decide +kernel) (by decide +kernel)
set_option maxRecDepth 20000 in
theorem ugX6_copy_X6_copyFrom : GoodIn usX6_copy (wsV RX6 31 RX6 yX6_copyFrom usX6_copyFrom) := goodIn_p _ [20, 24, 28, 32] (by decide +kernel) (by decide +kernel)
set_option maxHeartbeats 4000000 in
set_option maxRecDepth 100000 in
theorem strong_loop {p : Program} {l : Launch} {e : Env} {R : Room} {s : State} {m : MethodId} {args : Array Value} {below : List Frame} {meth : Method} {c : Code} {cells slots : Nat} {Q : State → Prop} {dC : Nat → ClassId} {dI : Nat → Nat → Nat} {cI cO : ClassId} {h : Nat} {ca : Nat} {n : Nat} {L : Nat} {f : Nat → Int32} {p0 : Int32} {p1 : Int32} {p2 : Int32} {H : Heap} {locs : List Loc} (hx : p.tables.exec = Jvm.exec) (hb : c.code = cX6_strongSum) (hml : c.maxLocals = 6) (hown : s.vm.findClass RX6 = some m.cls) (hts : ∀ w ∈ usX6_strongSum, w.before args s = true) (hK : va_K (dC, dI) vwCl (ty0 cI cO) s) (hRf : 1 ≤ R.frames) (hRl : 21 ≤ R.locals) (hRc : cells + 0 ≤ R.cells) (hRs : slots + 0 ≤ R.slots) (hP : va_P (dC, dI) vwCl [(h, .inr (13, [.ref ca, .int (nI n)])), wa ca cI L f] H) (hn : n ≤ L) (hL : L ≤ 100000) (kk : ∀ (x4 : Int32) (x5 : Int32) (ls : Array Slot), lv_has ls 6 [(0, .ref h), (1, .int p0), (2, .int p1), (3, .int p2), (4, .int x4), (5, .int x5)] → W p l e R s m args below meth c H locs cells slots Q (F0 m 40 ls [])) :
    ∀ (k : Nat), ∀ (x4 : Int32) (x5 : Int32) (ls : Array Slot), (um x5 p2 < k) → lv_has ls 6 [(0, .ref h), (1, .int p0), (2, .int p1), (3, .int p2), (4, .int x4), (5, .int x5)] → W p l e R s m args below meth c H locs cells slots Q (F0 m 6 ls []) := by
  intro k
  induction k with
  | zero => intro x4 x5 ls hk  hl; omega
  | succ k ih =>
    intro x4 x5 ls hk  hl
    refine lv_iload hx hb dX6_strongSum_6 (lv_at hl 5 rfl) ?_
    refine lv_iload_n hx hb dX6_strongSum_8 rfl (lv_at hl 3 rfl) ?_
    refine lv_icmp_ge (tgt := 40) hx hb dX6_strongSum_9 (by decide) (fun c_1 => ?_) (fun c_1 => ?_)
    · exact kk x4 x5 ls  (lv_sub hl [0, 1, 2, 3, 4, 5] rfl)
    · have hm := um_lt c_1
      refine lv_sipush (v := nI 257) hx hb dX6_strongSum_12 (by decide) ?_
      refine lv_iload hx hb dX6_strongSum_15 (lv_at hl 4 rfl) ?_
      refine lv_imul hx hb dX6_strongSum_17 ?_
      refine lv_topi (fun y_2 ey_2 => ?_)
      refine lv_aload_n hx hb dX6_strongSum_18 rfl (lv_at hl 0 rfl) ?_
      refine lv_iload_n hx hb dX6_strongSum_19 rfl (lv_at hl 2 rfl) ?_
      refine lv_iload hx hb dX6_strongSum_20 (lv_at hl 5 rfl) ?_
      refine lv_iadd hx hb dX6_strongSum_22 ?_
      refine lv_topi (fun y_3 ey_3 => ?_)
      have hPc : va_P (dC, dI) vwCl [(h, .inr (13, [.ref ca, .int (nI n)])), wa ca cI L f] _ := hP.sub [0, 1] rfl
      refine uc_i (va_runV (As := [.int y_3]) (rest := [.int y_2]) ⟨hx, hb, hml, hown, hts⟩ (p_get l dC dI cI cO h ca n L f y_3 hn hL) (cwV 1 hts ugX6_strongSum_X6_get rfl rfl rfl (by decide +kernel) ⟨(by first | exact Nat.le_of_ble_eq_true rfl | omega | (dsimp only [headSpec]; omega) | (simp only [headSpec]; omega) | omega), (by first | exact Nat.le_of_ble_eq_true rfl | omega | (dsimp only [headSpec]; omega) | (simp only [headSpec]; omega) | omega)⟩) ⟨fun a U g mk q => by obtain ⟨q0, qP, qK⟩ := q; exact ⟨q0, qP, va_K.moved (u := U) (U := U.calling g mk a) (Vm.Alike.refl U.vm) qK⟩, va_recv hK hPc (ci := 13) (q0 := 0) rfl rfl, fun U hU hW => ⟨rfl, by rw [hU]; exact hPc, va_K.moved hW.alike hK⟩⟩ rfl rfl hl.1 rfl (lv_room (Nat.le_of_ble_eq_true rfl)) dX6_strongSum_23 ⟨(by first | exact Nat.le_of_ble_eq_true rfl | omega | (dsimp only [headSpec]; omega) | (simp only [headSpec]; omega) | omega), (by first | exact Nat.le_of_ble_eq_true rfl | omega | (dsimp only [headSpec]; omega) | (simp only [headSpec]; omega) | omega)⟩) (fun r1 er1 => ?_)
      refine lv_iadd hx hb dX6_strongSum_26 ?_
      refine lv_topi (fun y_4 ey_4 => ?_)
      refine lv_iconst (v := nI 1) hx hb dX6_strongSum_27 (by decide) ?_
      refine lv_iadd hx hb dX6_strongSum_28 ?_
      refine lv_topi (fun y_5 ey_5 => ?_)
      refine lv_ldc (v := nI 1000003) hx hb hown (hts (.constant RX6 53 (nI 1000003)) (by decide +kernel)) dX6_strongSum_29 ?_
      refine lv_irem hx hb dX6_strongSum_31 (by decide) ?_
      refine lv_topi (fun y_6 ey_6 => ?_)
      refine lv_istore (lv' := [(4, .int y_6), (0, .ref h), (1, .int p0), (2, .int p1), (3, .int p2), (5, .int x5)]) hx hb dX6_strongSum_32 hl (by decide) rfl (fun ls hl => ?_)
      refine lv_iinc (v := (x5 + 1)) (lv' := [(5, .int (x5 + 1)), (4, .int y_6), (0, .ref h), (1, .int p0), (2, .int p1), (3, .int p2)]) hx hb dX6_strongSum_34 hl (k := 5) rfl rfl (by decide) rfl (fun ls hl => ?_)
      refine lv_goto (tgt := 6) hx hb dX6_strongSum_37 (by decide) ?_
      exact ih _ _ ls (by omega) (lv_sub hl [2, 3, 4, 5, 1, 0] rfl)
set_option maxHeartbeats 4000000 in
set_option maxRecDepth 100000 in
theorem p_strong (l : Launch) (dC : Nat → ClassId) (dI : Nat → Nat → Nat) (cI cO : ClassId) (h : Nat) (ca : Nat) (n : Nat) (L : Nat) (f : Nat → Int32) (p0 : Int32) (p1 : Int32) (p2 : Int32) (hn : n ≤ L) (hL : L ≤ 100000) : Met l yX6_strongSum usX6_strongSum ({ frames := 1, cells := 0, slots := 0, locals := 21 }) (va_Pc [.ref h, .int p0, .int p1, .int p2] (fun U => va_P (dC, dI) vwCl [(h, .inr (13, [.ref ca, .int (nI n)])), wa ca cI L f] U.heap ∧ va_K (dC, dI) vwCl (ty0 cI cO) U)) (vp_Si (fun r => True)) 0 0 (fun _ => False) := by
  refine Met.ofW (cc := cX6_strongSum) (maxL := 6) (ret := (some .int)) (by decide) rfl ?_
  intro p e s m args below meth c s₁ B hml hv
  obtain ⟨rfl, hP, hK⟩ := hv
  have hx := B.exec
  have hb := B.bytes
  have hr := B.returns
  have hts := atoms_spec (ws := usX6_strongSum) B.pre
  have hown : s.vm.findClass RX6 = some m.cls := findClass_of_methodNamed B.named
  have hlocks := B.notSynchronized
  have hl := lv_entry ([.ref h, .int p0, .int p1, .int p2]) (n := 6) (Nat.le_of_ble_eq_true rfl)
  rw [lg_entry_eq]
  generalize (lg_sl ([.ref h, .int p0, .int p1, .int p2]) ++ List.replicate (6 - (lg_sl ([.ref h, .int p0, .int p1, .int p2])).length) Slot.unset).toArray = ls at hl ⊢
  have hl : lv_has ls 6 [(0, .ref h), (1, .int p0), (2, .int p1), (3, .int p2)] := hl
  refine lv_iload_n hx hb dX6_strongSum_0 rfl (lv_at hl 1 rfl) ?_
  refine lv_istore (lv' := [(4, .int p0), (0, .ref h), (1, .int p0), (2, .int p1), (3, .int p2)]) hx hb dX6_strongSum_1 hl (by decide) rfl (fun ls hl => ?_)
  refine lv_iconst (v := nI 0) hx hb dX6_strongSum_3 (by decide) ?_
  refine lv_istore (lv' := [(5, .int (nI 0)), (4, .int p0), (0, .ref h), (1, .int p0), (2, .int p1), (3, .int p2)]) hx hb dX6_strongSum_4 hl (by decide) rfl (fun ls hl => ?_)
  refine strong_loop hx hb hml hown hts hK (by first | exact Nat.le_of_ble_eq_true rfl | omega | (dsimp only [headSpec]; omega) | (simp only [headSpec]; omega) | omega) (by first | exact Nat.le_of_ble_eq_true rfl | omega | (dsimp only [headSpec]; omega) | (simp only [headSpec]; omega) | omega) (by first | exact Nat.le_of_ble_eq_true rfl | omega | (dsimp only [headSpec]; omega) | (simp only [headSpec]; omega) | omega) (by first | exact Nat.le_of_ble_eq_true rfl | omega | (dsimp only [headSpec]; omega) | (simp only [headSpec]; omega) | omega) hP hn hL ?_ (um (nI 0) p2 + 1) p0 (nI 0) ls (by omega) (lv_sub hl [2, 3, 4, 5, 1, 0] rfl)
  intro x4 x5 ls hl
  refine lv_iload hx hb dX6_strongSum_40 (lv_at hl 4 rfl) ?_
  exact W.iret (v := x4) hx hb hr (fun t ht hW => ⟨_, rfl, trivial, ht⟩) (fun q hq => by cases hq) dX6_strongSum_42
set_option maxHeartbeats 4000000 in
set_option maxRecDepth 100000 in
theorem agrees_loop {p : Program} {l : Launch} {e : Env} {R : Room} {s : State} {m : MethodId} {args : Array Value} {below : List Frame} {meth : Method} {c : Code} {cells slots : Nat} {Q : State → Prop} {dC : Nat → ClassId} {dI : Nat → Nat → Nat} {cI cO : ClassId} {h : Nat} {ca : Nat} {n : Nat} {L : Nat} {f : Nat → Int32} {g : Nat} {cg : Nat} {n2 : Nat} {L2 : Nat} {f2 : Nat → Int32} {p0 : Int32} {p1 : Int32} {p2 : Int32} {H : Heap} {locs : List Loc} (hx : p.tables.exec = Jvm.exec) (hb : c.code = cX6_agrees) (hml : c.maxLocals = 6) (hown : s.vm.findClass RX6 = some m.cls) (hts : ∀ w ∈ usX6_agrees, w.before args s = true) (hK : va_K (dC, dI) vwCl (ty0 cI cO) s) (hRf : 1 ≤ R.frames) (hRl : 21 ≤ R.locals) (hRc : cells + 0 ≤ R.cells) (hRs : slots + 0 ≤ R.slots) (hP : va_P (dC, dI) vwCl [(h, .inr (13, [.ref ca, .int (nI n)])), wa ca cI L f, (g, .inr (13, [.ref cg, .int (nI n2)])), wa cg cI L2 f2] H) (hn : n ≤ L) (hL : L ≤ 100000) (hn2 : n2 ≤ L2) (hL2 : L2 ≤ 100000) (kf : ∀ (ls : Array Slot), W p l e R s m args below meth c H locs cells slots Q (F0 m 29 ls [])) (kk : ∀ (x5 : Int32) (ls : Array Slot), lv_has ls 6 [(0, .ref h), (1, .int p0), (2, .ref g), (3, .int p1), (4, .int p2), (5, .int x5)] → W p l e R s m args below meth c H locs cells slots Q (F0 m 37 ls [])) :
    ∀ (k : Nat), ∀ (x5 : Int32) (ls : Array Slot), (um x5 p2 < k) → lv_has ls 6 [(0, .ref h), (1, .int p0), (2, .ref g), (3, .int p1), (4, .int p2), (5, .int x5)] → W p l e R s m args below meth c H locs cells slots Q (F0 m 3 ls []) := by
  intro k
  induction k with
  | zero => intro x5 ls hk  hl; omega
  | succ k ih =>
    intro x5 ls hk  hl
    refine lv_iload hx hb dX6_agrees_3 (lv_at hl 5 rfl) ?_
    refine lv_iload hx hb dX6_agrees_5 (lv_at hl 4 rfl) ?_
    refine lv_icmp_ge (tgt := 37) hx hb dX6_agrees_7 (by decide) (fun c_1 => ?_) (fun c_1 => ?_)
    · exact kk x5 ls  (lv_sub hl [0, 1, 2, 3, 4, 5] rfl)
    · have hm := um_lt c_1
      refine lv_aload_n hx hb dX6_agrees_10 rfl (lv_at hl 0 rfl) ?_
      refine lv_iload_n hx hb dX6_agrees_11 rfl (lv_at hl 1 rfl) ?_
      refine lv_iload hx hb dX6_agrees_12 (lv_at hl 5 rfl) ?_
      refine lv_iadd hx hb dX6_agrees_14 ?_
      refine lv_topi (fun y_2 ey_2 => ?_)
      have hPc : va_P (dC, dI) vwCl [(h, .inr (13, [.ref ca, .int (nI n)])), wa ca cI L f] _ := hP.sub [0, 1] rfl
      refine uc_i (va_runV (As := [.int y_2]) (rest := []) ⟨hx, hb, hml, hown, hts⟩ (p_get l dC dI cI cO h ca n L f y_2 hn hL) (cwV 1 hts ugX6_agrees_X6_get rfl rfl rfl (by decide +kernel) ⟨(by first | exact Nat.le_of_ble_eq_true rfl | omega | (dsimp only [headSpec]; omega) | (simp only [headSpec]; omega) | omega), (by first | exact Nat.le_of_ble_eq_true rfl | omega | (dsimp only [headSpec]; omega) | (simp only [headSpec]; omega) | omega)⟩) ⟨fun a U g mk q => by obtain ⟨q0, qP, qK⟩ := q; exact ⟨q0, qP, va_K.moved (u := U) (U := U.calling g mk a) (Vm.Alike.refl U.vm) qK⟩, va_recv hK hPc (ci := 13) (q0 := 0) rfl rfl, fun U hU hW => ⟨rfl, by rw [hU]; exact hPc, va_K.moved hW.alike hK⟩⟩ rfl rfl hl.1 rfl (lv_room (Nat.le_of_ble_eq_true rfl)) dX6_agrees_15 ⟨(by first | exact Nat.le_of_ble_eq_true rfl | omega | (dsimp only [headSpec]; omega) | (simp only [headSpec]; omega) | omega), (by first | exact Nat.le_of_ble_eq_true rfl | omega | (dsimp only [headSpec]; omega) | (simp only [headSpec]; omega) | omega)⟩) (fun r1 er1 => ?_)
      refine lv_aload_n hx hb dX6_agrees_18 rfl (lv_at hl 2 rfl) ?_
      refine lv_iload_n hx hb dX6_agrees_19 rfl (lv_at hl 3 rfl) ?_
      refine lv_iload hx hb dX6_agrees_20 (lv_at hl 5 rfl) ?_
      refine lv_iadd hx hb dX6_agrees_22 ?_
      refine lv_topi (fun y_3 ey_3 => ?_)
      have hPc : va_P (dC, dI) vwCl [(g, .inr (13, [.ref cg, .int (nI n2)])), wa cg cI L2 f2] _ := hP.sub [2, 3] rfl
      refine uc_i (va_runV (As := [.int y_3]) (rest := [.int r1]) ⟨hx, hb, hml, hown, hts⟩ (p_get l dC dI cI cO g cg n2 L2 f2 y_3 hn2 hL2) (cwV 1 hts ugX6_agrees_X6_get rfl rfl rfl (by decide +kernel) ⟨(by first | exact Nat.le_of_ble_eq_true rfl | omega | (dsimp only [headSpec]; omega) | (simp only [headSpec]; omega) | omega), (by first | exact Nat.le_of_ble_eq_true rfl | omega | (dsimp only [headSpec]; omega) | (simp only [headSpec]; omega) | omega)⟩) ⟨fun a U g mk q => by obtain ⟨q0, qP, qK⟩ := q; exact ⟨q0, qP, va_K.moved (u := U) (U := U.calling g mk a) (Vm.Alike.refl U.vm) qK⟩, va_recv hK hPc (ci := 13) (q0 := 0) rfl rfl, fun U hU hW => ⟨rfl, by rw [hU]; exact hPc, va_K.moved hW.alike hK⟩⟩ rfl rfl hl.1 rfl (lv_room (Nat.le_of_ble_eq_true rfl)) dX6_agrees_23 ⟨(by first | exact Nat.le_of_ble_eq_true rfl | omega | (dsimp only [headSpec]; omega) | (simp only [headSpec]; omega) | omega), (by first | exact Nat.le_of_ble_eq_true rfl | omega | (dsimp only [headSpec]; omega) | (simp only [headSpec]; omega) | omega)⟩) (fun r2 er2 => ?_)
      refine lv_icmp_eq (tgt := 31) hx hb dX6_agrees_26 (by decide) (fun c_4 => ?_) (fun c_4 => ?_)
      · refine lv_iinc (v := (x5 + 1)) (lv' := [(5, .int (x5 + 1)), (0, .ref h), (1, .int p0), (2, .ref g), (3, .int p1), (4, .int p2)]) hx hb dX6_agrees_31 hl (k := 5) rfl rfl (by decide) rfl (fun ls hl => ?_)
        refine lv_goto (tgt := 3) hx hb dX6_agrees_34 (by decide) ?_
        exact ih _ ls (by omega) (lv_sub hl [1, 2, 3, 4, 5, 0] rfl)
      · exact kf ls
set_option maxHeartbeats 4000000 in
set_option maxRecDepth 100000 in
theorem p_agrees (l : Launch) (dC : Nat → ClassId) (dI : Nat → Nat → Nat) (cI cO : ClassId) (h : Nat) (ca : Nat) (n : Nat) (L : Nat) (f : Nat → Int32) (g : Nat) (cg : Nat) (n2 : Nat) (L2 : Nat) (f2 : Nat → Int32) (p0 : Int32) (p1 : Int32) (p2 : Int32) (hn : n ≤ L) (hL : L ≤ 100000) (hn2 : n2 ≤ L2) (hL2 : L2 ≤ 100000) : Met l yX6_agrees usX6_agrees ({ frames := 1, cells := 0, slots := 0, locals := 21 }) (va_Pc [.ref h, .int p0, .ref g, .int p1, .int p2] (fun U => va_P (dC, dI) vwCl [(h, .inr (13, [.ref ca, .int (nI n)])), wa ca cI L f, (g, .inr (13, [.ref cg, .int (nI n2)])), wa cg cI L2 f2] U.heap ∧ va_K (dC, dI) vwCl (ty0 cI cO) U)) (vp_Si (fun r => r = 0 ∨ r = 1)) 0 0 (fun _ => False) := by
  refine Met.ofW (cc := cX6_agrees) (maxL := 6) (ret := (some .boolean)) (by decide) rfl ?_
  intro p e s m args below meth c s₁ B hml hv
  obtain ⟨rfl, hP, hK⟩ := hv
  have hx := B.exec
  have hb := B.bytes
  have hr := B.returns
  have hts := atoms_spec (ws := usX6_agrees) B.pre
  have hown : s.vm.findClass RX6 = some m.cls := findClass_of_methodNamed B.named
  have hlocks := B.notSynchronized
  have hl := lv_entry ([.ref h, .int p0, .ref g, .int p1, .int p2]) (n := 6) (Nat.le_of_ble_eq_true rfl)
  rw [lg_entry_eq]
  generalize (lg_sl ([.ref h, .int p0, .ref g, .int p1, .int p2]) ++ List.replicate (6 - (lg_sl ([.ref h, .int p0, .ref g, .int p1, .int p2])).length) Slot.unset).toArray = ls at hl ⊢
  have hl : lv_has ls 6 [(0, .ref h), (1, .int p0), (2, .ref g), (3, .int p1), (4, .int p2)] := hl
  refine lv_iconst (v := nI 0) hx hb dX6_agrees_0 (by decide) ?_
  refine lv_istore (lv' := [(5, .int (nI 0)), (0, .ref h), (1, .int p0), (2, .ref g), (3, .int p1), (4, .int p2)]) hx hb dX6_agrees_1 hl (by decide) rfl (fun ls hl => ?_)
  refine agrees_loop hx hb hml hown hts hK (by first | exact Nat.le_of_ble_eq_true rfl | omega | (dsimp only [headSpec]; omega) | (simp only [headSpec]; omega) | omega) (by first | exact Nat.le_of_ble_eq_true rfl | omega | (dsimp only [headSpec]; omega) | (simp only [headSpec]; omega) | omega) (by first | exact Nat.le_of_ble_eq_true rfl | omega | (dsimp only [headSpec]; omega) | (simp only [headSpec]; omega) | omega) (by first | exact Nat.le_of_ble_eq_true rfl | omega | (dsimp only [headSpec]; omega) | (simp only [headSpec]; omega) | omega) hP hn hL hn2 hL2 (fun ls => ?_) ?_ (um (nI 0) p2 + 1) (nI 0) ls (by omega) (lv_sub hl [1, 2, 3, 4, 5, 0] rfl)
  · refine lv_iconst (v := nI 0) hx hb dX6_agrees_29 (by decide) ?_
    exact W.zret (v := nI 0) hx hb hr rfl (fun t ht hW => ⟨_, rfl, Or.inl rfl, ht⟩) (fun q hq => by cases hq) dX6_agrees_30
  · intro x5 ls hl
    refine lv_iconst (v := nI 1) hx hb dX6_agrees_37 (by decide) ?_
    exact W.zret (v := nI 1) hx hb hr rfl (fun t ht hW => ⟨_, rfl, Or.inr rfl, ht⟩) (fun q hq => by cases hq) dX6_agrees_38
set_option maxHeartbeats 4000000 in
set_option maxRecDepth 100000 in
theorem copyFrom_loop {p : Program} {l : Launch} {e : Env} {R : Room} {s : State} {m : MethodId} {args : Array Value} {below : List Frame} {meth : Method} {c : Code} {cells slots : Nat} {Q : State → Prop} {dC : Nat → ClassId} {dI : Nat → Nat → Nat} {cI cO : ClassId} {h : Nat} {ca : Nat} {L : Nat} {g : Nat} {cg : Nat} {n2 : Nat} {L2 : Nat} {f2 : Nat → Int32} {A : Nat → Prop} {H0 : Heap} (hx : p.tables.exec = Jvm.exec) (hb : c.code = cX6_copyFrom) (hml : c.maxLocals = 3) (hown : s.vm.findClass RX6 = some m.cls) (hts : ∀ w ∈ usX6_copyFrom, w.before args s = true) (hK : va_K (dC, dI) vwCl (ty0 cI cO) s) (hRf : 1 ≤ R.frames) (hRl : 21 ≤ R.locals) (hRc : cells + 0 ≤ R.cells) (hRs : slots + 0 ≤ R.slots) (hA : ∀ q : Nat, H0.size ≤ q → A q) (hL : L ≤ 100000) (hn2 : n2 ≤ L2) (hL2 : L2 ≤ 100000) (hLn : n2 ≤ L) (kk : ∀ (f3 : Nat → Int32) (H : Heap) (locs : List Loc) (ls : Array Slot), (∀ j, j < n2 → f3 j = f2 j) → va_P (dC, dI) vwCl [(h, .inr (13, [.ref ca, .int (nI n2)])), wa ca cI L f3, (g, .inr (13, [.ref cg, .int (nI n2)])), wa cg cI L2 f2] H → va_D A [(h, .inr (13, [.ref ca, .int (nI n2)])), wa ca cI L f3, (g, .inr (13, [.ref cg, .int (nI n2)])), wa cg cI L2 f2] → va_S A H0 H locs → lv_has ls 3 [(0, .ref h), (1, .ref g)] → W p l e R s m args below meth c H locs cells slots Q (F0 m 29 ls [])) :
    ∀ (k : Nat), ∀ (i : Nat) (f3 : Nat → Int32) (H : Heap) (locs : List Loc) (ls : Array Slot), (n2 < i + k) → (i ≤ n2) → (∀ j, j < i → f3 j = f2 j) → va_P (dC, dI) vwCl [(h, .inr (13, [.ref ca, .int (nI i)])), wa ca cI L f3, (g, .inr (13, [.ref cg, .int (nI n2)])), wa cg cI L2 f2] H → va_D A [(h, .inr (13, [.ref ca, .int (nI i)])), wa ca cI L f3, (g, .inr (13, [.ref cg, .int (nI n2)])), wa cg cI L2 f2] → va_S A H0 H locs → lv_has ls 3 [(0, .ref h), (1, .ref g), (2, .int (nI i))] → W p l e R s m args below meth c H locs cells slots Q (F0 m 6 ls []) := by
  intro k
  induction k with
  | zero => intro i f3 H locs ls hk hi hv hP hD hS hl; omega
  | succ k ih =>
    intro i f3 H locs ls hk hi hv hP hD hS hl
    refine lv_iload_n hx hb dX6_copyFrom_6 rfl (lv_at hl 2 rfl) ?_
    refine lv_aload_n hx hb dX6_copyFrom_7 rfl (lv_at hl 1 rfl) ?_
    refine va_get (D := (dC, dI)) (ci := 13) (v := .int (nI n2)) (C := RX6) (T := TX6) (N := 2) hx hb hts inX6_copyFrom_RX6 hown hK hP 2 rfl rfl 1 (by decide) (hts (.fieldLink RX6 21 "Patchferry$Row" "size" "I") (by decide +kernel)) (fun _ h9 => h9) rfl dX6_copyFrom_8 ?_
    refine lv_icmp_ge (tgt := 29) hx hb dX6_copyFrom_11 (by decide) (fun c_1 => ?_) (fun c_1 => ?_)
    · obtain rfl : i = n2 := by
        rcases Nat.lt_or_ge i n2 with q | q
        · exact absurd c_1 (nI_ge q (by omega))
        · omega
      exact kk f3 H locs ls hv hP hD hS (lv_sub hl [0, 1] rfl)
    · have hlt : i < n2 := by
        rcases Nat.lt_or_ge i n2 with q | q
        · exact q
        · exact absurd (nI_le q (by omega)) c_1
      refine lv_aload_n hx hb dX6_copyFrom_14 rfl (lv_at hl 0 rfl) ?_
      refine lv_aload_n hx hb dX6_copyFrom_15 rfl (lv_at hl 1 rfl) ?_
      refine lv_iload_n hx hb dX6_copyFrom_16 rfl (lv_at hl 2 rfl) ?_
      have hPc : va_P (dC, dI) vwCl [(g, .inr (13, [.ref cg, .int (nI n2)])), wa cg cI L2 f2] _ := hP.sub [2, 3] rfl
      refine uc_i (va_runV (As := [.int (nI i)]) (rest := [.ref h]) ⟨hx, hb, hml, hown, hts⟩ (p_get l dC dI cI cO g cg n2 L2 f2 (nI i) hn2 hL2) (cwV 1 hts ugX6_copyFrom_X6_get rfl rfl rfl (by decide +kernel) ⟨(by first | exact Nat.le_of_ble_eq_true rfl | omega | (dsimp only [headSpec]; omega) | (simp only [headSpec]; omega) | omega), (by first | exact Nat.le_of_ble_eq_true rfl | omega | (dsimp only [headSpec]; omega) | (simp only [headSpec]; omega) | omega)⟩) ⟨fun a U g mk q => by obtain ⟨q0, qP, qK⟩ := q; exact ⟨q0, qP, va_K.moved (u := U) (U := U.calling g mk a) (Vm.Alike.refl U.vm) qK⟩, va_recv hK hPc (ci := 13) (q0 := 0) rfl rfl, fun U hU hW => ⟨rfl, by rw [hU]; exact hPc, va_K.moved hW.alike hK⟩⟩ rfl rfl hl.1 rfl (lv_room (Nat.le_of_ble_eq_true rfl)) dX6_copyFrom_17 ⟨(by first | exact Nat.le_of_ble_eq_true rfl | omega | (dsimp only [headSpec]; omega) | (simp only [headSpec]; omega) | omega), (by first | exact Nat.le_of_ble_eq_true rfl | omega | (dsimp only [headSpec]; omega) | (simp only [headSpec]; omega) | omega)⟩) (fun r1 er1 => ?_)
      have hPc : va_P (dC, dI) vwCl [(h, .inr (13, [.ref ca, .int (nI i)])), wa ca cI L f3] _ := hP.sub [0, 1] rfl
      have hDc : va_D _ [(h, .inr (13, [.ref ca, .int (nI i)])), wa ca cI L f3] := hD.sub [0, 1] (by decide) rfl
      have hFc := va_free (wc := [(h, .inr (13, [.ref ca, .int (nI i)])), wa ca cI L f3]) hD hS hA [0, 1] rfl
      refine va_callv (va_runV (As := [.int r1]) (rest := []) ⟨hx, hb, hml, hown, hts⟩ (c_add l dC dI cI cO H.size h ca i L f3 r1 (by omega) hL) (cwV 1 hts ugX6_copyFrom_X6_add rfl rfl rfl (by decide +kernel) ⟨(by first | exact Nat.le_of_ble_eq_true rfl | omega | (dsimp only [headSpec]; omega) | (simp only [headSpec]; omega) | omega), (by first | exact Nat.le_of_ble_eq_true rfl | omega | (dsimp only [headSpec]; omega) | (simp only [headSpec]; omega) | omega)⟩) ⟨fun a U g mk q => by obtain ⟨q0, q1, qP, qK, qD⟩ := q; exact ⟨q0, q1, qP, va_K.moved (u := U) (U := U.calling g mk a) (Vm.Alike.refl U.vm) qK, qD⟩, va_recv hK hPc (ci := 13) (q0 := 0) rfl rfl, fun U hU hW => ⟨rfl, by rw [hU], by rw [hU]; exact hPc, va_K.moved hW.alike hK, hDc.weaken (fun _ _ _ _ => trivial)⟩⟩ rfl rfl hl.1 rfl (lv_room (Nat.le_of_ble_eq_true rfl)) dX6_copyFrom_20 ⟨(by first | exact Nat.le_of_ble_eq_true rfl | omega | (dsimp only [headSpec]; omega) | (simp only [headSpec]; omega) | omega), (by first | exact Nat.le_of_ble_eq_true rfl | omega | (dsimp only [headSpec]; omega) | (simp only [headSpec]; omega) | omega)⟩) hS (fun q _ h => hFc q h) hFc (fun u t H locs ht hvm hw hB hz1 hk1 hS => ?_)
      obtain ⟨n4, f4, hn4, hf4, hP1, hK1, hD1⟩ := hB
      rw [ht] at hP1
      obtain ⟨hP, hD⟩ := va_join (wr := [(g, .inr (13, [.ref cg, .int (nI n2)])), wa cg cI L2 f2]) (w1 := [(h, .inr (13, [.ref ca, .int (nI n4)])), wa ca cI L f4]) hP hD [0, 1] [2, 3] rfl rfl (by decide) (by decide) hk1 hFc hP1 hD1
      have hP : va_P (dC, dI) vwCl [(g, .inr (13, [.ref cg, .int (nI n2)])), wa cg cI L2 f2, (h, .inr (13, [.ref ca, .int (nI n4)])), wa ca cI L f4] H := hP
      have hD : va_D A [(g, .inr (13, [.ref cg, .int (nI n2)])), wa cg cI L2 f2, (h, .inr (13, [.ref ca, .int (nI n4)])), wa ca cI L f4] := hD
      obtain ⟨rfl, hf5, hf6⟩ := hf4 (by omega)
      refine lv_iinc (v := (nI (i + 1))) (lv' := [(2, .int (nI (i + 1))), (0, .ref h), (1, .ref g)]) hx hb dX6_copyFrom_23 hl (k := 2) rfl (by rw [nI_succ]; rfl) (by decide) rfl (fun ls hl => ?_)
      refine lv_goto (tgt := 6) hx hb dX6_copyFrom_26 (by decide) ?_
      exact ih (i + 1) f4 H locs ls (by omega) (by omega) (fun j hj => (Nat.lt_or_ge j i).elim (fun q => (hf6 j q).trans (hv j q)) (fun q => by have e0 : j = i := (by omega); subst e0; exact hf5.trans (er1.1 j hlt rfl))) (hP.sub [2, 3, 0, 1] rfl) (hD.sub [2, 3, 0, 1] (by decide) rfl) hS (lv_sub hl [1, 2, 0] rfl)
set_option maxHeartbeats 4000000 in
set_option maxRecDepth 100000 in
theorem c_copyFrom (l : Launch) (dC : Nat → ClassId) (dI : Nat → Nat → Nat) (cI cO : ClassId) (sz : Nat) (h : Nat) (ca : Nat) (n : Nat) (L : Nat) (f : Nat → Int32) (g : Nat) (cg : Nat) (n2 : Nat) (L2 : Nat) (f2 : Nat → Int32) (hn : n ≤ L) (hL : L ≤ 100000) (hn2 : n2 ≤ L2) (hL2 : L2 ≤ 100000) (hLn : n2 ≤ L) : Met l yX6_copyFrom usX6_copyFrom ({ frames := 1, cells := 0, slots := 0, locals := 21 }) (va_Pc [.ref h, .ref g] (fun U => U.heap.size = sz ∧ va_P (dC, dI) vwCl [(h, .inr (13, [.ref ca, .int (nI n)])), wa ca cI L f, (g, .inr (13, [.ref cg, .int (nI n2)])), wa cg cI L2 f2] U.heap ∧ va_K (dC, dI) vwCl (ty0 cI cO) U ∧ va_D (fun _ => True) [(h, .inr (13, [.ref ca, .int (nI n)])), wa ca cI L f, (g, .inr (13, [.ref cg, .int (nI n2)])), wa cg cI L2 f2])) (va_Qv (fun _ : Unit => True) (fun _ t => ∃ (f3 : Nat → Int32), (∀ j, j < n2 → f3 j = f2 j) ∧ va_P (dC, dI) vwCl [(h, .inr (13, [.ref ca, .int (nI n2)])), wa ca cI L f3, (g, .inr (13, [.ref cg, .int (nI n2)])), wa cg cI L2 f2] t.heap ∧ va_K (dC, dI) vwCl (ty0 cI cO) t ∧ va_D (va_A [(h, .inr (13, [.ref ca, .int (nI n)])), wa ca cI L f, (g, .inr (13, [.ref cg, .int (nI n2)])), wa cg cI L2 f2] sz) [(h, .inr (13, [.ref ca, .int (nI n2)])), wa ca cI L f3, (g, .inr (13, [.ref cg, .int (nI n2)])), wa cg cI L2 f2]) (va_A [(h, .inr (13, [.ref ca, .int (nI n)])), wa ca cI L f, (g, .inr (13, [.ref cg, .int (nI n2)])), wa cg cI L2 f2] sz)) 0 0 (va_A [(h, .inr (13, [.ref ca, .int (nI n)])), wa ca cI L f, (g, .inr (13, [.ref cg, .int (nI n2)])), wa cg cI L2 f2] sz) := by
  refine Met.ofW (cc := cX6_copyFrom) (maxL := 3) (ret := none) (by decide) rfl ?_
  intro p e s m args below meth c s₁ B hml hv
  obtain ⟨rfl, hsz, hP, hK, hD0⟩ := hv
  have hx := B.exec
  have hb := B.bytes
  have hr := B.returns
  have hts := atoms_spec (ws := usX6_copyFrom) B.pre
  have hown : s.vm.findClass RX6 = some m.cls := findClass_of_methodNamed B.named
  have hlocks := B.notSynchronized
  subst hsz
  have hD := hD0.self (sz := s.heap.size)
  generalize hAe : va_A [(h, .inr (13, [.ref ca, .int (nI n)])), wa ca cI L f, (g, .inr (13, [.ref cg, .int (nI n2)])), wa cg cI L2 f2] s.heap.size = A at hD ⊢
  have hA : ∀ q : Nat, s.heap.size ≤ q → A q := fun q h => by rw [← hAe]; exact Or.inr h
  have hS : va_S A s.heap s.heap [] := va_S.rf
  have hl := lv_entry ([.ref h, .ref g]) (n := 3) (Nat.le_of_ble_eq_true rfl)
  rw [lg_entry_eq]
  generalize (lg_sl ([.ref h, .ref g]) ++ List.replicate (3 - (lg_sl ([.ref h, .ref g])).length) Slot.unset).toArray = ls at hl ⊢
  have hl : lv_has ls 3 [(0, .ref h), (1, .ref g)] := hl
  refine lv_aload_n hx hb dX6_copyFrom_0 rfl (lv_at hl 0 rfl) ?_
  have hPc : va_P (dC, dI) vwCl [(h, .inr (13, [.ref ca, .int (nI n)]))] _ := hP.sub [0] rfl
  have hDc : va_D _ [(h, .inr (13, [.ref ca, .int (nI n)]))] := hD.sub [0] (by decide) rfl
  have hFc := va_free (wc := [(h, .inr (13, [.ref ca, .int (nI n)]))]) hD hS hA [0] rfl
  refine va_callv (va_runV (As := []) (rest := []) ⟨hx, hb, hml, hown, hts⟩ (c_clear l dC dI cI cO s.heap.size h ca (nI n)) (cwV 0 hts ugX6_copyFrom_X6_clear rfl rfl rfl (by decide +kernel) ⟨(by first | exact Nat.le_of_ble_eq_true rfl | omega | (dsimp only [headSpec]; omega) | (simp only [headSpec]; omega) | omega), (by first | exact Nat.le_of_ble_eq_true rfl | omega | (dsimp only [headSpec]; omega) | (simp only [headSpec]; omega) | omega)⟩) ⟨fun a U g mk q => by obtain ⟨q0, q1, qP, qK, qD⟩ := q; exact ⟨q0, q1, qP, va_K.moved (u := U) (U := U.calling g mk a) (Vm.Alike.refl U.vm) qK, qD⟩, va_recv hK hPc (ci := 13) (q0 := 0) rfl rfl, fun U hU hW => ⟨rfl, by rw [hU], by rw [hU]; exact hPc, va_K.moved hW.alike hK, hDc.weaken (fun _ _ _ _ => trivial)⟩⟩ rfl rfl hl.1 rfl (lv_room (Nat.le_of_ble_eq_true rfl)) dX6_copyFrom_1 ⟨(by first | exact Nat.le_of_ble_eq_true rfl | omega | (dsimp only [headSpec]; omega) | (simp only [headSpec]; omega) | omega), (by first | exact Nat.le_of_ble_eq_true rfl | omega | (dsimp only [headSpec]; omega) | (simp only [headSpec]; omega) | omega)⟩) hS (fun q _ h => hFc q h) hFc (fun u t H locs ht hvm hw hB hz1 hk1 hS => ?_)
  obtain ⟨hP1, hK1, hD1⟩ := hB
  rw [ht] at hP1
  obtain ⟨hP, hD⟩ := va_join (wr := [wa ca cI L f, (g, .inr (13, [.ref cg, .int (nI n2)])), wa cg cI L2 f2]) (w1 := [(h, .inr (13, [.ref ca, .int (nI 0)]))]) hP hD [0] [1, 2, 3] rfl rfl (by decide) (by decide) hk1 hFc hP1 hD1
  have hP : va_P (dC, dI) vwCl [wa ca cI L f, (g, .inr (13, [.ref cg, .int (nI n2)])), wa cg cI L2 f2, (h, .inr (13, [.ref ca, .int (nI 0)]))] H := hP
  have hD : va_D A [wa ca cI L f, (g, .inr (13, [.ref cg, .int (nI n2)])), wa cg cI L2 f2, (h, .inr (13, [.ref ca, .int (nI 0)]))] := hD
  refine lv_iconst (v := nI 0) hx hb dX6_copyFrom_4 (by decide) ?_
  refine lv_istore_n (lv' := [(2, .int (nI 0)), (0, .ref h), (1, .ref g)]) hx hb dX6_copyFrom_5 rfl hl (by decide) rfl (fun ls hl => ?_)
  refine copyFrom_loop hx hb hml hown hts hK (by first | exact Nat.le_of_ble_eq_true rfl | omega | (dsimp only [headSpec]; omega) | (simp only [headSpec]; omega) | omega) (by first | exact Nat.le_of_ble_eq_true rfl | omega | (dsimp only [headSpec]; omega) | (simp only [headSpec]; omega) | omega) (by first | exact Nat.le_of_ble_eq_true rfl | omega | (dsimp only [headSpec]; omega) | (simp only [headSpec]; omega) | omega) (by first | exact Nat.le_of_ble_eq_true rfl | omega | (dsimp only [headSpec]; omega) | (simp only [headSpec]; omega) | omega) hA hL hn2 hL2 hLn ?_ (n2 + 1) 0 f H locs ls (by omega) (by omega) (fun j hj => absurd hj (by omega)) (hP.sub [3, 0, 1, 2] rfl) (hD.sub [3, 0, 1, 2] (by decide) rfl) hS (lv_sub hl [1, 2, 0] rfl)
  intro f3 H locs ls hv hP hD hS hl
  have hPe : va_P (dC, dI) vwCl [(h, .inr (13, [.ref ca, .int (nI n2)])), wa ca cI L f3, (g, .inr (13, [.ref cg, .int (nI n2)])), wa cg cI L2 f2] _ := hP.sub [0, 1, 2, 3] rfl
  have hDe : va_D A [(h, .inr (13, [.ref ca, .int (nI n2)])), wa ca cI L f3, (g, .inr (13, [.ref cg, .int (nI n2)])), wa cg cI L2 f2] := hD.sub [0, 1, 2, 3] (by decide) rfl
  refine W.widen (k := 0) (n := 0) (by first | exact Nat.le_of_ble_eq_true rfl | omega | (dsimp only [headSpec]; omega) | (simp only [headSpec]; omega) | omega) (by first | exact Nat.le_of_ble_eq_true rfl | omega | (dsimp only [headSpec]; omega) | (simp only [headSpec]; omega) | omega) ?_
  exact W.vret hx hb hr (fun t ht hW => ⟨⟨(), rfl, trivial, _, hv, by rw [ht]; exact hPe, va_K.moved hW.alike hK, hDe⟩, hS.F ht⟩) hS.2.2 dX6_copyFrom_29
set_option maxHeartbeats 4000000 in
set_option maxRecDepth 100000 in
theorem c_copy (l : Launch) (dC : Nat → ClassId) (dI : Nat → Nat → Nat) (cI cO : ClassId) (sz : Nat) (h : Nat) (ca : Nat) (n : Nat) (L : Nat) (f : Nat → Int32) (hn : n ≤ L) (hL : L ≤ 100000) (hn2 : n ≤ 200) : Met l yX6_copy usX6_copy ({ frames := 2, cells := 2, slots := 202, locals := 43 }) (va_Pc [.ref h] (fun U => U.heap.size = sz ∧ va_P (dC, dI) vwCl [(h, .inr (13, [.ref ca, .int (nI n)])), wa ca cI L f] U.heap ∧ va_K (dC, dI) vwCl (ty0 cI cO) U ∧ va_D (fun _ => True) [(h, .inr (13, [.ref ca, .int (nI n)])), wa ca cI L f])) (va_Qr (fun _ : Unit => True) (fun _ ra t => ∃ (cr : Nat), ∃ (f3 : Nat → Int32), (∀ j, j < n → f3 j = f j) ∧ va_P (dC, dI) vwCl [(h, .inr (13, [.ref ca, .int (nI n)])), wa ca cI L f, (ra, .inr (13, [.ref cr, .int (nI n)])), wa cr cI n f3] t.heap ∧ va_K (dC, dI) vwCl (ty0 cI cO) t ∧ va_D (va_A [(h, .inr (13, [.ref ca, .int (nI n)])), wa ca cI L f] sz) [(h, .inr (13, [.ref ca, .int (nI n)])), wa ca cI L f, (ra, .inr (13, [.ref cr, .int (nI n)])), wa cr cI n f3]) (va_A [(h, .inr (13, [.ref ca, .int (nI n)])), wa ca cI L f] sz)) 2 202 (va_A [(h, .inr (13, [.ref ca, .int (nI n)])), wa ca cI L f] sz) := by
  refine Met.ofW (cc := cX6_copy) (maxL := 2) (ret := (some (.object "Patchferry$Row"))) (by decide) rfl ?_
  intro p e s m args below meth c s₁ B hml hv
  obtain ⟨rfl, hsz, hP, hK, hD0⟩ := hv
  have hx := B.exec
  have hb := B.bytes
  have hr := B.returns
  have hts := atoms_spec (ws := usX6_copy) B.pre
  have hown : s.vm.findClass RX6 = some m.cls := findClass_of_methodNamed B.named
  have hlocks := B.notSynchronized
  subst hsz
  have hD := hD0.self (sz := s.heap.size)
  generalize hAe : va_A [(h, .inr (13, [.ref ca, .int (nI n)])), wa ca cI L f] s.heap.size = A at hD ⊢
  have hA : ∀ q : Nat, s.heap.size ≤ q → A q := fun q h => by rw [← hAe]; exact Or.inr h
  have hS : va_S A s.heap s.heap [] := va_S.rf
  have hl := lv_entry ([.ref h]) (n := 2) (Nat.le_of_ble_eq_true rfl)
  rw [lg_entry_eq]
  generalize (lg_sl ([.ref h]) ++ List.replicate (2 - (lg_sl ([.ref h])).length) Slot.unset).toArray = ls at hl ⊢
  have hl : lv_has ls 2 [(0, .ref h)] := hl
  refine va_new (ci := 13) (fs := [.null, .int (nI 0)]) (C := RX6) (T := TX6) (N := 2) hx hb hts inX6_copy_RX6 tyX6 tyX6_ok hown (hts (.classLink RX6 16 RX6) (by decide +kernel)) (hts (.instantiable RX6 2) (by decide +kernel)) (hts (.initialized RX6) (by decide +kernel)) hK hP hD hS hA rfl (fun j hj => by rcases (show j = 0 ∨ j = 1 by omega) with rfl | rfl <;> rfl) (by first | exact Nat.le_of_ble_eq_true rfl | omega | (dsimp only [headSpec]; omega) | (simp only [headSpec]; omega) | omega) (by first | exact Nat.le_of_ble_eq_true rfl | omega | (dsimp only [headSpec]; omega) | (simp only [headSpec]; omega) | omega) dX6_copy_0 (fun q_1 H hP hD hS => ?_)
  have hP : va_P (dC, dI) vwCl [(h, .inr (13, [.ref ca, .int (nI n)])), wa ca cI L f, (q_1, .inr (13, [.null, .int (nI 0)]))] H := hP
  have hD : va_D A [(h, .inr (13, [.ref ca, .int (nI n)])), wa ca cI L f, (q_1, .inr (13, [.null, .int (nI 0)]))] := hD
  refine W.widen (k := 1) (n := 2) (by first | exact Nat.le_of_ble_eq_true rfl | omega | (dsimp only [headSpec]; omega) | (simp only [headSpec]; omega) | omega) (by first | exact Nat.le_of_ble_eq_true rfl | omega | (dsimp only [headSpec]; omega) | (simp only [headSpec]; omega) | omega) ?_
  refine lv_dup hx hb dX6_copy_3 rfl ?_
  refine lv_aload_n hx hb dX6_copy_4 rfl (lv_at hl 0 rfl) ?_
  refine va_get (D := (dC, dI)) (ci := 13) (v := .int (nI n)) (C := RX6) (T := TX6) (N := 2) hx hb hts inX6_copy_RX6 hown hK hP 0 rfl rfl 1 (by decide) (hts (.fieldLink RX6 21 "Patchferry$Row" "size" "I") (by decide +kernel)) (fun _ h9 => h9) rfl dX6_copy_5 ?_
  have hPc : va_P (dC, dI) vwCl [(q_1, .inr (13, [.null, .int (nI 0)]))] _ := hP.sub [2] rfl
  have hDc : va_D _ [(q_1, .inr (13, [.null, .int (nI 0)]))] := hD.sub [2] (by decide) rfl
  have hFc := va_free (wc := [(q_1, .inr (13, [.null, .int (nI 0)]))]) hD hS hA [2] rfl
  refine va_callv (va_runI (As := [.int (nI n)]) (rest := [.ref q_1]) ⟨hx, hb, hml, hown, hts⟩ (c_rowinit l dC dI cI cO H.size q_1 n (by omega)) (cwI 1 hts ugX6_copy_X6_init rfl rfl rfl (hts (.initialized RX6) (by decide +kernel)) (hts (.methodLink RX6 28 yX6_init) (by decide +kernel)) (hts (.instanceMethod yX6_init) (by decide +kernel)) rfl (by decide +kernel) ⟨(by first | exact Nat.le_of_ble_eq_true rfl | omega | (dsimp only [headSpec]; omega) | (simp only [headSpec]; omega) | omega), (by first | exact Nat.le_of_ble_eq_true rfl | omega | (dsimp only [headSpec]; omega) | (simp only [headSpec]; omega) | omega)⟩) ⟨fun a U g mk q => by obtain ⟨q0, q1, qP, qK, qD⟩ := q; exact ⟨q0, q1, qP, va_K.moved (u := U) (U := U.calling g mk a) (Vm.Alike.refl U.vm) qK, qD⟩, fun U hU hW => ⟨rfl, by rw [hU], by rw [hU]; exact hPc, va_K.moved hW.alike hK, hDc.weaken (fun _ _ _ _ => trivial)⟩⟩ rfl rfl hl.1 rfl (lv_room (Nat.le_of_ble_eq_true rfl)) dX6_copy_8 ⟨(by first | exact Nat.le_of_ble_eq_true rfl | omega | (dsimp only [headSpec]; omega) | (simp only [headSpec]; omega) | omega), (by first | exact Nat.le_of_ble_eq_true rfl | omega | (dsimp only [headSpec]; omega) | (simp only [headSpec]; omega) | omega)⟩) hS (fun q _ h => hFc q h) hFc (fun u t H locs ht hvm hw hB hz1 hk1 hS => ?_)
  obtain ⟨cr, hP1, hK1, hD1⟩ := hB
  rw [ht] at hP1
  obtain ⟨hP, hD⟩ := va_join (wr := [(h, .inr (13, [.ref ca, .int (nI n)])), wa ca cI L f]) (w1 := [(q_1, .inr (13, [.ref cr, .int (nI 0)])), wa cr cI n (fun _ => 0)]) hP hD [2] [0, 1] rfl rfl (by decide) (by decide) hk1 hFc hP1 hD1
  have hP : va_P (dC, dI) vwCl [(h, .inr (13, [.ref ca, .int (nI n)])), wa ca cI L f, (q_1, .inr (13, [.ref cr, .int (nI 0)])), wa cr cI n (fun _ => 0)] H := hP
  have hD : va_D A [(h, .inr (13, [.ref ca, .int (nI n)])), wa ca cI L f, (q_1, .inr (13, [.ref cr, .int (nI 0)])), wa cr cI n (fun _ => 0)] := hD
  refine W.widen (k := 2) (n := 2 + n) (by first | exact Nat.le_of_ble_eq_true rfl | omega | (dsimp only [headSpec]; omega) | (simp only [headSpec]; omega) | omega) (by first | exact Nat.le_of_ble_eq_true rfl | omega | (dsimp only [headSpec]; omega) | (simp only [headSpec]; omega) | omega) ?_
  refine lv_astore_n (lv' := [(1, .ref q_1), (0, .ref h)]) hx hb dX6_copy_11 rfl hl (by decide) rfl (fun ls hl => ?_)
  refine lv_aload_n hx hb dX6_copy_12 rfl (lv_at hl 0 rfl) ?_
  refine lv_aload_n hx hb dX6_copy_13 rfl (lv_at hl 1 rfl) ?_
  have hPc : va_P (dC, dI) vwCl [(q_1, .inr (13, [.ref cr, .int (nI 0)])), wa cr cI n (fun _ => 0), (h, .inr (13, [.ref ca, .int (nI n)])), wa ca cI L f] _ := hP.sub [2, 3, 0, 1] rfl
  have hDc : va_D _ [(q_1, .inr (13, [.ref cr, .int (nI 0)])), wa cr cI n (fun _ => 0), (h, .inr (13, [.ref ca, .int (nI n)])), wa ca cI L f] := hD.sub [2, 3, 0, 1] (by decide) rfl
  have hFc := va_free (wc := [(q_1, .inr (13, [.ref cr, .int (nI 0)])), wa cr cI n (fun _ => 0), (h, .inr (13, [.ref ca, .int (nI n)])), wa ca cI L f]) hD hS hA [2, 3, 0, 1] rfl
  refine va_callv (va_runV (As := [.ref h]) (rest := []) ⟨hx, hb, hml, hown, hts⟩ (c_copyFrom l dC dI cI cO H.size q_1 cr 0 n (fun _ => 0) h ca n L f (by omega) (by omega) hn hL (Nat.le_refl n)) (cwV 1 hts ugX6_copy_X6_copyFrom rfl rfl rfl (by decide +kernel) ⟨(by first | exact Nat.le_of_ble_eq_true rfl | omega | (dsimp only [headSpec]; omega) | (simp only [headSpec]; omega) | omega), (by first | exact Nat.le_of_ble_eq_true rfl | omega | (dsimp only [headSpec]; omega) | (simp only [headSpec]; omega) | omega)⟩) ⟨fun a U g mk q => by obtain ⟨q0, q1, qP, qK, qD⟩ := q; exact ⟨q0, q1, qP, va_K.moved (u := U) (U := U.calling g mk a) (Vm.Alike.refl U.vm) qK, qD⟩, va_recv hK hPc (ci := 13) (q0 := 0) rfl rfl, fun U hU hW => ⟨rfl, by rw [hU], by rw [hU]; exact hPc, va_K.moved hW.alike hK, hDc.weaken (fun _ _ _ _ => trivial)⟩⟩ rfl rfl hl.1 rfl (lv_room (Nat.le_of_ble_eq_true rfl)) dX6_copy_14 ⟨(by first | exact Nat.le_of_ble_eq_true rfl | omega | (dsimp only [headSpec]; omega) | (simp only [headSpec]; omega) | omega), (by first | exact Nat.le_of_ble_eq_true rfl | omega | (dsimp only [headSpec]; omega) | (simp only [headSpec]; omega) | omega)⟩) hS (fun q _ h => hFc q h) hFc (fun u t H locs ht hvm hw hB hz1 hk1 hS => ?_)
  obtain ⟨f3, hf3, hP1, hK1, hD1⟩ := hB
  rw [ht] at hP1
  obtain ⟨hP, hD⟩ := va_join (wr := []) (w1 := [(q_1, .inr (13, [.ref cr, .int (nI n)])), wa cr cI n f3, (h, .inr (13, [.ref ca, .int (nI n)])), wa ca cI L f]) hP hD [2, 3, 0, 1] [] rfl rfl (by decide) (by decide) hk1 hFc hP1 hD1
  have hP : va_P (dC, dI) vwCl [(q_1, .inr (13, [.ref cr, .int (nI n)])), wa cr cI n f3, (h, .inr (13, [.ref ca, .int (nI n)])), wa ca cI L f] H := hP
  have hD : va_D A [(q_1, .inr (13, [.ref cr, .int (nI n)])), wa cr cI n f3, (h, .inr (13, [.ref ca, .int (nI n)])), wa ca cI L f] := hD
  refine lv_aload_n hx hb dX6_copy_17 rfl (lv_at hl 0 rfl) ?_
  have hPe : va_P (dC, dI) vwCl [(h, .inr (13, [.ref ca, .int (nI n)])), wa ca cI L f, (q_1, .inr (13, [.ref cr, .int (nI n)])), wa cr cI n f3] _ := hP.sub [2, 3, 0, 1] rfl
  have hDe : va_D A [(h, .inr (13, [.ref ca, .int (nI n)])), wa ca cI L f, (q_1, .inr (13, [.ref cr, .int (nI n)])), wa cr cI n f3] := hD.sub [2, 3, 0, 1] (by decide) rfl
  refine W.widen (k := 2) (n := 202) (by first | exact Nat.le_of_ble_eq_true rfl | omega | (dsimp only [headSpec]; omega) | (simp only [headSpec]; omega) | omega) (by first | exact Nat.le_of_ble_eq_true rfl | omega | (dsimp only [headSpec]; omega) | (simp only [headSpec]; omega) | omega) ?_
  exact W.aret (v := .ref q_1) hx hb hr (Or.inl ⟨_, rfl⟩) (Or.inr ⟨_, rfl⟩) (fun t ht hW => ⟨⟨(), _, rfl, trivial, _, _, hf3, by rw [ht]; exact hPe, va_K.moved hW.alike hK, hDe⟩, hS.F ht⟩) hS.2.2 dX6_copy_18
