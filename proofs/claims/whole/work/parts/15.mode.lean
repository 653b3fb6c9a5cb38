/-! laid by wip/whole: names, words and decode rows from the print of the task; the contracts are told in wip/whole/*.py -/
theorem dX15_modeOf_0 : decode cX15_modeOf 0 = .ok (.aload_n 0, 1) := by decide +kernel
theorem dX15_modeOf_1 : decode cX15_modeOf 1 = .ok (.invokestatic 401, 3) := by decide +kernel
theorem dX15_modeOf_4 : decode cX15_modeOf 4 = .ok (.astore_n 1, 1) := by decide +kernel
theorem dX15_modeOf_5 : decode cX15_modeOf 5 = .ok (.iconst 1, 1) := by decide +kernel
theorem dX15_modeOf_6 : decode cX15_modeOf 6 = .ok (.istore_n 2, 1) := by decide +kernel
theorem dX15_modeOf_7 : decode cX15_modeOf 7 = .ok (.aload_n 1, 1) := by decide +kernel
theorem dX15_modeOf_8 : decode cX15_modeOf 8 = .ok (.ifnull 28, 3) := by decide +kernel
theorem dX15_modeOf_11 : decode cX15_modeOf 11 = .ok (.iload_n 2, 1) := by decide +kernel
theorem dX15_modeOf_12 : decode cX15_modeOf 12 = .ok (.iconst 3, 1) := by decide +kernel
theorem dX15_modeOf_13 : decode cX15_modeOf 13 = .ok (.if_icmp .gt 23, 3) := by decide +kernel
theorem dX15_modeOf_16 : decode cX15_modeOf 16 = .ok (.aload_n 1, 1) := by decide +kernel
theorem dX15_modeOf_17 : decode cX15_modeOf 17 = .ok (.iload_n 2, 1) := by decide +kernel
theorem dX15_modeOf_18 : decode cX15_modeOf 18 = .ok (.invokestatic 404, 3) := by decide +kernel
theorem dX15_modeOf_21 : decode cX15_modeOf 21 = .ok (.aload_n 0, 1) := by decide +kernel
theorem dX15_modeOf_22 : decode cX15_modeOf 22 = .ok (.invokestatic 116, 3) := by decide +kernel
theorem dX15_modeOf_25 : decode cX15_modeOf 25 = .ok (.ifCond .eq 5, 3) := by decide +kernel
theorem dX15_modeOf_28 : decode cX15_modeOf 28 = .ok (.iload_n 2, 1) := by decide +kernel
theorem dX15_modeOf_29 : decode cX15_modeOf 29 = .ok (.ireturn, 1) := by decide +kernel
theorem dX15_modeOf_30 : decode cX15_modeOf 30 = .ok (.iinc 2 1, 3) := by decide +kernel
theorem dX15_modeOf_33 : decode cX15_modeOf 33 = .ok (.goto (-26), 3) := by decide +kernel
theorem dX15_modeOf_36 : decode cX15_modeOf 36 = .ok (.iconst 0, 1) := by decide +kernel
theorem dX15_modeOf_37 : decode cX15_modeOf 37 = .ok (.ireturn, 1) := by decide +kernel
theorem dX15_modeOf__0 : decode cX15_modeOf_ 0 = .ok (.aload_n 0, 1) := by decide +kernel
theorem dX15_modeOf__1 : decode cX15_modeOf_ 1 = .ok (.iload_n 1, 1) := by decide +kernel
theorem dX15_modeOf__2 : decode cX15_modeOf_ 2 = .ok (.invokevirtual 93, 3) := by decide +kernel
theorem dX15_modeOf__5 : decode cX15_modeOf_ 5 = .ok (.ifCond .eq 7, 3) := by decide +kernel
theorem dX15_modeOf__8 : decode cX15_modeOf_ 8 = .ok (.iconst 0, 1) := by decide +kernel
theorem dX15_modeOf__9 : decode cX15_modeOf_ 9 = .ok (.goto 17, 3) := by decide +kernel
theorem dX15_modeOf__12 : decode cX15_modeOf_ 12 = .ok (.aload_n 0, 1) := by decide +kernel
theorem dX15_modeOf__13 : decode cX15_modeOf_ 13 = .ok (.getfield 22, 3) := by decide +kernel
theorem dX15_modeOf__16 : decode cX15_modeOf_ 16 = .ok (.iload_n 1, 1) := by decide +kernel
theorem dX15_modeOf__17 : decode cX15_modeOf_ 17 = .ok (.invokevirtual 96, 3) := by decide +kernel
theorem dX15_modeOf__20 : decode cX15_modeOf_ 20 = .ok (.checkcast 100, 3) := by decide +kernel
theorem dX15_modeOf__23 : decode cX15_modeOf_ 23 = .ok (.invokestatic 408, 3) := by decide +kernel
theorem dX15_modeOf__26 : decode cX15_modeOf_ 26 = .ok (.ireturn, 1) := by decide +kernel
def usX15_modeOf : List Cond := .code yX15_modeOf cX15_modeOf 3 (some .int) :: ([.methodLink RX15 401 yX15_unpacked, .static yX15_unpacked, .initialized RX15, .code yX15_unpacked cX15_unpacked 5 (some (.array .int)), .arrayClass .int, .methodLink RX15 85 yX15_joined, .static yX15_joined, .code yX15_joined cX15_joined 4 (some (.array .int)), .methodLink RX15 404 yX15_packed, .static yX15_packed, .code yX15_packed cX15_packed 5 (some (.array .int)), .methodLink RX15 101 yX15_part, .static yX15_part, .code yX15_part cX15_part 5 (some (.array .int)), .methodLink RX15 116 yX15_same, .static yX15_same, .code yX15_same cX15_same 4 (some .boolean)])
def usX15_modeOf__r1 : List Cond := [Cond.fieldLink RX15 22 "PatchferryModel" "files" "Ljava/util/ArrayList;", Cond.classLink RX15 100 "[I", Cond.methodLink RX15 93 yX15_failsFile, Cond.instanceMethod yX15_failsFile, Cond.selects RX15 yX15_failsFile yX15_failsFile, Cond.initialized RX15, Cond.code yX15_failsFile cX15_failsFile 2 (some .boolean), Cond.methodLink RX15 78 yX15_isFile, Cond.instanceMethod yX15_isFile, Cond.selects RX15 yX15_isFile yX15_isFile, Cond.code yX15_isFile cX15_isFile 2 (some .boolean), Cond.methodLink RX15 70 yJx4a65c_size_8abf5, Cond.instanceMethod yJx4a65c_size_8abf5, Cond.selects RJx4a65c yJx4a65c_size_8abf5 yJx4a65c_size_8abf5, Cond.initialized RJx4a65c, Cond.code yJx4a65c_size_8abf5 cJx4a65c_size_8abf5 1 (some .int), Cond.fieldLink RJx4a65c 48 "java/util/ArrayList" "size" "I", Cond.methodLink RX15 74 yX15_in, Cond.static yX15_in, Cond.code yX15_in cX15_in 3 (some .boolean)]
def usX15_modeOf__r2 : List Cond := [Cond.methodLink RX15 82 yX15_fails, Cond.instanceMethod yX15_fails, Cond.selects RX15 yX15_fails yX15_fails, Cond.code yX15_fails cX15_fails 2 (some .boolean), Cond.fieldLink RX15 67 "PatchferryModel" "thrown" "I", Cond.methodLink RX15 96 yJx4a65c_get_915e3, Cond.instanceMethod yJx4a65c_get_915e3, Cond.selects RJx4a65c yJx4a65c_get_915e3 yJx4a65c_get_915e3, Cond.code yJx4a65c_get_915e3 cJx4a65c_get_915e3 2 (some (.object "java/lang/Object")), Cond.methodLink RJx4a65c 118 yJ15_checkIndex_7cf53, Cond.static yJ15_checkIndex_7cf53, Cond.initialized RJ15, Cond.code yJ15_checkIndex_7cf53 cJ15_checkIndex_7cf53 2 (some .int), Cond.methodLink RJ15 105 yJ3_checkIndex_8e157, Cond.static yJ3_checkIndex_8e157, Cond.initialized RJ3, Cond.code yJ3_checkIndex_8e157 cJ3_checkIndex_8e157 3 (some .int), Cond.methodLink RJx4a65c 123 yJx4a65c_elementData_915e3, Cond.instanceMethod yJx4a65c_elementData_915e3, Cond.selects RJx4a65c yJx4a65c_elementData_915e3 yJx4a65c_elementData_915e3]
def usX15_modeOf__r3 : List Cond := [Cond.code yJx4a65c_elementData_915e3 cJx4a65c_elementData_915e3 2 (some (.object "java/lang/Object")), Cond.fieldLink RJx4a65c 9 "java/util/ArrayList" "elementData" "[Ljava/lang/Object;", Cond.methodLink RX15 408 yX15_modeOf, Cond.static yX15_modeOf, Cond.code yX15_modeOf cX15_modeOf 3 (some .int), Cond.methodLink RX15 401 yX15_unpacked, Cond.static yX15_unpacked, Cond.code yX15_unpacked cX15_unpacked 5 (some (.array .int)), Cond.arrayClass .int, Cond.methodLink RX15 85 yX15_joined, Cond.static yX15_joined, Cond.code yX15_joined cX15_joined 4 (some (.array .int)), Cond.methodLink RX15 404 yX15_packed, Cond.static yX15_packed, Cond.code yX15_packed cX15_packed 5 (some (.array .int)), Cond.methodLink RX15 101 yX15_part, Cond.static yX15_part, Cond.code yX15_part cX15_part 5 (some (.array .int)), Cond.methodLink RX15 116 yX15_same, Cond.static yX15_same]
def usX15_modeOf__r4 : List Cond := [Cond.code yX15_same cX15_same 4 (some .boolean)]
def usX15_modeOf_ : List Cond := .code yX15_modeOf_ cX15_modeOf_ 2 (some .int) :: ((usX15_modeOf__r1 ++ (usX15_modeOf__r2 ++ (usX15_modeOf__r3 ++ (usX15_modeOf__r4)))) ++ wsX150 ++ wsJx4a65c0)
theorem inX15_modeOf__RX15 : ∀ w ∈ u_ws RX15 TX15 23, w ∈ usX15_modeOf_ := by decide +kernel
set_option maxRecDepth 20000 in
theorem ugX15_modeOf_X15_unpacked : GoodIn usX15_modeOf (va_wsS RX15 401 yX15_unpacked us_unpacked) := goodIn_p _ [4, 8] (by decide +kernel) (by decide +kernel)
set_option maxRecDepth 20000 in
theorem ugX15_modeOf__X15_failsFile : GoodIn usX15_modeOf_ (wsV RX15 93 RX15 yX15_failsFile usX15_failsFile) := goodIn_p _ [7, 11, 16, 20, 24] (by decide +kernel) (by decide +kernel)
set_option maxRecDepth 20000 in
theorem ugX15_modeOf__Jx4a65c_get_915e3 : GoodIn usX15_modeOf_ (wsV RX15 96 RJx4a65c yJx4a65c_get_915e3 usJx4a65c_get_915e3) := goodIn_p _ [29, 33, 37, 41] (by decide +kernel) (by decide +kernel)
set_option maxRecDepth 20000 in
theorem ugX15_modeOf__X15_modeOf : GoodIn usX15_modeOf_ (va_wsS RX15 408 yX15_modeOf usX15_modeOf) := goodIn_p _ [45, 48, 52, 55, 58, 61] (by decide +kernel) (by decide +kernel)
/-- a call that answers null -/
theorem un_call {p : Program} {l : Launch} {e : Env} {R : Room} {s : State} {m : MethodId} {args : Array Value} {below : List Frame} {meth : Method} {c : Code} {H : Heap} {locs : List Loc} {cells slots : Nat} {Q : State → Prop} {pc : Nat} {ls : Array Slot} {rest st0 : List Value} {a : Array Value} {A0 A1 : Nat → Prop} {H0 : Heap} {mc ms : Nat} {free : Addr → Prop} {B : va_W → State → Prop} (hr : va_Run p l e R s m args below meth c H locs cells slots mc ms (F0 m pc ls st0) rest (un_Q B A1 a) free) (hS : va_S A0 H0 H locs) (hA : ∀ q, q < H.size → A1 q → A0 q) (hf : ∀ q, free q → A0 q)
    (kk : ∀ (pl : va_W) (t : State) (H1 : Heap) (locs1 : List Loc), t.heap = H1 → s.vm.Alike t.vm → B pl t → H.size ≤ H1.size → (∀ q : Nat, q < H.size → ¬ A1 q → H1[q]? = H[q]?) → va_S A0 H0 H1 locs1 → W p l e R s m args below meth c H1 locs1 (cells + mc) (slots + ms) Q (F0 m (pc + 3) ls (.null :: rest))) : W p l e R s m args below meth c H locs cells slots Q (F0 m pc ls st0) := by
  intro T hT X
  obtain ⟨v, st₀, t, T', L, h0, X', hL, e1, e2, ⟨⟨pl, hv, hb⟩, hz, hk⟩, st⟩ := hr T hT X
  cases hv
  rw [h0] at hz hk
  obtain ⟨t2, a1, b1⟩ := kk pl t T'.heap (locs ++ L) e1.symm (by rw [← e2]; exact X'.warmed.alike) hb (by rw [e1]; exact hz) (fun q h1 h2 => by rw [e1]; exact hk q h1 h2)
    ⟨Nat.le_trans hS.1 (by rw [e1]; exact hz), fun q h1 h2 => by rw [e1, hk q (Nat.lt_of_lt_of_le h1 hS.1) (fun z => h2 (hA q (Nat.lt_of_lt_of_le h1 hS.1) z))]; exact hS.2.1 q h1 h2, fun q hq => by
      rcases List.mem_append.mp hq with h | h
      · exact hS.2.2 q h
      · exact hf _ (hL q h)⟩ T' rfl X'
  exact ⟨t2, st t2 a1, b1⟩
theorem uI_name {D : va_G} {cI cO : ClassId} {s : State} (hK : va_K D vwCl (ty0 cI cO) s) : s.vm.findClass "[I" = some cI := by
  have hc : s.vm.findClass ("[" ++ FieldType.int.toString) = some cI := (hK.2 0 _ rfl).2
  have e0 : "[" ++ FieldType.int.toString = "[I" := by decide
  rw [e0] at hc
  exact hc

set_option maxHeartbeats 4000000 in
set_option maxRecDepth 100000 in
theorem c_mmode (l : Launch) (dC : Nat → ClassId) (dI : Nat → Nat → Nat) (cI cO : ClassId) (sz : Nat) (fa : Nat) (f : Nat → Int32) (hf : ∀ j, j < 199 → f j = nI 255) : Met l yX15_modeOf usX15_modeOf ({ frames := 2, cells := 133, slots := 580635, locals := 47 }) (va_Pc [.ref fa] (fun U => U.heap.size = sz ∧ va_P (dC, dI) vwCl [wa fa cI 199 f] U.heap ∧ va_K (dC, dI) vwCl (ty0 cI cO) U ∧ va_D (fun _ => True) [wa fa cI 199 f])) (va_Qi (fun (_ : Int32) (_ : va_W) => True) (fun pl t => us pl = 580635 ∧ va_P (dC, dI) vwCl (wa fa cI 199 f :: pl) t.heap ∧ va_K (dC, dI) vwCl (ty0 cI cO) t ∧ va_D (va_A [wa fa cI 199 f] sz) (wa fa cI 199 f :: pl)) (va_A [wa fa cI 199 f] sz)) 133 580635 (va_A [wa fa cI 199 f] sz) := by
  refine Met.ofW (cc := cX15_modeOf) (maxL := 3) (ret := (some .int)) (by decide) rfl ?_
  intro p e s m args below meth c s₁ B hml hv
  obtain ⟨rfl, hsz, hP, hK, hD0⟩ := hv
  have hx := B.exec
  have hb := B.bytes
  have hr := B.returns
  have hts := atoms_spec (ws := usX15_modeOf) B.pre
  have hown : s.vm.findClass RX15 = some m.cls := findClass_of_methodNamed B.named
  have hlocks := B.notSynchronized
  subst hsz
  have hD := hD0.self (sz := s.heap.size)
  generalize hAe : va_A [wa fa cI 199 f] s.heap.size = A at hD ⊢
  have hA : ∀ q : Nat, s.heap.size ≤ q → A q := fun q h => by rw [← hAe]; exact Or.inr h
  have hS : va_S A s.heap s.heap [] := va_S.rf
  have hl := lv_entry ([.ref fa]) (n := 3) (Nat.le_of_ble_eq_true rfl)
  rw [lg_entry_eq]
  generalize (lg_sl ([.ref fa]) ++ List.replicate (3 - (lg_sl ([.ref fa])).length) Slot.unset).toArray = ls at hl ⊢
  have hl : lv_has ls 3 [(0, .ref fa)] := hl
  refine lv_aload_n hx hb dX15_modeOf_0 rfl (lv_at hl 0 rfl) ?_
  have hKc := hK.sub (tys' := [(cI, .int)]) [0] rfl
  have hFc : ∀ q, va_A [wa fa cI 199 f] s.heap.size q → A q := fun q h => by rw [← hAe]; exact h
  refine un_call (va_runS (As := [.ref fa]) (rest := []) ⟨hx, hb, hml, hown, hts⟩ (c_unpacked l vwCl dC dI fa s.heap.size f cI (fun j hj => (hf j hj).trans rfl)) (va_cwS 1 hts ugX15_modeOf_X15_unpacked rfl rfl rfl (by decide +kernel) ⟨(by first | exact Nat.le_of_ble_eq_true rfl | omega | (dsimp only [headSpec]; omega) | (simp only [headSpec]; omega) | omega), (by first | exact Nat.le_of_ble_eq_true rfl | omega | (dsimp only [headSpec]; omega) | (simp only [headSpec]; omega) | omega)⟩) ⟨fun a U g mk q => by obtain ⟨q0, q1, qP, qK, qD⟩ := q; exact ⟨q0, q1, qP, va_K.moved (u := U) (U := U.calling g mk a) (Vm.Alike.refl U.vm) qK, qD⟩, fun U hU hW => ⟨rfl, by rw [hU], by rw [hU]; exact hP, va_K.moved hW.alike hKc, hD0⟩⟩ rfl rfl hl.1 rfl (lv_room (Nat.le_of_ble_eq_true rfl)) dX15_modeOf_1 ⟨(by first | exact Nat.le_of_ble_eq_true rfl | omega | (dsimp only [headSpec]; omega) | (simp only [headSpec]; omega) | omega), (by first | exact Nat.le_of_ble_eq_true rfl | omega | (dsimp only [headSpec]; omega) | (simp only [headSpec]; omega) | omega)⟩) hS (fun q _ h => hFc q h) hFc (fun pl t H locs ht hvm hB hz1 hk1 hS => ?_)
  obtain ⟨hu, hP1, hK1, hD1⟩ := hB
  rw [ht] at hP1
  rw [hAe] at hD1
  refine W.widen (k := 133) (n := 580635) (by first | exact Nat.le_of_ble_eq_true rfl | omega | (dsimp only [headSpec]; omega) | (simp only [headSpec]; omega) | omega) (by first | exact Nat.le_of_ble_eq_true rfl | omega | (dsimp only [headSpec]; omega) | (simp only [headSpec]; omega) | omega) ?_
  refine lv_astore_nN (lv' := [(1, .null), (0, .ref fa)]) hx hb dX15_modeOf_4 rfl hl (by decide) rfl (fun ls hl => ?_)
  refine lv_iconst (v := nI 1) hx hb dX15_modeOf_5 (by decide) ?_
  refine lv_istore_n (lv' := [(2, .int (nI 1)), (1, .null), (0, .ref fa)]) hx hb dX15_modeOf_6 rfl hl (by decide) rfl (fun ls hl => ?_)
  refine lv_aload_nN hx hb dX15_modeOf_7 rfl (lv_at hl 1 rfl) ?_
  refine lv_ifnullN (tgt := 36) hx hb dX15_modeOf_8 (by decide) ?_
  refine lv_iconst (v := nI 0) hx hb dX15_modeOf_36 (by decide) ?_
  exact W.iret (v := nI 0) hx hb hr (fun t ht hW => ⟨⟨_, pl, rfl, trivial, hu, by rw [ht]; exact hP1, va_K.moved hW.alike hK, hD1⟩, hS.F ht⟩) hS.2.2 dX15_modeOf_37
set_option maxHeartbeats 4000000 in
set_option maxRecDepth 100000 in
theorem c_mmode0 (l : Launch) (dC : Nat → ClassId) (dI : Nat → Nat → Nat) (cI cO : ClassId) (sz : Nat) (mo : Nat) (m2 : Nat) (m3 : Nat) (m4 : Nat) (m5 : Int32) (m6 : Nat) (m7 : Nat) (m8 : Nat) (m9 : Nat) (m10 : Nat) (m11 : Int32) (m13 : Int32) (m14 : Int32) (m15 : Nat) (m16 : Nat) (m17 : Nat) (m18 : Nat) (m19 : Nat) (m20 : Int32) (m21 : Int32) (m22 : Int32) (th : Int32) (b1 : Nat) (mc : Int32) (ed : Nat) (fq : Nat → Option Nat) (fa : Nat) (f : Nat → Int32) (hfq : fq 0 = some fa) (hf : ∀ j, j < 199 → f j = nI 255) : Met l yX15_modeOf_ usX15_modeOf_ ({ frames := 4, cells := 133, slots := 580635, locals := 90 }) (va_Pc [.ref mo, .int (nI 0)] (fun U => U.heap.size = sz ∧ va_P (dC, dI) vwCl [(mo, .inr (22, [.int th, .ref b1, .ref m2, .ref m3, .ref m4, .int m5, .ref m6, .ref m7, .ref m8, .ref m9, .ref m10, .int m11, .null, .int m13, .int m14, .ref m15, .ref m16, .ref m17, .ref m18, .ref m19, .int m20, .int m21, .int m22])), (m3, .inr (6, [.int mc, .ref ed, .int (nI 1)])), wq ed cO 10 fq, wa fa cI 199 f] U.heap ∧ va_K (dC, dI) vwCl (ty0 cI cO) U ∧ va_D (fun _ => True) [(mo, .inr (22, [.int th, .ref b1, .ref m2, .ref m3, .ref m4, .int m5, .ref m6, .ref m7, .ref m8, .ref m9, .ref m10, .int m11, .null, .int m13, .int m14, .ref m15, .ref m16, .ref m17, .ref m18, .ref m19, .int m20, .int m21, .int m22])), (m3, .inr (6, [.int mc, .ref ed, .int (nI 1)])), wq ed cO 10 fq, wa fa cI 199 f])) (va_Qi (fun (_ : Int32) (_ : va_W) => True) (fun pl t => us pl = 580635 ∧ va_P (dC, dI) vwCl ((mo, .inr (22, [.int (nI 0), .ref b1, .ref m2, .ref m3, .ref m4, .int m5, .ref m6, .ref m7, .ref m8, .ref m9, .ref m10, .int m11, .null, .int m13, .int m14, .ref m15, .ref m16, .ref m17, .ref m18, .ref m19, .int m20, .int m21, .int m22])) :: (m3, .inr (6, [.int mc, .ref ed, .int (nI 1)])) :: wq ed cO 10 fq :: wa fa cI 199 f :: pl) t.heap ∧ va_K (dC, dI) vwCl (ty0 cI cO) t ∧ va_D (va_A [(mo, .inr (22, [.int th, .ref b1, .ref m2, .ref m3, .ref m4, .int m5, .ref m6, .ref m7, .ref m8, .ref m9, .ref m10, .int m11, .null, .int m13, .int m14, .ref m15, .ref m16, .ref m17, .ref m18, .ref m19, .int m20, .int m21, .int m22])), (m3, .inr (6, [.int mc, .ref ed, .int (nI 1)])), wq ed cO 10 fq, wa fa cI 199 f] sz) ((mo, .inr (22, [.int (nI 0), .ref b1, .ref m2, .ref m3, .ref m4, .int m5, .ref m6, .ref m7, .ref m8, .ref m9, .ref m10, .int m11, .null, .int m13, .int m14, .ref m15, .ref m16, .ref m17, .ref m18, .ref m19, .int m20, .int m21, .int m22])) :: (m3, .inr (6, [.int mc, .ref ed, .int (nI 1)])) :: wq ed cO 10 fq :: wa fa cI 199 f :: pl)) (va_A [(mo, .inr (22, [.int th, .ref b1, .ref m2, .ref m3, .ref m4, .int m5, .ref m6, .ref m7, .ref m8, .ref m9, .ref m10, .int m11, .null, .int m13, .int m14, .ref m15, .ref m16, .ref m17, .ref m18, .ref m19, .int m20, .int m21, .int m22])), (m3, .inr (6, [.int mc, .ref ed, .int (nI 1)])), wq ed cO 10 fq, wa fa cI 199 f] sz)) 133 580635 (va_A [(mo, .inr (22, [.int th, .ref b1, .ref m2, .ref m3, .ref m4, .int m5, .ref m6, .ref m7, .ref m8, .ref m9, .ref m10, .int m11, .null, .int m13, .int m14, .ref m15, .ref m16, .ref m17, .ref m18, .ref m19, .int m20, .int m21, .int m22])), (m3, .inr (6, [.int mc, .ref ed, .int (nI 1)])), wq ed cO 10 fq, wa fa cI 199 f] sz) := by
  refine Met.ofW (cc := cX15_modeOf_) (maxL := 2) (ret := (some .int)) (by decide) rfl ?_
  intro p e s m args below meth c s₁ B hml hv
  obtain ⟨rfl, hsz, hP, hK, hD0⟩ := hv
  have hx := B.exec
  have hb := B.bytes
  have hr := B.returns
  have hts := atoms_spec (ws := usX15_modeOf_) B.pre
  have hown : s.vm.findClass RX15 = some m.cls := findClass_of_methodNamed B.named
  have hlocks := B.notSynchronized
  subst hsz
  have hD := hD0.self (sz := s.heap.size)
  generalize hAe : va_A [(mo, .inr (22, [.int th, .ref b1, .ref m2, .ref m3, .ref m4, .int m5, .ref m6, .ref m7, .ref m8, .ref m9, .ref m10, .int m11, .null, .int m13, .int m14, .ref m15, .ref m16, .ref m17, .ref m18, .ref m19, .int m20, .int m21, .int m22])), (m3, .inr (6, [.int mc, .ref ed, .int (nI 1)])), wq ed cO 10 fq, wa fa cI 199 f] s.heap.size = A at hD ⊢
  have hA : ∀ q : Nat, s.heap.size ≤ q → A q := fun q h => by rw [← hAe]; exact Or.inr h
  have hS : va_S A s.heap s.heap [] := va_S.rf
  have hl := lv_entry ([.ref mo, .int (nI 0)]) (n := 2) (Nat.le_of_ble_eq_true rfl)
  rw [lg_entry_eq]
  generalize (lg_sl ([.ref mo, .int (nI 0)]) ++ List.replicate (2 - (lg_sl ([.ref mo, .int (nI 0)])).length) Slot.unset).toArray = ls at hl ⊢
  have hl : lv_has ls 2 [(0, .ref mo), (1, .int (nI 0))] := hl
  refine lv_aload_n hx hb dX15_modeOf__0 rfl (lv_at hl 0 rfl) ?_
  refine lv_iload_n hx hb dX15_modeOf__1 rfl (lv_at hl 1 rfl) ?_
  have hPc : va_P (dC, dI) vwCl [(mo, .inr (22, [.int th, .ref b1, .ref m2, .ref m3, .ref m4, .int m5, .ref m6, .ref m7, .ref m8, .ref m9, .ref m10, .int m11, .null, .int m13, .int m14, .ref m15, .ref m16, .ref m17, .ref m18, .ref m19, .int m20, .int m21, .int m22])), (m3, .inr (6, [.int mc, .ref ed, .int (nI 1)]))] _ := hP.sub [0, 1] rfl
  have hDc : va_D _ [(mo, .inr (22, [.int th, .ref b1, .ref m2, .ref m3, .ref m4, .int m5, .ref m6, .ref m7, .ref m8, .ref m9, .ref m10, .int m11, .null, .int m13, .int m14, .ref m15, .ref m16, .ref m17, .ref m18, .ref m19, .int m20, .int m21, .int m22])), (m3, .inr (6, [.int mc, .ref ed, .int (nI 1)]))] := hD.sub [0, 1] (by decide) rfl
  have hFc := va_free (wc := [(mo, .inr (22, [.int th, .ref b1, .ref m2, .ref m3, .ref m4, .int m5, .ref m6, .ref m7, .ref m8, .ref m9, .ref m10, .int m11, .null, .int m13, .int m14, .ref m15, .ref m16, .ref m17, .ref m18, .ref m19, .int m20, .int m21, .int m22])), (m3, .inr (6, [.int mc, .ref ed, .int (nI 1)]))]) hD hS hA [0, 1] rfl
  refine va_calli (va_runV (As := [.int (nI 0)]) (rest := []) ⟨hx, hb, hml, hown, hts⟩ (c_failsFile l dC dI cI cO s.heap.size mo m2 m3 m4 m5 m6 m7 m8 m9 m10 m11 m13 m14 m15 m16 m17 m18 m19 m20 m21 m22 th b1 mc ed) (cwV 1 hts ugX15_modeOf__X15_failsFile rfl rfl rfl (by decide +kernel) ⟨(by first | exact Nat.le_of_ble_eq_true rfl | omega | (dsimp only [headSpec]; omega) | (simp only [headSpec]; omega) | omega), (by first | exact Nat.le_of_ble_eq_true rfl | omega | (dsimp only [headSpec]; omega) | (simp only [headSpec]; omega) | omega)⟩) ⟨fun a U g mk q => by obtain ⟨q0, q1, qP, qK, qD⟩ := q; exact ⟨q0, q1, qP, va_K.moved (u := U) (U := U.calling g mk a) (Vm.Alike.refl U.vm) qK, qD⟩, va_recv hK hP (ci := 22) (q0 := 0) rfl rfl, fun U hU hW => ⟨rfl, by rw [hU], by rw [hU]; exact hPc, va_K.moved hW.alike hK, hDc.weaken (fun _ _ _ _ => trivial)⟩⟩ rfl rfl hl.1 rfl (lv_room (Nat.le_of_ble_eq_true rfl)) dX15_modeOf__2 ⟨(by first | exact Nat.le_of_ble_eq_true rfl | omega | (dsimp only [headSpec]; omega) | (simp only [headSpec]; omega) | omega), (by first | exact Nat.le_of_ble_eq_true rfl | omega | (dsimp only [headSpec]; omega) | (simp only [headSpec]; omega) | omega)⟩) hS (fun q _ h => hFc q h) hFc (fun r1 u t H locs ht hvm hw hB hz1 hk1 hS => ?_)
  obtain ⟨hP1, hK1, hD1⟩ := hB
  rw [ht] at hP1
  obtain ⟨hP, hD⟩ := va_join (wr := [wq ed cO 10 fq, wa fa cI 199 f]) (w1 := [(mo, .inr (22, [.int (nI 0), .ref b1, .ref m2, .ref m3, .ref m4, .int m5, .ref m6, .ref m7, .ref m8, .ref m9, .ref m10, .int m11, .null, .int m13, .int m14, .ref m15, .ref m16, .ref m17, .ref m18, .ref m19, .int m20, .int m21, .int m22])), (m3, .inr (6, [.int mc, .ref ed, .int (nI 1)]))]) hP hD [0, 1] [2, 3] rfl rfl (by decide) (by decide) hk1 hFc hP1 hD1
  have hP : va_P (dC, dI) vwCl [wq ed cO 10 fq, wa fa cI 199 f, (mo, .inr (22, [.int (nI 0), .ref b1, .ref m2, .ref m3, .ref m4, .int m5, .ref m6, .ref m7, .ref m8, .ref m9, .ref m10, .int m11, .null, .int m13, .int m14, .ref m15, .ref m16, .ref m17, .ref m18, .ref m19, .int m20, .int m21, .int m22])), (m3, .inr (6, [.int mc, .ref ed, .int (nI 1)]))] H := hP
  have hD : va_D A [wq ed cO 10 fq, wa fa cI 199 f, (mo, .inr (22, [.int (nI 0), .ref b1, .ref m2, .ref m3, .ref m4, .int m5, .ref m6, .ref m7, .ref m8, .ref m9, .ref m10, .int m11, .null, .int m13, .int m14, .ref m15, .ref m16, .ref m17, .ref m18, .ref m19, .int m20, .int m21, .int m22])), (m3, .inr (6, [.int mc, .ref ed, .int (nI 1)]))] := hD
  subst hw
  refine lv_if_eq (tgt := 12) hx hb dX15_modeOf__5 (by decide) (fun hb1 => ?_) (fun hb1 => absurd rfl hb1)
  refine lv_aload_n hx hb dX15_modeOf__12 rfl (lv_at hl 0 rfl) ?_
  refine va_get (D := (dC, dI)) (ci := 22) (v := .ref m3) (C := RX15) (T := TX15) (N := 23) hx hb hts inX15_modeOf__RX15 hown hK hP 2 rfl rfl 3 (by decide) (hts (.fieldLink RX15 22 "PatchferryModel" "files" "Ljava/util/ArrayList;") (by decide +kernel)) (fun _ h9 => h9) rfl dX15_modeOf__13 ?_
  refine lv_iload_n hx hb dX15_modeOf__16 rfl (lv_at hl 1 rfl) ?_
  have hPc : va_P (dC, dI) vwCl [(m3, .inr (6, [.int mc, .ref ed, .int (nI 1)])), wq ed cO 10 fq] _ := hP.sub [3, 0] rfl
  refine uc_r (va_runV (As := [.int (nI 0)]) (rest := []) ⟨hx, hb, hml, hown, hts⟩ (p_alget l dC dI cI cO m3 mc ed 1 10 fq 0 fa (by omega) (by omega) (by omega) hfq) (cwV 1 hts ugX15_modeOf__Jx4a65c_get_915e3 rfl rfl rfl (by decide +kernel) ⟨(by first | exact Nat.le_of_ble_eq_true rfl | omega | (dsimp only [headSpec]; omega) | (simp only [headSpec]; omega) | omega), (by first | exact Nat.le_of_ble_eq_true rfl | omega | (dsimp only [headSpec]; omega) | (simp only [headSpec]; omega) | omega)⟩) ⟨fun a U g mk q => by obtain ⟨q0, qP, qK⟩ := q; exact ⟨q0, qP, va_K.moved (u := U) (U := U.calling g mk a) (Vm.Alike.refl U.vm) qK⟩, va_recv hK hP (ci := 6) (q0 := 3) rfl rfl, fun U hU hW => ⟨rfl, by rw [hU]; exact hPc, va_K.moved hW.alike hK⟩⟩ rfl rfl hl.1 rfl (lv_room (Nat.le_of_ble_eq_true rfl)) dX15_modeOf__17 ⟨(by first | exact Nat.le_of_ble_eq_true rfl | omega | (dsimp only [headSpec]; omega) | (simp only [headSpec]; omega) | omega), (by first | exact Nat.le_of_ble_eq_true rfl | omega | (dsimp only [headSpec]; omega) | (simp only [headSpec]; omega) | omega)⟩) (fun r2 er2 => ?_)
  rw [er2]
  refine va_castA hx hb hown (hts (.classLink RX15 100 "[I") (by decide +kernel)) hP 1 rfl (uI_name hK) dX15_modeOf__20 ?_
  have hP : va_P (dC, dI) vwCl [(mo, .inr (22, [.int (nI 0), .ref b1, .ref m2, .ref m3, .ref m4, .int m5, .ref m6, .ref m7, .ref m8, .ref m9, .ref m10, .int m11, .null, .int m13, .int m14, .ref m15, .ref m16, .ref m17, .ref m18, .ref m19, .int m20, .int m21, .int m22])), (m3, .inr (6, [.int mc, .ref ed, .int (nI 1)])), wq ed cO 10 fq, wa fa cI 199 f] H := hP.sub [2, 3, 0, 1] rfl
  have hD : va_D A [(mo, .inr (22, [.int (nI 0), .ref b1, .ref m2, .ref m3, .ref m4, .int m5, .ref m6, .ref m7, .ref m8, .ref m9, .ref m10, .int m11, .null, .int m13, .int m14, .ref m15, .ref m16, .ref m17, .ref m18, .ref m19, .int m20, .int m21, .int m22])), (m3, .inr (6, [.int mc, .ref ed, .int (nI 1)])), wq ed cO 10 fq, wa fa cI 199 f] := hD.sub [2, 3, 0, 1] (by decide) rfl
  have hpc : ([(mo, .inr (22, [.int (nI 0), .ref b1, .ref m2, .ref m3, .ref m4, .int m5, .ref m6, .ref m7, .ref m8, .ref m9, .ref m10, .int m11, .null, .int m13, .int m14, .ref m15, .ref m16, .ref m17, .ref m18, .ref m19, .int m20, .int m21, .int m22])), (m3, .inr (6, [.int mc, .ref ed, .int (nI 1)])), wq ed cO 10 fq, wa fa cI 199 f]).Perm ([wa fa cI 199 f] ++ ([(mo, .inr (22, [.int (nI 0), .ref b1, .ref m2, .ref m3, .ref m4, .int m5, .ref m6, .ref m7, .ref m8, .ref m9, .ref m10, .int m11, .null, .int m13, .int m14, .ref m15, .ref m16, .ref m17, .ref m18, .ref m19, .int m20, .int m21, .int m22])), (m3, .inr (6, [.int mc, .ref ed, .int (nI 1)])), wq ed cO 10 fq] : va_W)) := List.perm_append_comm (l₁ := ([(mo, .inr (22, [.int (nI 0), .ref b1, .ref m2, .ref m3, .ref m4, .int m5, .ref m6, .ref m7, .ref m8, .ref m9, .ref m10, .int m11, .null, .int m13, .int m14, .ref m15, .ref m16, .ref m17, .ref m18, .ref m19, .int m20, .int m21, .int m22])), (m3, .inr (6, [.int mc, .ref ed, .int (nI 1)])), wq ed cO 10 fq] : va_W)) (l₂ := [wa fa cI 199 f])
  have hPc := uv_Ps (List.sublist_append_left [wa fa cI 199 f] ([(mo, .inr (22, [.int (nI 0), .ref b1, .ref m2, .ref m3, .ref m4, .int m5, .ref m6, .ref m7, .ref m8, .ref m9, .ref m10, .int m11, .null, .int m13, .int m14, .ref m15, .ref m16, .ref m17, .ref m18, .ref m19, .int m20, .int m21, .int m22])), (m3, .inr (6, [.int mc, .ref ed, .int (nI 1)])), wq ed cO 10 fq] : va_W)) (uv_Pp hpc hP)
  have hDc := uv_Ds (List.sublist_append_left [wa fa cI 199 f] ([(mo, .inr (22, [.int (nI 0), .ref b1, .ref m2, .ref m3, .ref m4, .int m5, .ref m6, .ref m7, .ref m8, .ref m9, .ref m10, .int m11, .null, .int m13, .int m14, .ref m15, .ref m16, .ref m17, .ref m18, .ref m19, .int m20, .int m21, .int m22])), (m3, .inr (6, [.int mc, .ref ed, .int (nI 1)])), wq ed cO 10 fq] : va_W)) (uv_Dp hpc hD)
  have hFc := uv_free hD hS hA hpc
  refine va_calli (va_runS (As := [.ref fa]) (rest := []) ⟨hx, hb, hml, hown, hts⟩ (c_mmode l dC dI cI cO H.size fa f hf) (va_cwS 1 hts ugX15_modeOf__X15_modeOf rfl rfl rfl (by decide +kernel) ⟨(by first | exact Nat.le_of_ble_eq_true rfl | omega | (dsimp only [headSpec]; omega) | (simp only [headSpec]; omega) | omega), (by first | exact Nat.le_of_ble_eq_true rfl | omega | (dsimp only [headSpec]; omega) | (simp only [headSpec]; omega) | omega)⟩) ⟨fun a U g mk q => by obtain ⟨q0, q1, qP, qK, qD⟩ := q; exact ⟨q0, q1, qP, va_K.moved (u := U) (U := U.calling g mk a) (Vm.Alike.refl U.vm) qK, qD⟩, fun U hU hW => ⟨rfl, by rw [hU], by rw [hU]; exact hPc, va_K.moved hW.alike hK, hDc.weaken (fun _ _ _ _ => trivial)⟩⟩ rfl rfl hl.1 rfl (lv_room (Nat.le_of_ble_eq_true rfl)) dX15_modeOf__23 ⟨(by first | exact Nat.le_of_ble_eq_true rfl | omega | (dsimp only [headSpec]; omega) | (simp only [headSpec]; omega) | omega), (by first | exact Nat.le_of_ble_eq_true rfl | omega | (dsimp only [headSpec]; omega) | (simp only [headSpec]; omega) | omega)⟩) hS (fun q _ h => hFc q h) hFc (fun r3 pl t H locs ht hvm hw hB hz1 hk1 hS => ?_)
  obtain ⟨hu, hP1, hK1, hD1⟩ := hB
  rw [ht] at hP1
  obtain ⟨hP, hD⟩ := uv_join hP hD hpc hk1 hFc hP1 hD1
  refine W.widen (k := 133) (n := 580635) (by first | exact Nat.le_of_ble_eq_true rfl | omega | (dsimp only [headSpec]; omega) | (simp only [headSpec]; omega) | omega) (by first | exact Nat.le_of_ble_eq_true rfl | omega | (dsimp only [headSpec]; omega) | (simp only [headSpec]; omega) | omega) ?_
  have hpe : ((wa fa cI 199 f :: pl) ++ ([(mo, .inr (22, [.int (nI 0), .ref b1, .ref m2, .ref m3, .ref m4, .int m5, .ref m6, .ref m7, .ref m8, .ref m9, .ref m10, .int m11, .null, .int m13, .int m14, .ref m15, .ref m16, .ref m17, .ref m18, .ref m19, .int m20, .int m21, .int m22])), (m3, .inr (6, [.int mc, .ref ed, .int (nI 1)])), wq ed cO 10 fq] : va_W)).Perm ((mo, .inr (22, [.int (nI 0), .ref b1, .ref m2, .ref m3, .ref m4, .int m5, .ref m6, .ref m7, .ref m8, .ref m9, .ref m10, .int m11, .null, .int m13, .int m14, .ref m15, .ref m16, .ref m17, .ref m18, .ref m19, .int m20, .int m21, .int m22])) :: (m3, .inr (6, [.int mc, .ref ed, .int (nI 1)])) :: wq ed cO 10 fq :: wa fa cI 199 f :: pl) := List.perm_append_comm (l₁ := wa fa cI 199 f :: pl) (l₂ := ([(mo, .inr (22, [.int (nI 0), .ref b1, .ref m2, .ref m3, .ref m4, .int m5, .ref m6, .ref m7, .ref m8, .ref m9, .ref m10, .int m11, .null, .int m13, .int m14, .ref m15, .ref m16, .ref m17, .ref m18, .ref m19, .int m20, .int m21, .int m22])), (m3, .inr (6, [.int mc, .ref ed, .int (nI 1)])), wq ed cO 10 fq] : va_W))
  exact W.iret (v := r3) hx hb hr (fun t ht hW => ⟨⟨_, pl, rfl, trivial, hu, by rw [ht]; exact uv_Pp hpe hP, va_K.moved hW.alike hK, uv_Dp hpe hD⟩, hS.F ht⟩) hS.2.2 dX15_modeOf__26
