/-! names: picked from the print of the task by wip/whole/names.py -/
theorem dX15_joined_0 : decode cX15_joined 0 = .ok (.aload_n 0, 1) := by decide +kernel
theorem dX15_joined_1 : decode cX15_joined 1 = .ok (.arraylength, 1) := by decide +kernel
theorem dX15_joined_2 : decode cX15_joined 2 = .ok (.aload_n 1, 1) := by decide +kernel
theorem dX15_joined_3 : decode cX15_joined 3 = .ok (.arraylength, 1) := by decide +kernel
theorem dX15_joined_4 : decode cX15_joined 4 = .ok (.iadd, 1) := by decide +kernel
theorem dX15_joined_5 : decode cX15_joined 5 = .ok (.newarray .int, 2) := by decide +kernel
theorem dX15_joined_7 : decode cX15_joined 7 = .ok (.astore_n 2, 1) := by decide +kernel
theorem dX15_joined_8 : decode cX15_joined 8 = .ok (.iconst 0, 1) := by decide +kernel
theorem dX15_joined_9 : decode cX15_joined 9 = .ok (.istore_n 3, 1) := by decide +kernel
theorem dX15_joined_10 : decode cX15_joined 10 = .ok (.iload_n 3, 1) := by decide +kernel
theorem dX15_joined_11 : decode cX15_joined 11 = .ok (.aload_n 2, 1) := by decide +kernel
theorem dX15_joined_12 : decode cX15_joined 12 = .ok (.arraylength, 1) := by decide +kernel
theorem dX15_joined_13 : decode cX15_joined 13 = .ok (.if_icmp .ge 30, 3) := by decide +kernel
theorem dX15_joined_16 : decode cX15_joined 16 = .ok (.aload_n 2, 1) := by decide +kernel
theorem dX15_joined_17 : decode cX15_joined 17 = .ok (.iload_n 3, 1) := by decide +kernel
theorem dX15_joined_18 : decode cX15_joined 18 = .ok (.iload_n 3, 1) := by decide +kernel
theorem dX15_joined_19 : decode cX15_joined 19 = .ok (.aload_n 0, 1) := by decide +kernel
theorem dX15_joined_20 : decode cX15_joined 20 = .ok (.arraylength, 1) := by decide +kernel
theorem dX15_joined_21 : decode cX15_joined 21 = .ok (.if_icmp .ge 9, 3) := by decide +kernel
theorem dX15_joined_24 : decode cX15_joined 24 = .ok (.aload_n 0, 1) := by decide +kernel
theorem dX15_joined_25 : decode cX15_joined 25 = .ok (.iload_n 3, 1) := by decide +kernel
theorem dX15_joined_26 : decode cX15_joined 26 = .ok (.iaload, 1) := by decide +kernel
theorem dX15_joined_27 : decode cX15_joined 27 = .ok (.goto 9, 3) := by decide +kernel
theorem dX15_joined_30 : decode cX15_joined 30 = .ok (.aload_n 1, 1) := by decide +kernel
theorem dX15_joined_31 : decode cX15_joined 31 = .ok (.iload_n 3, 1) := by decide +kernel
theorem dX15_joined_32 : decode cX15_joined 32 = .ok (.aload_n 0, 1) := by decide +kernel
theorem dX15_joined_33 : decode cX15_joined 33 = .ok (.arraylength, 1) := by decide +kernel
theorem dX15_joined_34 : decode cX15_joined 34 = .ok (.isub, 1) := by decide +kernel
theorem dX15_joined_35 : decode cX15_joined 35 = .ok (.iaload, 1) := by decide +kernel
theorem dX15_joined_36 : decode cX15_joined 36 = .ok (.iastore, 1) := by decide +kernel
theorem dX15_joined_37 : decode cX15_joined 37 = .ok (.iinc 3 1, 3) := by decide +kernel
theorem dX15_joined_40 : decode cX15_joined 40 = .ok (.goto (-30), 3) := by decide +kernel
theorem dX15_joined_43 : decode cX15_joined 43 = .ok (.aload_n 2, 1) := by decide +kernel
theorem dX15_joined_44 : decode cX15_joined 44 = .ok (.areturn, 1) := by decide +kernel
theorem dX15_unpacked_0 : decode cX15_unpacked 0 = .ok (.iconst 0, 1) := by decide +kernel
theorem dX15_unpacked_1 : decode cX15_unpacked 1 = .ok (.newarray .int, 2) := by decide +kernel
theorem dX15_unpacked_3 : decode cX15_unpacked 3 = .ok (.astore_n 1, 1) := by decide +kernel
theorem dX15_unpacked_4 : decode cX15_unpacked 4 = .ok (.iconst 0, 1) := by decide +kernel
theorem dX15_unpacked_5 : decode cX15_unpacked 5 = .ok (.istore_n 2, 1) := by decide +kernel
theorem dX15_unpacked_6 : decode cX15_unpacked 6 = .ok (.iload_n 2, 1) := by decide +kernel
theorem dX15_unpacked_7 : decode cX15_unpacked 7 = .ok (.aload_n 0, 1) := by decide +kernel
theorem dX15_unpacked_8 : decode cX15_unpacked 8 = .ok (.arraylength, 1) := by decide +kernel
theorem dX15_unpacked_9 : decode cX15_unpacked 9 = .ok (.if_icmp .ge 95, 3) := by decide +kernel
theorem dX15_unpacked_12 : decode cX15_unpacked 12 = .ok (.aload_n 0, 1) := by decide +kernel
theorem dX15_unpacked_13 : decode cX15_unpacked 13 = .ok (.iload_n 2, 1) := by decide +kernel
theorem dX15_unpacked_14 : decode cX15_unpacked 14 = .ok (.iaload, 1) := by decide +kernel
theorem dX15_unpacked_15 : decode cX15_unpacked 15 = .ok (.sipush 255, 3) := by decide +kernel
theorem dX15_unpacked_18 : decode cX15_unpacked 18 = .ok (.if_icmp .ne 66, 3) := by decide +kernel
theorem dX15_unpacked_21 : decode cX15_unpacked 21 = .ok (.iload_n 2, 1) := by decide +kernel
theorem dX15_unpacked_22 : decode cX15_unpacked 22 = .ok (.iconst 2, 1) := by decide +kernel
theorem dX15_unpacked_23 : decode cX15_unpacked 23 = .ok (.iadd, 1) := by decide +kernel
theorem dX15_unpacked_24 : decode cX15_unpacked 24 = .ok (.aload_n 0, 1) := by decide +kernel
theorem dX15_unpacked_25 : decode cX15_unpacked 25 = .ok (.arraylength, 1) := by decide +kernel
theorem dX15_unpacked_26 : decode cX15_unpacked 26 = .ok (.if_icmp .ge 11, 3) := by decide +kernel
theorem dX15_unpacked_29 : decode cX15_unpacked 29 = .ok (.aload_n 0, 1) := by decide +kernel
theorem dX15_unpacked_30 : decode cX15_unpacked 30 = .ok (.iload_n 2, 1) := by decide +kernel
theorem dX15_unpacked_31 : decode cX15_unpacked 31 = .ok (.iconst 1, 1) := by decide +kernel
theorem dX15_unpacked_32 : decode cX15_unpacked 32 = .ok (.iadd, 1) := by decide +kernel
theorem dX15_unpacked_33 : decode cX15_unpacked 33 = .ok (.iaload, 1) := by decide +kernel
theorem dX15_unpacked_34 : decode cX15_unpacked 34 = .ok (.ifCond .ne 5, 3) := by decide +kernel
theorem dX15_unpacked_37 : decode cX15_unpacked 37 = .ok (.aconst_null, 1) := by decide +kernel
theorem dX15_unpacked_38 : decode cX15_unpacked 38 = .ok (.areturn, 1) := by decide +kernel
theorem dX15_unpacked_39 : decode cX15_unpacked 39 = .ok (.aload_n 0, 1) := by decide +kernel
theorem dX15_unpacked_40 : decode cX15_unpacked 40 = .ok (.iload_n 2, 1) := by decide +kernel
theorem dX15_unpacked_41 : decode cX15_unpacked 41 = .ok (.iconst 1, 1) := by decide +kernel
theorem dX15_unpacked_42 : decode cX15_unpacked 42 = .ok (.iadd, 1) := by decide +kernel
theorem dX15_unpacked_43 : decode cX15_unpacked 43 = .ok (.iaload, 1) := by decide +kernel
theorem dX15_unpacked_44 : decode cX15_unpacked 44 = .ok (.newarray .int, 2) := by decide +kernel
theorem dX15_unpacked_46 : decode cX15_unpacked 46 = .ok (.astore_n 3, 1) := by decide +kernel
theorem dX15_unpacked_47 : decode cX15_unpacked 47 = .ok (.iconst 0, 1) := by decide +kernel
theorem dX15_unpacked_48 : decode cX15_unpacked 48 = .ok (.istore 4, 2) := by decide +kernel
theorem dX15_unpacked_50 : decode cX15_unpacked 50 = .ok (.iload 4, 2) := by decide +kernel
theorem dX15_unpacked_52 : decode cX15_unpacked 52 = .ok (.aload_n 3, 1) := by decide +kernel
theorem dX15_unpacked_53 : decode cX15_unpacked 53 = .ok (.arraylength, 1) := by decide +kernel
theorem dX15_unpacked_54 : decode cX15_unpacked 54 = .ok (.if_icmp .ge 18, 3) := by decide +kernel
theorem dX15_unpacked_57 : decode cX15_unpacked 57 = .ok (.aload_n 3, 1) := by decide +kernel
theorem dX15_unpacked_58 : decode cX15_unpacked 58 = .ok (.iload 4, 2) := by decide +kernel
theorem dX15_unpacked_60 : decode cX15_unpacked 60 = .ok (.aload_n 0, 1) := by decide +kernel
theorem dX15_unpacked_61 : decode cX15_unpacked 61 = .ok (.iload_n 2, 1) := by decide +kernel
theorem dX15_unpacked_62 : decode cX15_unpacked 62 = .ok (.iconst 2, 1) := by decide +kernel
theorem dX15_unpacked_63 : decode cX15_unpacked 63 = .ok (.iadd, 1) := by decide +kernel
theorem dX15_unpacked_64 : decode cX15_unpacked 64 = .ok (.iaload, 1) := by decide +kernel
theorem dX15_unpacked_65 : decode cX15_unpacked 65 = .ok (.iastore, 1) := by decide +kernel
theorem dX15_unpacked_66 : decode cX15_unpacked 66 = .ok (.iinc 4 1, 3) := by decide +kernel
theorem dX15_unpacked_69 : decode cX15_unpacked 69 = .ok (.goto (-19), 3) := by decide +kernel
theorem dX15_unpacked_72 : decode cX15_unpacked 72 = .ok (.aload_n 1, 1) := by decide +kernel
theorem dX15_unpacked_73 : decode cX15_unpacked 73 = .ok (.aload_n 3, 1) := by decide +kernel
theorem dX15_unpacked_74 : decode cX15_unpacked 74 = .ok (.invokestatic 85, 3) := by decide +kernel
theorem dX15_unpacked_77 : decode cX15_unpacked 77 = .ok (.astore_n 1, 1) := by decide +kernel
theorem dX15_unpacked_78 : decode cX15_unpacked 78 = .ok (.iinc 2 3, 3) := by decide +kernel
theorem dX15_unpacked_81 : decode cX15_unpacked 81 = .ok (.goto (-75), 3) := by decide +kernel
theorem dX15_unpacked_84 : decode cX15_unpacked 84 = .ok (.aload_n 1, 1) := by decide +kernel
theorem dX15_unpacked_85 : decode cX15_unpacked 85 = .ok (.iconst 1, 1) := by decide +kernel
theorem dX15_unpacked_86 : decode cX15_unpacked 86 = .ok (.newarray .int, 2) := by decide +kernel
theorem dX15_unpacked_88 : decode cX15_unpacked 88 = .ok (.dup, 1) := by decide +kernel
theorem dX15_unpacked_89 : decode cX15_unpacked 89 = .ok (.iconst 0, 1) := by decide +kernel
theorem dX15_unpacked_90 : decode cX15_unpacked 90 = .ok (.aload_n 0, 1) := by decide +kernel
theorem dX15_unpacked_91 : decode cX15_unpacked 91 = .ok (.iload_n 2, 1) := by decide +kernel
theorem dX15_unpacked_92 : decode cX15_unpacked 92 = .ok (.iaload, 1) := by decide +kernel
theorem dX15_unpacked_93 : decode cX15_unpacked 93 = .ok (.iastore, 1) := by decide +kernel
theorem dX15_unpacked_94 : decode cX15_unpacked 94 = .ok (.invokestatic 85, 3) := by decide +kernel
theorem dX15_unpacked_97 : decode cX15_unpacked 97 = .ok (.astore_n 1, 1) := by decide +kernel
theorem dX15_unpacked_98 : decode cX15_unpacked 98 = .ok (.iinc 2 1, 3) := by decide +kernel
theorem dX15_unpacked_101 : decode cX15_unpacked 101 = .ok (.goto (-95), 3) := by decide +kernel
theorem dX15_unpacked_104 : decode cX15_unpacked 104 = .ok (.aload_n 1, 1) := by decide +kernel
theorem dX15_unpacked_105 : decode cX15_unpacked 105 = .ok (.areturn, 1) := by decide +kernel
/-! THE REFERENCE'S OWN COST: joined and unpacked over a row of 199 bytes 255: what they make, counted from below -/
/-- the words that the two methods need -/
def us_joined : List Cond := .code yX15_joined cX15_joined 4 (some (.array .int)) :: [.arrayClass .int]
def us_unpacked : List Cond := .code yX15_unpacked cX15_unpacked 5 (some (.array .int)) :: [.arrayClass .int, .methodLink RX15 85 yX15_joined, .static yX15_joined, .initialized RX15, .code yX15_joined cX15_joined 4 (some (.array .int))]
theorem ug_unpacked_joined : GoodIn us_unpacked (va_wsS RX15 85 yX15_joined us_joined) := goodIn_p _ [5] rfl (by decide +kernel)
/-- what the joined row holds -/
def jn (f f2 : Nat → Int32) (n j : Nat) : Int32 := if j < n then f j else f2 (j - n)
/-- the loop of joined, up to its end -/
theorem joined_loop {p : Program} {l : Launch} {e : Env} {R : Room} {s : State} {m : MethodId} {args : Array Value} {below : List Frame} {meth : Method} {c : Code} {cells slots : Nat} {Q : State → Prop} {cl : List vw_C} {dC : Nat → ClassId} {dI : Nat → Nat → Nat} {A : Nat → Prop} {H0 : Heap} {a b q n n2 : Nat} {f f2 : Nat → Int32} {cA cB cR : ClassId}
    (hx : p.tables.exec = Jvm.exec) (hb : c.code = cX15_joined) (hn : n + n2 < 2 ^ 31) (hK : va_K (dC, dI) cl [(cA, .int), (cB, .int), (cR, .int)] s)
    (kk : ∀ (g : Nat → Int32) (H : Heap) (locs : List Loc) (ls : Array Slot), (∀ j, j < n + n2 → g j = jn f f2 n j) → va_P (dC, dI) cl [wa a cA n f, wa b cB n2 f2, wa q cR (n + n2) g] H → va_D A [wa a cA n f, wa b cB n2 f2, wa q cR (n + n2) g] → va_S A H0 H locs → lv_has ls 4 [(0, .ref a), (1, .ref b), (2, .ref q), (3, .int (nI (n + n2)))] → W p l e R s m args below meth c H locs cells slots Q (F0 m 43 ls [])) :
    ∀ (k i : Nat), i ≤ n + n2 → n + n2 < i + k → ∀ (g : Nat → Int32) (H : Heap) (locs : List Loc) (ls : Array Slot), (∀ j, j < i → g j = jn f f2 n j) → va_P (dC, dI) cl [wa a cA n f, wa b cB n2 f2, wa q cR (n + n2) g] H → va_D A [wa a cA n f, wa b cB n2 f2, wa q cR (n + n2) g] → va_S A H0 H locs → lv_has ls 4 [(0, .ref a), (1, .ref b), (2, .ref q), (3, .int (nI i))] → W p l e R s m args below meth c H locs cells slots Q (F0 m 10 ls []) := by
  intro k
  induction k with
  | zero => intro i h1 h2; omega
  | succ k ih =>
    intro i hi hk g H locs ls hg hP hD hS hl
    refine lv_iload_n hx hb dX15_joined_10 rfl (lv_at hl 3 rfl) ?_
    refine lv_aload_n hx hb dX15_joined_11 rfl (lv_at hl 2 rfl) ?_
    refine va_alen (D := (dC, dI)) hx hb hK hP 2 2 rfl rfl rfl dX15_joined_12 ?_
    refine lv_icmp_ge (tgt := 43) hx hb dX15_joined_13 (by decide) (fun h => ?_) (fun h => ?_)
    · have hi2 : i = n + n2 := by
        rcases Nat.lt_or_ge i (n + n2) with q1 | q1
        · exact absurd h (nI_ge q1 hn)
        · omega
      subst hi2
      exact kk g H locs ls hg hP hD hS hl
    · have hlt : i < n + n2 := by
        rcases Nat.lt_or_ge i (n + n2) with q1 | q1
        · exact q1
        · exact absurd (nI_le q1 (by omega)) h
      have tail : ∀ x : Int32, x = jn f f2 n i → W p l e R s m args below meth c H locs cells slots Q (F0 m 36 ls [.int x, .int (nI i), .ref q]) := by
        intro x hxj
        refine va_iast (D := (dC, dI)) hx hb hK hP hD hS 2 2 rfl rfl (vp_in_nI hlt hn) dX15_joined_36 (fun H locs hP hD hS => ?_)
        have hP : va_P (dC, dI) cl [wa a cA n f, wa b cB n2 f2, wa q cR (n + n2) (upd g (nI i).toNatClampNeg x)] H := hP
        have hD : va_D A [wa a cA n f, wa b cB n2 f2, wa q cR (n + n2) (upd g (nI i).toNatClampNeg x)] := hD
        refine lv_iinc (v := nI (i + 1)) (lv' := [(3, .int (nI (i + 1))), (0, .ref a), (1, .ref b), (2, .ref q)]) hx hb dX15_joined_37 hl (k := 3) rfl (by rw [nI_succ]; rfl) (by decide) rfl (fun ls hl => ?_)
        refine lv_goto (tgt := 10) hx hb dX15_joined_40 (by decide) ?_
        exact ih (i + 1) (by omega) (by omega) _ H locs ls (fun j hj => by
          rw [nI_clamp (by omega)]
          rcases Nat.lt_or_ge j i with q1 | q1
          · rw [pk_un (by omega)]; exact hg j q1
          · have e0 : j = i := by omega
            subst e0
            rw [pk_us]; exact hxj) hP hD hS (lv_sub hl [1, 2, 3, 0] rfl)
      refine lv_aload_n hx hb dX15_joined_16 rfl (lv_at hl 2 rfl) ?_
      refine lv_iload_n hx hb dX15_joined_17 rfl (lv_at hl 3 rfl) ?_
      refine lv_iload_n hx hb dX15_joined_18 rfl (lv_at hl 3 rfl) ?_
      refine lv_aload_n hx hb dX15_joined_19 rfl (lv_at hl 0 rfl) ?_
      refine va_alen (D := (dC, dI)) hx hb hK hP 0 0 rfl rfl rfl dX15_joined_20 ?_
      refine lv_icmp_ge (tgt := 30) hx hb dX15_joined_21 (by decide) (fun h2 => ?_) (fun h2 => ?_)
      · have hni : n ≤ i := by
          rcases Nat.lt_or_ge i n with q1 | q1
          · exact absurd h2 (nI_ge q1 (by omega))
          · exact q1
        refine lv_aload_n hx hb dX15_joined_30 rfl (lv_at hl 1 rfl) ?_
        refine lv_iload_n hx hb dX15_joined_31 rfl (lv_at hl 3 rfl) ?_
        refine lv_aload_n hx hb dX15_joined_32 rfl (lv_at hl 0 rfl) ?_
        refine va_alen (D := (dC, dI)) hx hb hK hP 0 0 rfl rfl rfl dX15_joined_33 ?_
        refine lv_isub hx hb dX15_joined_34 ?_
        refine lv_topi (fun y ey => ?_)
        have ey2 : y = nI (i - n) := ey.trans (pk_sub hni)
        refine va_iald (D := (dC, dI)) hx hb hK hP 1 1 rfl rfl (by rw [ey2]; exact vp_in_nI (by omega) (by omega)) dX15_joined_35 ?_
        exact tail _ (by rw [ey2, nI_clamp (by omega), jn, if_neg (by omega)])
      · have hni : i < n := by
          rcases Nat.lt_or_ge i n with q1 | q1
          · exact q1
          · exact absurd (nI_le q1 (by omega)) h2
        refine lv_aload_n hx hb dX15_joined_24 rfl (lv_at hl 0 rfl) ?_
        refine lv_iload_n hx hb dX15_joined_25 rfl (lv_at hl 3 rfl) ?_
        refine va_iald (D := (dC, dI)) hx hb hK hP 0 0 rfl rfl (vp_in_nI hni (by omega)) dX15_joined_26 ?_
        refine lv_goto (tgt := 36) hx hb dX15_joined_27 (by decide) ?_
        exact tail _ (by rw [nI_clamp (by omega), jn, if_pos hni])
set_option maxHeartbeats 4000000 in
set_option maxRecDepth 100000 in
/-- joined: a new array as long as both together -/
theorem c_joined (l : Launch) (cl : List vw_C) (dC : Nat → ClassId) (dI : Nat → Nat → Nat) (a b sz n n2 : Nat) (f f2 : Nat → Int32) (cA cB : ClassId) (hn : n + n2 ≤ 134217728) : Met l yX15_joined us_joined ({ frames := 0, cells := 1, slots := n + n2, locals := 0 }) (va_Pc [.ref a, .ref b] (fun U => U.heap.size = sz ∧ va_P (dC, dI) cl [wa a cA n f, wa b cB n2 f2] U.heap ∧ va_K (dC, dI) cl [(cA, .int), (cB, .int)] U ∧ va_D (fun _ => True) [wa a cA n f, wa b cB n2 f2])) (va_Qr (fun u : ClassId × (Nat → Int32) => ∀ j, j < n + n2 → u.2 j = jn f f2 n j) (fun u r t => va_P (dC, dI) cl [wa a cA n f, wa b cB n2 f2, wa r u.1 (n + n2) u.2] t.heap ∧ va_K (dC, dI) cl [(cA, .int), (cB, .int), (u.1, .int)] t ∧ va_D (va_A [wa a cA n f, wa b cB n2 f2] sz) [wa a cA n f, wa b cB n2 f2, wa r u.1 (n + n2) u.2]) (va_A [wa a cA n f, wa b cB n2 f2] sz)) 1 (n + n2) (va_A [wa a cA n f, wa b cB n2 f2] sz) := by
  refine Met.ofW (cc := cX15_joined) (maxL := 4) (ret := (some (.array .int))) (by decide) rfl ?_
  intro p e s m args below meth c s₁ B hml hv
  obtain ⟨rfl, hsz, hP, hK, hD0⟩ := hv
  have hx := B.exec
  have hb := B.bytes
  have hr := B.returns
  have hts := atoms_spec (ws := us_joined) B.pre
  have hlocks := B.notSynchronized
  subst hsz
  have hD := hD0.self (sz := s.heap.size)
  generalize hAe : va_A [wa a cA n f, wa b cB n2 f2] s.heap.size = A at hD ⊢
  have hA : ∀ q : Nat, s.heap.size ≤ q → A q := fun q h => by rw [← hAe]; exact Or.inr h
  have hS : va_S A s.heap s.heap [] := va_S.rf
  have hl := lv_entry ([.ref a, .ref b]) (n := 4) (Nat.le_of_ble_eq_true rfl)
  rw [lg_entry_eq]
  generalize (lg_sl ([.ref a, .ref b]) ++ List.replicate (4 - (lg_sl ([.ref a, .ref b])).length) Slot.unset).toArray = ls at hl ⊢
  have hl : lv_has ls 4 [(0, .ref a), (1, .ref b)] := hl
  refine lv_aload_n hx hb dX15_joined_0 rfl (lv_at hl 0 rfl) ?_
  refine va_alen (D := (dC, dI)) hx hb hK hP 0 0 rfl rfl rfl dX15_joined_1 ?_
  refine lv_aload_n hx hb dX15_joined_2 rfl (lv_at hl 1 rfl) ?_
  refine va_alen (D := (dC, dI)) hx hb hK hP 1 1 rfl rfl rfl dX15_joined_3 ?_
  refine lv_iadd hx hb dX15_joined_4 ?_
  refine lv_topi (fun y ey => ?_)
  have ey2 : y = nI (n + n2) := ey.trans (nI_add n n2)
  refine va_newa (D := (dC, dI)) (atype := .int) (N' := n + n2) (a0 := (n + n2, .inl (fun _ => 0))) hx hb (hts (.arrayClass .int) (by decide +kernel)) rfl hK hP hD hS hA (fun _ => rfl) (by rw [ey2]; exact nI_pos (by omega)) (by rw [ey2]; exact nI_clamp (by omega)) (by show (n + n2) * 4 ≤ 536870912; omega) (Nat.le_refl _) (Nat.le_of_eq (Nat.zero_add _)) dX15_joined_5 (fun q cR H hK hP hD hS => ?_)
  have hP : va_P (dC, dI) cl [wa a cA n f, wa b cB n2 f2, wa q cR (n + n2) (fun _ => 0)] H := hP
  have hD : va_D A [wa a cA n f, wa b cB n2 f2, wa q cR (n + n2) (fun _ => 0)] := hD
  have hK : va_K (dC, dI) cl [(cA, .int), (cB, .int), (cR, .int)] s := hK
  refine lv_astore_n (lv' := [(2, .ref q), (0, .ref a), (1, .ref b)]) hx hb dX15_joined_7 rfl hl (by decide) rfl (fun ls hl => ?_)
  refine lv_iconst (v := 0) hx hb dX15_joined_8 (by decide) ?_
  refine lv_istore_n (lv' := [(3, .int 0), (2, .ref q), (0, .ref a), (1, .ref b)]) hx hb dX15_joined_9 rfl hl (by decide) rfl (fun ls hl => ?_)
  have hl : lv_has ls 4 [(3, .int (nI 0)), (2, .ref q), (0, .ref a), (1, .ref b)] := hl
  refine joined_loop (A := A) (H0 := s.heap) (f := f) (f2 := f2) hx hb (by omega) hK ?_ (n + n2 + 1) 0 (Nat.zero_le _) (by omega) _ H _ ls (fun j hj => absurd hj (by omega)) hP hD hS (lv_sub hl [2, 3, 1, 0] rfl)
  intro g H locs ls hg hP hD hS hl
  refine lv_aload_n hx hb dX15_joined_43 rfl (lv_at hl 2 rfl) ?_
  refine W.widen (k := 1) (n := n + n2) (Nat.le_refl _) (Nat.le_of_eq (Nat.zero_add _)) ?_
  exact W.aret (v := .ref q) hx hb hr (Or.inr ⟨_, rfl⟩) (Or.inr ⟨_, rfl⟩) (fun t ht hW => ⟨⟨(cR, g), q, rfl, hg, by rw [ht]; exact hP, va_K.moved hW.alike hK, hD⟩, hS.F ht⟩) hS.2.2 dX15_joined_44
