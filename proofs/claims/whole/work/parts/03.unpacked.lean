/-! unpacked over 199 bytes 255: what it makes, counted from below -/
/-- what an entry of a world has in slots, of arrays alone -/
def ug : va_E → Nat
  | .inl x => x.2.1
  | .inr _ => 0
def us : va_W → Nat := fun ws => (ws.map fun q => ug q.2).sum
theorem us_nil : us [] = 0 := rfl
theorem us_cons (q : Nat × va_E) (ws : va_W) : us (q :: ws) = ug q.2 + us ws := by simp [us]
theorem us_app (a b : va_W) : us (a ++ b) = us a + us b := by simp [us]
theorem us_wa (a : Nat) (cA : ClassId) (n : Nat) (f : Nat → Int32) : ug (wa a cA n f).2 = n := rfl
/-- slots made up to the t-th run -/
def uT : Nat → Nat | 0 => 0 | t + 1 => uT t + 255 + 255 * (t + 1)
theorem uT_le : ∀ t, t < 67 → uT t ≤ 580635 := by decide +kernel
theorem uT_66 : uT 66 = 580635 := by decide +kernel
/-- the loop that fills a run -/
theorem unp_fill {p : Program} {l : Launch} {e : Env} {R : Room} {s : State} {m : MethodId} {args : Array Value} {below : List Frame} {meth : Method} {c : Code} {cells slots : Nat} {Q : State → Prop} {cl : List vw_C} {dC : Nat → ClassId} {dI : Nat → Nat → Nat} {A : Nat → Prop} {H0 : Heap} {a r q nr t : Nat} {f g : Nat → Int32} {cA cR cQ : ClassId} {pl : va_W}
    (hx : p.tables.exec = Jvm.exec) (hb : c.code = cX15_unpacked) (ht : t < 66) (hK : va_K (dC, dI) cl [(cA, .int), (cR, .int), (cQ, .int)] s)
    (kk : ∀ (h : Nat → Int32) (H : Heap) (locs : List Loc) (ls : Array Slot), va_P (dC, dI) cl (wa a cA 199 f :: wa r cR nr g :: wa q cQ 255 h :: pl) H → va_D A (wa a cA 199 f :: wa r cR nr g :: wa q cQ 255 h :: pl) → va_S A H0 H locs → lv_has ls 5 [(0, .ref a), (1, .ref r), (2, .int (nI (3 * t))), (3, .ref q), (4, .int (nI 255))] → W p l e R s m args below meth c H locs cells slots Q (F0 m 72 ls [])) :
    ∀ (k i : Nat), i ≤ 255 → 255 < i + k → ∀ (h : Nat → Int32) (H : Heap) (locs : List Loc) (ls : Array Slot), va_P (dC, dI) cl (wa a cA 199 f :: wa r cR nr g :: wa q cQ 255 h :: pl) H → va_D A (wa a cA 199 f :: wa r cR nr g :: wa q cQ 255 h :: pl) → va_S A H0 H locs → lv_has ls 5 [(0, .ref a), (1, .ref r), (2, .int (nI (3 * t))), (3, .ref q), (4, .int (nI i))] → W p l e R s m args below meth c H locs cells slots Q (F0 m 50 ls []) := by
  intro k
  induction k with
  | zero => intro i h1 h2; omega
  | succ k ih =>
    intro i hi hk h H locs ls hP hD hS hl
    refine lv_iload hx hb dX15_unpacked_50 (lv_at hl 4 rfl) ?_
    refine lv_aload_n hx hb dX15_unpacked_52 rfl (lv_at hl 3 rfl) ?_
    refine va_alen (D := (dC, dI)) hx hb hK hP 2 2 rfl rfl rfl dX15_unpacked_53 ?_
    refine lv_icmp_ge (tgt := 72) hx hb dX15_unpacked_54 (by decide) (fun hc => ?_) (fun hc => ?_)
    · have hi2 : i = 255 := by
        rcases Nat.lt_or_ge i 255 with q1 | q1
        · exact absurd hc (nI_ge q1 (by omega))
        · omega
      subst hi2
      exact kk h H locs ls hP hD hS hl
    · have hlt : i < 255 := by
        rcases Nat.lt_or_ge i 255 with q1 | q1
        · exact q1
        · exact absurd (nI_le q1 (by omega)) hc
      refine lv_aload_n hx hb dX15_unpacked_57 rfl (lv_at hl 3 rfl) ?_
      refine lv_iload hx hb dX15_unpacked_58 (lv_at hl 4 rfl) ?_
      refine lv_aload_n hx hb dX15_unpacked_60 rfl (lv_at hl 0 rfl) ?_
      refine lv_iload_n hx hb dX15_unpacked_61 rfl (lv_at hl 2 rfl) ?_
      refine lv_iconst (v := nI 2) hx hb dX15_unpacked_62 (by decide) ?_
      refine lv_iadd hx hb dX15_unpacked_63 ?_
      refine lv_topi (fun y ey => ?_)
      have ey2 : y = nI (3 * t + 2) := ey.trans (nI_add _ _)
      refine va_iald (D := (dC, dI)) hx hb hK hP 0 0 rfl rfl (by rw [ey2]; exact vp_in_nI (by omega) (by omega)) dX15_unpacked_64 ?_
      refine va_iast (D := (dC, dI)) hx hb hK hP hD hS 2 2 rfl rfl (vp_in_nI hlt (by omega)) dX15_unpacked_65 (fun H locs hP hD hS => ?_)
      refine lv_iinc (v := nI (i + 1)) (lv' := [(4, .int (nI (i + 1))), (0, .ref a), (1, .ref r), (2, .int (nI (3 * t))), (3, .ref q)]) hx hb dX15_unpacked_66 hl (k := 4) rfl (by rw [nI_succ]; rfl) (by decide) rfl (fun ls hl => ?_)
      refine lv_goto (tgt := 50) hx hb dX15_unpacked_69 (by decide) ?_
      exact ih (i + 1) (by omega) (by omega) _ H locs ls hP hD hS (lv_sub hl [1, 2, 3, 4, 0] rfl)
set_option maxHeartbeats 4000000 in
set_option maxRecDepth 100000 in
/-- the outer loop, from the t-th run on, to the 255 that lacks its number -/
theorem unp_loop {p : Program} {l : Launch} {e : Env} {R : Room} {s : State} {m : MethodId} {args : Array Value} {below : List Frame} {meth : Method} {c : Code} {Q : State → Prop} {cl : List vw_C} {dC : Nat → ClassId} {dI : Nat → Nat → Nat} {A : Nat → Prop} {H0 : Heap} {a : Nat} {f : Nat → Int32} {cA : ClassId}
    (hx : p.tables.exec = Jvm.exec) (hb : c.code = cX15_unpacked) (hml : c.maxLocals = 5) (hown : s.vm.findClass RX15 = some m.cls) (hts : ∀ w ∈ us_unpacked, w.before args s = true) (hA : ∀ q : Nat, H0.size ≤ q → A q)
    (hRf : 1 ≤ R.frames) (hRl : 23 ≤ R.locals) (hRc : 133 ≤ R.cells) (hRs : 580635 ≤ R.slots) (hf : ∀ j, j < 199 → f j = 255)
    (kk : ∀ (pl : va_W) (H : Heap) (locs : List Loc) (ls : Array Slot), us pl = 580635 → va_K (dC, dI) cl [(cA, .int)] s → va_P (dC, dI) cl (wa a cA 199 f :: pl) H → va_D A (wa a cA 199 f :: pl) → va_S A H0 H locs → W p l e R s m args below meth c H locs 133 580635 Q (F0 m 37 ls [])) :
    ∀ (k t : Nat), t + k = 66 → ∀ (r : Nat) (cR : ClassId) (g : Nat → Int32) (pl : va_W) (H : Heap) (locs : List Loc) (ls : Array Slot), us pl + 255 * t = uT t → va_K (dC, dI) cl [(cA, .int), (cR, .int)] s → va_P (dC, dI) cl (wa a cA 199 f :: wa r cR (255 * t) g :: pl) H → va_D A (wa a cA 199 f :: wa r cR (255 * t) g :: pl) → va_S A H0 H locs → lv_has ls 5 [(0, .ref a), (1, .ref r), (2, .int (nI (3 * t)))] → W p l e R s m args below meth c H locs (1 + 2 * t) (uT t) Q (F0 m 6 ls []) := by
  intro k
  induction k with
  | zero =>
    intro t ht r cR g pl H locs ls hu hK hP hD hS hl
    have ht66 : t = 66 := by omega
    subst ht66
    refine lv_iload_n hx hb dX15_unpacked_6 rfl (lv_at hl 2 rfl) ?_
    refine lv_aload_n hx hb dX15_unpacked_7 rfl (lv_at hl 0 rfl) ?_
    refine va_alen (D := (dC, dI)) hx hb hK hP 0 0 rfl rfl rfl dX15_unpacked_8 ?_
    refine lv_icmp_ge (tgt := 104) hx hb dX15_unpacked_9 (by decide) (fun hc => absurd hc (nI_ge (a := 3 * 66) (b := 199) (by omega) (by omega))) (fun _ => ?_)
    refine lv_aload_n hx hb dX15_unpacked_12 rfl (lv_at hl 0 rfl) ?_
    refine lv_iload_n hx hb dX15_unpacked_13 rfl (lv_at hl 2 rfl) ?_
    refine va_iald (D := (dC, dI)) hx hb hK hP 0 0 rfl rfl (vp_in_nI (by omega) (by omega)) dX15_unpacked_14 ?_
    refine lv_sipush (v := 255) hx hb dX15_unpacked_15 (by decide) ?_
    refine lv_icmp_ne (tgt := 84) hx hb dX15_unpacked_18 (by decide) (fun hc => absurd (hf _ (by rw [nI_clamp (by omega)]; omega)) hc) (fun _ => ?_)
    refine lv_iload_n hx hb dX15_unpacked_21 rfl (lv_at hl 2 rfl) ?_
    refine lv_iconst (v := nI 2) hx hb dX15_unpacked_22 (by decide) ?_
    refine lv_iadd hx hb dX15_unpacked_23 ?_
    refine lv_topi (fun y ey => ?_)
    have ey2 : y = nI 200 := ey.trans (nI_add _ _)
    refine lv_aload_n hx hb dX15_unpacked_24 rfl (lv_at hl 0 rfl) ?_
    refine va_alen (D := (dC, dI)) hx hb hK hP 0 0 rfl rfl rfl dX15_unpacked_25 ?_
    refine lv_icmp_ge (tgt := 37) hx hb dX15_unpacked_26 (by decide) (fun _ => ?_) (fun hc => absurd (by rw [ey2]; exact nI_le (a := 199) (b := 200) (by omega) (by omega)) hc)
    rw [uT_66]
    refine kk (wa r cR (255 * 66) g :: pl) H locs ls ?_ (hK.sub [0] rfl) hP hD hS
    rw [us_cons, us_wa]
    have := uT_66
    omega
  | succ k ih =>
    intro t ht r cR g pl H locs ls hu hK hP hD hS hl
    have ht66 : t < 66 := by omega
    have huT : uT (t + 1) = uT t + 255 + 255 * (t + 1) := rfl
    have huL := uT_le (t + 1) (by omega)
    refine lv_iload_n hx hb dX15_unpacked_6 rfl (lv_at hl 2 rfl) ?_
    refine lv_aload_n hx hb dX15_unpacked_7 rfl (lv_at hl 0 rfl) ?_
    refine va_alen (D := (dC, dI)) hx hb hK hP 0 0 rfl rfl rfl dX15_unpacked_8 ?_
    refine lv_icmp_ge (tgt := 104) hx hb dX15_unpacked_9 (by decide) (fun hc => absurd hc (nI_ge (a := 3 * t) (b := 199) (by omega) (by omega))) (fun _ => ?_)
    refine lv_aload_n hx hb dX15_unpacked_12 rfl (lv_at hl 0 rfl) ?_
    refine lv_iload_n hx hb dX15_unpacked_13 rfl (lv_at hl 2 rfl) ?_
    refine va_iald (D := (dC, dI)) hx hb hK hP 0 0 rfl rfl (vp_in_nI (by omega) (by omega)) dX15_unpacked_14 ?_
    refine lv_sipush (v := 255) hx hb dX15_unpacked_15 (by decide) ?_
    refine lv_icmp_ne (tgt := 84) hx hb dX15_unpacked_18 (by decide) (fun hc => absurd (hf _ (by rw [nI_clamp (by omega)]; omega)) hc) (fun _ => ?_)
    refine lv_iload_n hx hb dX15_unpacked_21 rfl (lv_at hl 2 rfl) ?_
    refine lv_iconst (v := nI 2) hx hb dX15_unpacked_22 (by decide) ?_
    refine lv_iadd hx hb dX15_unpacked_23 ?_
    refine lv_topi (fun y ey => ?_)
    have ey2 : y = nI (3 * t + 2) := ey.trans (nI_add _ _)
    refine lv_aload_n hx hb dX15_unpacked_24 rfl (lv_at hl 0 rfl) ?_
    refine va_alen (D := (dC, dI)) hx hb hK hP 0 0 rfl rfl rfl dX15_unpacked_25 ?_
    refine lv_icmp_ge (tgt := 37) hx hb dX15_unpacked_26 (by decide) (fun hc => absurd hc (by rw [ey2]; exact nI_ge (a := 3 * t + 2) (b := 199) (by omega) (by omega))) (fun _ => ?_)
    refine lv_aload_n hx hb dX15_unpacked_29 rfl (lv_at hl 0 rfl) ?_
    refine lv_iload_n hx hb dX15_unpacked_30 rfl (lv_at hl 2 rfl) ?_
    refine lv_iconst (v := nI 1) hx hb dX15_unpacked_31 (by decide) ?_
    refine lv_iadd hx hb dX15_unpacked_32 ?_
    refine lv_topi (fun y1 ey1 => ?_)
    have ey3 : y1 = nI (3 * t + 1) := ey1.trans (nI_add _ _)
    have hin1 : vp_in y1 199 := by rw [ey3]; exact vp_in_nI (by omega) (by omega)
    refine va_iald (D := (dC, dI)) hx hb hK hP 0 0 rfl rfl hin1 dX15_unpacked_33 ?_
    have hv1 : f y1.toNatClampNeg = 255 := hf _ (by rw [ey3, nI_clamp (by omega)]; omega)
    rw [hv1]
    refine lv_if_ne (tgt := 39) hx hb dX15_unpacked_34 (by decide) (fun _ => ?_) (fun hc => absurd hc (by decide))
    refine lv_aload_n hx hb dX15_unpacked_39 rfl (lv_at hl 0 rfl) ?_
    refine lv_iload_n hx hb dX15_unpacked_40 rfl (lv_at hl 2 rfl) ?_
    refine lv_iconst (v := nI 1) hx hb dX15_unpacked_41 (by decide) ?_
    refine lv_iadd hx hb dX15_unpacked_42 ?_
    rw [← ey1]
    refine va_iald (D := (dC, dI)) hx hb hK hP 0 0 rfl rfl hin1 dX15_unpacked_43 ?_
    rw [hv1]
    refine va_newa (D := (dC, dI)) (atype := .int) (N' := 255) (a0 := (255, .inl (fun _ => 0))) hx hb (hts (.arrayClass .int) (by decide +kernel)) rfl hK hP hD hS hA (fun _ => rfl) (by decide) (by decide) (by decide) (by omega) (by omega) dX15_unpacked_44 (fun q cQ H hK hP hD hS => ?_)
    have hK : va_K (dC, dI) cl [(cA, .int), (cR, .int), (cQ, .int)] s := hK
    have hpm : ((wa a cA 199 f :: wa r cR (255 * t) g :: pl) ++ [wa q cQ 255 (fun _ => 0)]).Perm (wa a cA 199 f :: wa r cR (255 * t) g :: wa q cQ 255 (fun _ => 0) :: pl) := List.Perm.cons _ (List.Perm.cons _ (List.perm_append_singleton _ _))
    have hP := uv_Pp hpm hP
    have hD := uv_Dp hpm hD
    refine lv_astore_n (lv' := [(3, .ref q), (0, .ref a), (1, .ref r), (2, .int (nI (3 * t)))]) hx hb dX15_unpacked_46 rfl hl (by decide) rfl (fun ls hl => ?_)
    refine lv_iconst (v := nI 0) hx hb dX15_unpacked_47 (by decide) ?_
    refine lv_istore (lv' := [(4, .int (nI 0)), (3, .ref q), (0, .ref a), (1, .ref r), (2, .int (nI (3 * t)))]) hx hb dX15_unpacked_48 hl (by decide) rfl (fun ls hl => ?_)
    refine unp_fill (A := A) (H0 := H0) (g := g) hx hb ht66 hK ?_ 256 0 (by omega) (by omega) _ H _ ls hP hD hS (lv_sub hl [2, 3, 4, 1, 0] rfl)
    intro h H locs ls hP hD hS hl
    refine lv_aload_n hx hb dX15_unpacked_72 rfl (lv_at hl 1 rfl) ?_
    refine lv_aload_n hx hb dX15_unpacked_73 rfl (lv_at hl 3 rfl) ?_
    have hpc : (wa a cA 199 f :: wa r cR (255 * t) g :: wa q cQ 255 h :: pl).Perm ([wa r cR (255 * t) g, wa q cQ 255 h] ++ (wa a cA 199 f :: pl)) := (List.Perm.swap _ _ _).trans (List.Perm.cons _ (List.Perm.swap _ _ _))
    have hPc := uv_Ps (List.sublist_append_left [wa r cR (255 * t) g, wa q cQ 255 h] (wa a cA 199 f :: pl)) (uv_Pp hpc hP)
    have hDc := uv_Ds (List.sublist_append_left [wa r cR (255 * t) g, wa q cQ 255 h] (wa a cA 199 f :: pl)) (uv_Dp hpc hD)
    have hKc := hK.sub (tys' := [(cR, .int), (cQ, .int)]) [1, 2] rfl
    have hFc := uv_free hD hS hA hpc
    refine va_callr (va_runS (As := [.ref r, .ref q]) (rest := []) ⟨hx, hb, hml, hown, hts⟩ (c_joined l cl dC dI r q H.size (255 * t) 255 g h cR cQ (by omega)) (va_cwS 2 hts ug_unpacked_joined rfl rfl rfl (by decide +kernel) ⟨hRf, hRl⟩) ⟨fun a U g mk q => by obtain ⟨q0, q1, qP, qK, qD⟩ := q; exact ⟨q0, q1, qP, va_K.moved (u := U) (U := U.calling g mk a) (Vm.Alike.refl U.vm) qK, qD⟩, fun U hU hW => ⟨rfl, by rw [hU], by rw [hU]; exact hPc, va_K.moved hW.alike hKc, hDc.weaken (fun _ _ _ _ => trivial)⟩⟩ rfl rfl hl.1 rfl (lv_room (Nat.le_of_ble_eq_true rfl)) dX15_unpacked_74 ⟨by omega, by omega⟩) hS (fun q _ h => hFc q h) hFc (fun u rr t1 H1 locs1 ht1 hvm hw hB hz1 hk1 hS => ?_)
    obtain ⟨cR2, g2⟩ := u
    obtain ⟨hP1, hK1, hD1⟩ := hB
    rw [ht1] at hP1
    have hK1 := va_K.moved hvm.symm hK1
    obtain ⟨hP, hD⟩ := uv_join hP hD hpc hk1 hFc hP1 hD1
    have hK := (hK.sub (tys' := [(cA, .int)]) [0] rfl).app (hK1.sub (tys' := [(cR2, .int)]) [2] rfl)
    refine lv_astore_n (lv' := [(1, .ref rr), (0, .ref a), (2, .int (nI (3 * t))), (3, .ref q), (4, .int (nI 255))]) hx hb dX15_unpacked_77 rfl hl (by decide) rfl (fun ls hl => ?_)
    refine lv_iinc (v := nI (3 * (t + 1))) (lv' := [(2, .int (nI (3 * (t + 1)))), (1, .ref rr), (0, .ref a), (3, .ref q), (4, .int (nI 255))]) hx hb dX15_unpacked_78 hl (k := 2) rfl (by rw [show Int32.ofInt 3 = nI 3 from rfl, nI_add]; rfl) (by decide) rfl (fun ls hl => ?_)
    refine lv_goto (tgt := 6) hx hb dX15_unpacked_81 (by decide) ?_
    have hpe : ([wa r cR (255 * t) g, wa q cQ 255 h, wa rr cR2 (255 * t + 255) g2] ++ (wa a cA 199 f :: pl)).Perm (wa a cA 199 f :: wa rr cR2 (255 * (t + 1)) g2 :: wa r cR (255 * t) g :: wa q cQ 255 h :: pl) := by
      have e1 : 255 * (t + 1) = 255 * t + 255 := by omega
      rw [e1]
      refine (List.perm_middle (l₁ := [wa r cR (255 * t) g, wa q cQ 255 h, wa rr cR2 (255 * t + 255) g2])).trans (List.Perm.cons _ ?_)
      exact List.perm_middle (l₁ := [wa r cR (255 * t) g, wa q cQ 255 h]) (l₂ := pl)
    have e2 : 1 + 2 * t + 1 + 1 = 1 + 2 * (t + 1) := by omega
    have e3 : uT t + 255 + (255 * t + 255) = uT (t + 1) := by rw [huT]; omega
    rw [e2, e3]
    exact ih (t + 1) (by omega) rr cR2 g2 (wa r cR (255 * t) g :: wa q cQ 255 h :: pl) H1 locs1 ls (by rw [us_cons, us_cons, us_wa, us_wa, huT]; omega) hK (uv_Pp hpe hP) (uv_Dp hpe hD) hS (lv_sub hl [2, 1, 0] rfl)
/-- a method that answers null, with a list of cells that it made -/
def un_Q (B : va_W → State → Prop) (A : Nat → Prop) : Array Value → State → Outcome → State → Prop := fun _ st oc t => (∃ pl : va_W, oc = .returned (some .null) ∧ B pl t) ∧ va_F A st t
set_option maxHeartbeats 4000000 in
set_option maxRecDepth 100000 in
/-- unpacked of 199 bytes 255: null, and 580635 slots are made -/
theorem c_unpacked (l : Launch) (cl : List vw_C) (dC : Nat → ClassId) (dI : Nat → Nat → Nat) (a sz : Nat) (f : Nat → Int32) (cA : ClassId) (hf : ∀ j, j < 199 → f j = 255) : Met l yX15_unpacked us_unpacked ({ frames := 1, cells := 133, slots := 580635, locals := 23 }) (va_Pc [.ref a] (fun U => U.heap.size = sz ∧ va_P (dC, dI) cl [wa a cA 199 f] U.heap ∧ va_K (dC, dI) cl [(cA, .int)] U ∧ va_D (fun _ => True) [wa a cA 199 f])) (un_Q (fun pl t => us pl = 580635 ∧ va_P (dC, dI) cl (wa a cA 199 f :: pl) t.heap ∧ va_K (dC, dI) cl [(cA, .int)] t ∧ va_D (va_A [wa a cA 199 f] sz) (wa a cA 199 f :: pl)) (va_A [wa a cA 199 f] sz)) 133 580635 (va_A [wa a cA 199 f] sz) := by
  refine Met.ofW (cc := cX15_unpacked) (maxL := 5) (ret := (some (.array .int))) (by decide) rfl ?_
  intro p e s m args below meth c s₁ B hml hv
  obtain ⟨rfl, hsz, hP, hK, hD0⟩ := hv
  have hx := B.exec
  have hb := B.bytes
  have hr := B.returns
  have hts := atoms_spec (ws := us_unpacked) B.pre
  have hown : s.vm.findClass RX15 = some m.cls := findClass_of_methodNamed B.named
  have hlocks := B.notSynchronized
  subst hsz
  have hD := hD0.self (sz := s.heap.size)
  generalize hAe : va_A [wa a cA 199 f] s.heap.size = A at hD ⊢
  have hA : ∀ q : Nat, s.heap.size ≤ q → A q := fun q h => by rw [← hAe]; exact Or.inr h
  have hS : va_S A s.heap s.heap [] := va_S.rf
  have hl := lv_entry ([.ref a]) (n := 5) (Nat.le_of_ble_eq_true rfl)
  rw [lg_entry_eq]
  generalize (lg_sl ([.ref a]) ++ List.replicate (5 - (lg_sl ([.ref a])).length) Slot.unset).toArray = ls at hl ⊢
  have hl : lv_has ls 5 [(0, .ref a)] := hl
  refine lv_iconst (v := nI 0) hx hb dX15_unpacked_0 (by decide) ?_
  refine va_newa (D := (dC, dI)) (atype := .int) (N' := 0) (a0 := (0, .inl (fun _ => 0))) hx hb (hts (.arrayClass .int) (by decide +kernel)) rfl hK hP hD hS hA (fun _ => rfl) (by decide) (by decide) (by decide) (Nat.le_of_ble_eq_true rfl) (Nat.le_of_ble_eq_true rfl) dX15_unpacked_1 (fun r cR H hK hP hD hS => ?_)
  refine lv_astore_n (lv' := [(1, .ref r), (0, .ref a)]) hx hb dX15_unpacked_3 rfl hl (by decide) rfl (fun ls hl => ?_)
  refine lv_iconst (v := nI 0) hx hb dX15_unpacked_4 (by decide) ?_
  refine lv_istore_n (lv' := [(2, .int (nI 0)), (1, .ref r), (0, .ref a)]) hx hb dX15_unpacked_5 rfl hl (by decide) rfl (fun ls hl => ?_)
  refine unp_loop (A := A) (H0 := s.heap) (f := f) hx hb hml hown hts hA (Nat.le_of_ble_eq_true rfl) (Nat.le_of_ble_eq_true rfl) (Nat.le_of_ble_eq_true rfl) (Nat.le_of_ble_eq_true rfl) hf ?_ 66 0 rfl r cR (fun _ => 0) [] H _ ls rfl hK hP hD hS (lv_sub hl [2, 1, 0] rfl)
  intro pl H locs ls hu hK hP hD hS
  refine lv_null hx hb dX15_unpacked_37 ?_
  exact W.aret (v := .null) hx hb hr (Or.inr ⟨_, rfl⟩) (Or.inl rfl) (fun t ht hW => ⟨⟨pl, rfl, hu, by rw [ht]; exact hP, va_K.moved hW.alike hK, hD⟩, hS.F ht⟩) hS.2.2 dX15_unpacked_38
