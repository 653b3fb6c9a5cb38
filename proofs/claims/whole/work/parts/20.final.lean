/-! the claim and the walk can't both hold of one start (draft: not built yet) -/
def ub_B : List Int32 := [1, 255, 199, 0, 0, 3, 0, 0, 0, 0, 43, 0, 0, 0, 0, 43, 0, 0, 0, 0, 43, 0, 0, 0, 0, 43, 0, 0, 0, 0, 43, 0, 0, 0, 0, 43, 0, 0, 0, 0, 43, 0, 0, 0, 0, 43, 0, 0, 0, 0, 43, 0, 0, 0, 0, 43, 0, 0, 0, 0, 43, 0, 0, 0, 0, 43, 0, 0, 0, 0, 43, 0, 0, 0, 0, 43, 0, 0, 0, 0, 43, 0, 0, 0, 0]
theorem ub_one {args : Array Value} {s t : State} {o : Outcome} (hv : ∃ v : Option Value, o = Outcome.returned v) (h : limb_1_2.after args s o t = true) : o = .returned (some (.int 1)) := by
  obtain ⟨v, rfl⟩ := hv
  rcases v with _ | v
  · simp [limb_1_2, Cond.after, Cond.holds, Cond.value, Term.eval] at h
  · cases v <;> simp [limb_1_2, Cond.after, Cond.holds, Cond.value, Term.eval] at h
    all_goals (first | (subst h; rfl) | (cases h; rfl) | (simp_all))
set_option maxHeartbeats 4000000 in
theorem ub_false (hC : Claimed_1_2) {l : Launch} {p : Program} {e : Env} {s : State} {m : MethodId} {below : List Frame} {b : Addr} (hfl : l.flags = flags0) (hL : Lists l classFile x code maxLocals ret tables_1 room_1) (ha : l.admits e) (hc : FairCas e.choices) (hk : FairClock e.choices)
    (hf : s.frames = Frame.invoking m #[Value.ref b] :: below) (hfit : argsFit s.vm m #[Value.ref b] = true) (hheap : heapFits s = true) (h1 : (headSpec (Jvm.Cond.code x code maxLocals ret :: tables_1) room_1).applies x e.platform s = true)
    (h2 : (headSpec (Jvm.Cond.code x code maxLocals ret :: tables_1) ({ frames := 2048, cells := 320912, slots := 8739387, locals := 84000 } : Room)).applies x e.platform s = true)
    (hrest : rest_1 p.tables e #[Value.ref b] s) (hpre : Pre_1 p.tables e #[Value.ref b] s) (hx : s.IntsAt b ub_B) : False := by
  obtain ⟨n, o, w1, w2, w3, w4, w5⟩ := hC l hfl hL trivial p e ha hc hk s m #[Value.ref b] below hf hfit hheap h1 ⟨trivial, hrest, hpre⟩
  obtain ⟨scr, harrAt, hlist, hof, hsmall⟩ := hx
  obtain ⟨hcb, hkn, -, -⟩ := State.arrayAt?_spec harrAt
  have hsz : scr.slots.size = 85 := by rw [← Array.length_toList, hlist, List.length_map]; rfl
  have hval : ∀ j : Nat, j < 85 → scr.slots[j]? = some (.int (ub_B.getD j 0)) := fun j hj => by
    have hj : j < ub_B.length := hj
    rw [← Array.getElem?_toList, hlist]
    simp [hj]
  have hbl : b < s.heap.size := (Array.getElem?_eq_some_iff.mp hcb).1
  have hX : va_X b 85 (fun j => ub_B.getD j 0) s s.heap := ⟨scr, hcb, hof, hkn, hsz, hval⟩
  obtain ⟨n2, o2, g1, g2, g3, g4, -⟩ := ub_walk l b (fun j => ub_B.getD j 0) rfl rfl rfl rfl (fun k ha hb => by
    have : k = 2 ∨ k = 3 ∨ k = 4 ∨ k = 5 ∨ k = 6 ∨ k = 7 ∨ k = 8 ∨ k = 9 ∨ k = 10 ∨ k = 11 ∨ k = 12 ∨ k = 13 ∨ k = 14 ∨ k = 15 ∨ k = 16 := by omega
    rcases this with rfl | rfl | rfl | rfl | rfl | rfl | rfl | rfl | rfl | rfl | rfl | rfl | rfl | rfl | rfl <;> exact ⟨rfl, rfl⟩) p e ha hc hk s m #[Value.ref b] below hf ((Spec.applies_iff_loose hf).mp h2).1 ⟨rfl, hX, hbl, hpre⟩ trivial
  have hn : n = n2 := by
    rcases Nat.lt_trichotomy n n2 with q | q | q
    · exact absurd (g1 n q) w3.not_within
    · exact q
    · exact absurd (w1 n2 q) g3.not_within
  subst hn
  have ho : o = o2 := w3.outcome_unique g3
  subst ho
  obtain ⟨⟨hv, -, hsame⟩, -, -⟩ := w5
  have hone := ub_one hv w4
  rcases g4 with g | g
  · exact g hone
  · exact absurd hsame.2.2.2.2.1 (Nat.not_le.mpr g)
