/-! WORLDS AS BAGS: a world's cells in any order, and a join behind a call in which the rest may be any list -/
theorem uv_P {D : va_G} {cl : List vw_C} {ws : va_W} {H : Heap} : va_P D cl ws H ↔ ∀ q ∈ ws, va_at D cl q H := by
  constructor
  · intro h q hq
    obtain ⟨k, hk⟩ := List.getElem?_of_mem hq
    exact h k q hk
  · intro h k q hk
    exact h q (List.mem_of_getElem? hk)
theorem uv_D {A : Nat → Prop} {ws : va_W} : va_D A ws ↔ (ws.map Prod.fst).Nodup ∧ ∀ q ∈ ws, A q.1 := by
  constructor
  · intro h
    refine ⟨?_, fun q hq => ?_⟩
    · rw [List.Nodup, List.pairwise_iff_getElem]
      intro i j hi hj hij
      rw [List.length_map] at hi hj
      rw [List.getElem_map, List.getElem_map]
      intro e
      have := h.1 i j ws[i] ws[j] (List.getElem?_eq_getElem hi) (List.getElem?_eq_getElem hj) e
      omega
    · obtain ⟨k, hk⟩ := List.getElem?_of_mem hq
      exact h.2 k q hk
  · intro h
    refine ⟨fun i j p q hp hq e => ?_, fun k q hk => h.2 q (List.mem_of_getElem? hk)⟩
    obtain ⟨hi, rfl⟩ := List.getElem?_eq_some_iff.mp hp
    obtain ⟨hj, rfl⟩ := List.getElem?_eq_some_iff.mp hq
    have h1 := h.1
    rw [List.Nodup, List.pairwise_iff_getElem] at h1
    rcases Nat.lt_trichotomy i j with g | g | g
    · have := h1 i j (by rw [List.length_map]; exact hi) (by rw [List.length_map]; exact hj) g
      rw [List.getElem_map, List.getElem_map] at this
      exact absurd e this
    · exact g
    · have := h1 j i (by rw [List.length_map]; exact hj) (by rw [List.length_map]; exact hi) g
      rw [List.getElem_map, List.getElem_map] at this
      exact absurd e.symm this
theorem uv_Pp {D : va_G} {cl : List vw_C} {ws ws' : va_W} {H : Heap} (hp : ws.Perm ws') (h : va_P D cl ws H) : va_P D cl ws' H := uv_P.mpr fun q hq => uv_P.mp h q (hp.mem_iff.mpr hq)
theorem uv_Dp {A : Nat → Prop} {ws ws' : va_W} (hp : ws.Perm ws') (h : va_D A ws) : va_D A ws' := by
  obtain ⟨h1, h2⟩ := uv_D.mp h
  exact uv_D.mpr ⟨(hp.map Prod.fst).nodup_iff.mp h1, fun q hq => h2 q (hp.mem_iff.mpr hq)⟩
theorem uv_Ps {D : va_G} {cl : List vw_C} {ws ws' : va_W} {H : Heap} (hs : ws'.Sublist ws) (h : va_P D cl ws H) : va_P D cl ws' H := uv_P.mpr fun q hq => uv_P.mp h q (hs.subset hq)
theorem uv_Ds {A : Nat → Prop} {ws ws' : va_W} (hs : ws'.Sublist ws) (h : va_D A ws) : va_D A ws' := by
  obtain ⟨h1, h2⟩ := uv_D.mp h
  exact uv_D.mpr ⟨h1.sublist (hs.map Prod.fst), fun q hq => h2 q (hs.subset hq)⟩
/-- the callee's cells and new ones are ours to change -/
theorem uv_free {A0 : Nat → Prop} {ws wc wr : va_W} {H0 H : Heap} {locs : List Loc} (hD : va_D A0 ws) (hS : va_S A0 H0 H locs) (hA : ∀ q, H0.size ≤ q → A0 q) (hp : ws.Perm (wc ++ wr)) : ∀ q, va_A wc H.size q → A0 q := by
  intro q h
  rcases h with ⟨k, e, h⟩ | h
  · exact (uv_D.mp hD).2 (q, e) (hp.mem_iff.mpr (List.mem_append_left _ (List.mem_of_getElem? h)))
  · exact hA q (Nat.le_trans hS.1 h)
theorem uv_join {A0 : Nat → Prop} {D : va_G} {cl : List vw_C} {ws wc wr w1 : va_W} {H H1 : Heap} (hP : va_P D cl ws H) (hD : va_D A0 ws) (hp : ws.Perm (wc ++ wr))
    (hk : ∀ q : Nat, q < H.size → ¬ va_A wc H.size q → H1[q]? = H[q]?) (hF : ∀ q, va_A wc H.size q → A0 q) (hP1 : va_P D cl w1 H1) (hD1 : va_D (va_A wc H.size) w1) : va_P D cl (w1 ++ wr) H1 ∧ va_D A0 (w1 ++ wr) := by
  have hP2 := uv_P.mp (uv_Pp hp hP)
  obtain ⟨hN, hI⟩ := uv_D.mp (uv_Dp hp hD)
  obtain ⟨hN1, hI1⟩ := uv_D.mp hD1
  rw [List.map_append, List.nodup_append] at hN
  have apart : ∀ q ∈ wr, q.1 < H.size ∧ ¬ va_A wc H.size q.1 := by
    intro q hq
    have hl := (hP2 q (List.mem_append_right _ hq)).lt
    refine ⟨hl, fun h => ?_⟩
    rcases h with ⟨k, e, h⟩ | h
    · exact hN.2.2 q.1 (List.mem_map.mpr ⟨(q.1, e), List.mem_of_getElem? h, rfl⟩) q.1 (List.mem_map.mpr ⟨q, hq, rfl⟩) rfl
    · omega
  refine ⟨uv_P.mpr fun q hq => ?_, uv_D.mpr ⟨?_, fun q hq => ?_⟩⟩
  · rcases List.mem_append.mp hq with h | h
    · exact uv_P.mp hP1 q h
    · obtain ⟨g1, g2⟩ := apart q h
      exact (hP2 q (List.mem_append_right _ h)).kept (hk q.1 g1 g2)
  · rw [List.map_append, List.nodup_append]
    refine ⟨hN1, hN.2.1, fun x hx y hy e => ?_⟩
    obtain ⟨q, hq, rfl⟩ := List.mem_map.mp hx
    obtain ⟨q2, hq2, rfl⟩ := List.mem_map.mp hy
    exact (apart q2 hq2).2 (by rw [← e]; exact hI1 q hq)
  · rcases List.mem_append.mp hq with h | h
    · exact hF q.1 (hI1 q h)
    · exact hI q (List.mem_append_right _ h)
