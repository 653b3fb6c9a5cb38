/-! what a world's arrays have together is no more than what the heap has got -/
theorem ub_sum0 (a : Nat) (l : List Nat) : ∀ idx : List Nat, idx.Nodup → (idx.map (fun i => (a :: l).getD i 0)).sum ≤ a + ((idx.filter (fun i => decide (¬ i = 0))).map (fun i => l.getD (i - 1) 0)).sum ∧ (0 ∉ idx → (idx.map (fun i => (a :: l).getD i 0)).sum ≤ ((idx.filter (fun i => decide (¬ i = 0))).map (fun i => l.getD (i - 1) 0)).sum) := by
  intro idx
  induction idx with
  | nil => intro _; simp
  | cons i idx ih =>
    intro hn
    rw [List.nodup_cons] at hn
    obtain ⟨h1, h2⟩ := ih hn.2
    by_cases hi : i = 0
    · subst hi
      refine ⟨?_, fun h => absurd List.mem_cons_self h⟩
      have := h2 hn.1
      simp only [List.map_cons, List.sum_cons, List.filter_cons]
      simp only [List.getD_cons_zero, not_true_eq_false, decide_false, Bool.false_eq_true, if_false]
      omega
    · obtain ⟨k, rfl⟩ : ∃ k, i = k + 1 := ⟨i - 1, by omega⟩
      simp only [List.map_cons, List.sum_cons, List.filter_cons]
      simp only [List.getD_cons_succ, Nat.add_eq_zero_iff, Nat.succ_ne_self, and_false, not_false_eq_true, decide_true, if_true, List.map_cons, List.sum_cons, Nat.add_sub_cancel]
      refine ⟨by omega, fun h => ?_⟩
      have := h2 (fun q => h (List.mem_cons_of_mem _ q))
      omega
theorem ub_sum1 : ∀ (l idx : List Nat), idx.Nodup → (∀ i ∈ idx, i < l.length) → (idx.map (fun i => l.getD i 0)).sum ≤ l.sum := by
  intro l
  induction l with
  | nil =>
    intro idx _ h
    cases idx with
    | nil => simp
    | cons i idx => exact absurd (h i List.mem_cons_self) (Nat.not_lt_zero _)
  | cons a l ih =>
    intro idx hn h
    have h1 := (ub_sum0 a l idx hn).1
    have h2 := ih ((idx.filter (fun i => decide (¬ i = 0))).map (fun i => i - 1)) (by
      rw [List.Nodup, List.pairwise_map]
      refine List.Pairwise.imp_of_mem ?_ (List.Pairwise.filter _ hn)
      intro x y hx hy hxy e
      have hx2 := (List.mem_filter.mp hx).2
      have hy2 := (List.mem_filter.mp hy).2
      simp at hx2 hy2
      omega) (fun i hi => by
      obtain ⟨x, hx, rfl⟩ := List.mem_map.mp hi
      obtain ⟨hx1, hx2⟩ := List.mem_filter.mp hx
      have := h x hx1
      simp at hx2 this
      omega)
    rw [List.map_map] at h2
    have h3 : ((fun i => l.getD i 0) ∘ fun i => i - 1) = fun i => l.getD (i - 1) 0 := rfl
    rw [h3] at h2
    rw [List.sum_cons]
    omega
theorem ub_cell {D : va_G} {cl : List vw_C} {q : Nat × va_E} {H : Heap} (h : va_at D cl q H) : ∃ c : Cell, H[q.1]? = some c ∧ ug q.2 ≤ c.slots.size := by
  obtain ⟨a, x | x⟩ := q
  · obtain ⟨cA, n, f⟩ := x
    refine ⟨_, h, ?_⟩
    show n ≤ _
    rcases f with f | f | f | f | f
    · show n ≤ (vp_cell cA (n, .inl f)).slots.size
      rw [vp_cell_i, arrV_size]; exact Nat.le_refl n
    · show n ≤ (vp_cell cA (n, .inr (.inl f))).slots.size
      rw [vp_cell_l, arrV_size]; exact Nat.le_refl n
    · show n ≤ (vp_cell cA (n, .inr (.inr (.inl f)))).slots.size
      rw [vp_cell_f, arrV_size]; exact Nat.le_refl n
    · show n ≤ (vp_cell cA (n, .inr (.inr (.inr (.inl f))))).slots.size
      rw [vp_cell_d, arrV_size]; exact Nat.le_refl n
    · show n ≤ (vp_cell cA (n, .inr (.inr (.inr (.inr f))))).slots.size
      rw [vp_cell_q, arrV_size]; exact Nat.le_refl n
  · obtain ⟨r, h1, c, hc, -⟩ := h
    exact ⟨c, hc, Nat.zero_le _⟩
/-- the arrays of a world that lies behind n0 have together no more than all that lies there -/
theorem ub_count {D : va_G} {cl : List vw_C} {ws : va_W} {H : Heap} {n0 : Nat} (hP : va_P D cl ws H) (hD : va_D (fun q : Nat => n0 ≤ q) ws) : us ws ≤ ((H.toList.drop n0).map (·.slots.size)).sum := by
  have hP2 := uv_P.mp hP
  obtain ⟨hN, hI⟩ := uv_D.mp hD
  have hlt : ∀ q ∈ ws, q.1 < H.size := fun q hq => (hP2 q hq).lt
  refine Nat.le_trans ?_ (ub_sum1 ((H.toList.drop n0).map (·.slots.size)) (ws.map (fun q => q.1 - n0)) ?_ ?_)
  · rw [List.map_map]
    unfold us
    have : ∀ w : va_W, (∀ q ∈ w, q ∈ ws) → (w.map fun q => ug q.2).sum ≤ (w.map (fun q => ((H.toList.drop n0).map (·.slots.size)).getD (q.1 - n0) 0)).sum := by
      intro w
      induction w with
      | nil => intro _; simp
      | cons q w ih =>
        intro hw
        have h1 := ih (fun x hx => hw x (List.mem_cons_of_mem _ hx))
        have hq := hw q List.mem_cons_self
        obtain ⟨c, hc, hs⟩ := ub_cell (hP2 q hq)
        have h2 : ((H.toList.drop n0).map (·.slots.size)).getD (q.1 - n0) 0 = c.slots.size := by
          have e1 : n0 + (q.1 - n0) = q.1 := by have := hI q hq; omega
          rw [List.getD_eq_getElem?_getD, List.getElem?_map, List.getElem?_drop, e1, Array.getElem?_toList, hc]
          rfl
        simp only [List.map_cons, List.sum_cons]
        rw [h2]
        omega
    exact this ws (fun _ h => h)
  · rw [List.Nodup, List.pairwise_map]
    rw [List.Nodup, List.pairwise_map] at hN
    refine List.Pairwise.imp_of_mem ?_ hN
    intro x y hx hy hxy e
    have h1 := hI x hx
    have h2 := hI y hy
    exact hxy (by omega)
  · intro i hi
    obtain ⟨q, hq, rfl⟩ := List.mem_map.mp hi
    have h1 := hI q hq
    have h2 := hlt q hq
    rw [List.length_map, List.length_drop, Array.length_toList]
    omega
