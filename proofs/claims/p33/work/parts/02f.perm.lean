/-! worlds in another order; calls on a part of a world that is written as a chain -/
theorem P_mem {D : va_G} {cl : List vw_C} {ws : va_W} {H : Heap} : va_P D cl ws H ↔ ∀ q ∈ ws, va_at D cl q H := by
  constructor
  · intro h q hq
    obtain ⟨i, hi⟩ := List.getElem?_of_mem hq
    exact h i q hi
  · intro h k q hk
    exact h q (List.mem_of_getElem? hk)
theorem P_perm {D : va_G} {cl : List vw_C} {ws ws' : va_W} {H : Heap} (hp : ws.Perm ws') (h : va_P D cl ws H) : va_P D cl ws' H := P_mem.mpr fun q hq => P_mem.mp h q (hp.mem_iff.mpr hq)
theorem D_nodup {A : Nat → Prop} {ws : va_W} : va_D A ws ↔ (ws.map Prod.fst).Nodup ∧ ∀ q ∈ ws, A q.1 := by
  constructor
  · intro h
    refine ⟨?_, fun q hq => ?_⟩
    · rw [List.Nodup, List.pairwise_iff_getElem]
      intro i j hi hj hij e
      simp only [List.length_map] at hi hj
      simp only [List.getElem_map] at e
      have := h.1 i j _ _ (List.getElem?_eq_getElem hi) (List.getElem?_eq_getElem hj) e
      omega
    · obtain ⟨i, hi⟩ := List.getElem?_of_mem hq
      exact h.2 i q hi
  · intro h
    refine ⟨fun i j p q hi hj e => ?_, fun k q hk => h.2 q (List.mem_of_getElem? hk)⟩
    have hn := h.1
    rw [List.Nodup, List.pairwise_iff_getElem] at hn
    obtain ⟨hi1, hi2⟩ := List.getElem?_eq_some_iff.mp hi
    obtain ⟨hj1, hj2⟩ := List.getElem?_eq_some_iff.mp hj
    rcases Nat.lt_trichotomy i j with c | c | c
    · exfalso
      refine hn i j (by simpa using hi1) (by simpa using hj1) c ?_
      simp only [List.getElem_map, hi2, hj2]
      exact e
    · exact c
    · exfalso
      refine hn j i (by simpa using hj1) (by simpa using hi1) c ?_
      simp only [List.getElem_map, hi2, hj2]
      exact e.symm
theorem D_perm {A : Nat → Prop} {ws ws' : va_W} (hp : ws.Perm ws') (h : va_D A ws) : va_D A ws' := by
  rw [D_nodup] at h ⊢
  exact ⟨(hp.map Prod.fst).nodup_iff.mp h.1, fun q hq => h.2 q (hp.mem_iff.mpr hq)⟩
theorem D_app {A : Nat → Prop} {w1 w2 : va_W} (h : va_D A (w1 ++ w2)) : va_D A w1 ∧ va_D A w2 ∧ ∀ p ∈ w1, ∀ q ∈ w2, p.1 ≠ q.1 := by
  rw [D_nodup] at h
  obtain ⟨h1, h2⟩ := h
  rw [List.map_append, List.nodup_append] at h1
  refine ⟨D_nodup.mpr ⟨h1.1, fun q hq => h2 q (List.mem_append_left _ hq)⟩, D_nodup.mpr ⟨h1.2.1, fun q hq => h2 q (List.mem_append_right _ hq)⟩, fun p hp q hq => ?_⟩
  exact h1.2.2 _ (List.mem_map_of_mem (f := Prod.fst) hp) _ (List.mem_map_of_mem (f := Prod.fst) hq)
theorem P_app {D : va_G} {cl : List vw_C} {w1 w2 : va_W} {H : Heap} (h : va_P D cl (w1 ++ w2) H) : va_P D cl w1 H ∧ va_P D cl w2 H := by
  rw [P_mem] at h
  exact ⟨P_mem.mpr fun q hq => h q (List.mem_append_left _ hq), P_mem.mpr fun q hq => h q (List.mem_append_right _ hq)⟩
/-- what may change in a call of a part -/
theorem A_of {A : Nat → Prop} {wc : va_W} {sz0 sz : Nat} (hD : va_D A wc) (hA : ∀ q : Nat, sz0 ≤ q → A q) (hz : sz0 ≤ sz) : ∀ q, va_A wc sz q → A q := by
  intro q h
  rcases h with ⟨k, e, h⟩ | h
  · exact hD.2 k (q, e) h
  · exact hA q (Nat.le_trans hz h)
/-- behind a call: the part is new, the rest is as it was -/
theorem back_app {D : va_G} {cl : List vw_C} {A : Nat → Prop} {wc wr w1 : va_W} {H H1 : Heap} (hP : va_P D cl (wc ++ wr) H) (hD : va_D A (wc ++ wr)) (hF : ∀ q, va_A wc H.size q → A q)
    (hk : ∀ q : Nat, q < H.size → ¬ va_A wc H.size q → H1[q]? = H[q]?) (hP1 : va_P D cl w1 H1) (hD1 : va_D (va_A wc H.size) w1) : va_P D cl (w1 ++ wr) H1 ∧ va_D A (w1 ++ wr) := by
  obtain ⟨hPc, hPr⟩ := P_app hP
  obtain ⟨hDc, hDr, hx⟩ := D_app hD
  have apart : ∀ q ∈ wr, q.1 < H.size ∧ ¬ va_A wc H.size q.1 := by
    intro q hq
    have hl : q.1 < H.size := (P_mem.mp hPr q hq).lt
    refine ⟨hl, fun h => ?_⟩
    rcases h with ⟨k, e, h⟩ | h
    · exact hx _ (List.mem_of_getElem? h) q hq rfl
    · omega
  refine ⟨P_mem.mpr fun q hq => ?_, D_nodup.mpr ⟨?_, fun q hq => ?_⟩⟩
  · rcases List.mem_append.mp hq with h | h
    · exact P_mem.mp hP1 q h
    · exact (P_mem.mp hPr q h).kept (hk q.1 (apart q h).1 (apart q h).2)
  · rw [List.map_append, List.nodup_append]
    refine ⟨(D_nodup.mp hD1).1, (D_nodup.mp hDr).1, fun a ha b hb e => ?_⟩
    obtain ⟨p, hp, rfl⟩ := List.mem_map.mp ha
    obtain ⟨q, hq, rfl⟩ := List.mem_map.mp hb
    exact (apart q hq).2 (by rw [← e]; exact (D_nodup.mp hD1).2 p hp)
  · rcases List.mem_append.mp hq with h | h
    · exact hF q.1 ((D_nodup.mp hD1).2 q h)
    · exact (D_nodup.mp hDr).2 q h
/-- houses in any number -/
def hwR (K : KX) (hs : Nat → Nat) (as : Nat → Nat → Nat) (SS : Nat → HV) : Nat → va_W | 0 => [] | k + 1 => hw K (hs k) (as k) (SS k) ++ hwR K hs as SS k
theorem hwR_cong {K : KX} {hs hs' : Nat → Nat} {as as' : Nat → Nat → Nat} {SS SS' : Nat → HV} : ∀ {n : Nat}, (∀ i, i < n → hs i = hs' i ∧ as i = as' i ∧ SS i = SS' i) → hwR K hs as SS n = hwR K hs' as' SS' n
  | 0, _ => rfl
  | n + 1, h => by
    rw [hwR, hwR, hwR_cong (fun i hi => h i (by omega)), (h n (by omega)).1, (h n (by omega)).2.1, (h n (by omega)).2.2]
theorem hwR_cut (K : KX) (hs : Nat → Nat) (as : Nat → Nat → Nat) (i : Nat) : ∀ (n : Nat), i < n → ∀ SS : Nat → HV, ∃ w : va_W, ∀ S' : HV, (hwR K hs as (va_up SS i S') n).Perm (hw K (hs i) (as i) S' ++ w)
  | 0, h, _ => by omega
  | n + 1, h, SS => by
    by_cases e : i = n
    · subst e
      refine ⟨hwR K hs as SS i, fun S' => ?_⟩
      rw [hwR, va_up_self, hwR_cong (SS' := SS) (fun j hj => ⟨rfl, rfl, va_up_ne _ _ (by omega)⟩)]
    · obtain ⟨w, hw9⟩ := hwR_cut K hs as i n (by omega) SS
      refine ⟨hw K (hs n) (as n) (SS n) ++ w, fun S' => ?_⟩
      rw [hwR, va_up_ne _ _ (by omega)]
      refine ((hw9 S').append_left _).trans ?_
      rw [← List.append_assoc, ← List.append_assoc]
      exact List.perm_append_comm.append_right _
