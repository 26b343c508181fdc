/-! lists of lists: a part of them set ahead -/
section PSP
variable {α : Type}
theorem perm_sp2 (l l1 l2 : List (List α)) (n : Nat) (hn : l.length = n) (i1 i2 : List Nat) (h : (i1 ++ i2).Perm (List.range n)) (h1 : i1.map (fun i => l.getD i []) = l1) (h2 : i2.map (fun i => l.getD i []) = l2) : (catL l).Perm (catL l1 ++ catL l2) := by
  subst h1 h2
  exact perm_split l n hn i1 i2 h
theorem perm_wc (l r : List (List α)) (x : List α) (n : Nat) (hn : l.length = n) (i1 i2 : List Nat) (h : (i1 ++ i2).Perm (List.range n)) (h1 : catL (i1.map (fun i => l.getD i [])) = x) (h2 : i2.map (fun i => l.getD i []) = r) : (catL l).Perm (x ++ catL r) := by
  subst h1 h2
  exact perm_split l n hn i1 i2 h
theorem perm_fin (l t r : List (List α)) (x : List α) (n : Nat) (hn : l.length = n) (i1 i2 : List Nat) (h : (i1 ++ i2).Perm (List.range n)) (h1 : i1.map (fun i => l.getD i []) = r) (h2 : catL (i2.map (fun i => l.getD i [])) = x) (ht : r ++ [x] = t) : (catL l).Perm (catL t) := by
  subst ht h1 h2
  have h3 := perm_split l n hn i1 i2 h
  have e : catL (i1.map (fun i => l.getD i []) ++ [catL (i2.map (fun i => l.getD i []))]) = catL (i1.map (fun i => l.getD i [])) ++ catL (i2.map (fun i => l.getD i [])) := by
    rw [catL_flat (_ ++ _), List.flatten_append, ← catL_flat (i1.map _), List.flatten_cons, List.flatten_nil, List.append_nil]
  rw [e]
  exact h3
end PSP
theorem hwR_two {K : KX} {q1 q0 : Nat} {a1 a0 : Nat → Nat} {T : HV} : hw K q1 a1 T ++ hw K q0 a0 T = hwR K (va_up (fun _ => q1) 0 q0) (va_up (fun _ => a1) 0 a0) (fun _ => T) 2 := by
  show _ = hw K (va_up (fun _ => q1) 0 q0 1) (va_up (fun _ => a1) 0 a0 1) T ++ (hw K (va_up (fun _ => q1) 0 q0 0) (va_up (fun _ => a1) 0 a0 0) T ++ [])
  rw [List.append_nil]
  rfl
