theorem wq_name {p : Program} {l : Launch} {e : Env} {R : Room} {s : State} {m : MethodId} {args : Array Value} {below : List Frame} {meth : Method} {c : Code} {H : Heap} {locs : List Loc} {cells slots : Nat} {Q : State → Prop} {g : JFrame} (k : ∀ Q9 : State → Prop, Q9 = Q → W p l e R s m args below meth c H locs cells slots Q9 g) : W p l e R s m args below meth c H locs cells slots Q g := k Q rfl
theorem in_of_cmp {x : Int32} {n N : Nat} (h1 : ¬ x < 0) (h2 : ¬ nI n ≤ x) (h3 : n ≤ N) (h4 : N < 2 ^ 31) : vp_in x N := by
  rw [vp_in_iff]
  have a : ¬ (nI n).toInt ≤ x.toInt := fun h => h2 (Int32.le_iff_toInt_le.mpr h)
  have b : ¬ x.toInt < (0 : Int32).toInt := fun h => h1 (Int32.lt_iff_toInt_lt.mpr h)
  rw [nI_toInt (by omega)] at a
  have : (0 : Int32).toInt = 0 := rfl
  rw [this] at b
  omega
