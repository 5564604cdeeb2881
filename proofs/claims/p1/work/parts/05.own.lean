theorem wq_name {p : Program} {l : Launch} {e : Env} {R : Room} {s : State} {m : MethodId} {args : Array Value} {below : List Frame} {meth : Method} {c : Code} {H : Heap} {locs : List Loc} {cells slots : Nat} {Q : State → Prop} {g : JFrame} (k : ∀ Q9 : State → Prop, Q9 = Q → W p l e R s m args below meth c H locs cells slots Q9 g) : W p l e R s m args below meth c H locs cells slots Q g := k Q rfl
theorem in_of_cmp {x : Int32} {n N : Nat} (h1 : ¬ x < 0) (h2 : ¬ nI n ≤ x) (h3 : n ≤ N) (h4 : N < 2 ^ 31) : vp_in x N := by
  rw [vp_in_iff]
  have a : ¬ (nI n).toInt ≤ x.toInt := fun h => h2 (Int32.le_iff_toInt_le.mpr h)
  have b : ¬ x.toInt < (0 : Int32).toInt := fun h => h1 (Int32.lt_iff_toInt_lt.mpr h)
  rw [nI_toInt (by omega)] at a
  have : (0 : Int32).toInt = 0 := rfl
  rw [this] at b
  omega
def firstFrom (P : Nat → Bool) : Nat → Nat → Int32
  | 0, _ => -1
  | n + 1, i => if P i then nI i else firstFrom P n (i + 1)
theorem firstFrom_hit {P : Nat → Bool} {N k : Nat} (h : k < N) (hP : P k = true) : firstFrom P (N - k) k = nI k := by
  obtain ⟨n, hn⟩ : ∃ n, N - k = n + 1 := ⟨N - k - 1, by omega⟩
  rw [hn, firstFrom, if_pos hP]
theorem firstFrom_miss {P : Nat → Bool} {N k : Nat} (h : k < N) (hP : P k = false) : firstFrom P (N - k) k = firstFrom P (N - (k + 1)) (k + 1) := by
  obtain ⟨n, hn⟩ : ∃ n, N - k = n + 1 := ⟨N - k - 1, by omega⟩
  rw [hn, firstFrom, if_neg (by rw [hP]; decide), show N - (k + 1) = n by omega]
theorem firstFrom_end {P : Nat → Bool} {N k : Nat} (h : N ≤ k) : firstFrom P (N - k) k = -1 := by
  rw [show N - k = 0 by omega, firstFrom]
def fillR {α : Type} (f : Nat → α) (a b : Nat) (v : α) : Nat → α := fun j => if a ≤ j ∧ j < b then v else f j
theorem fillR_0 {α : Type} (f : Nat → α) (a : Nat) (v : α) : fillR f a a v = f := by
  funext j
  rw [fillR, if_neg (by omega)]
theorem fillR_s (f : Nat → Int32) (a k : Nat) (v : Int32) (h : a ≤ k) : upd (fillR f a k v) k v = fillR f a (k + 1) v := by
  funext j
  by_cases hj : j = k
  · subst hj
    rw [pk_us, fillR, if_pos (by omega)]
  · rw [pk_un hj]
    unfold fillR
    by_cases hq : a ≤ j ∧ j < k
    · rw [if_pos hq, if_pos (by omega)]
    · rw [if_neg hq, if_neg (by omega)]
theorem fillR_sL (f : Nat → Int64) (a k : Nat) (v : Int64) (h : a ≤ k) : vp_updL (fillR f a k v) k v = fillR f a (k + 1) v := by
  funext j
  by_cases hj : j = k
  · subst hj
    rw [pk_uLs, fillR, if_pos (by omega)]
  · rw [pk_uLn hj]
    unfold fillR
    by_cases hq : a ≤ j ∧ j < k
    · rw [if_pos hq, if_pos (by omega)]
    · rw [if_neg hq, if_neg (by omega)]
theorem nI_times (a b : Nat) : nI a * nI b = nI (a * b) := (Int32.ofNat_mul a b).symm
def exNames : List String := ["java/lang/IllegalStateException", "java/lang/IllegalArgumentException", "java/util/NoSuchElementException", "java/lang/IndexOutOfBoundsException", "java/lang/UnsupportedOperationException", "java/lang/ArithmeticException"]
def exUp : List String := ["java/lang/RuntimeException", "java/lang/Exception", Bundle.tN]
def wX (U : State) : Prop := (∀ X ∈ exNames, va_Nw (.castable X X) U) ∧ (∀ Y ∈ exUp, va_Nw (.declares (Bundle.init0 Y)) U)
theorem wX.warm {s U : State} (hW : s.WarmedH U.vm) (h : wX s) : wX U := ⟨fun X hX => va_Nw.warmC hW (h.1 X hX), fun Y hY => va_Nw.warmD hW (h.2 Y hY)⟩
theorem wX.same {u U : State} (h : u.vm = U.vm) (hX : wX u) : wX U := ⟨fun X hx => va_Nw.same rfl h (hX.1 X hx), fun Y hY => va_Nw.same rfl h (hX.2 Y hY)⟩
def wZ (A : Nat → Prop) (U : State) (H : Heap) : Prop := vx_Zq Bundle.tN "UNASSIGNED_STACK" Bundle.steD A U H ∧ vx_Zq Bundle.tN "SUPPRESSED_SENTINEL" Bundle.listD A U H ∧ wX U
def exB (X : String) : List Cond := [.castable X X, .declares (Bundle.init0 "java/lang/RuntimeException"), .declares (Bundle.init0 "java/lang/Exception"), .declares (Bundle.init0 Bundle.tN)]
theorem exB_at {X : String} {args : Array Value} {s : State} (hX : X ∈ exNames) (h : wX s) : ∀ w ∈ exB X, w.before args s = true := vx_c (va_Nw.use rfl (h.1 X hX)) (vx_c (va_Nw.use rfl (h.2 _ (by decide +kernel))) (vx_c (va_Nw.use rfl (h.2 _ (by decide +kernel))) (vx_c (va_Nw.use rfl (h.2 _ (by decide +kernel))) vx_n)))
theorem wp_new {D : va_G} {cl : List vw_C} {ws : va_W} {H H1 : Heap} (h : va_P D cl ws H) (hk : ∀ q : Nat, q < H.size → H1[q]? = H[q]?) : va_P D cl ws H1 := fun k q hq => (h k q hq).kept (hk q.1 (h k q hq).lt)
theorem wf_new {A : Nat → Prop} {s t : State} {H : Heap} {locs : List Loc} (hS : va_S A s.heap H locs) (hz : H.size ≤ t.heap.size) (hk : ∀ q : Nat, q < H.size → t.heap[q]? = H[q]?) : va_F A s t := ⟨Nat.le_trans hS.1 hz, fun q h1 h2 => by rw [hk q (Nat.lt_of_lt_of_le h1 hS.1)]; exact hS.2.1 q h1 h2⟩
theorem nI_dec {n : Nat} (h : 1 ≤ n) : nI n - 1 = nI (n - 1) := by
  obtain ⟨k, rfl⟩ : ∃ k, n = k + 1 := ⟨n - 1, by omega⟩
  exact nI_pred k
