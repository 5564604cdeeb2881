set_option maxHeartbeats 4000000 in
set_option maxRecDepth 100000 in
theorem c_X3_within (l : Launch) (dC : Nat → ClassId) (dI : Nat → Nat → Nat) (sz : Nat) (x0 : Int32) (x1 : Int32) (x2 : Int32) : Met l yX3_within (.code yX3_within cX3_within 3 (some .int) :: wAll) ({ frames := 0, cells := 0, slots := 0, locals := 0 }) (va_Pc [.int x0, .int x1, .int x2] (fun U => U.heap.size = sz ∧ va_P (dC, dI) vwCl [] U.heap ∧ va_K (dC, dI) vwCl [] U ∧ va_D (fun _ => True) [])) (va_Qi (fun (r : Int32) (_ : Unit) => r = ((((0 : Int32) ||| (x0 <<< ((14 : Int32) &&& 31))) ||| (x1 <<< ((10 : Int32) &&& 31))) ||| (x2 + (512 : Int32)))) (fun (_ : Unit) (t : State) => va_P (dC, dI) vwCl [] t.heap ∧ va_K (dC, dI) vwCl [] t ∧ va_D (va_A [] sz) []) (va_A [] sz)) 0 0 (va_A [] sz) := by
  refine Met.ofW (cc := cX3_within) (maxL := 3) (ret := (some .int)) (by decide) rfl ?_
  intro p e s m args below meth c s₁ B hml hv
  obtain ⟨rfl, hsz, hP, hK, hD0⟩ := hv
  have hx := B.exec
  have hb := B.bytes
  have hr := B.returns
  have hts := atoms_spec (ws := .code yX3_within cX3_within 3 (some .int) :: wAll) B.pre
  have hwA := fun w (h : w ∈ wAll) => hts w (List.mem_cons_of_mem _ h)
  have hown : s.vm.findClass RX3 = some m.cls := findClass_of_methodNamed B.named
  have hlocks := B.notSynchronized
  subst hsz
  have hD := hD0.self (sz := s.heap.size)
  generalize hAe : va_A [] s.heap.size = A at hD ⊢
  have hA : ∀ q : Nat, s.heap.size ≤ q → A q := fun q h => by rw [← hAe]; exact Or.inr h
  have hS : va_S A s.heap s.heap [] := va_S.rf
  have hP : va_P (dC, dI) vwCl [] s.heap := hP
  have hl := lv_entry ([.int x0, .int x1, .int x2]) (n := 3) (Nat.le_of_ble_eq_true rfl)
  rw [lg_entry_eq]
  generalize (lg_sl ([.int x0, .int x1, .int x2]) ++ List.replicate (3 - (lg_sl ([.int x0, .int x1, .int x2])).length) Slot.unset).toArray = ls at hl ⊢
  have hl : lv_has ls 3 [(0, .int x0), (1, .int x1), (2, .int x2)] := hl
  refine lv_iconst (v := 0) hx hb dX3_within_0 (by decide) ?_
  refine lv_iload_n hx hb dX3_within_1 rfl (lv_at hl 0 rfl) ?_
  refine lv_bipush (v := 14) hx hb dX3_within_2 (by decide) ?_
  refine lv_ishl hx hb dX3_within_4 ?_
  refine lv_ior hx hb dX3_within_5 ?_
  refine lv_iload_n hx hb dX3_within_6 rfl (lv_at hl 1 rfl) ?_
  refine lv_bipush (v := 10) hx hb dX3_within_7 (by decide) ?_
  refine lv_ishl hx hb dX3_within_9 ?_
  refine lv_ior hx hb dX3_within_10 ?_
  refine lv_iload_n hx hb dX3_within_11 rfl (lv_at hl 2 rfl) ?_
  refine lv_sipush (v := 512) hx hb dX3_within_12 (by decide) ?_
  refine lv_iadd hx hb dX3_within_15 ?_
  refine lv_ior hx hb dX3_within_16 ?_
  refine lv_topi (fun x_1 ex_1 => ?_)
  subst ex_1
  have hP9 := hP.sub (ws' := []) [] rfl
  have hD9 := hD.sub (ws' := []) [] (by decide) rfl
  have hK9 := hK.sub (tys' := []) [] rfl
  refine W.widen (k := 0) (n := 0) (by omega) (by omega) ?_
  exact W.iret (v := ((((0 : Int32) ||| (x0 <<< ((14 : Int32) &&& 31))) ||| (x1 <<< ((10 : Int32) &&& 31))) ||| (x2 + (512 : Int32)))) hx hb hr (fun t ht hW => ⟨⟨((((0 : Int32) ||| (x0 <<< ((14 : Int32) &&& 31))) ||| (x1 <<< ((10 : Int32) &&& 31))) ||| (x2 + (512 : Int32))), (), rfl, rfl, by rw [ht]; exact hP9, va_K.moved hW.alike hK9, hD9⟩, hS.F ht⟩) hS.2.2 dX3_within_17

set_option maxHeartbeats 4000000 in
set_option maxRecDepth 100000 in
theorem c_X3_same (l : Launch) (dC : Nat → ClassId) (dI : Nat → Nat → Nat) (sz : Nat) (x0 : Int32) (x1 : Int32) : Met l yX3_same (.code yX3_same cX3_same 2 (some .int) :: wAll) ({ frames := 0, cells := 0, slots := 0, locals := 0 }) (va_Pc [.int x0, .int x1] (fun U => U.heap.size = sz ∧ va_P (dC, dI) vwCl [] U.heap ∧ va_K (dC, dI) vwCl [] U ∧ va_D (fun _ => True) [])) (va_Qi (fun (r : Int32) (_ : Unit) => r = ((262144 : Int32) ||| (x0 <<< ((14 : Int32) &&& 31))) ||| (x1 <<< ((10 : Int32) &&& 31))) (fun (_ : Unit) (t : State) => va_P (dC, dI) vwCl [] t.heap ∧ va_K (dC, dI) vwCl [] t ∧ va_D (va_A [] sz) []) (va_A [] sz)) 0 0 (va_A [] sz) := by
  refine Met.ofW (cc := cX3_same) (maxL := 2) (ret := (some .int)) (by decide) rfl ?_
  intro p e s m args below meth c s₁ B hml hv
  obtain ⟨rfl, hsz, hP, hK, hD0⟩ := hv
  have hx := B.exec
  have hb := B.bytes
  have hr := B.returns
  have hts := atoms_spec (ws := .code yX3_same cX3_same 2 (some .int) :: wAll) B.pre
  have hwA := fun w (h : w ∈ wAll) => hts w (List.mem_cons_of_mem _ h)
  have hown : s.vm.findClass RX3 = some m.cls := findClass_of_methodNamed B.named
  have hlocks := B.notSynchronized
  subst hsz
  have hD := hD0.self (sz := s.heap.size)
  generalize hAe : va_A [] s.heap.size = A at hD ⊢
  have hA : ∀ q : Nat, s.heap.size ≤ q → A q := fun q h => by rw [← hAe]; exact Or.inr h
  have hS : va_S A s.heap s.heap [] := va_S.rf
  have hP : va_P (dC, dI) vwCl [] s.heap := hP
  have hl := lv_entry ([.int x0, .int x1]) (n := 2) (Nat.le_of_ble_eq_true rfl)
  rw [lg_entry_eq]
  generalize (lg_sl ([.int x0, .int x1]) ++ List.replicate (2 - (lg_sl ([.int x0, .int x1])).length) Slot.unset).toArray = ls at hl ⊢
  have hl : lv_has ls 2 [(0, .int x0), (1, .int x1)] := hl
  refine lv_ldc (v := 262144) hx hb hown (hwA (.constant RX3 9 (262144)) (in_wA_0 _ (List.mem_of_getElem? (i := 59) rfl))) dX3_same_0 ?_
  refine lv_iload_n hx hb dX3_same_2 rfl (lv_at hl 0 rfl) ?_
  refine lv_bipush (v := 14) hx hb dX3_same_3 (by decide) ?_
  refine lv_ishl hx hb dX3_same_5 ?_
  refine lv_ior hx hb dX3_same_6 ?_
  refine lv_iload_n hx hb dX3_same_7 rfl (lv_at hl 1 rfl) ?_
  refine lv_bipush (v := 10) hx hb dX3_same_8 (by decide) ?_
  refine lv_ishl hx hb dX3_same_10 ?_
  refine lv_ior hx hb dX3_same_11 ?_
  have hP9 := hP.sub (ws' := []) [] rfl
  have hD9 := hD.sub (ws' := []) [] (by decide) rfl
  have hK9 := hK.sub (tys' := []) [] rfl
  refine W.widen (k := 0) (n := 0) (by omega) (by omega) ?_
  exact W.iret (v := ((262144 : Int32) ||| (x0 <<< ((14 : Int32) &&& 31))) ||| (x1 <<< ((10 : Int32) &&& 31))) hx hb hr (fun t ht hW => ⟨⟨((262144 : Int32) ||| (x0 <<< ((14 : Int32) &&& 31))) ||| (x1 <<< ((10 : Int32) &&& 31)), (), rfl, rfl, by rw [ht]; exact hP9, va_K.moved hW.alike hK9, hD9⟩, hS.F ht⟩) hS.2.2 dX3_same_12

set_option maxHeartbeats 4000000 in
set_option maxRecDepth 100000 in
theorem c_X3_apart (l : Launch) (dC : Nat → ClassId) (dI : Nat → Nat → Nat) (sz : Nat) (x0 : Int32) (x1 : Int32) : Met l yX3_apart (.code yX3_apart cX3_apart 2 (some .int) :: wAll) ({ frames := 0, cells := 0, slots := 0, locals := 0 }) (va_Pc [.int x0, .int x1] (fun U => U.heap.size = sz ∧ va_P (dC, dI) vwCl [] U.heap ∧ va_K (dC, dI) vwCl [] U ∧ va_D (fun _ => True) [])) (va_Qi (fun (r : Int32) (_ : Unit) => r = ((524288 : Int32) ||| (x0 <<< ((14 : Int32) &&& 31))) ||| (x1 <<< ((10 : Int32) &&& 31))) (fun (_ : Unit) (t : State) => va_P (dC, dI) vwCl [] t.heap ∧ va_K (dC, dI) vwCl [] t ∧ va_D (va_A [] sz) []) (va_A [] sz)) 0 0 (va_A [] sz) := by
  refine Met.ofW (cc := cX3_apart) (maxL := 2) (ret := (some .int)) (by decide) rfl ?_
  intro p e s m args below meth c s₁ B hml hv
  obtain ⟨rfl, hsz, hP, hK, hD0⟩ := hv
  have hx := B.exec
  have hb := B.bytes
  have hr := B.returns
  have hts := atoms_spec (ws := .code yX3_apart cX3_apart 2 (some .int) :: wAll) B.pre
  have hwA := fun w (h : w ∈ wAll) => hts w (List.mem_cons_of_mem _ h)
  have hown : s.vm.findClass RX3 = some m.cls := findClass_of_methodNamed B.named
  have hlocks := B.notSynchronized
  subst hsz
  have hD := hD0.self (sz := s.heap.size)
  generalize hAe : va_A [] s.heap.size = A at hD ⊢
  have hA : ∀ q : Nat, s.heap.size ≤ q → A q := fun q h => by rw [← hAe]; exact Or.inr h
  have hS : va_S A s.heap s.heap [] := va_S.rf
  have hP : va_P (dC, dI) vwCl [] s.heap := hP
  have hl := lv_entry ([.int x0, .int x1]) (n := 2) (Nat.le_of_ble_eq_true rfl)
  rw [lg_entry_eq]
  generalize (lg_sl ([.int x0, .int x1]) ++ List.replicate (2 - (lg_sl ([.int x0, .int x1])).length) Slot.unset).toArray = ls at hl ⊢
  have hl : lv_has ls 2 [(0, .int x0), (1, .int x1)] := hl
  refine lv_ldc (v := 524288) hx hb hown (hwA (.constant RX3 10 (524288)) (in_wA_0 _ (List.mem_of_getElem? (i := 57) rfl))) dX3_apart_0 ?_
  refine lv_iload_n hx hb dX3_apart_2 rfl (lv_at hl 0 rfl) ?_
  refine lv_bipush (v := 14) hx hb dX3_apart_3 (by decide) ?_
  refine lv_ishl hx hb dX3_apart_5 ?_
  refine lv_ior hx hb dX3_apart_6 ?_
  refine lv_iload_n hx hb dX3_apart_7 rfl (lv_at hl 1 rfl) ?_
  refine lv_bipush (v := 10) hx hb dX3_apart_8 (by decide) ?_
  refine lv_ishl hx hb dX3_apart_10 ?_
  refine lv_ior hx hb dX3_apart_11 ?_
  have hP9 := hP.sub (ws' := []) [] rfl
  have hD9 := hD.sub (ws' := []) [] (by decide) rfl
  have hK9 := hK.sub (tys' := []) [] rfl
  refine W.widen (k := 0) (n := 0) (by omega) (by omega) ?_
  exact W.iret (v := ((524288 : Int32) ||| (x0 <<< ((14 : Int32) &&& 31))) ||| (x1 <<< ((10 : Int32) &&& 31))) hx hb hr (fun t ht hW => ⟨⟨((524288 : Int32) ||| (x0 <<< ((14 : Int32) &&& 31))) ||| (x1 <<< ((10 : Int32) &&& 31)), (), rfl, rfl, by rw [ht]; exact hP9, va_K.moved hW.alike hK9, hD9⟩, hS.F ht⟩) hS.2.2 dX3_apart_12

set_option maxHeartbeats 4000000 in
set_option maxRecDepth 100000 in
theorem c_X3_sort (l : Launch) (dC : Nat → ClassId) (dI : Nat → Nat → Nat) (sz : Nat) (x0 : Int32) : Met l yX3_sort (.code yX3_sort cX3_sort 1 (some .int) :: wAll) ({ frames := 0, cells := 0, slots := 0, locals := 0 }) (va_Pc [.int x0] (fun U => U.heap.size = sz ∧ va_P (dC, dI) vwCl [] U.heap ∧ va_K (dC, dI) vwCl [] U ∧ va_D (fun _ => True) [])) (va_Qi (fun (r : Int32) (_ : Unit) => r = x0 >>> ((18 : Int32) &&& 31)) (fun (_ : Unit) (t : State) => va_P (dC, dI) vwCl [] t.heap ∧ va_K (dC, dI) vwCl [] t ∧ va_D (va_A [] sz) []) (va_A [] sz)) 0 0 (va_A [] sz) := by
  refine Met.ofW (cc := cX3_sort) (maxL := 1) (ret := (some .int)) (by decide) rfl ?_
  intro p e s m args below meth c s₁ B hml hv
  obtain ⟨rfl, hsz, hP, hK, hD0⟩ := hv
  have hx := B.exec
  have hb := B.bytes
  have hr := B.returns
  have hts := atoms_spec (ws := .code yX3_sort cX3_sort 1 (some .int) :: wAll) B.pre
  have hwA := fun w (h : w ∈ wAll) => hts w (List.mem_cons_of_mem _ h)
  have hown : s.vm.findClass RX3 = some m.cls := findClass_of_methodNamed B.named
  have hlocks := B.notSynchronized
  subst hsz
  have hD := hD0.self (sz := s.heap.size)
  generalize hAe : va_A [] s.heap.size = A at hD ⊢
  have hA : ∀ q : Nat, s.heap.size ≤ q → A q := fun q h => by rw [← hAe]; exact Or.inr h
  have hS : va_S A s.heap s.heap [] := va_S.rf
  have hP : va_P (dC, dI) vwCl [] s.heap := hP
  have hl := lv_entry ([.int x0]) (n := 1) (Nat.le_of_ble_eq_true rfl)
  rw [lg_entry_eq]
  generalize (lg_sl ([.int x0]) ++ List.replicate (1 - (lg_sl ([.int x0])).length) Slot.unset).toArray = ls at hl ⊢
  have hl : lv_has ls 1 [(0, .int x0)] := hl
  refine lv_iload_n hx hb dX3_sort_0 rfl (lv_at hl 0 rfl) ?_
  refine lv_bipush (v := 18) hx hb dX3_sort_1 (by decide) ?_
  refine lv_ishr hx hb dX3_sort_3 ?_
  have hP9 := hP.sub (ws' := []) [] rfl
  have hD9 := hD.sub (ws' := []) [] (by decide) rfl
  have hK9 := hK.sub (tys' := []) [] rfl
  refine W.widen (k := 0) (n := 0) (by omega) (by omega) ?_
  exact W.iret (v := x0 >>> ((18 : Int32) &&& 31)) hx hb hr (fun t ht hW => ⟨⟨x0 >>> ((18 : Int32) &&& 31), (), rfl, rfl, by rw [ht]; exact hP9, va_K.moved hW.alike hK9, hD9⟩, hS.F ht⟩) hS.2.2 dX3_sort_4

set_option maxHeartbeats 4000000 in
set_option maxRecDepth 100000 in
theorem c_X3_left (l : Launch) (dC : Nat → ClassId) (dI : Nat → Nat → Nat) (sz : Nat) (x0 : Int32) : Met l yX3_left (.code yX3_left cX3_left 1 (some .int) :: wAll) ({ frames := 0, cells := 0, slots := 0, locals := 0 }) (va_Pc [.int x0] (fun U => U.heap.size = sz ∧ va_P (dC, dI) vwCl [] U.heap ∧ va_K (dC, dI) vwCl [] U ∧ va_D (fun _ => True) [])) (va_Qi (fun (r : Int32) (_ : Unit) => r = (x0 >>> ((14 : Int32) &&& 31)) &&& (15 : Int32)) (fun (_ : Unit) (t : State) => va_P (dC, dI) vwCl [] t.heap ∧ va_K (dC, dI) vwCl [] t ∧ va_D (va_A [] sz) []) (va_A [] sz)) 0 0 (va_A [] sz) := by
  refine Met.ofW (cc := cX3_left) (maxL := 1) (ret := (some .int)) (by decide) rfl ?_
  intro p e s m args below meth c s₁ B hml hv
  obtain ⟨rfl, hsz, hP, hK, hD0⟩ := hv
  have hx := B.exec
  have hb := B.bytes
  have hr := B.returns
  have hts := atoms_spec (ws := .code yX3_left cX3_left 1 (some .int) :: wAll) B.pre
  have hwA := fun w (h : w ∈ wAll) => hts w (List.mem_cons_of_mem _ h)
  have hown : s.vm.findClass RX3 = some m.cls := findClass_of_methodNamed B.named
  have hlocks := B.notSynchronized
  subst hsz
  have hD := hD0.self (sz := s.heap.size)
  generalize hAe : va_A [] s.heap.size = A at hD ⊢
  have hA : ∀ q : Nat, s.heap.size ≤ q → A q := fun q h => by rw [← hAe]; exact Or.inr h
  have hS : va_S A s.heap s.heap [] := va_S.rf
  have hP : va_P (dC, dI) vwCl [] s.heap := hP
  have hl := lv_entry ([.int x0]) (n := 1) (Nat.le_of_ble_eq_true rfl)
  rw [lg_entry_eq]
  generalize (lg_sl ([.int x0]) ++ List.replicate (1 - (lg_sl ([.int x0])).length) Slot.unset).toArray = ls at hl ⊢
  have hl : lv_has ls 1 [(0, .int x0)] := hl
  refine lv_iload_n hx hb dX3_left_0 rfl (lv_at hl 0 rfl) ?_
  refine lv_bipush (v := 14) hx hb dX3_left_1 (by decide) ?_
  refine lv_ishr hx hb dX3_left_3 ?_
  refine lv_bipush (v := 15) hx hb dX3_left_4 (by decide) ?_
  refine lv_iand hx hb dX3_left_6 ?_
  have hP9 := hP.sub (ws' := []) [] rfl
  have hD9 := hD.sub (ws' := []) [] (by decide) rfl
  have hK9 := hK.sub (tys' := []) [] rfl
  refine W.widen (k := 0) (n := 0) (by omega) (by omega) ?_
  exact W.iret (v := (x0 >>> ((14 : Int32) &&& 31)) &&& (15 : Int32)) hx hb hr (fun t ht hW => ⟨⟨(x0 >>> ((14 : Int32) &&& 31)) &&& (15 : Int32), (), rfl, rfl, by rw [ht]; exact hP9, va_K.moved hW.alike hK9, hD9⟩, hS.F ht⟩) hS.2.2 dX3_left_7

set_option maxHeartbeats 4000000 in
set_option maxRecDepth 100000 in
theorem c_X3_right (l : Launch) (dC : Nat → ClassId) (dI : Nat → Nat → Nat) (sz : Nat) (x0 : Int32) : Met l yX3_right (.code yX3_right cX3_right 1 (some .int) :: wAll) ({ frames := 0, cells := 0, slots := 0, locals := 0 }) (va_Pc [.int x0] (fun U => U.heap.size = sz ∧ va_P (dC, dI) vwCl [] U.heap ∧ va_K (dC, dI) vwCl [] U ∧ va_D (fun _ => True) [])) (va_Qi (fun (r : Int32) (_ : Unit) => r = (x0 >>> ((10 : Int32) &&& 31)) &&& (15 : Int32)) (fun (_ : Unit) (t : State) => va_P (dC, dI) vwCl [] t.heap ∧ va_K (dC, dI) vwCl [] t ∧ va_D (va_A [] sz) []) (va_A [] sz)) 0 0 (va_A [] sz) := by
  refine Met.ofW (cc := cX3_right) (maxL := 1) (ret := (some .int)) (by decide) rfl ?_
  intro p e s m args below meth c s₁ B hml hv
  obtain ⟨rfl, hsz, hP, hK, hD0⟩ := hv
  have hx := B.exec
  have hb := B.bytes
  have hr := B.returns
  have hts := atoms_spec (ws := .code yX3_right cX3_right 1 (some .int) :: wAll) B.pre
  have hwA := fun w (h : w ∈ wAll) => hts w (List.mem_cons_of_mem _ h)
  have hown : s.vm.findClass RX3 = some m.cls := findClass_of_methodNamed B.named
  have hlocks := B.notSynchronized
  subst hsz
  have hD := hD0.self (sz := s.heap.size)
  generalize hAe : va_A [] s.heap.size = A at hD ⊢
  have hA : ∀ q : Nat, s.heap.size ≤ q → A q := fun q h => by rw [← hAe]; exact Or.inr h
  have hS : va_S A s.heap s.heap [] := va_S.rf
  have hP : va_P (dC, dI) vwCl [] s.heap := hP
  have hl := lv_entry ([.int x0]) (n := 1) (Nat.le_of_ble_eq_true rfl)
  rw [lg_entry_eq]
  generalize (lg_sl ([.int x0]) ++ List.replicate (1 - (lg_sl ([.int x0])).length) Slot.unset).toArray = ls at hl ⊢
  have hl : lv_has ls 1 [(0, .int x0)] := hl
  refine lv_iload_n hx hb dX3_right_0 rfl (lv_at hl 0 rfl) ?_
  refine lv_bipush (v := 10) hx hb dX3_right_1 (by decide) ?_
  refine lv_ishr hx hb dX3_right_3 ?_
  refine lv_bipush (v := 15) hx hb dX3_right_4 (by decide) ?_
  refine lv_iand hx hb dX3_right_6 ?_
  have hP9 := hP.sub (ws' := []) [] rfl
  have hD9 := hD.sub (ws' := []) [] (by decide) rfl
  have hK9 := hK.sub (tys' := []) [] rfl
  refine W.widen (k := 0) (n := 0) (by omega) (by omega) ?_
  exact W.iret (v := (x0 >>> ((10 : Int32) &&& 31)) &&& (15 : Int32)) hx hb hr (fun t ht hW => ⟨⟨(x0 >>> ((10 : Int32) &&& 31)) &&& (15 : Int32), (), rfl, rfl, by rw [ht]; exact hP9, va_K.moved hW.alike hK9, hD9⟩, hS.F ht⟩) hS.2.2 dX3_right_7

set_option maxHeartbeats 4000000 in
set_option maxRecDepth 100000 in
theorem c_X3_most (l : Launch) (dC : Nat → ClassId) (dI : Nat → Nat → Nat) (sz : Nat) (x0 : Int32) : Met l yX3_most (.code yX3_most cX3_most 1 (some .int) :: wAll) ({ frames := 0, cells := 0, slots := 0, locals := 0 }) (va_Pc [.int x0] (fun U => U.heap.size = sz ∧ va_P (dC, dI) vwCl [] U.heap ∧ va_K (dC, dI) vwCl [] U ∧ va_D (fun _ => True) [])) (va_Qi (fun (r : Int32) (_ : Unit) => r = (x0 &&& (1023 : Int32)) - (512 : Int32)) (fun (_ : Unit) (t : State) => va_P (dC, dI) vwCl [] t.heap ∧ va_K (dC, dI) vwCl [] t ∧ va_D (va_A [] sz) []) (va_A [] sz)) 0 0 (va_A [] sz) := by
  refine Met.ofW (cc := cX3_most) (maxL := 1) (ret := (some .int)) (by decide) rfl ?_
  intro p e s m args below meth c s₁ B hml hv
  obtain ⟨rfl, hsz, hP, hK, hD0⟩ := hv
  have hx := B.exec
  have hb := B.bytes
  have hr := B.returns
  have hts := atoms_spec (ws := .code yX3_most cX3_most 1 (some .int) :: wAll) B.pre
  have hwA := fun w (h : w ∈ wAll) => hts w (List.mem_cons_of_mem _ h)
  have hown : s.vm.findClass RX3 = some m.cls := findClass_of_methodNamed B.named
  have hlocks := B.notSynchronized
  subst hsz
  have hD := hD0.self (sz := s.heap.size)
  generalize hAe : va_A [] s.heap.size = A at hD ⊢
  have hA : ∀ q : Nat, s.heap.size ≤ q → A q := fun q h => by rw [← hAe]; exact Or.inr h
  have hS : va_S A s.heap s.heap [] := va_S.rf
  have hP : va_P (dC, dI) vwCl [] s.heap := hP
  have hl := lv_entry ([.int x0]) (n := 1) (Nat.le_of_ble_eq_true rfl)
  rw [lg_entry_eq]
  generalize (lg_sl ([.int x0]) ++ List.replicate (1 - (lg_sl ([.int x0])).length) Slot.unset).toArray = ls at hl ⊢
  have hl : lv_has ls 1 [(0, .int x0)] := hl
  refine lv_iload_n hx hb dX3_most_0 rfl (lv_at hl 0 rfl) ?_
  refine lv_sipush (v := 1023) hx hb dX3_most_1 (by decide) ?_
  refine lv_iand hx hb dX3_most_4 ?_
  refine lv_sipush (v := 512) hx hb dX3_most_5 (by decide) ?_
  refine lv_isub hx hb dX3_most_8 ?_
  have hP9 := hP.sub (ws' := []) [] rfl
  have hD9 := hD.sub (ws' := []) [] (by decide) rfl
  have hK9 := hK.sub (tys' := []) [] rfl
  refine W.widen (k := 0) (n := 0) (by omega) (by omega) ?_
  exact W.iret (v := (x0 &&& (1023 : Int32)) - (512 : Int32)) hx hb hr (fun t ht hW => ⟨⟨(x0 &&& (1023 : Int32)) - (512 : Int32), (), rfl, rfl, by rw [ht]; exact hP9, va_K.moved hW.alike hK9, hD9⟩, hS.F ht⟩) hS.2.2 dX3_most_9

def f_X3_isTrueFor (x0 : Int32) (x1 : Int32) : Int32 := if (x0 >>> ((18 : Int32) &&& 31)) = (0 : Int32) then if ((x0 &&& (1023 : Int32)) - (512 : Int32)) < x1 then 0 else 1 else if x1 = (0 : Int32) then if (x0 >>> ((18 : Int32) &&& 31)) = (1 : Int32) then 1 else 0 else if (x0 >>> ((18 : Int32) &&& 31)) = (1 : Int32) then 0 else 1
set_option maxHeartbeats 4000000 in
set_option maxRecDepth 100000 in
theorem c_X3_isTrueFor (l : Launch) (dC : Nat → ClassId) (dI : Nat → Nat → Nat) (sz : Nat) (x0 : Int32) (x1 : Int32) : Met l yX3_isTrueFor (.code yX3_isTrueFor cX3_isTrueFor 3 (some .boolean) :: wAll) ({ frames := 0, cells := 0, slots := 0, locals := 0 }) (va_Pc [.int x0, .int x1] (fun U => U.heap.size = sz ∧ va_P (dC, dI) vwCl [] U.heap ∧ va_K (dC, dI) vwCl [] U ∧ va_D (fun _ => True) [])) (va_Qi (fun (r : Int32) (_ : Unit) => r = f_X3_isTrueFor x0 x1) (fun (_ : Unit) (t : State) => va_P (dC, dI) vwCl [] t.heap ∧ va_K (dC, dI) vwCl [] t ∧ va_D (va_A [] sz) []) (va_A [] sz)) 0 0 (va_A [] sz) := by
  refine Met.ofW (cc := cX3_isTrueFor) (maxL := 3) (ret := (some .boolean)) (by decide) rfl ?_
  intro p e s m args below meth c s₁ B hml hv
  obtain ⟨rfl, hsz, hP, hK, hD0⟩ := hv
  have hx := B.exec
  have hb := B.bytes
  have hr := B.returns
  have hts := atoms_spec (ws := .code yX3_isTrueFor cX3_isTrueFor 3 (some .boolean) :: wAll) B.pre
  have hwA := fun w (h : w ∈ wAll) => hts w (List.mem_cons_of_mem _ h)
  have hown : s.vm.findClass RX3 = some m.cls := findClass_of_methodNamed B.named
  have hlocks := B.notSynchronized
  subst hsz
  have hD := hD0.self (sz := s.heap.size)
  generalize hAe : va_A [] s.heap.size = A at hD ⊢
  have hA : ∀ q : Nat, s.heap.size ≤ q → A q := fun q h => by rw [← hAe]; exact Or.inr h
  have hS : va_S A s.heap s.heap [] := va_S.rf
  have hP : va_P (dC, dI) vwCl [] s.heap := hP
  have hl := lv_entry ([.int x0, .int x1]) (n := 3) (Nat.le_of_ble_eq_true rfl)
  rw [lg_entry_eq]
  generalize (lg_sl ([.int x0, .int x1]) ++ List.replicate (3 - (lg_sl ([.int x0, .int x1])).length) Slot.unset).toArray = ls at hl ⊢
  have hl : lv_has ls 3 [(0, .int x0), (1, .int x1)] := hl
  refine lv_iload_n hx hb dX3_isTrueFor_0 rfl (lv_at hl 0 rfl) ?_
  refine lv_bipush (v := 18) hx hb dX3_isTrueFor_1 (by decide) ?_
  refine lv_ishr hx hb dX3_isTrueFor_3 ?_
  refine lv_istore_n (lv' := [(2, .int (x0 >>> ((18 : Int32) &&& 31))), (0, .int x0), (1, .int x1)]) hx hb dX3_isTrueFor_4 rfl hl (by decide) rfl (fun ls hl => ?_)
  refine lv_iload_n hx hb dX3_isTrueFor_5 rfl (lv_at hl 0 rfl) ?_
  refine lv_if_ne (tgt := 28) hx hb dX3_isTrueFor_6 (by decide) (fun c_1 => ?_) (fun c_1 => ?_)
  · refine lv_iload_n hx hb dX3_isTrueFor_28 rfl (lv_at hl 2 rfl) ?_
    refine lv_if_ne (tgt := 36) hx hb dX3_isTrueFor_29 (by decide) (fun c_2 => ?_) (fun c_2 => ?_)
    · refine lv_iconst (v := 0) hx hb dX3_isTrueFor_36 (by decide) ?_
      refine lv_iload_n hx hb dX3_isTrueFor_37 rfl (lv_at hl 0 rfl) ?_
      refine lv_iconst (v := 1) hx hb dX3_isTrueFor_38 (by decide) ?_
      refine lv_icmp_ne (tgt := 46) hx hb dX3_isTrueFor_39 (by decide) (fun c_3 => ?_) (fun c_3 => ?_)
      · refine lv_iconst (v := 0) hx hb dX3_isTrueFor_46 (by decide) ?_
        refine lv_icmp_ne (tgt := 54) hx hb dX3_isTrueFor_47 (by decide) (fun c_4 => ?_) (fun c_4 => ?_)
        · exact absurd c_4 (by decide)
        · refine lv_iconst (v := 1) hx hb dX3_isTrueFor_50 (by decide) ?_
          refine lv_goto (tgt := 55) hx hb dX3_isTrueFor_51 (by decide) ?_
          have hP9 := hP.sub (ws' := []) [] rfl
          have hD9 := hD.sub (ws' := []) [] (by decide) rfl
          have hK9 := hK.sub (tys' := []) [] rfl
          refine W.widen (k := 0) (n := 0) (by omega) (by omega) ?_
          exact W.zret (v := 1) (ty := .boolean) hx hb hr (by decide +kernel) (fun t ht hW => ⟨⟨1, (), rfl, (by unfold f_X3_isTrueFor; rw [if_neg c_1, if_neg c_2, if_neg c_3]), by rw [ht]; exact hP9, va_K.moved hW.alike hK9, hD9⟩, hS.F ht⟩) hS.2.2 dX3_isTrueFor_55
      · refine lv_iconst (v := 1) hx hb dX3_isTrueFor_42 (by decide) ?_
        refine lv_goto (tgt := 47) hx hb dX3_isTrueFor_43 (by decide) ?_
        refine lv_icmp_ne (tgt := 54) hx hb dX3_isTrueFor_47 (by decide) (fun c_5 => ?_) (fun c_5 => ?_)
        · refine lv_iconst (v := 0) hx hb dX3_isTrueFor_54 (by decide) ?_
          have hP9 := hP.sub (ws' := []) [] rfl
          have hD9 := hD.sub (ws' := []) [] (by decide) rfl
          have hK9 := hK.sub (tys' := []) [] rfl
          refine W.widen (k := 0) (n := 0) (by omega) (by omega) ?_
          exact W.zret (v := 0) (ty := .boolean) hx hb hr (by decide +kernel) (fun t ht hW => ⟨⟨0, (), rfl, (by unfold f_X3_isTrueFor; rw [if_neg c_1, if_neg c_2, if_pos c_3]), by rw [ht]; exact hP9, va_K.moved hW.alike hK9, hD9⟩, hS.F ht⟩) hS.2.2 dX3_isTrueFor_55
        · exact absurd c_5 (by decide)
    · refine lv_iconst (v := 1) hx hb dX3_isTrueFor_32 (by decide) ?_
      refine lv_goto (tgt := 37) hx hb dX3_isTrueFor_33 (by decide) ?_
      refine lv_iload_n hx hb dX3_isTrueFor_37 rfl (lv_at hl 0 rfl) ?_
      refine lv_iconst (v := 1) hx hb dX3_isTrueFor_38 (by decide) ?_
      refine lv_icmp_ne (tgt := 46) hx hb dX3_isTrueFor_39 (by decide) (fun c_6 => ?_) (fun c_6 => ?_)
      · refine lv_iconst (v := 0) hx hb dX3_isTrueFor_46 (by decide) ?_
        refine lv_icmp_ne (tgt := 54) hx hb dX3_isTrueFor_47 (by decide) (fun c_7 => ?_) (fun c_7 => ?_)
        · refine lv_iconst (v := 0) hx hb dX3_isTrueFor_54 (by decide) ?_
          have hP9 := hP.sub (ws' := []) [] rfl
          have hD9 := hD.sub (ws' := []) [] (by decide) rfl
          have hK9 := hK.sub (tys' := []) [] rfl
          refine W.widen (k := 0) (n := 0) (by omega) (by omega) ?_
          exact W.zret (v := 0) (ty := .boolean) hx hb hr (by decide +kernel) (fun t ht hW => ⟨⟨0, (), rfl, (by unfold f_X3_isTrueFor; rw [if_neg c_1, if_pos c_2, if_neg c_6]), by rw [ht]; exact hP9, va_K.moved hW.alike hK9, hD9⟩, hS.F ht⟩) hS.2.2 dX3_isTrueFor_55
        · exact absurd c_7 (by decide)
      · refine lv_iconst (v := 1) hx hb dX3_isTrueFor_42 (by decide) ?_
        refine lv_goto (tgt := 47) hx hb dX3_isTrueFor_43 (by decide) ?_
        refine lv_icmp_ne (tgt := 54) hx hb dX3_isTrueFor_47 (by decide) (fun c_8 => ?_) (fun c_8 => ?_)
        · exact absurd c_8 (by decide)
        · refine lv_iconst (v := 1) hx hb dX3_isTrueFor_50 (by decide) ?_
          refine lv_goto (tgt := 55) hx hb dX3_isTrueFor_51 (by decide) ?_
          have hP9 := hP.sub (ws' := []) [] rfl
          have hD9 := hD.sub (ws' := []) [] (by decide) rfl
          have hK9 := hK.sub (tys' := []) [] rfl
          refine W.widen (k := 0) (n := 0) (by omega) (by omega) ?_
          exact W.zret (v := 1) (ty := .boolean) hx hb hr (by decide +kernel) (fun t ht hW => ⟨⟨1, (), rfl, (by unfold f_X3_isTrueFor; rw [if_neg c_1, if_pos c_2, if_pos c_6]), by rw [ht]; exact hP9, va_K.moved hW.alike hK9, hD9⟩, hS.F ht⟩) hS.2.2 dX3_isTrueFor_55
  · refine lv_iload_n hx hb dX3_isTrueFor_9 rfl (lv_at hl 2 rfl) ?_
    refine lv_iload_n hx hb dX3_isTrueFor_10 rfl (lv_at hl 1 rfl) ?_
    refine lv_sipush (v := 1023) hx hb dX3_isTrueFor_11 (by decide) ?_
    refine lv_iand hx hb dX3_isTrueFor_14 ?_
    refine lv_sipush (v := 512) hx hb dX3_isTrueFor_15 (by decide) ?_
    refine lv_isub hx hb dX3_isTrueFor_18 ?_
    refine lv_icmp_gt (tgt := 26) hx hb dX3_isTrueFor_19 (by decide) (fun c_9 => ?_) (fun c_9 => ?_)
    · refine lv_iconst (v := 0) hx hb dX3_isTrueFor_26 (by decide) ?_
      have hP9 := hP.sub (ws' := []) [] rfl
      have hD9 := hD.sub (ws' := []) [] (by decide) rfl
      have hK9 := hK.sub (tys' := []) [] rfl
      refine W.widen (k := 0) (n := 0) (by omega) (by omega) ?_
      exact W.zret (v := 0) (ty := .boolean) hx hb hr (by decide +kernel) (fun t ht hW => ⟨⟨0, (), rfl, (by unfold f_X3_isTrueFor; rw [if_pos c_1, if_pos c_9]), by rw [ht]; exact hP9, va_K.moved hW.alike hK9, hD9⟩, hS.F ht⟩) hS.2.2 dX3_isTrueFor_27
    · refine lv_iconst (v := 1) hx hb dX3_isTrueFor_22 (by decide) ?_
      refine lv_goto (tgt := 27) hx hb dX3_isTrueFor_23 (by decide) ?_
      have hP9 := hP.sub (ws' := []) [] rfl
      have hD9 := hD.sub (ws' := []) [] (by decide) rfl
      have hK9 := hK.sub (tys' := []) [] rfl
      refine W.widen (k := 0) (n := 0) (by omega) (by omega) ?_
      exact W.zret (v := 1) (ty := .boolean) hx hb hr (by decide +kernel) (fun t ht hW => ⟨⟨1, (), rfl, (by unfold f_X3_isTrueFor; rw [if_pos c_1, if_neg c_9]), by rw [ht]; exact hP9, va_K.moved hW.alike hK9, hD9⟩, hS.F ht⟩) hS.2.2 dX3_isTrueFor_27

def f_X3_contrary (x0 : Int32) : Int32 := if (x0 >>> ((18 : Int32) &&& 31)) = (1 : Int32) then ((524288 : Int32) ||| (((x0 >>> ((14 : Int32) &&& 31)) &&& (15 : Int32)) <<< ((14 : Int32) &&& 31))) ||| (((x0 >>> ((10 : Int32) &&& 31)) &&& (15 : Int32)) <<< ((10 : Int32) &&& 31)) else if (x0 >>> ((18 : Int32) &&& 31)) = (2 : Int32) then ((262144 : Int32) ||| (((x0 >>> ((14 : Int32) &&& 31)) &&& (15 : Int32)) <<< ((14 : Int32) &&& 31))) ||| (((x0 >>> ((10 : Int32) &&& 31)) &&& (15 : Int32)) <<< ((10 : Int32) &&& 31)) else ((((0 : Int32) ||| (((x0 >>> ((10 : Int32) &&& 31)) &&& (15 : Int32)) <<< ((14 : Int32) &&& 31))) ||| (((x0 >>> ((14 : Int32) &&& 31)) &&& (15 : Int32)) <<< ((10 : Int32) &&& 31))) ||| (((-((x0 &&& (1023 : Int32)) - (512 : Int32))) - (1 : Int32)) + (512 : Int32)))
set_option maxHeartbeats 4000000 in
set_option maxRecDepth 100000 in
theorem c_X3_contrary (l : Launch) (dC : Nat → ClassId) (dI : Nat → Nat → Nat) (sz : Nat) (x0 : Int32) : Met l yX3_contrary (.code yX3_contrary cX3_contrary 2 (some .int) :: wAll) ({ frames := 1, cells := 0, slots := 0, locals := 22 }) (va_Pc [.int x0] (fun U => U.heap.size = sz ∧ va_P (dC, dI) vwCl [] U.heap ∧ va_K (dC, dI) vwCl [] U ∧ va_D (fun _ => True) [])) (va_Qi (fun (r : Int32) (_ : Unit) => r = f_X3_contrary x0) (fun (_ : Unit) (t : State) => va_P (dC, dI) vwCl [] t.heap ∧ va_K (dC, dI) vwCl [] t ∧ va_D (va_A [] sz) []) (va_A [] sz)) 0 0 (va_A [] sz) := by
  refine Met.ofW (cc := cX3_contrary) (maxL := 2) (ret := (some .int)) (by decide) rfl ?_
  intro p e s m args below meth c s₁ B hml hv
  obtain ⟨rfl, hsz, hP, hK, hD0⟩ := hv
  have hx := B.exec
  have hb := B.bytes
  have hr := B.returns
  have hts := atoms_spec (ws := .code yX3_contrary cX3_contrary 2 (some .int) :: wAll) B.pre
  have hwA := fun w (h : w ∈ wAll) => hts w (List.mem_cons_of_mem _ h)
  have hown : s.vm.findClass RX3 = some m.cls := findClass_of_methodNamed B.named
  have hlocks := B.notSynchronized
  subst hsz
  have hD := hD0.self (sz := s.heap.size)
  generalize hAe : va_A [] s.heap.size = A at hD ⊢
  have hA : ∀ q : Nat, s.heap.size ≤ q → A q := fun q h => by rw [← hAe]; exact Or.inr h
  have hS : va_S A s.heap s.heap [] := va_S.rf
  have hP : va_P (dC, dI) vwCl [] s.heap := hP
  have hl := lv_entry ([.int x0]) (n := 2) (Nat.le_of_ble_eq_true rfl)
  rw [lg_entry_eq]
  generalize (lg_sl ([.int x0]) ++ List.replicate (2 - (lg_sl ([.int x0])).length) Slot.unset).toArray = ls at hl ⊢
  have hl : lv_has ls 2 [(0, .int x0)] := hl
  refine lv_iload_n hx hb dX3_contrary_0 rfl (lv_at hl 0 rfl) ?_
  have hPc := hP.sub (ws' := []) [] rfl
  have hDc := hD.sub (ws' := []) [] (by decide) rfl
  have hKc := hK.sub (tys' := []) [] rfl
  have hFc := va_free (wc := []) hD hS hA [] rfl
  refine va_calli (va_runS (As := [.int x0]) (rest := []) ⟨hx, hb, hml, hown, hwA⟩ (c_X3_sort l dC dI   s.heap.size x0 ) (va_cwS 1 hwA (gwS (in_wA_0 _ (List.mem_of_getElem? (i := 63) rfl)) (in_wA_1 _ (List.mem_of_getElem? (i := 0) rfl)) (in_wA_1 _ (List.mem_of_getElem? (i := 1) rfl)) (in_wA_0 _ (List.mem_of_getElem? (i := 53) rfl))) rfl rfl rfl (by decide +kernel) ⟨Nat.le_of_ble_eq_true rfl, Nat.le_of_ble_eq_true rfl⟩) ⟨fun a U g mk q => by obtain ⟨q0, q1, qP, qK, qD⟩ := q; exact ⟨q0, q1, qP, va_K.moved (u := U) (U := U.calling g mk a) (Vm.Alike.refl U.vm) qK, qD⟩, fun U hU hW => ⟨rfl, by rw [hU], by rw [hU]; exact hPc, va_K.moved hW.alike hKc, hDc.weaken (fun _ _ _ _ => trivial)⟩⟩ rfl rfl hl.1 rfl (lv_room (Nat.le_of_ble_eq_true rfl)) dX3_contrary_1 ⟨Nat.le_of_ble_eq_true rfl, Nat.le_of_ble_eq_true rfl⟩) hS (fun q _ h => hFc q h) hFc (fun r_2 u_1 t H1 locs ht hvm hw hB hz1 hk1 hS => ?_)
  obtain ⟨hP1, hK1, hD1⟩ := hB
  rw [ht] at hP1
  have hK1 := va_K.moved hvm.symm hK1
  obtain ⟨hP, hD⟩ := va_join (wr := []) (w1 := []) hP hD [] [] rfl rfl (by decide) (by decide) hk1 hFc hP1 hD1
  have hK := (hK.sub (tys' := []) [] rfl).app hK1
  generalize H1 = H at hP hS ⊢
  have hP : va_P (dC, dI) vwCl [] H := hP
  have hD : va_D A [] := hD
  have hK : va_K (dC, dI) vwCl [] s := hK
  refine W.widen (k := 0) (n := 0) (by omega) (by omega) ?_
  have hw_3 := hw
  obtain rfl : r_2 = x0 >>> ((18 : Int32) &&& 31) := hw_3
  refine lv_istore_n (lv' := [(1, .int (x0 >>> ((18 : Int32) &&& 31))), (0, .int x0)]) hx hb dX3_contrary_4 rfl hl (by decide) rfl (fun ls hl => ?_)
  refine lv_iload_n hx hb dX3_contrary_5 rfl (lv_at hl 0 rfl) ?_
  refine lv_iconst (v := 1) hx hb dX3_contrary_6 (by decide) ?_
  refine lv_icmp_ne (tgt := 22) hx hb dX3_contrary_7 (by decide) (fun c_4 => ?_) (fun c_4 => ?_)
  · refine lv_iload_n hx hb dX3_contrary_22 rfl (lv_at hl 0 rfl) ?_
    refine lv_iconst (v := 2) hx hb dX3_contrary_23 (by decide) ?_
    refine lv_icmp_ne (tgt := 39) hx hb dX3_contrary_24 (by decide) (fun c_5 => ?_) (fun c_5 => ?_)
    · refine lv_iload_n hx hb dX3_contrary_39 rfl (lv_at hl 1 rfl) ?_
      have hPc := hP.sub (ws' := []) [] rfl
      have hDc := hD.sub (ws' := []) [] (by decide) rfl
      have hKc := hK.sub (tys' := []) [] rfl
      have hFc := va_free (wc := []) hD hS hA [] rfl
      refine va_calli (va_runS (As := [.int x0]) (rest := []) ⟨hx, hb, hml, hown, hwA⟩ (c_X3_right l dC dI   H.size x0 ) (va_cwS 1 hwA (gwS (in_wA_1 _ (List.mem_of_getElem? (i := 4) rfl)) (in_wA_1 _ (List.mem_of_getElem? (i := 5) rfl)) (in_wA_1 _ (List.mem_of_getElem? (i := 1) rfl)) (in_wA_0 _ (List.mem_of_getElem? (i := 55) rfl))) rfl rfl rfl (by decide +kernel) ⟨Nat.le_of_ble_eq_true rfl, Nat.le_of_ble_eq_true rfl⟩) ⟨fun a U g mk q => by obtain ⟨q0, q1, qP, qK, qD⟩ := q; exact ⟨q0, q1, qP, va_K.moved (u := U) (U := U.calling g mk a) (Vm.Alike.refl U.vm) qK, qD⟩, fun U hU hW => ⟨rfl, by rw [hU], by rw [hU]; exact hPc, va_K.moved hW.alike hKc, hDc.weaken (fun _ _ _ _ => trivial)⟩⟩ rfl rfl hl.1 rfl (lv_room (Nat.le_of_ble_eq_true rfl)) dX3_contrary_40 ⟨Nat.le_of_ble_eq_true rfl, Nat.le_of_ble_eq_true rfl⟩) hS (fun q _ h => hFc q h) hFc (fun r_7 u_6 t H1 locs ht hvm hw hB hz1 hk1 hS => ?_)
      obtain ⟨hP1, hK1, hD1⟩ := hB
      rw [ht] at hP1
      have hK1 := va_K.moved hvm.symm hK1
      obtain ⟨hP, hD⟩ := va_join (wr := []) (w1 := []) hP hD [] [] rfl rfl (by decide) (by decide) hk1 hFc hP1 hD1
      have hK := (hK.sub (tys' := []) [] rfl).app hK1
      generalize H1 = H at hP hS ⊢
      have hP : va_P (dC, dI) vwCl [] H := hP
      have hD : va_D A [] := hD
      have hK : va_K (dC, dI) vwCl [] s := hK
      refine W.widen (k := 0) (n := 0) (by omega) (by omega) ?_
      have hw_8 := hw
      obtain rfl : r_7 = (x0 >>> ((10 : Int32) &&& 31)) &&& (15 : Int32) := hw_8
      refine lv_iload_n hx hb dX3_contrary_43 rfl (lv_at hl 1 rfl) ?_
      have hPc := hP.sub (ws' := []) [] rfl
      have hDc := hD.sub (ws' := []) [] (by decide) rfl
      have hKc := hK.sub (tys' := []) [] rfl
      have hFc := va_free (wc := []) hD hS hA [] rfl
      refine va_calli (va_runS (As := [.int x0]) (rest := [.int ((x0 >>> ((10 : Int32) &&& 31)) &&& (15 : Int32))]) ⟨hx, hb, hml, hown, hwA⟩ (c_X3_left l dC dI   H.size x0 ) (va_cwS 1 hwA (gwS (in_wA_1 _ (List.mem_of_getElem? (i := 2) rfl)) (in_wA_1 _ (List.mem_of_getElem? (i := 3) rfl)) (in_wA_1 _ (List.mem_of_getElem? (i := 1) rfl)) (in_wA_0 _ (List.mem_of_getElem? (i := 54) rfl))) rfl rfl rfl (by decide +kernel) ⟨Nat.le_of_ble_eq_true rfl, Nat.le_of_ble_eq_true rfl⟩) ⟨fun a U g mk q => by obtain ⟨q0, q1, qP, qK, qD⟩ := q; exact ⟨q0, q1, qP, va_K.moved (u := U) (U := U.calling g mk a) (Vm.Alike.refl U.vm) qK, qD⟩, fun U hU hW => ⟨rfl, by rw [hU], by rw [hU]; exact hPc, va_K.moved hW.alike hKc, hDc.weaken (fun _ _ _ _ => trivial)⟩⟩ rfl rfl hl.1 rfl (lv_room (Nat.le_of_ble_eq_true rfl)) dX3_contrary_44 ⟨Nat.le_of_ble_eq_true rfl, Nat.le_of_ble_eq_true rfl⟩) hS (fun q _ h => hFc q h) hFc (fun r_10 u_9 t H1 locs ht hvm hw hB hz1 hk1 hS => ?_)
      obtain ⟨hP1, hK1, hD1⟩ := hB
      rw [ht] at hP1
      have hK1 := va_K.moved hvm.symm hK1
      obtain ⟨hP, hD⟩ := va_join (wr := []) (w1 := []) hP hD [] [] rfl rfl (by decide) (by decide) hk1 hFc hP1 hD1
      have hK := (hK.sub (tys' := []) [] rfl).app hK1
      generalize H1 = H at hP hS ⊢
      have hP : va_P (dC, dI) vwCl [] H := hP
      have hD : va_D A [] := hD
      have hK : va_K (dC, dI) vwCl [] s := hK
      refine W.widen (k := 0) (n := 0) (by omega) (by omega) ?_
      have hw_11 := hw
      obtain rfl : r_10 = (x0 >>> ((14 : Int32) &&& 31)) &&& (15 : Int32) := hw_11
      refine lv_iload_n hx hb dX3_contrary_47 rfl (lv_at hl 1 rfl) ?_
      have hPc := hP.sub (ws' := []) [] rfl
      have hDc := hD.sub (ws' := []) [] (by decide) rfl
      have hKc := hK.sub (tys' := []) [] rfl
      have hFc := va_free (wc := []) hD hS hA [] rfl
      refine va_calli (va_runS (As := [.int x0]) (rest := [.int ((x0 >>> ((14 : Int32) &&& 31)) &&& (15 : Int32)), .int ((x0 >>> ((10 : Int32) &&& 31)) &&& (15 : Int32))]) ⟨hx, hb, hml, hown, hwA⟩ (c_X3_most l dC dI   H.size x0 ) (va_cwS 1 hwA (gwS (in_wA_1 _ (List.mem_of_getElem? (i := 10) rfl)) (in_wA_1 _ (List.mem_of_getElem? (i := 11) rfl)) (in_wA_1 _ (List.mem_of_getElem? (i := 1) rfl)) (in_wA_0 _ (List.mem_of_getElem? (i := 60) rfl))) rfl rfl rfl (by decide +kernel) ⟨Nat.le_of_ble_eq_true rfl, Nat.le_of_ble_eq_true rfl⟩) ⟨fun a U g mk q => by obtain ⟨q0, q1, qP, qK, qD⟩ := q; exact ⟨q0, q1, qP, va_K.moved (u := U) (U := U.calling g mk a) (Vm.Alike.refl U.vm) qK, qD⟩, fun U hU hW => ⟨rfl, by rw [hU], by rw [hU]; exact hPc, va_K.moved hW.alike hKc, hDc.weaken (fun _ _ _ _ => trivial)⟩⟩ rfl rfl hl.1 rfl (lv_room (Nat.le_of_ble_eq_true rfl)) dX3_contrary_48 ⟨Nat.le_of_ble_eq_true rfl, Nat.le_of_ble_eq_true rfl⟩) hS (fun q _ h => hFc q h) hFc (fun r_13 u_12 t H1 locs ht hvm hw hB hz1 hk1 hS => ?_)
      obtain ⟨hP1, hK1, hD1⟩ := hB
      rw [ht] at hP1
      have hK1 := va_K.moved hvm.symm hK1
      obtain ⟨hP, hD⟩ := va_join (wr := []) (w1 := []) hP hD [] [] rfl rfl (by decide) (by decide) hk1 hFc hP1 hD1
      have hK := (hK.sub (tys' := []) [] rfl).app hK1
      generalize H1 = H at hP hS ⊢
      have hP : va_P (dC, dI) vwCl [] H := hP
      have hD : va_D A [] := hD
      have hK : va_K (dC, dI) vwCl [] s := hK
      refine W.widen (k := 0) (n := 0) (by omega) (by omega) ?_
      have hw_14 := hw
      obtain rfl : r_13 = (x0 &&& (1023 : Int32)) - (512 : Int32) := hw_14
      refine lv_ineg hx hb dX3_contrary_51 ?_
      refine lv_iconst (v := 1) hx hb dX3_contrary_52 (by decide) ?_
      refine lv_isub hx hb dX3_contrary_53 ?_
      have hPc := hP.sub (ws' := []) [] rfl
      have hDc := hD.sub (ws' := []) [] (by decide) rfl
      have hKc := hK.sub (tys' := []) [] rfl
      have hFc := va_free (wc := []) hD hS hA [] rfl
      refine va_calli (va_runS (As := [.int ((x0 >>> ((10 : Int32) &&& 31)) &&& (15 : Int32)), .int ((x0 >>> ((14 : Int32) &&& 31)) &&& (15 : Int32)), .int ((-((x0 &&& (1023 : Int32)) - (512 : Int32))) - (1 : Int32))]) (rest := []) ⟨hx, hb, hml, hown, hwA⟩ (c_X3_within l dC dI   H.size ((x0 >>> ((10 : Int32) &&& 31)) &&& (15 : Int32)) ((x0 >>> ((14 : Int32) &&& 31)) &&& (15 : Int32)) ((-((x0 &&& (1023 : Int32)) - (512 : Int32))) - (1 : Int32)) ) (va_cwS 3 hwA (gwS (in_wA_1 _ (List.mem_of_getElem? (i := 12) rfl)) (in_wA_1 _ (List.mem_of_getElem? (i := 13) rfl)) (in_wA_1 _ (List.mem_of_getElem? (i := 1) rfl)) (in_wA_0 _ (List.mem_of_getElem? (i := 61) rfl))) rfl rfl rfl (by decide +kernel) ⟨Nat.le_of_ble_eq_true rfl, Nat.le_of_ble_eq_true rfl⟩) ⟨fun a U g mk q => by obtain ⟨q0, q1, qP, qK, qD⟩ := q; exact ⟨q0, q1, qP, va_K.moved (u := U) (U := U.calling g mk a) (Vm.Alike.refl U.vm) qK, qD⟩, fun U hU hW => ⟨rfl, by rw [hU], by rw [hU]; exact hPc, va_K.moved hW.alike hKc, hDc.weaken (fun _ _ _ _ => trivial)⟩⟩ rfl rfl hl.1 rfl (lv_room (Nat.le_of_ble_eq_true rfl)) dX3_contrary_54 ⟨Nat.le_of_ble_eq_true rfl, Nat.le_of_ble_eq_true rfl⟩) hS (fun q _ h => hFc q h) hFc (fun r_16 u_15 t H1 locs ht hvm hw hB hz1 hk1 hS => ?_)
      obtain ⟨hP1, hK1, hD1⟩ := hB
      rw [ht] at hP1
      have hK1 := va_K.moved hvm.symm hK1
      obtain ⟨hP, hD⟩ := va_join (wr := []) (w1 := []) hP hD [] [] rfl rfl (by decide) (by decide) hk1 hFc hP1 hD1
      have hK := (hK.sub (tys' := []) [] rfl).app hK1
      generalize H1 = H at hP hS ⊢
      have hP : va_P (dC, dI) vwCl [] H := hP
      have hD : va_D A [] := hD
      have hK : va_K (dC, dI) vwCl [] s := hK
      refine W.widen (k := 0) (n := 0) (by omega) (by omega) ?_
      have hw_17 := hw
      obtain rfl : r_16 = ((((0 : Int32) ||| (((x0 >>> ((10 : Int32) &&& 31)) &&& (15 : Int32)) <<< ((14 : Int32) &&& 31))) ||| (((x0 >>> ((14 : Int32) &&& 31)) &&& (15 : Int32)) <<< ((10 : Int32) &&& 31))) ||| (((-((x0 &&& (1023 : Int32)) - (512 : Int32))) - (1 : Int32)) + (512 : Int32))) := hw_17
      have hP9 := hP.sub (ws' := []) [] rfl
      have hD9 := hD.sub (ws' := []) [] (by decide) rfl
      have hK9 := hK.sub (tys' := []) [] rfl
      refine W.widen (k := 0) (n := 0) (by omega) (by omega) ?_
      exact W.iret (v := ((((0 : Int32) ||| (((x0 >>> ((10 : Int32) &&& 31)) &&& (15 : Int32)) <<< ((14 : Int32) &&& 31))) ||| (((x0 >>> ((14 : Int32) &&& 31)) &&& (15 : Int32)) <<< ((10 : Int32) &&& 31))) ||| (((-((x0 &&& (1023 : Int32)) - (512 : Int32))) - (1 : Int32)) + (512 : Int32)))) hx hb hr (fun t ht hW => ⟨⟨((((0 : Int32) ||| (((x0 >>> ((10 : Int32) &&& 31)) &&& (15 : Int32)) <<< ((14 : Int32) &&& 31))) ||| (((x0 >>> ((14 : Int32) &&& 31)) &&& (15 : Int32)) <<< ((10 : Int32) &&& 31))) ||| (((-((x0 &&& (1023 : Int32)) - (512 : Int32))) - (1 : Int32)) + (512 : Int32))), (), rfl, (by unfold f_X3_contrary; rw [if_neg c_4, if_neg c_5]), by rw [ht]; exact hP9, va_K.moved hW.alike hK9, hD9⟩, hS.F ht⟩) hS.2.2 dX3_contrary_57
    · refine lv_iload_n hx hb dX3_contrary_27 rfl (lv_at hl 1 rfl) ?_
      have hPc := hP.sub (ws' := []) [] rfl
      have hDc := hD.sub (ws' := []) [] (by decide) rfl
      have hKc := hK.sub (tys' := []) [] rfl
      have hFc := va_free (wc := []) hD hS hA [] rfl
      refine va_calli (va_runS (As := [.int x0]) (rest := []) ⟨hx, hb, hml, hown, hwA⟩ (c_X3_left l dC dI   H.size x0 ) (va_cwS 1 hwA (gwS (in_wA_1 _ (List.mem_of_getElem? (i := 2) rfl)) (in_wA_1 _ (List.mem_of_getElem? (i := 3) rfl)) (in_wA_1 _ (List.mem_of_getElem? (i := 1) rfl)) (in_wA_0 _ (List.mem_of_getElem? (i := 54) rfl))) rfl rfl rfl (by decide +kernel) ⟨Nat.le_of_ble_eq_true rfl, Nat.le_of_ble_eq_true rfl⟩) ⟨fun a U g mk q => by obtain ⟨q0, q1, qP, qK, qD⟩ := q; exact ⟨q0, q1, qP, va_K.moved (u := U) (U := U.calling g mk a) (Vm.Alike.refl U.vm) qK, qD⟩, fun U hU hW => ⟨rfl, by rw [hU], by rw [hU]; exact hPc, va_K.moved hW.alike hKc, hDc.weaken (fun _ _ _ _ => trivial)⟩⟩ rfl rfl hl.1 rfl (lv_room (Nat.le_of_ble_eq_true rfl)) dX3_contrary_28 ⟨Nat.le_of_ble_eq_true rfl, Nat.le_of_ble_eq_true rfl⟩) hS (fun q _ h => hFc q h) hFc (fun r_19 u_18 t H1 locs ht hvm hw hB hz1 hk1 hS => ?_)
      obtain ⟨hP1, hK1, hD1⟩ := hB
      rw [ht] at hP1
      have hK1 := va_K.moved hvm.symm hK1
      obtain ⟨hP, hD⟩ := va_join (wr := []) (w1 := []) hP hD [] [] rfl rfl (by decide) (by decide) hk1 hFc hP1 hD1
      have hK := (hK.sub (tys' := []) [] rfl).app hK1
      generalize H1 = H at hP hS ⊢
      have hP : va_P (dC, dI) vwCl [] H := hP
      have hD : va_D A [] := hD
      have hK : va_K (dC, dI) vwCl [] s := hK
      refine W.widen (k := 0) (n := 0) (by omega) (by omega) ?_
      have hw_20 := hw
      obtain rfl : r_19 = (x0 >>> ((14 : Int32) &&& 31)) &&& (15 : Int32) := hw_20
      refine lv_iload_n hx hb dX3_contrary_31 rfl (lv_at hl 1 rfl) ?_
      have hPc := hP.sub (ws' := []) [] rfl
      have hDc := hD.sub (ws' := []) [] (by decide) rfl
      have hKc := hK.sub (tys' := []) [] rfl
      have hFc := va_free (wc := []) hD hS hA [] rfl
      refine va_calli (va_runS (As := [.int x0]) (rest := [.int ((x0 >>> ((14 : Int32) &&& 31)) &&& (15 : Int32))]) ⟨hx, hb, hml, hown, hwA⟩ (c_X3_right l dC dI   H.size x0 ) (va_cwS 1 hwA (gwS (in_wA_1 _ (List.mem_of_getElem? (i := 4) rfl)) (in_wA_1 _ (List.mem_of_getElem? (i := 5) rfl)) (in_wA_1 _ (List.mem_of_getElem? (i := 1) rfl)) (in_wA_0 _ (List.mem_of_getElem? (i := 55) rfl))) rfl rfl rfl (by decide +kernel) ⟨Nat.le_of_ble_eq_true rfl, Nat.le_of_ble_eq_true rfl⟩) ⟨fun a U g mk q => by obtain ⟨q0, q1, qP, qK, qD⟩ := q; exact ⟨q0, q1, qP, va_K.moved (u := U) (U := U.calling g mk a) (Vm.Alike.refl U.vm) qK, qD⟩, fun U hU hW => ⟨rfl, by rw [hU], by rw [hU]; exact hPc, va_K.moved hW.alike hKc, hDc.weaken (fun _ _ _ _ => trivial)⟩⟩ rfl rfl hl.1 rfl (lv_room (Nat.le_of_ble_eq_true rfl)) dX3_contrary_32 ⟨Nat.le_of_ble_eq_true rfl, Nat.le_of_ble_eq_true rfl⟩) hS (fun q _ h => hFc q h) hFc (fun r_22 u_21 t H1 locs ht hvm hw hB hz1 hk1 hS => ?_)
      obtain ⟨hP1, hK1, hD1⟩ := hB
      rw [ht] at hP1
      have hK1 := va_K.moved hvm.symm hK1
      obtain ⟨hP, hD⟩ := va_join (wr := []) (w1 := []) hP hD [] [] rfl rfl (by decide) (by decide) hk1 hFc hP1 hD1
      have hK := (hK.sub (tys' := []) [] rfl).app hK1
      generalize H1 = H at hP hS ⊢
      have hP : va_P (dC, dI) vwCl [] H := hP
      have hD : va_D A [] := hD
      have hK : va_K (dC, dI) vwCl [] s := hK
      refine W.widen (k := 0) (n := 0) (by omega) (by omega) ?_
      have hw_23 := hw
      obtain rfl : r_22 = (x0 >>> ((10 : Int32) &&& 31)) &&& (15 : Int32) := hw_23
      have hPc := hP.sub (ws' := []) [] rfl
      have hDc := hD.sub (ws' := []) [] (by decide) rfl
      have hKc := hK.sub (tys' := []) [] rfl
      have hFc := va_free (wc := []) hD hS hA [] rfl
      refine va_calli (va_runS (As := [.int ((x0 >>> ((14 : Int32) &&& 31)) &&& (15 : Int32)), .int ((x0 >>> ((10 : Int32) &&& 31)) &&& (15 : Int32))]) (rest := []) ⟨hx, hb, hml, hown, hwA⟩ (c_X3_same l dC dI   H.size ((x0 >>> ((14 : Int32) &&& 31)) &&& (15 : Int32)) ((x0 >>> ((10 : Int32) &&& 31)) &&& (15 : Int32)) ) (va_cwS 2 hwA (gwS (in_wA_1 _ (List.mem_of_getElem? (i := 8) rfl)) (in_wA_1 _ (List.mem_of_getElem? (i := 9) rfl)) (in_wA_1 _ (List.mem_of_getElem? (i := 1) rfl)) (in_wA_0 _ (List.mem_of_getElem? (i := 58) rfl))) rfl rfl rfl (by decide +kernel) ⟨Nat.le_of_ble_eq_true rfl, Nat.le_of_ble_eq_true rfl⟩) ⟨fun a U g mk q => by obtain ⟨q0, q1, qP, qK, qD⟩ := q; exact ⟨q0, q1, qP, va_K.moved (u := U) (U := U.calling g mk a) (Vm.Alike.refl U.vm) qK, qD⟩, fun U hU hW => ⟨rfl, by rw [hU], by rw [hU]; exact hPc, va_K.moved hW.alike hKc, hDc.weaken (fun _ _ _ _ => trivial)⟩⟩ rfl rfl hl.1 rfl (lv_room (Nat.le_of_ble_eq_true rfl)) dX3_contrary_35 ⟨Nat.le_of_ble_eq_true rfl, Nat.le_of_ble_eq_true rfl⟩) hS (fun q _ h => hFc q h) hFc (fun r_25 u_24 t H1 locs ht hvm hw hB hz1 hk1 hS => ?_)
      obtain ⟨hP1, hK1, hD1⟩ := hB
      rw [ht] at hP1
      have hK1 := va_K.moved hvm.symm hK1
      obtain ⟨hP, hD⟩ := va_join (wr := []) (w1 := []) hP hD [] [] rfl rfl (by decide) (by decide) hk1 hFc hP1 hD1
      have hK := (hK.sub (tys' := []) [] rfl).app hK1
      generalize H1 = H at hP hS ⊢
      have hP : va_P (dC, dI) vwCl [] H := hP
      have hD : va_D A [] := hD
      have hK : va_K (dC, dI) vwCl [] s := hK
      refine W.widen (k := 0) (n := 0) (by omega) (by omega) ?_
      have hw_26 := hw
      obtain rfl : r_25 = ((262144 : Int32) ||| (((x0 >>> ((14 : Int32) &&& 31)) &&& (15 : Int32)) <<< ((14 : Int32) &&& 31))) ||| (((x0 >>> ((10 : Int32) &&& 31)) &&& (15 : Int32)) <<< ((10 : Int32) &&& 31)) := hw_26
      have hP9 := hP.sub (ws' := []) [] rfl
      have hD9 := hD.sub (ws' := []) [] (by decide) rfl
      have hK9 := hK.sub (tys' := []) [] rfl
      refine W.widen (k := 0) (n := 0) (by omega) (by omega) ?_
      exact W.iret (v := ((262144 : Int32) ||| (((x0 >>> ((14 : Int32) &&& 31)) &&& (15 : Int32)) <<< ((14 : Int32) &&& 31))) ||| (((x0 >>> ((10 : Int32) &&& 31)) &&& (15 : Int32)) <<< ((10 : Int32) &&& 31))) hx hb hr (fun t ht hW => ⟨⟨((262144 : Int32) ||| (((x0 >>> ((14 : Int32) &&& 31)) &&& (15 : Int32)) <<< ((14 : Int32) &&& 31))) ||| (((x0 >>> ((10 : Int32) &&& 31)) &&& (15 : Int32)) <<< ((10 : Int32) &&& 31)), (), rfl, (by unfold f_X3_contrary; rw [if_neg c_4, if_pos c_5]), by rw [ht]; exact hP9, va_K.moved hW.alike hK9, hD9⟩, hS.F ht⟩) hS.2.2 dX3_contrary_38
  · refine lv_iload_n hx hb dX3_contrary_10 rfl (lv_at hl 1 rfl) ?_
    have hPc := hP.sub (ws' := []) [] rfl
    have hDc := hD.sub (ws' := []) [] (by decide) rfl
    have hKc := hK.sub (tys' := []) [] rfl
    have hFc := va_free (wc := []) hD hS hA [] rfl
    refine va_calli (va_runS (As := [.int x0]) (rest := []) ⟨hx, hb, hml, hown, hwA⟩ (c_X3_left l dC dI   H.size x0 ) (va_cwS 1 hwA (gwS (in_wA_1 _ (List.mem_of_getElem? (i := 2) rfl)) (in_wA_1 _ (List.mem_of_getElem? (i := 3) rfl)) (in_wA_1 _ (List.mem_of_getElem? (i := 1) rfl)) (in_wA_0 _ (List.mem_of_getElem? (i := 54) rfl))) rfl rfl rfl (by decide +kernel) ⟨Nat.le_of_ble_eq_true rfl, Nat.le_of_ble_eq_true rfl⟩) ⟨fun a U g mk q => by obtain ⟨q0, q1, qP, qK, qD⟩ := q; exact ⟨q0, q1, qP, va_K.moved (u := U) (U := U.calling g mk a) (Vm.Alike.refl U.vm) qK, qD⟩, fun U hU hW => ⟨rfl, by rw [hU], by rw [hU]; exact hPc, va_K.moved hW.alike hKc, hDc.weaken (fun _ _ _ _ => trivial)⟩⟩ rfl rfl hl.1 rfl (lv_room (Nat.le_of_ble_eq_true rfl)) dX3_contrary_11 ⟨Nat.le_of_ble_eq_true rfl, Nat.le_of_ble_eq_true rfl⟩) hS (fun q _ h => hFc q h) hFc (fun r_28 u_27 t H1 locs ht hvm hw hB hz1 hk1 hS => ?_)
    obtain ⟨hP1, hK1, hD1⟩ := hB
    rw [ht] at hP1
    have hK1 := va_K.moved hvm.symm hK1
    obtain ⟨hP, hD⟩ := va_join (wr := []) (w1 := []) hP hD [] [] rfl rfl (by decide) (by decide) hk1 hFc hP1 hD1
    have hK := (hK.sub (tys' := []) [] rfl).app hK1
    generalize H1 = H at hP hS ⊢
    have hP : va_P (dC, dI) vwCl [] H := hP
    have hD : va_D A [] := hD
    have hK : va_K (dC, dI) vwCl [] s := hK
    refine W.widen (k := 0) (n := 0) (by omega) (by omega) ?_
    have hw_29 := hw
    obtain rfl : r_28 = (x0 >>> ((14 : Int32) &&& 31)) &&& (15 : Int32) := hw_29
    refine lv_iload_n hx hb dX3_contrary_14 rfl (lv_at hl 1 rfl) ?_
    have hPc := hP.sub (ws' := []) [] rfl
    have hDc := hD.sub (ws' := []) [] (by decide) rfl
    have hKc := hK.sub (tys' := []) [] rfl
    have hFc := va_free (wc := []) hD hS hA [] rfl
    refine va_calli (va_runS (As := [.int x0]) (rest := [.int ((x0 >>> ((14 : Int32) &&& 31)) &&& (15 : Int32))]) ⟨hx, hb, hml, hown, hwA⟩ (c_X3_right l dC dI   H.size x0 ) (va_cwS 1 hwA (gwS (in_wA_1 _ (List.mem_of_getElem? (i := 4) rfl)) (in_wA_1 _ (List.mem_of_getElem? (i := 5) rfl)) (in_wA_1 _ (List.mem_of_getElem? (i := 1) rfl)) (in_wA_0 _ (List.mem_of_getElem? (i := 55) rfl))) rfl rfl rfl (by decide +kernel) ⟨Nat.le_of_ble_eq_true rfl, Nat.le_of_ble_eq_true rfl⟩) ⟨fun a U g mk q => by obtain ⟨q0, q1, qP, qK, qD⟩ := q; exact ⟨q0, q1, qP, va_K.moved (u := U) (U := U.calling g mk a) (Vm.Alike.refl U.vm) qK, qD⟩, fun U hU hW => ⟨rfl, by rw [hU], by rw [hU]; exact hPc, va_K.moved hW.alike hKc, hDc.weaken (fun _ _ _ _ => trivial)⟩⟩ rfl rfl hl.1 rfl (lv_room (Nat.le_of_ble_eq_true rfl)) dX3_contrary_15 ⟨Nat.le_of_ble_eq_true rfl, Nat.le_of_ble_eq_true rfl⟩) hS (fun q _ h => hFc q h) hFc (fun r_31 u_30 t H1 locs ht hvm hw hB hz1 hk1 hS => ?_)
    obtain ⟨hP1, hK1, hD1⟩ := hB
    rw [ht] at hP1
    have hK1 := va_K.moved hvm.symm hK1
    obtain ⟨hP, hD⟩ := va_join (wr := []) (w1 := []) hP hD [] [] rfl rfl (by decide) (by decide) hk1 hFc hP1 hD1
    have hK := (hK.sub (tys' := []) [] rfl).app hK1
    generalize H1 = H at hP hS ⊢
    have hP : va_P (dC, dI) vwCl [] H := hP
    have hD : va_D A [] := hD
    have hK : va_K (dC, dI) vwCl [] s := hK
    refine W.widen (k := 0) (n := 0) (by omega) (by omega) ?_
    have hw_32 := hw
    obtain rfl : r_31 = (x0 >>> ((10 : Int32) &&& 31)) &&& (15 : Int32) := hw_32
    have hPc := hP.sub (ws' := []) [] rfl
    have hDc := hD.sub (ws' := []) [] (by decide) rfl
    have hKc := hK.sub (tys' := []) [] rfl
    have hFc := va_free (wc := []) hD hS hA [] rfl
    refine va_calli (va_runS (As := [.int ((x0 >>> ((14 : Int32) &&& 31)) &&& (15 : Int32)), .int ((x0 >>> ((10 : Int32) &&& 31)) &&& (15 : Int32))]) (rest := []) ⟨hx, hb, hml, hown, hwA⟩ (c_X3_apart l dC dI   H.size ((x0 >>> ((14 : Int32) &&& 31)) &&& (15 : Int32)) ((x0 >>> ((10 : Int32) &&& 31)) &&& (15 : Int32)) ) (va_cwS 2 hwA (gwS (in_wA_1 _ (List.mem_of_getElem? (i := 6) rfl)) (in_wA_1 _ (List.mem_of_getElem? (i := 7) rfl)) (in_wA_1 _ (List.mem_of_getElem? (i := 1) rfl)) (in_wA_0 _ (List.mem_of_getElem? (i := 56) rfl))) rfl rfl rfl (by decide +kernel) ⟨Nat.le_of_ble_eq_true rfl, Nat.le_of_ble_eq_true rfl⟩) ⟨fun a U g mk q => by obtain ⟨q0, q1, qP, qK, qD⟩ := q; exact ⟨q0, q1, qP, va_K.moved (u := U) (U := U.calling g mk a) (Vm.Alike.refl U.vm) qK, qD⟩, fun U hU hW => ⟨rfl, by rw [hU], by rw [hU]; exact hPc, va_K.moved hW.alike hKc, hDc.weaken (fun _ _ _ _ => trivial)⟩⟩ rfl rfl hl.1 rfl (lv_room (Nat.le_of_ble_eq_true rfl)) dX3_contrary_18 ⟨Nat.le_of_ble_eq_true rfl, Nat.le_of_ble_eq_true rfl⟩) hS (fun q _ h => hFc q h) hFc (fun r_34 u_33 t H1 locs ht hvm hw hB hz1 hk1 hS => ?_)
    obtain ⟨hP1, hK1, hD1⟩ := hB
    rw [ht] at hP1
    have hK1 := va_K.moved hvm.symm hK1
    obtain ⟨hP, hD⟩ := va_join (wr := []) (w1 := []) hP hD [] [] rfl rfl (by decide) (by decide) hk1 hFc hP1 hD1
    have hK := (hK.sub (tys' := []) [] rfl).app hK1
    generalize H1 = H at hP hS ⊢
    have hP : va_P (dC, dI) vwCl [] H := hP
    have hD : va_D A [] := hD
    have hK : va_K (dC, dI) vwCl [] s := hK
    refine W.widen (k := 0) (n := 0) (by omega) (by omega) ?_
    have hw_35 := hw
    obtain rfl : r_34 = ((524288 : Int32) ||| (((x0 >>> ((14 : Int32) &&& 31)) &&& (15 : Int32)) <<< ((14 : Int32) &&& 31))) ||| (((x0 >>> ((10 : Int32) &&& 31)) &&& (15 : Int32)) <<< ((10 : Int32) &&& 31)) := hw_35
    have hP9 := hP.sub (ws' := []) [] rfl
    have hD9 := hD.sub (ws' := []) [] (by decide) rfl
    have hK9 := hK.sub (tys' := []) [] rfl
    refine W.widen (k := 0) (n := 0) (by omega) (by omega) ?_
    exact W.iret (v := ((524288 : Int32) ||| (((x0 >>> ((14 : Int32) &&& 31)) &&& (15 : Int32)) <<< ((14 : Int32) &&& 31))) ||| (((x0 >>> ((10 : Int32) &&& 31)) &&& (15 : Int32)) <<< ((10 : Int32) &&& 31))) hx hb hr (fun t ht hW => ⟨⟨((524288 : Int32) ||| (((x0 >>> ((14 : Int32) &&& 31)) &&& (15 : Int32)) <<< ((14 : Int32) &&& 31))) ||| (((x0 >>> ((10 : Int32) &&& 31)) &&& (15 : Int32)) <<< ((10 : Int32) &&& 31)), (), rfl, (by unfold f_X3_contrary; rw [if_pos c_4]), by rw [ht]; exact hP9, va_K.moved hW.alike hK9, hD9⟩, hS.F ht⟩) hS.2.2 dX3_contrary_21

def f_X7_isFull (tn : Int32) : Int32 := if tn < (14 : Int32) then 0 else 1
set_option maxHeartbeats 4000000 in
set_option maxRecDepth 100000 in
theorem c_X7_isFull (l : Launch) (dC : Nat → ClassId) (dI : Nat → Nat → Nat) (tb tk tf t1 t2 t3 : Nat) (ytk ytf yt1 yt2 yt3 : ClassId) (sz : Nat) (rk : Nat → Int32) (rf : Nat → Int32) (r1 : Nat → Int32) (r2 : Nat → Int32) (r3 : Nat → Int32) (tn : Int32) : Met l yX7_isFull (.code yX7_isFull cX7_isFull 1 (some .boolean) :: wAll) ({ frames := 0, cells := 0, slots := 0, locals := 0 }) (va_Pc [.ref tb] (fun U => U.heap.size = sz ∧ va_P (dC, dI) vwCl [(tb, .inr (9, [.ref tk, .ref tf, .ref t1, .ref t2, .ref t3, .int tn])), (tk, .inl (ytk, 14, .inl rk)), (tf, .inl (ytf, 14, .inl rf)), (t1, .inl (yt1, 14, .inl r1)), (t2, .inl (yt2, 14, .inl r2)), (t3, .inl (yt3, 14, .inl r3))] U.heap ∧ va_K (dC, dI) vwCl [(ytk, .char), (ytf, .int), (yt1, .int), (yt2, .int), (yt3, .int)] U ∧ va_D (fun _ => True) [(tb, .inr (9, [.ref tk, .ref tf, .ref t1, .ref t2, .ref t3, .int tn])), (tk, .inl (ytk, 14, .inl rk)), (tf, .inl (ytf, 14, .inl rf)), (t1, .inl (yt1, 14, .inl r1)), (t2, .inl (yt2, 14, .inl r2)), (t3, .inl (yt3, 14, .inl r3))])) (va_Qi (fun (r : Int32) (_ : Unit) => r = f_X7_isFull tn) (fun (_ : Unit) (t : State) => va_P (dC, dI) vwCl [(tb, .inr (9, [.ref tk, .ref tf, .ref t1, .ref t2, .ref t3, .int tn])), (tk, .inl (ytk, 14, .inl rk)), (tf, .inl (ytf, 14, .inl rf)), (t1, .inl (yt1, 14, .inl r1)), (t2, .inl (yt2, 14, .inl r2)), (t3, .inl (yt3, 14, .inl r3))] t.heap ∧ va_K (dC, dI) vwCl [(ytk, .char), (ytf, .int), (yt1, .int), (yt2, .int), (yt3, .int)] t ∧ va_D (va_A [(tb, .inr (9, [.ref tk, .ref tf, .ref t1, .ref t2, .ref t3, .int tn])), (tk, .inl (ytk, 14, .inl rk)), (tf, .inl (ytf, 14, .inl rf)), (t1, .inl (yt1, 14, .inl r1)), (t2, .inl (yt2, 14, .inl r2)), (t3, .inl (yt3, 14, .inl r3))] sz) [(tb, .inr (9, [.ref tk, .ref tf, .ref t1, .ref t2, .ref t3, .int tn])), (tk, .inl (ytk, 14, .inl rk)), (tf, .inl (ytf, 14, .inl rf)), (t1, .inl (yt1, 14, .inl r1)), (t2, .inl (yt2, 14, .inl r2)), (t3, .inl (yt3, 14, .inl r3))]) (va_A [(tb, .inr (9, [.ref tk, .ref tf, .ref t1, .ref t2, .ref t3, .int tn])), (tk, .inl (ytk, 14, .inl rk)), (tf, .inl (ytf, 14, .inl rf)), (t1, .inl (yt1, 14, .inl r1)), (t2, .inl (yt2, 14, .inl r2)), (t3, .inl (yt3, 14, .inl r3))] sz)) 0 0 (va_A [(tb, .inr (9, [.ref tk, .ref tf, .ref t1, .ref t2, .ref t3, .int tn])), (tk, .inl (ytk, 14, .inl rk)), (tf, .inl (ytf, 14, .inl rf)), (t1, .inl (yt1, 14, .inl r1)), (t2, .inl (yt2, 14, .inl r2)), (t3, .inl (yt3, 14, .inl r3))] sz) := by
  refine Met.ofW (cc := cX7_isFull) (maxL := 1) (ret := (some .boolean)) (by decide) rfl ?_
  intro p e s m args below meth c s₁ B hml hv
  obtain ⟨rfl, hsz, hP, hK, hD0⟩ := hv
  have hx := B.exec
  have hb := B.bytes
  have hr := B.returns
  have hts := atoms_spec (ws := .code yX7_isFull cX7_isFull 1 (some .boolean) :: wAll) B.pre
  have hwA := fun w (h : w ∈ wAll) => hts w (List.mem_cons_of_mem _ h)
  have hown : s.vm.findClass RX7 = some m.cls := findClass_of_methodNamed B.named
  have hlocks := B.notSynchronized
  subst hsz
  have hD := hD0.self (sz := s.heap.size)
  generalize hAe : va_A [(tb, .inr (9, [.ref tk, .ref tf, .ref t1, .ref t2, .ref t3, .int tn])), (tk, .inl (ytk, 14, .inl rk)), (tf, .inl (ytf, 14, .inl rf)), (t1, .inl (yt1, 14, .inl r1)), (t2, .inl (yt2, 14, .inl r2)), (t3, .inl (yt3, 14, .inl r3))] s.heap.size = A at hD ⊢
  have hA : ∀ q : Nat, s.heap.size ≤ q → A q := fun q h => by rw [← hAe]; exact Or.inr h
  have hS : va_S A s.heap s.heap [] := va_S.rf
  have hP : va_P (dC, dI) vwCl [(tb, .inr (9, [.ref tk, .ref tf, .ref t1, .ref t2, .ref t3, .int tn])), (tk, .inl (ytk, 14, .inl rk)), (tf, .inl (ytf, 14, .inl rf)), (t1, .inl (yt1, 14, .inl r1)), (t2, .inl (yt2, 14, .inl r2)), (t3, .inl (yt3, 14, .inl r3))] s.heap := hP
  have hl := lv_entry ([.ref tb]) (n := 1) (Nat.le_of_ble_eq_true rfl)
  rw [lg_entry_eq]
  generalize (lg_sl ([.ref tb]) ++ List.replicate (1 - (lg_sl ([.ref tb])).length) Slot.unset).toArray = ls at hl ⊢
  have hl : lv_has ls 1 [(0, .ref tb)] := hl
  refine lv_aload_n hx hb dX7_isFull_0 rfl (lv_at hl 0 rfl) ?_
  refine va_get (D := (dC, dI)) (ci := 9) (v := .int tn) (C := RX7) (T := TX7) (N := 6) hx hb hwA in_wsX70 hown hK hP 0 rfl rfl 5 (by decide) (hwA (.fieldLink RX7 26 "Congruary$Table" "count" "I") (in_wA_2 _ (List.mem_of_getElem? (i := 26) rfl))) (fun _ h9 => h9) rfl dX7_isFull_1 ?_
  refine lv_bipush (v := 14) hx hb dX7_isFull_4 (by decide) ?_
  refine lv_icmp_lt (tgt := 13) hx hb dX7_isFull_6 (by decide) (fun c_1 => ?_) (fun c_1 => ?_)
  · refine lv_iconst (v := 0) hx hb dX7_isFull_13 (by decide) ?_
    have hP9 := hP.sub (ws' := [(tb, .inr (9, [.ref tk, .ref tf, .ref t1, .ref t2, .ref t3, .int tn])), (tk, .inl (ytk, 14, .inl rk)), (tf, .inl (ytf, 14, .inl rf)), (t1, .inl (yt1, 14, .inl r1)), (t2, .inl (yt2, 14, .inl r2)), (t3, .inl (yt3, 14, .inl r3))]) [0, 1, 2, 3, 4, 5] rfl
    have hD9 := hD.sub (ws' := [(tb, .inr (9, [.ref tk, .ref tf, .ref t1, .ref t2, .ref t3, .int tn])), (tk, .inl (ytk, 14, .inl rk)), (tf, .inl (ytf, 14, .inl rf)), (t1, .inl (yt1, 14, .inl r1)), (t2, .inl (yt2, 14, .inl r2)), (t3, .inl (yt3, 14, .inl r3))]) [0, 1, 2, 3, 4, 5] (by decide) rfl
    have hK9 := hK.sub (tys' := [(ytk, .char), (ytf, .int), (yt1, .int), (yt2, .int), (yt3, .int)]) [0, 1, 2, 3, 4] rfl
    refine W.widen (k := 0) (n := 0) (by omega) (by omega) ?_
    exact W.zret (v := 0) (ty := .boolean) hx hb hr (by decide +kernel) (fun t ht hW => ⟨⟨0, (), rfl, (by unfold f_X7_isFull; rw [if_pos c_1]), by rw [ht]; exact hP9, va_K.moved hW.alike hK9, hD9⟩, hS.F ht⟩) hS.2.2 dX7_isFull_14
  · refine lv_iconst (v := 1) hx hb dX7_isFull_9 (by decide) ?_
    refine lv_goto (tgt := 14) hx hb dX7_isFull_10 (by decide) ?_
    have hP9 := hP.sub (ws' := [(tb, .inr (9, [.ref tk, .ref tf, .ref t1, .ref t2, .ref t3, .int tn])), (tk, .inl (ytk, 14, .inl rk)), (tf, .inl (ytf, 14, .inl rf)), (t1, .inl (yt1, 14, .inl r1)), (t2, .inl (yt2, 14, .inl r2)), (t3, .inl (yt3, 14, .inl r3))]) [0, 1, 2, 3, 4, 5] rfl
    have hD9 := hD.sub (ws' := [(tb, .inr (9, [.ref tk, .ref tf, .ref t1, .ref t2, .ref t3, .int tn])), (tk, .inl (ytk, 14, .inl rk)), (tf, .inl (ytf, 14, .inl rf)), (t1, .inl (yt1, 14, .inl r1)), (t2, .inl (yt2, 14, .inl r2)), (t3, .inl (yt3, 14, .inl r3))]) [0, 1, 2, 3, 4, 5] (by decide) rfl
    have hK9 := hK.sub (tys' := [(ytk, .char), (ytf, .int), (yt1, .int), (yt2, .int), (yt3, .int)]) [0, 1, 2, 3, 4] rfl
    refine W.widen (k := 0) (n := 0) (by omega) (by omega) ?_
    exact W.zret (v := 1) (ty := .boolean) hx hb hr (by decide +kernel) (fun t ht hW => ⟨⟨1, (), rfl, (by unfold f_X7_isFull; rw [if_neg c_1]), by rw [ht]; exact hP9, va_K.moved hW.alike hK9, hD9⟩, hS.F ht⟩) hS.2.2 dX7_isFull_14

def f_X7_isTerm (tn : Int32) (x : Int32) : Int32 := if x < (0 : Int32) then 0 else if tn ≤ x then 0 else 1
set_option maxHeartbeats 4000000 in
set_option maxRecDepth 100000 in
theorem c_X7_isTerm (l : Launch) (dC : Nat → ClassId) (dI : Nat → Nat → Nat) (tb tk tf t1 t2 t3 : Nat) (ytk ytf yt1 yt2 yt3 : ClassId) (sz : Nat) (rk : Nat → Int32) (rf : Nat → Int32) (r1 : Nat → Int32) (r2 : Nat → Int32) (r3 : Nat → Int32) (tn : Int32) (x : Int32) : Met l yX7_isTerm (.code yX7_isTerm cX7_isTerm 2 (some .boolean) :: wAll) ({ frames := 0, cells := 0, slots := 0, locals := 0 }) (va_Pc [.ref tb, .int x] (fun U => U.heap.size = sz ∧ va_P (dC, dI) vwCl [(tb, .inr (9, [.ref tk, .ref tf, .ref t1, .ref t2, .ref t3, .int tn])), (tk, .inl (ytk, 14, .inl rk)), (tf, .inl (ytf, 14, .inl rf)), (t1, .inl (yt1, 14, .inl r1)), (t2, .inl (yt2, 14, .inl r2)), (t3, .inl (yt3, 14, .inl r3))] U.heap ∧ va_K (dC, dI) vwCl [(ytk, .char), (ytf, .int), (yt1, .int), (yt2, .int), (yt3, .int)] U ∧ va_D (fun _ => True) [(tb, .inr (9, [.ref tk, .ref tf, .ref t1, .ref t2, .ref t3, .int tn])), (tk, .inl (ytk, 14, .inl rk)), (tf, .inl (ytf, 14, .inl rf)), (t1, .inl (yt1, 14, .inl r1)), (t2, .inl (yt2, 14, .inl r2)), (t3, .inl (yt3, 14, .inl r3))])) (va_Qi (fun (r : Int32) (_ : Unit) => r = f_X7_isTerm tn x) (fun (_ : Unit) (t : State) => va_P (dC, dI) vwCl [(tb, .inr (9, [.ref tk, .ref tf, .ref t1, .ref t2, .ref t3, .int tn])), (tk, .inl (ytk, 14, .inl rk)), (tf, .inl (ytf, 14, .inl rf)), (t1, .inl (yt1, 14, .inl r1)), (t2, .inl (yt2, 14, .inl r2)), (t3, .inl (yt3, 14, .inl r3))] t.heap ∧ va_K (dC, dI) vwCl [(ytk, .char), (ytf, .int), (yt1, .int), (yt2, .int), (yt3, .int)] t ∧ va_D (va_A [(tb, .inr (9, [.ref tk, .ref tf, .ref t1, .ref t2, .ref t3, .int tn])), (tk, .inl (ytk, 14, .inl rk)), (tf, .inl (ytf, 14, .inl rf)), (t1, .inl (yt1, 14, .inl r1)), (t2, .inl (yt2, 14, .inl r2)), (t3, .inl (yt3, 14, .inl r3))] sz) [(tb, .inr (9, [.ref tk, .ref tf, .ref t1, .ref t2, .ref t3, .int tn])), (tk, .inl (ytk, 14, .inl rk)), (tf, .inl (ytf, 14, .inl rf)), (t1, .inl (yt1, 14, .inl r1)), (t2, .inl (yt2, 14, .inl r2)), (t3, .inl (yt3, 14, .inl r3))]) (va_A [(tb, .inr (9, [.ref tk, .ref tf, .ref t1, .ref t2, .ref t3, .int tn])), (tk, .inl (ytk, 14, .inl rk)), (tf, .inl (ytf, 14, .inl rf)), (t1, .inl (yt1, 14, .inl r1)), (t2, .inl (yt2, 14, .inl r2)), (t3, .inl (yt3, 14, .inl r3))] sz)) 0 0 (va_A [(tb, .inr (9, [.ref tk, .ref tf, .ref t1, .ref t2, .ref t3, .int tn])), (tk, .inl (ytk, 14, .inl rk)), (tf, .inl (ytf, 14, .inl rf)), (t1, .inl (yt1, 14, .inl r1)), (t2, .inl (yt2, 14, .inl r2)), (t3, .inl (yt3, 14, .inl r3))] sz) := by
  refine Met.ofW (cc := cX7_isTerm) (maxL := 2) (ret := (some .boolean)) (by decide) rfl ?_
  intro p e s m args below meth c s₁ B hml hv
  obtain ⟨rfl, hsz, hP, hK, hD0⟩ := hv
  have hx := B.exec
  have hb := B.bytes
  have hr := B.returns
  have hts := atoms_spec (ws := .code yX7_isTerm cX7_isTerm 2 (some .boolean) :: wAll) B.pre
  have hwA := fun w (h : w ∈ wAll) => hts w (List.mem_cons_of_mem _ h)
  have hown : s.vm.findClass RX7 = some m.cls := findClass_of_methodNamed B.named
  have hlocks := B.notSynchronized
  subst hsz
  have hD := hD0.self (sz := s.heap.size)
  generalize hAe : va_A [(tb, .inr (9, [.ref tk, .ref tf, .ref t1, .ref t2, .ref t3, .int tn])), (tk, .inl (ytk, 14, .inl rk)), (tf, .inl (ytf, 14, .inl rf)), (t1, .inl (yt1, 14, .inl r1)), (t2, .inl (yt2, 14, .inl r2)), (t3, .inl (yt3, 14, .inl r3))] s.heap.size = A at hD ⊢
  have hA : ∀ q : Nat, s.heap.size ≤ q → A q := fun q h => by rw [← hAe]; exact Or.inr h
  have hS : va_S A s.heap s.heap [] := va_S.rf
  have hP : va_P (dC, dI) vwCl [(tb, .inr (9, [.ref tk, .ref tf, .ref t1, .ref t2, .ref t3, .int tn])), (tk, .inl (ytk, 14, .inl rk)), (tf, .inl (ytf, 14, .inl rf)), (t1, .inl (yt1, 14, .inl r1)), (t2, .inl (yt2, 14, .inl r2)), (t3, .inl (yt3, 14, .inl r3))] s.heap := hP
  have hl := lv_entry ([.ref tb, .int x]) (n := 2) (Nat.le_of_ble_eq_true rfl)
  rw [lg_entry_eq]
  generalize (lg_sl ([.ref tb, .int x]) ++ List.replicate (2 - (lg_sl ([.ref tb, .int x])).length) Slot.unset).toArray = ls at hl ⊢
  have hl : lv_has ls 2 [(0, .ref tb), (1, .int x)] := hl
  refine lv_iload_n hx hb dX7_isTerm_0 rfl (lv_at hl 1 rfl) ?_
  refine lv_if_lt (tgt := 16) hx hb dX7_isTerm_1 (by decide) (fun c_1 => ?_) (fun c_1 => ?_)
  · refine lv_iconst (v := 0) hx hb dX7_isTerm_16 (by decide) ?_
    have hP9 := hP.sub (ws' := [(tb, .inr (9, [.ref tk, .ref tf, .ref t1, .ref t2, .ref t3, .int tn])), (tk, .inl (ytk, 14, .inl rk)), (tf, .inl (ytf, 14, .inl rf)), (t1, .inl (yt1, 14, .inl r1)), (t2, .inl (yt2, 14, .inl r2)), (t3, .inl (yt3, 14, .inl r3))]) [0, 1, 2, 3, 4, 5] rfl
    have hD9 := hD.sub (ws' := [(tb, .inr (9, [.ref tk, .ref tf, .ref t1, .ref t2, .ref t3, .int tn])), (tk, .inl (ytk, 14, .inl rk)), (tf, .inl (ytf, 14, .inl rf)), (t1, .inl (yt1, 14, .inl r1)), (t2, .inl (yt2, 14, .inl r2)), (t3, .inl (yt3, 14, .inl r3))]) [0, 1, 2, 3, 4, 5] (by decide) rfl
    have hK9 := hK.sub (tys' := [(ytk, .char), (ytf, .int), (yt1, .int), (yt2, .int), (yt3, .int)]) [0, 1, 2, 3, 4] rfl
    refine W.widen (k := 0) (n := 0) (by omega) (by omega) ?_
    exact W.zret (v := 0) (ty := .boolean) hx hb hr (by decide +kernel) (fun t ht hW => ⟨⟨0, (), rfl, (by unfold f_X7_isTerm; rw [if_pos c_1]), by rw [ht]; exact hP9, va_K.moved hW.alike hK9, hD9⟩, hS.F ht⟩) hS.2.2 dX7_isTerm_17
  · refine lv_iload_n hx hb dX7_isTerm_4 rfl (lv_at hl 1 rfl) ?_
    refine lv_aload_n hx hb dX7_isTerm_5 rfl (lv_at hl 0 rfl) ?_
    refine va_get (D := (dC, dI)) (ci := 9) (v := .int tn) (C := RX7) (T := TX7) (N := 6) hx hb hwA in_wsX70 hown hK hP 0 rfl rfl 5 (by decide) (hwA (.fieldLink RX7 26 "Congruary$Table" "count" "I") (in_wA_2 _ (List.mem_of_getElem? (i := 26) rfl))) (fun _ h9 => h9) rfl dX7_isTerm_6 ?_
    refine lv_icmp_ge (tgt := 16) hx hb dX7_isTerm_9 (by decide) (fun c_2 => ?_) (fun c_2 => ?_)
    · refine lv_iconst (v := 0) hx hb dX7_isTerm_16 (by decide) ?_
      have hP9 := hP.sub (ws' := [(tb, .inr (9, [.ref tk, .ref tf, .ref t1, .ref t2, .ref t3, .int tn])), (tk, .inl (ytk, 14, .inl rk)), (tf, .inl (ytf, 14, .inl rf)), (t1, .inl (yt1, 14, .inl r1)), (t2, .inl (yt2, 14, .inl r2)), (t3, .inl (yt3, 14, .inl r3))]) [0, 1, 2, 3, 4, 5] rfl
      have hD9 := hD.sub (ws' := [(tb, .inr (9, [.ref tk, .ref tf, .ref t1, .ref t2, .ref t3, .int tn])), (tk, .inl (ytk, 14, .inl rk)), (tf, .inl (ytf, 14, .inl rf)), (t1, .inl (yt1, 14, .inl r1)), (t2, .inl (yt2, 14, .inl r2)), (t3, .inl (yt3, 14, .inl r3))]) [0, 1, 2, 3, 4, 5] (by decide) rfl
      have hK9 := hK.sub (tys' := [(ytk, .char), (ytf, .int), (yt1, .int), (yt2, .int), (yt3, .int)]) [0, 1, 2, 3, 4] rfl
      refine W.widen (k := 0) (n := 0) (by omega) (by omega) ?_
      exact W.zret (v := 0) (ty := .boolean) hx hb hr (by decide +kernel) (fun t ht hW => ⟨⟨0, (), rfl, (by unfold f_X7_isTerm; rw [if_neg c_1, if_pos c_2]), by rw [ht]; exact hP9, va_K.moved hW.alike hK9, hD9⟩, hS.F ht⟩) hS.2.2 dX7_isTerm_17
    · refine lv_iconst (v := 1) hx hb dX7_isTerm_12 (by decide) ?_
      refine lv_goto (tgt := 17) hx hb dX7_isTerm_13 (by decide) ?_
      have hP9 := hP.sub (ws' := [(tb, .inr (9, [.ref tk, .ref tf, .ref t1, .ref t2, .ref t3, .int tn])), (tk, .inl (ytk, 14, .inl rk)), (tf, .inl (ytf, 14, .inl rf)), (t1, .inl (yt1, 14, .inl r1)), (t2, .inl (yt2, 14, .inl r2)), (t3, .inl (yt3, 14, .inl r3))]) [0, 1, 2, 3, 4, 5] rfl
      have hD9 := hD.sub (ws' := [(tb, .inr (9, [.ref tk, .ref tf, .ref t1, .ref t2, .ref t3, .int tn])), (tk, .inl (ytk, 14, .inl rk)), (tf, .inl (ytf, 14, .inl rf)), (t1, .inl (yt1, 14, .inl r1)), (t2, .inl (yt2, 14, .inl r2)), (t3, .inl (yt3, 14, .inl r3))]) [0, 1, 2, 3, 4, 5] (by decide) rfl
      have hK9 := hK.sub (tys' := [(ytk, .char), (ytf, .int), (yt1, .int), (yt2, .int), (yt3, .int)]) [0, 1, 2, 3, 4] rfl
      refine W.widen (k := 0) (n := 0) (by omega) (by omega) ?_
      exact W.zret (v := 1) (ty := .boolean) hx hb hr (by decide +kernel) (fun t ht hW => ⟨⟨1, (), rfl, (by unfold f_X7_isTerm; rw [if_neg c_1, if_neg c_2]), by rw [ht]; exact hP9, va_K.moved hW.alike hK9, hD9⟩, hS.F ht⟩) hS.2.2 dX7_isTerm_17

def f_X6_hasAllAtoms (sa : Int32) : Int32 := if sa < (24 : Int32) then 0 else 1
set_option maxHeartbeats 4000000 in
set_option maxRecDepth 100000 in
theorem c_X6_hasAllAtoms (l : Launch) (dC : Nat → ClassId) (dI : Nat → Nat → Nat) (sm sf sl sk su : Nat) (ysf ysl ysk ysu : ClassId) (sz : Nat) (qf : Nat → Int32) (ql : Nat → Int32) (qk : Nat → Int32) (qu : Nat → Int32) (sa : Int32) (sc : Int32) (sr : Int32) : Met l yX6_hasAllAtoms (.code yX6_hasAllAtoms cX6_hasAllAtoms 1 (some .boolean) :: wAll) ({ frames := 0, cells := 0, slots := 0, locals := 0 }) (va_Pc [.ref sm] (fun U => U.heap.size = sz ∧ va_P (dC, dI) vwCl [(sm, .inr (8, [.ref sf, .ref sl, .ref sk, .ref su, .int sa, .int sc, .int sr])), (sf, .inl (ysf, 24, .inl qf)), (sl, .inl (ysl, 42, .inl ql)), (sk, .inl (ysk, 4, .inl qk)), (su, .inl (ysu, 4, .inl qu))] U.heap ∧ va_K (dC, dI) vwCl [(ysf, .int), (ysl, .int), (ysk, .char), (ysu, .int)] U ∧ va_D (fun _ => True) [(sm, .inr (8, [.ref sf, .ref sl, .ref sk, .ref su, .int sa, .int sc, .int sr])), (sf, .inl (ysf, 24, .inl qf)), (sl, .inl (ysl, 42, .inl ql)), (sk, .inl (ysk, 4, .inl qk)), (su, .inl (ysu, 4, .inl qu))])) (va_Qi (fun (r : Int32) (_ : Unit) => r = f_X6_hasAllAtoms sa) (fun (_ : Unit) (t : State) => va_P (dC, dI) vwCl [(sm, .inr (8, [.ref sf, .ref sl, .ref sk, .ref su, .int sa, .int sc, .int sr])), (sf, .inl (ysf, 24, .inl qf)), (sl, .inl (ysl, 42, .inl ql)), (sk, .inl (ysk, 4, .inl qk)), (su, .inl (ysu, 4, .inl qu))] t.heap ∧ va_K (dC, dI) vwCl [(ysf, .int), (ysl, .int), (ysk, .char), (ysu, .int)] t ∧ va_D (va_A [(sm, .inr (8, [.ref sf, .ref sl, .ref sk, .ref su, .int sa, .int sc, .int sr])), (sf, .inl (ysf, 24, .inl qf)), (sl, .inl (ysl, 42, .inl ql)), (sk, .inl (ysk, 4, .inl qk)), (su, .inl (ysu, 4, .inl qu))] sz) [(sm, .inr (8, [.ref sf, .ref sl, .ref sk, .ref su, .int sa, .int sc, .int sr])), (sf, .inl (ysf, 24, .inl qf)), (sl, .inl (ysl, 42, .inl ql)), (sk, .inl (ysk, 4, .inl qk)), (su, .inl (ysu, 4, .inl qu))]) (va_A [(sm, .inr (8, [.ref sf, .ref sl, .ref sk, .ref su, .int sa, .int sc, .int sr])), (sf, .inl (ysf, 24, .inl qf)), (sl, .inl (ysl, 42, .inl ql)), (sk, .inl (ysk, 4, .inl qk)), (su, .inl (ysu, 4, .inl qu))] sz)) 0 0 (va_A [(sm, .inr (8, [.ref sf, .ref sl, .ref sk, .ref su, .int sa, .int sc, .int sr])), (sf, .inl (ysf, 24, .inl qf)), (sl, .inl (ysl, 42, .inl ql)), (sk, .inl (ysk, 4, .inl qk)), (su, .inl (ysu, 4, .inl qu))] sz) := by
  refine Met.ofW (cc := cX6_hasAllAtoms) (maxL := 1) (ret := (some .boolean)) (by decide) rfl ?_
  intro p e s m args below meth c s₁ B hml hv
  obtain ⟨rfl, hsz, hP, hK, hD0⟩ := hv
  have hx := B.exec
  have hb := B.bytes
  have hr := B.returns
  have hts := atoms_spec (ws := .code yX6_hasAllAtoms cX6_hasAllAtoms 1 (some .boolean) :: wAll) B.pre
  have hwA := fun w (h : w ∈ wAll) => hts w (List.mem_cons_of_mem _ h)
  have hown : s.vm.findClass RX6 = some m.cls := findClass_of_methodNamed B.named
  have hlocks := B.notSynchronized
  subst hsz
  have hD := hD0.self (sz := s.heap.size)
  generalize hAe : va_A [(sm, .inr (8, [.ref sf, .ref sl, .ref sk, .ref su, .int sa, .int sc, .int sr])), (sf, .inl (ysf, 24, .inl qf)), (sl, .inl (ysl, 42, .inl ql)), (sk, .inl (ysk, 4, .inl qk)), (su, .inl (ysu, 4, .inl qu))] s.heap.size = A at hD ⊢
  have hA : ∀ q : Nat, s.heap.size ≤ q → A q := fun q h => by rw [← hAe]; exact Or.inr h
  have hS : va_S A s.heap s.heap [] := va_S.rf
  have hP : va_P (dC, dI) vwCl [(sm, .inr (8, [.ref sf, .ref sl, .ref sk, .ref su, .int sa, .int sc, .int sr])), (sf, .inl (ysf, 24, .inl qf)), (sl, .inl (ysl, 42, .inl ql)), (sk, .inl (ysk, 4, .inl qk)), (su, .inl (ysu, 4, .inl qu))] s.heap := hP
  have hl := lv_entry ([.ref sm]) (n := 1) (Nat.le_of_ble_eq_true rfl)
  rw [lg_entry_eq]
  generalize (lg_sl ([.ref sm]) ++ List.replicate (1 - (lg_sl ([.ref sm])).length) Slot.unset).toArray = ls at hl ⊢
  have hl : lv_has ls 1 [(0, .ref sm)] := hl
  refine lv_aload_n hx hb dX6_hasAllAtoms_0 rfl (lv_at hl 0 rfl) ?_
  refine va_get (D := (dC, dI)) (ci := 8) (v := .int sa) (C := RX6) (T := TX6) (N := 7) hx hb hwA in_wsX60 hown hK hP 0 rfl rfl 4 (by decide) (hwA (.fieldLink RX6 23 "Congruary$Statements" "atoms" "I") (in_wA_7 _ (List.mem_of_getElem? (i := 19) rfl))) (fun _ h9 => h9) rfl dX6_hasAllAtoms_1 ?_
  refine lv_bipush (v := 24) hx hb dX6_hasAllAtoms_4 (by decide) ?_
  refine lv_icmp_lt (tgt := 13) hx hb dX6_hasAllAtoms_6 (by decide) (fun c_1 => ?_) (fun c_1 => ?_)
  · refine lv_iconst (v := 0) hx hb dX6_hasAllAtoms_13 (by decide) ?_
    have hP9 := hP.sub (ws' := [(sm, .inr (8, [.ref sf, .ref sl, .ref sk, .ref su, .int sa, .int sc, .int sr])), (sf, .inl (ysf, 24, .inl qf)), (sl, .inl (ysl, 42, .inl ql)), (sk, .inl (ysk, 4, .inl qk)), (su, .inl (ysu, 4, .inl qu))]) [0, 1, 2, 3, 4] rfl
    have hD9 := hD.sub (ws' := [(sm, .inr (8, [.ref sf, .ref sl, .ref sk, .ref su, .int sa, .int sc, .int sr])), (sf, .inl (ysf, 24, .inl qf)), (sl, .inl (ysl, 42, .inl ql)), (sk, .inl (ysk, 4, .inl qk)), (su, .inl (ysu, 4, .inl qu))]) [0, 1, 2, 3, 4] (by decide) rfl
    have hK9 := hK.sub (tys' := [(ysf, .int), (ysl, .int), (ysk, .char), (ysu, .int)]) [0, 1, 2, 3] rfl
    refine W.widen (k := 0) (n := 0) (by omega) (by omega) ?_
    exact W.zret (v := 0) (ty := .boolean) hx hb hr (by decide +kernel) (fun t ht hW => ⟨⟨0, (), rfl, (by unfold f_X6_hasAllAtoms; rw [if_pos c_1]), by rw [ht]; exact hP9, va_K.moved hW.alike hK9, hD9⟩, hS.F ht⟩) hS.2.2 dX6_hasAllAtoms_14
  · refine lv_iconst (v := 1) hx hb dX6_hasAllAtoms_9 (by decide) ?_
    refine lv_goto (tgt := 14) hx hb dX6_hasAllAtoms_10 (by decide) ?_
    have hP9 := hP.sub (ws' := [(sm, .inr (8, [.ref sf, .ref sl, .ref sk, .ref su, .int sa, .int sc, .int sr])), (sf, .inl (ysf, 24, .inl qf)), (sl, .inl (ysl, 42, .inl ql)), (sk, .inl (ysk, 4, .inl qk)), (su, .inl (ysu, 4, .inl qu))]) [0, 1, 2, 3, 4] rfl
    have hD9 := hD.sub (ws' := [(sm, .inr (8, [.ref sf, .ref sl, .ref sk, .ref su, .int sa, .int sc, .int sr])), (sf, .inl (ysf, 24, .inl qf)), (sl, .inl (ysl, 42, .inl ql)), (sk, .inl (ysk, 4, .inl qk)), (su, .inl (ysu, 4, .inl qu))]) [0, 1, 2, 3, 4] (by decide) rfl
    have hK9 := hK.sub (tys' := [(ysf, .int), (ysl, .int), (ysk, .char), (ysu, .int)]) [0, 1, 2, 3] rfl
    refine W.widen (k := 0) (n := 0) (by omega) (by omega) ?_
    exact W.zret (v := 1) (ty := .boolean) hx hb hr (by decide +kernel) (fun t ht hW => ⟨⟨1, (), rfl, (by unfold f_X6_hasAllAtoms; rw [if_neg c_1]), by rw [ht]; exact hP9, va_K.moved hW.alike hK9, hD9⟩, hS.F ht⟩) hS.2.2 dX6_hasAllAtoms_14

def f_X6_hasAllClauses (sc : Int32) : Int32 := if sc < (14 : Int32) then 0 else 1
set_option maxHeartbeats 4000000 in
set_option maxRecDepth 100000 in
theorem c_X6_hasAllClauses (l : Launch) (dC : Nat → ClassId) (dI : Nat → Nat → Nat) (sm sf sl sk su : Nat) (ysf ysl ysk ysu : ClassId) (sz : Nat) (qf : Nat → Int32) (ql : Nat → Int32) (qk : Nat → Int32) (qu : Nat → Int32) (sa : Int32) (sc : Int32) (sr : Int32) : Met l yX6_hasAllClauses (.code yX6_hasAllClauses cX6_hasAllClauses 1 (some .boolean) :: wAll) ({ frames := 0, cells := 0, slots := 0, locals := 0 }) (va_Pc [.ref sm] (fun U => U.heap.size = sz ∧ va_P (dC, dI) vwCl [(sm, .inr (8, [.ref sf, .ref sl, .ref sk, .ref su, .int sa, .int sc, .int sr])), (sf, .inl (ysf, 24, .inl qf)), (sl, .inl (ysl, 42, .inl ql)), (sk, .inl (ysk, 4, .inl qk)), (su, .inl (ysu, 4, .inl qu))] U.heap ∧ va_K (dC, dI) vwCl [(ysf, .int), (ysl, .int), (ysk, .char), (ysu, .int)] U ∧ va_D (fun _ => True) [(sm, .inr (8, [.ref sf, .ref sl, .ref sk, .ref su, .int sa, .int sc, .int sr])), (sf, .inl (ysf, 24, .inl qf)), (sl, .inl (ysl, 42, .inl ql)), (sk, .inl (ysk, 4, .inl qk)), (su, .inl (ysu, 4, .inl qu))])) (va_Qi (fun (r : Int32) (_ : Unit) => r = f_X6_hasAllClauses sc) (fun (_ : Unit) (t : State) => va_P (dC, dI) vwCl [(sm, .inr (8, [.ref sf, .ref sl, .ref sk, .ref su, .int sa, .int sc, .int sr])), (sf, .inl (ysf, 24, .inl qf)), (sl, .inl (ysl, 42, .inl ql)), (sk, .inl (ysk, 4, .inl qk)), (su, .inl (ysu, 4, .inl qu))] t.heap ∧ va_K (dC, dI) vwCl [(ysf, .int), (ysl, .int), (ysk, .char), (ysu, .int)] t ∧ va_D (va_A [(sm, .inr (8, [.ref sf, .ref sl, .ref sk, .ref su, .int sa, .int sc, .int sr])), (sf, .inl (ysf, 24, .inl qf)), (sl, .inl (ysl, 42, .inl ql)), (sk, .inl (ysk, 4, .inl qk)), (su, .inl (ysu, 4, .inl qu))] sz) [(sm, .inr (8, [.ref sf, .ref sl, .ref sk, .ref su, .int sa, .int sc, .int sr])), (sf, .inl (ysf, 24, .inl qf)), (sl, .inl (ysl, 42, .inl ql)), (sk, .inl (ysk, 4, .inl qk)), (su, .inl (ysu, 4, .inl qu))]) (va_A [(sm, .inr (8, [.ref sf, .ref sl, .ref sk, .ref su, .int sa, .int sc, .int sr])), (sf, .inl (ysf, 24, .inl qf)), (sl, .inl (ysl, 42, .inl ql)), (sk, .inl (ysk, 4, .inl qk)), (su, .inl (ysu, 4, .inl qu))] sz)) 0 0 (va_A [(sm, .inr (8, [.ref sf, .ref sl, .ref sk, .ref su, .int sa, .int sc, .int sr])), (sf, .inl (ysf, 24, .inl qf)), (sl, .inl (ysl, 42, .inl ql)), (sk, .inl (ysk, 4, .inl qk)), (su, .inl (ysu, 4, .inl qu))] sz) := by
  refine Met.ofW (cc := cX6_hasAllClauses) (maxL := 1) (ret := (some .boolean)) (by decide) rfl ?_
  intro p e s m args below meth c s₁ B hml hv
  obtain ⟨rfl, hsz, hP, hK, hD0⟩ := hv
  have hx := B.exec
  have hb := B.bytes
  have hr := B.returns
  have hts := atoms_spec (ws := .code yX6_hasAllClauses cX6_hasAllClauses 1 (some .boolean) :: wAll) B.pre
  have hwA := fun w (h : w ∈ wAll) => hts w (List.mem_cons_of_mem _ h)
  have hown : s.vm.findClass RX6 = some m.cls := findClass_of_methodNamed B.named
  have hlocks := B.notSynchronized
  subst hsz
  have hD := hD0.self (sz := s.heap.size)
  generalize hAe : va_A [(sm, .inr (8, [.ref sf, .ref sl, .ref sk, .ref su, .int sa, .int sc, .int sr])), (sf, .inl (ysf, 24, .inl qf)), (sl, .inl (ysl, 42, .inl ql)), (sk, .inl (ysk, 4, .inl qk)), (su, .inl (ysu, 4, .inl qu))] s.heap.size = A at hD ⊢
  have hA : ∀ q : Nat, s.heap.size ≤ q → A q := fun q h => by rw [← hAe]; exact Or.inr h
  have hS : va_S A s.heap s.heap [] := va_S.rf
  have hP : va_P (dC, dI) vwCl [(sm, .inr (8, [.ref sf, .ref sl, .ref sk, .ref su, .int sa, .int sc, .int sr])), (sf, .inl (ysf, 24, .inl qf)), (sl, .inl (ysl, 42, .inl ql)), (sk, .inl (ysk, 4, .inl qk)), (su, .inl (ysu, 4, .inl qu))] s.heap := hP
  have hl := lv_entry ([.ref sm]) (n := 1) (Nat.le_of_ble_eq_true rfl)
  rw [lg_entry_eq]
  generalize (lg_sl ([.ref sm]) ++ List.replicate (1 - (lg_sl ([.ref sm])).length) Slot.unset).toArray = ls at hl ⊢
  have hl : lv_has ls 1 [(0, .ref sm)] := hl
  refine lv_aload_n hx hb dX6_hasAllClauses_0 rfl (lv_at hl 0 rfl) ?_
  refine va_get (D := (dC, dI)) (ci := 8) (v := .int sc) (C := RX6) (T := TX6) (N := 7) hx hb hwA in_wsX60 hown hK hP 0 rfl rfl 5 (by decide) (hwA (.fieldLink RX6 27 "Congruary$Statements" "clauses" "I") (in_wA_2 _ (List.mem_of_getElem? (i := 52) rfl))) (fun _ h9 => h9) rfl dX6_hasAllClauses_1 ?_
  refine lv_bipush (v := 14) hx hb dX6_hasAllClauses_4 (by decide) ?_
  refine lv_icmp_lt (tgt := 13) hx hb dX6_hasAllClauses_6 (by decide) (fun c_1 => ?_) (fun c_1 => ?_)
  · refine lv_iconst (v := 0) hx hb dX6_hasAllClauses_13 (by decide) ?_
    have hP9 := hP.sub (ws' := [(sm, .inr (8, [.ref sf, .ref sl, .ref sk, .ref su, .int sa, .int sc, .int sr])), (sf, .inl (ysf, 24, .inl qf)), (sl, .inl (ysl, 42, .inl ql)), (sk, .inl (ysk, 4, .inl qk)), (su, .inl (ysu, 4, .inl qu))]) [0, 1, 2, 3, 4] rfl
    have hD9 := hD.sub (ws' := [(sm, .inr (8, [.ref sf, .ref sl, .ref sk, .ref su, .int sa, .int sc, .int sr])), (sf, .inl (ysf, 24, .inl qf)), (sl, .inl (ysl, 42, .inl ql)), (sk, .inl (ysk, 4, .inl qk)), (su, .inl (ysu, 4, .inl qu))]) [0, 1, 2, 3, 4] (by decide) rfl
    have hK9 := hK.sub (tys' := [(ysf, .int), (ysl, .int), (ysk, .char), (ysu, .int)]) [0, 1, 2, 3] rfl
    refine W.widen (k := 0) (n := 0) (by omega) (by omega) ?_
    exact W.zret (v := 0) (ty := .boolean) hx hb hr (by decide +kernel) (fun t ht hW => ⟨⟨0, (), rfl, (by unfold f_X6_hasAllClauses; rw [if_pos c_1]), by rw [ht]; exact hP9, va_K.moved hW.alike hK9, hD9⟩, hS.F ht⟩) hS.2.2 dX6_hasAllClauses_14
  · refine lv_iconst (v := 1) hx hb dX6_hasAllClauses_9 (by decide) ?_
    refine lv_goto (tgt := 14) hx hb dX6_hasAllClauses_10 (by decide) ?_
    have hP9 := hP.sub (ws' := [(sm, .inr (8, [.ref sf, .ref sl, .ref sk, .ref su, .int sa, .int sc, .int sr])), (sf, .inl (ysf, 24, .inl qf)), (sl, .inl (ysl, 42, .inl ql)), (sk, .inl (ysk, 4, .inl qk)), (su, .inl (ysu, 4, .inl qu))]) [0, 1, 2, 3, 4] rfl
    have hD9 := hD.sub (ws' := [(sm, .inr (8, [.ref sf, .ref sl, .ref sk, .ref su, .int sa, .int sc, .int sr])), (sf, .inl (ysf, 24, .inl qf)), (sl, .inl (ysl, 42, .inl ql)), (sk, .inl (ysk, 4, .inl qk)), (su, .inl (ysu, 4, .inl qu))]) [0, 1, 2, 3, 4] (by decide) rfl
    have hK9 := hK.sub (tys' := [(ysf, .int), (ysl, .int), (ysk, .char), (ysu, .int)]) [0, 1, 2, 3] rfl
    refine W.widen (k := 0) (n := 0) (by omega) (by omega) ?_
    exact W.zret (v := 1) (ty := .boolean) hx hb hr (by decide +kernel) (fun t ht hW => ⟨⟨1, (), rfl, (by unfold f_X6_hasAllClauses; rw [if_neg c_1]), by rw [ht]; exact hP9, va_K.moved hW.alike hK9, hD9⟩, hS.F ht⟩) hS.2.2 dX6_hasAllClauses_14

def f_X6_hasAllRules (sr : Int32) : Int32 := if sr < (4 : Int32) then 0 else 1
set_option maxHeartbeats 4000000 in
set_option maxRecDepth 100000 in
theorem c_X6_hasAllRules (l : Launch) (dC : Nat → ClassId) (dI : Nat → Nat → Nat) (sm sf sl sk su : Nat) (ysf ysl ysk ysu : ClassId) (sz : Nat) (qf : Nat → Int32) (ql : Nat → Int32) (qk : Nat → Int32) (qu : Nat → Int32) (sa : Int32) (sc : Int32) (sr : Int32) : Met l yX6_hasAllRules (.code yX6_hasAllRules cX6_hasAllRules 1 (some .boolean) :: wAll) ({ frames := 0, cells := 0, slots := 0, locals := 0 }) (va_Pc [.ref sm] (fun U => U.heap.size = sz ∧ va_P (dC, dI) vwCl [(sm, .inr (8, [.ref sf, .ref sl, .ref sk, .ref su, .int sa, .int sc, .int sr])), (sf, .inl (ysf, 24, .inl qf)), (sl, .inl (ysl, 42, .inl ql)), (sk, .inl (ysk, 4, .inl qk)), (su, .inl (ysu, 4, .inl qu))] U.heap ∧ va_K (dC, dI) vwCl [(ysf, .int), (ysl, .int), (ysk, .char), (ysu, .int)] U ∧ va_D (fun _ => True) [(sm, .inr (8, [.ref sf, .ref sl, .ref sk, .ref su, .int sa, .int sc, .int sr])), (sf, .inl (ysf, 24, .inl qf)), (sl, .inl (ysl, 42, .inl ql)), (sk, .inl (ysk, 4, .inl qk)), (su, .inl (ysu, 4, .inl qu))])) (va_Qi (fun (r : Int32) (_ : Unit) => r = f_X6_hasAllRules sr) (fun (_ : Unit) (t : State) => va_P (dC, dI) vwCl [(sm, .inr (8, [.ref sf, .ref sl, .ref sk, .ref su, .int sa, .int sc, .int sr])), (sf, .inl (ysf, 24, .inl qf)), (sl, .inl (ysl, 42, .inl ql)), (sk, .inl (ysk, 4, .inl qk)), (su, .inl (ysu, 4, .inl qu))] t.heap ∧ va_K (dC, dI) vwCl [(ysf, .int), (ysl, .int), (ysk, .char), (ysu, .int)] t ∧ va_D (va_A [(sm, .inr (8, [.ref sf, .ref sl, .ref sk, .ref su, .int sa, .int sc, .int sr])), (sf, .inl (ysf, 24, .inl qf)), (sl, .inl (ysl, 42, .inl ql)), (sk, .inl (ysk, 4, .inl qk)), (su, .inl (ysu, 4, .inl qu))] sz) [(sm, .inr (8, [.ref sf, .ref sl, .ref sk, .ref su, .int sa, .int sc, .int sr])), (sf, .inl (ysf, 24, .inl qf)), (sl, .inl (ysl, 42, .inl ql)), (sk, .inl (ysk, 4, .inl qk)), (su, .inl (ysu, 4, .inl qu))]) (va_A [(sm, .inr (8, [.ref sf, .ref sl, .ref sk, .ref su, .int sa, .int sc, .int sr])), (sf, .inl (ysf, 24, .inl qf)), (sl, .inl (ysl, 42, .inl ql)), (sk, .inl (ysk, 4, .inl qk)), (su, .inl (ysu, 4, .inl qu))] sz)) 0 0 (va_A [(sm, .inr (8, [.ref sf, .ref sl, .ref sk, .ref su, .int sa, .int sc, .int sr])), (sf, .inl (ysf, 24, .inl qf)), (sl, .inl (ysl, 42, .inl ql)), (sk, .inl (ysk, 4, .inl qk)), (su, .inl (ysu, 4, .inl qu))] sz) := by
  refine Met.ofW (cc := cX6_hasAllRules) (maxL := 1) (ret := (some .boolean)) (by decide) rfl ?_
  intro p e s m args below meth c s₁ B hml hv
  obtain ⟨rfl, hsz, hP, hK, hD0⟩ := hv
  have hx := B.exec
  have hb := B.bytes
  have hr := B.returns
  have hts := atoms_spec (ws := .code yX6_hasAllRules cX6_hasAllRules 1 (some .boolean) :: wAll) B.pre
  have hwA := fun w (h : w ∈ wAll) => hts w (List.mem_cons_of_mem _ h)
  have hown : s.vm.findClass RX6 = some m.cls := findClass_of_methodNamed B.named
  have hlocks := B.notSynchronized
  subst hsz
  have hD := hD0.self (sz := s.heap.size)
  generalize hAe : va_A [(sm, .inr (8, [.ref sf, .ref sl, .ref sk, .ref su, .int sa, .int sc, .int sr])), (sf, .inl (ysf, 24, .inl qf)), (sl, .inl (ysl, 42, .inl ql)), (sk, .inl (ysk, 4, .inl qk)), (su, .inl (ysu, 4, .inl qu))] s.heap.size = A at hD ⊢
  have hA : ∀ q : Nat, s.heap.size ≤ q → A q := fun q h => by rw [← hAe]; exact Or.inr h
  have hS : va_S A s.heap s.heap [] := va_S.rf
  have hP : va_P (dC, dI) vwCl [(sm, .inr (8, [.ref sf, .ref sl, .ref sk, .ref su, .int sa, .int sc, .int sr])), (sf, .inl (ysf, 24, .inl qf)), (sl, .inl (ysl, 42, .inl ql)), (sk, .inl (ysk, 4, .inl qk)), (su, .inl (ysu, 4, .inl qu))] s.heap := hP
  have hl := lv_entry ([.ref sm]) (n := 1) (Nat.le_of_ble_eq_true rfl)
  rw [lg_entry_eq]
  generalize (lg_sl ([.ref sm]) ++ List.replicate (1 - (lg_sl ([.ref sm])).length) Slot.unset).toArray = ls at hl ⊢
  have hl : lv_has ls 1 [(0, .ref sm)] := hl
  refine lv_aload_n hx hb dX6_hasAllRules_0 rfl (lv_at hl 0 rfl) ?_
  refine va_get (D := (dC, dI)) (ci := 8) (v := .int sr) (C := RX6) (T := TX6) (N := 7) hx hb hwA in_wsX60 hown hK hP 0 rfl rfl 6 (by decide) (hwA (.fieldLink RX6 30 "Congruary$Statements" "rules" "I") (in_wA_7 _ (List.mem_of_getElem? (i := 22) rfl))) (fun _ h9 => h9) rfl dX6_hasAllRules_1 ?_
  refine lv_iconst (v := 4) hx hb dX6_hasAllRules_4 (by decide) ?_
  refine lv_icmp_lt (tgt := 12) hx hb dX6_hasAllRules_5 (by decide) (fun c_1 => ?_) (fun c_1 => ?_)
  · refine lv_iconst (v := 0) hx hb dX6_hasAllRules_12 (by decide) ?_
    have hP9 := hP.sub (ws' := [(sm, .inr (8, [.ref sf, .ref sl, .ref sk, .ref su, .int sa, .int sc, .int sr])), (sf, .inl (ysf, 24, .inl qf)), (sl, .inl (ysl, 42, .inl ql)), (sk, .inl (ysk, 4, .inl qk)), (su, .inl (ysu, 4, .inl qu))]) [0, 1, 2, 3, 4] rfl
    have hD9 := hD.sub (ws' := [(sm, .inr (8, [.ref sf, .ref sl, .ref sk, .ref su, .int sa, .int sc, .int sr])), (sf, .inl (ysf, 24, .inl qf)), (sl, .inl (ysl, 42, .inl ql)), (sk, .inl (ysk, 4, .inl qk)), (su, .inl (ysu, 4, .inl qu))]) [0, 1, 2, 3, 4] (by decide) rfl
    have hK9 := hK.sub (tys' := [(ysf, .int), (ysl, .int), (ysk, .char), (ysu, .int)]) [0, 1, 2, 3] rfl
    refine W.widen (k := 0) (n := 0) (by omega) (by omega) ?_
    exact W.zret (v := 0) (ty := .boolean) hx hb hr (by decide +kernel) (fun t ht hW => ⟨⟨0, (), rfl, (by unfold f_X6_hasAllRules; rw [if_pos c_1]), by rw [ht]; exact hP9, va_K.moved hW.alike hK9, hD9⟩, hS.F ht⟩) hS.2.2 dX6_hasAllRules_13
  · refine lv_iconst (v := 1) hx hb dX6_hasAllRules_8 (by decide) ?_
    refine lv_goto (tgt := 13) hx hb dX6_hasAllRules_9 (by decide) ?_
    have hP9 := hP.sub (ws' := [(sm, .inr (8, [.ref sf, .ref sl, .ref sk, .ref su, .int sa, .int sc, .int sr])), (sf, .inl (ysf, 24, .inl qf)), (sl, .inl (ysl, 42, .inl ql)), (sk, .inl (ysk, 4, .inl qk)), (su, .inl (ysu, 4, .inl qu))]) [0, 1, 2, 3, 4] rfl
    have hD9 := hD.sub (ws' := [(sm, .inr (8, [.ref sf, .ref sl, .ref sk, .ref su, .int sa, .int sc, .int sr])), (sf, .inl (ysf, 24, .inl qf)), (sl, .inl (ysl, 42, .inl ql)), (sk, .inl (ysk, 4, .inl qk)), (su, .inl (ysu, 4, .inl qu))]) [0, 1, 2, 3, 4] (by decide) rfl
    have hK9 := hK.sub (tys' := [(ysf, .int), (ysl, .int), (ysk, .char), (ysu, .int)]) [0, 1, 2, 3] rfl
    refine W.widen (k := 0) (n := 0) (by omega) (by omega) ?_
    exact W.zret (v := 1) (ty := .boolean) hx hb hr (by decide +kernel) (fun t ht hW => ⟨⟨1, (), rfl, (by unfold f_X6_hasAllRules; rw [if_neg c_1]), by rw [ht]; exact hP9, va_K.moved hW.alike hK9, hD9⟩, hS.F ht⟩) hS.2.2 dX6_hasAllRules_13

def f_X6_isLiteral (sa : Int32) (x : Int32) : Int32 := if x < (0 : Int32) then 0 else if ((2 : Int32) * sa) ≤ x then 0 else 1
set_option maxHeartbeats 4000000 in
set_option maxRecDepth 100000 in
theorem c_X6_isLiteral (l : Launch) (dC : Nat → ClassId) (dI : Nat → Nat → Nat) (sm sf sl sk su : Nat) (ysf ysl ysk ysu : ClassId) (sz : Nat) (qf : Nat → Int32) (ql : Nat → Int32) (qk : Nat → Int32) (qu : Nat → Int32) (sa : Int32) (sc : Int32) (sr : Int32) (x : Int32) : Met l yX6_isLiteral (.code yX6_isLiteral cX6_isLiteral 2 (some .boolean) :: wAll) ({ frames := 0, cells := 0, slots := 0, locals := 0 }) (va_Pc [.ref sm, .int x] (fun U => U.heap.size = sz ∧ va_P (dC, dI) vwCl [(sm, .inr (8, [.ref sf, .ref sl, .ref sk, .ref su, .int sa, .int sc, .int sr])), (sf, .inl (ysf, 24, .inl qf)), (sl, .inl (ysl, 42, .inl ql)), (sk, .inl (ysk, 4, .inl qk)), (su, .inl (ysu, 4, .inl qu))] U.heap ∧ va_K (dC, dI) vwCl [(ysf, .int), (ysl, .int), (ysk, .char), (ysu, .int)] U ∧ va_D (fun _ => True) [(sm, .inr (8, [.ref sf, .ref sl, .ref sk, .ref su, .int sa, .int sc, .int sr])), (sf, .inl (ysf, 24, .inl qf)), (sl, .inl (ysl, 42, .inl ql)), (sk, .inl (ysk, 4, .inl qk)), (su, .inl (ysu, 4, .inl qu))])) (va_Qi (fun (r : Int32) (_ : Unit) => r = f_X6_isLiteral sa x) (fun (_ : Unit) (t : State) => va_P (dC, dI) vwCl [(sm, .inr (8, [.ref sf, .ref sl, .ref sk, .ref su, .int sa, .int sc, .int sr])), (sf, .inl (ysf, 24, .inl qf)), (sl, .inl (ysl, 42, .inl ql)), (sk, .inl (ysk, 4, .inl qk)), (su, .inl (ysu, 4, .inl qu))] t.heap ∧ va_K (dC, dI) vwCl [(ysf, .int), (ysl, .int), (ysk, .char), (ysu, .int)] t ∧ va_D (va_A [(sm, .inr (8, [.ref sf, .ref sl, .ref sk, .ref su, .int sa, .int sc, .int sr])), (sf, .inl (ysf, 24, .inl qf)), (sl, .inl (ysl, 42, .inl ql)), (sk, .inl (ysk, 4, .inl qk)), (su, .inl (ysu, 4, .inl qu))] sz) [(sm, .inr (8, [.ref sf, .ref sl, .ref sk, .ref su, .int sa, .int sc, .int sr])), (sf, .inl (ysf, 24, .inl qf)), (sl, .inl (ysl, 42, .inl ql)), (sk, .inl (ysk, 4, .inl qk)), (su, .inl (ysu, 4, .inl qu))]) (va_A [(sm, .inr (8, [.ref sf, .ref sl, .ref sk, .ref su, .int sa, .int sc, .int sr])), (sf, .inl (ysf, 24, .inl qf)), (sl, .inl (ysl, 42, .inl ql)), (sk, .inl (ysk, 4, .inl qk)), (su, .inl (ysu, 4, .inl qu))] sz)) 0 0 (va_A [(sm, .inr (8, [.ref sf, .ref sl, .ref sk, .ref su, .int sa, .int sc, .int sr])), (sf, .inl (ysf, 24, .inl qf)), (sl, .inl (ysl, 42, .inl ql)), (sk, .inl (ysk, 4, .inl qk)), (su, .inl (ysu, 4, .inl qu))] sz) := by
  refine Met.ofW (cc := cX6_isLiteral) (maxL := 2) (ret := (some .boolean)) (by decide) rfl ?_
  intro p e s m args below meth c s₁ B hml hv
  obtain ⟨rfl, hsz, hP, hK, hD0⟩ := hv
  have hx := B.exec
  have hb := B.bytes
  have hr := B.returns
  have hts := atoms_spec (ws := .code yX6_isLiteral cX6_isLiteral 2 (some .boolean) :: wAll) B.pre
  have hwA := fun w (h : w ∈ wAll) => hts w (List.mem_cons_of_mem _ h)
  have hown : s.vm.findClass RX6 = some m.cls := findClass_of_methodNamed B.named
  have hlocks := B.notSynchronized
  subst hsz
  have hD := hD0.self (sz := s.heap.size)
  generalize hAe : va_A [(sm, .inr (8, [.ref sf, .ref sl, .ref sk, .ref su, .int sa, .int sc, .int sr])), (sf, .inl (ysf, 24, .inl qf)), (sl, .inl (ysl, 42, .inl ql)), (sk, .inl (ysk, 4, .inl qk)), (su, .inl (ysu, 4, .inl qu))] s.heap.size = A at hD ⊢
  have hA : ∀ q : Nat, s.heap.size ≤ q → A q := fun q h => by rw [← hAe]; exact Or.inr h
  have hS : va_S A s.heap s.heap [] := va_S.rf
  have hP : va_P (dC, dI) vwCl [(sm, .inr (8, [.ref sf, .ref sl, .ref sk, .ref su, .int sa, .int sc, .int sr])), (sf, .inl (ysf, 24, .inl qf)), (sl, .inl (ysl, 42, .inl ql)), (sk, .inl (ysk, 4, .inl qk)), (su, .inl (ysu, 4, .inl qu))] s.heap := hP
  have hl := lv_entry ([.ref sm, .int x]) (n := 2) (Nat.le_of_ble_eq_true rfl)
  rw [lg_entry_eq]
  generalize (lg_sl ([.ref sm, .int x]) ++ List.replicate (2 - (lg_sl ([.ref sm, .int x])).length) Slot.unset).toArray = ls at hl ⊢
  have hl : lv_has ls 2 [(0, .ref sm), (1, .int x)] := hl
  refine lv_iload_n hx hb dX6_isLiteral_0 rfl (lv_at hl 1 rfl) ?_
  refine lv_if_lt (tgt := 18) hx hb dX6_isLiteral_1 (by decide) (fun c_1 => ?_) (fun c_1 => ?_)
  · refine lv_iconst (v := 0) hx hb dX6_isLiteral_18 (by decide) ?_
    have hP9 := hP.sub (ws' := [(sm, .inr (8, [.ref sf, .ref sl, .ref sk, .ref su, .int sa, .int sc, .int sr])), (sf, .inl (ysf, 24, .inl qf)), (sl, .inl (ysl, 42, .inl ql)), (sk, .inl (ysk, 4, .inl qk)), (su, .inl (ysu, 4, .inl qu))]) [0, 1, 2, 3, 4] rfl
    have hD9 := hD.sub (ws' := [(sm, .inr (8, [.ref sf, .ref sl, .ref sk, .ref su, .int sa, .int sc, .int sr])), (sf, .inl (ysf, 24, .inl qf)), (sl, .inl (ysl, 42, .inl ql)), (sk, .inl (ysk, 4, .inl qk)), (su, .inl (ysu, 4, .inl qu))]) [0, 1, 2, 3, 4] (by decide) rfl
    have hK9 := hK.sub (tys' := [(ysf, .int), (ysl, .int), (ysk, .char), (ysu, .int)]) [0, 1, 2, 3] rfl
    refine W.widen (k := 0) (n := 0) (by omega) (by omega) ?_
    exact W.zret (v := 0) (ty := .boolean) hx hb hr (by decide +kernel) (fun t ht hW => ⟨⟨0, (), rfl, (by unfold f_X6_isLiteral; rw [if_pos c_1]), by rw [ht]; exact hP9, va_K.moved hW.alike hK9, hD9⟩, hS.F ht⟩) hS.2.2 dX6_isLiteral_19
  · refine lv_iload_n hx hb dX6_isLiteral_4 rfl (lv_at hl 1 rfl) ?_
    refine lv_iconst (v := 2) hx hb dX6_isLiteral_5 (by decide) ?_
    refine lv_aload_n hx hb dX6_isLiteral_6 rfl (lv_at hl 0 rfl) ?_
    refine va_get (D := (dC, dI)) (ci := 8) (v := .int sa) (C := RX6) (T := TX6) (N := 7) hx hb hwA in_wsX60 hown hK hP 0 rfl rfl 4 (by decide) (hwA (.fieldLink RX6 23 "Congruary$Statements" "atoms" "I") (in_wA_7 _ (List.mem_of_getElem? (i := 19) rfl))) (fun _ h9 => h9) rfl dX6_isLiteral_7 ?_
    refine lv_imul hx hb dX6_isLiteral_10 ?_
    refine lv_icmp_ge (tgt := 18) hx hb dX6_isLiteral_11 (by decide) (fun c_2 => ?_) (fun c_2 => ?_)
    · refine lv_iconst (v := 0) hx hb dX6_isLiteral_18 (by decide) ?_
      have hP9 := hP.sub (ws' := [(sm, .inr (8, [.ref sf, .ref sl, .ref sk, .ref su, .int sa, .int sc, .int sr])), (sf, .inl (ysf, 24, .inl qf)), (sl, .inl (ysl, 42, .inl ql)), (sk, .inl (ysk, 4, .inl qk)), (su, .inl (ysu, 4, .inl qu))]) [0, 1, 2, 3, 4] rfl
      have hD9 := hD.sub (ws' := [(sm, .inr (8, [.ref sf, .ref sl, .ref sk, .ref su, .int sa, .int sc, .int sr])), (sf, .inl (ysf, 24, .inl qf)), (sl, .inl (ysl, 42, .inl ql)), (sk, .inl (ysk, 4, .inl qk)), (su, .inl (ysu, 4, .inl qu))]) [0, 1, 2, 3, 4] (by decide) rfl
      have hK9 := hK.sub (tys' := [(ysf, .int), (ysl, .int), (ysk, .char), (ysu, .int)]) [0, 1, 2, 3] rfl
      refine W.widen (k := 0) (n := 0) (by omega) (by omega) ?_
      exact W.zret (v := 0) (ty := .boolean) hx hb hr (by decide +kernel) (fun t ht hW => ⟨⟨0, (), rfl, (by unfold f_X6_isLiteral; rw [if_neg c_1, if_pos c_2]), by rw [ht]; exact hP9, va_K.moved hW.alike hK9, hD9⟩, hS.F ht⟩) hS.2.2 dX6_isLiteral_19
    · refine lv_iconst (v := 1) hx hb dX6_isLiteral_14 (by decide) ?_
      refine lv_goto (tgt := 19) hx hb dX6_isLiteral_15 (by decide) ?_
      have hP9 := hP.sub (ws' := [(sm, .inr (8, [.ref sf, .ref sl, .ref sk, .ref su, .int sa, .int sc, .int sr])), (sf, .inl (ysf, 24, .inl qf)), (sl, .inl (ysl, 42, .inl ql)), (sk, .inl (ysk, 4, .inl qk)), (su, .inl (ysu, 4, .inl qu))]) [0, 1, 2, 3, 4] rfl
      have hD9 := hD.sub (ws' := [(sm, .inr (8, [.ref sf, .ref sl, .ref sk, .ref su, .int sa, .int sc, .int sr])), (sf, .inl (ysf, 24, .inl qf)), (sl, .inl (ysl, 42, .inl ql)), (sk, .inl (ysk, 4, .inl qk)), (su, .inl (ysu, 4, .inl qu))]) [0, 1, 2, 3, 4] (by decide) rfl
      have hK9 := hK.sub (tys' := [(ysf, .int), (ysl, .int), (ysk, .char), (ysu, .int)]) [0, 1, 2, 3] rfl
      refine W.widen (k := 0) (n := 0) (by omega) (by omega) ?_
      exact W.zret (v := 1) (ty := .boolean) hx hb hr (by decide +kernel) (fun t ht hW => ⟨⟨1, (), rfl, (by unfold f_X6_isLiteral; rw [if_neg c_1, if_neg c_2]), by rw [ht]; exact hP9, va_K.moved hW.alike hK9, hD9⟩, hS.F ht⟩) hS.2.2 dX6_isLiteral_19
