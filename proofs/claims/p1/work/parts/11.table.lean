theorem in_of_isTerm {tN : Nat} {x : Int32} (h : ¬ f_X7_isTerm (nI tN) x = 0) (hN : tN ≤ 14) : vp_in x 14 := by
  unfold f_X7_isTerm at h
  by_cases a : x < 0
  · rw [if_pos a] at h; exact absurd rfl h
  · rw [if_neg a] at h
    by_cases b : nI tN ≤ x
    · rw [if_pos b] at h; exact absurd rfl h
    · exact in_of_cmp a b hN (by decide)

def f_X7_isArray (rk : Nat → Int32) (tN : Nat) (x : Int32) : Int32 := if (f_X7_isTerm (nI tN) x) = (0 : Int32) then 0 else if (rk x.toNatClampNeg) = (97 : Int32) then 1 else if (rk x.toNatClampNeg) = (119 : Int32) then 1 else 0
set_option maxHeartbeats 4000000 in
set_option maxRecDepth 100000 in
theorem c_X7_isArray (l : Launch) (dC : Nat → ClassId) (dI : Nat → Nat → Nat) (tb tk tf t1 t2 t3 : Nat) (ytk ytf yt1 yt2 yt3 : ClassId) (sz : Nat) (rk : Nat → Int32) (rf : Nat → Int32) (r1 : Nat → Int32) (r2 : Nat → Int32) (r3 : Nat → Int32) (tN : Nat) (x : Int32) (hT : tN ≤ 14) : Met l yX7_isArray (.code yX7_isArray cX7_isArray 2 (some .boolean) :: wAll) ({ frames := 1, cells := 0, slots := 0, locals := 21 }) (va_Pc [.ref tb, .int x] (fun U => U.heap.size = sz ∧ va_P (dC, dI) vwCl [(tb, .inr (9, [.ref tk, .ref tf, .ref t1, .ref t2, .ref t3, .int (nI tN)])), (tk, .inl (ytk, 14, .inl rk)), (tf, .inl (ytf, 14, .inl rf)), (t1, .inl (yt1, 14, .inl r1)), (t2, .inl (yt2, 14, .inl r2)), (t3, .inl (yt3, 14, .inl r3))] U.heap ∧ va_K (dC, dI) vwCl [(ytk, .char), (ytf, .int), (yt1, .int), (yt2, .int), (yt3, .int)] U ∧ va_D (fun _ => True) [(tb, .inr (9, [.ref tk, .ref tf, .ref t1, .ref t2, .ref t3, .int (nI tN)])), (tk, .inl (ytk, 14, .inl rk)), (tf, .inl (ytf, 14, .inl rf)), (t1, .inl (yt1, 14, .inl r1)), (t2, .inl (yt2, 14, .inl r2)), (t3, .inl (yt3, 14, .inl r3))])) (va_Qi (fun (r : Int32) (_ : Unit) => r = f_X7_isArray rk tN x) (fun (_ : Unit) (t : State) => va_P (dC, dI) vwCl [(tb, .inr (9, [.ref tk, .ref tf, .ref t1, .ref t2, .ref t3, .int (nI tN)])), (tk, .inl (ytk, 14, .inl rk)), (tf, .inl (ytf, 14, .inl rf)), (t1, .inl (yt1, 14, .inl r1)), (t2, .inl (yt2, 14, .inl r2)), (t3, .inl (yt3, 14, .inl r3))] t.heap ∧ va_K (dC, dI) vwCl [(ytk, .char), (ytf, .int), (yt1, .int), (yt2, .int), (yt3, .int)] t ∧ va_D (va_A [(tb, .inr (9, [.ref tk, .ref tf, .ref t1, .ref t2, .ref t3, .int (nI tN)])), (tk, .inl (ytk, 14, .inl rk)), (tf, .inl (ytf, 14, .inl rf)), (t1, .inl (yt1, 14, .inl r1)), (t2, .inl (yt2, 14, .inl r2)), (t3, .inl (yt3, 14, .inl r3))] sz) [(tb, .inr (9, [.ref tk, .ref tf, .ref t1, .ref t2, .ref t3, .int (nI tN)])), (tk, .inl (ytk, 14, .inl rk)), (tf, .inl (ytf, 14, .inl rf)), (t1, .inl (yt1, 14, .inl r1)), (t2, .inl (yt2, 14, .inl r2)), (t3, .inl (yt3, 14, .inl r3))]) (va_A [(tb, .inr (9, [.ref tk, .ref tf, .ref t1, .ref t2, .ref t3, .int (nI tN)])), (tk, .inl (ytk, 14, .inl rk)), (tf, .inl (ytf, 14, .inl rf)), (t1, .inl (yt1, 14, .inl r1)), (t2, .inl (yt2, 14, .inl r2)), (t3, .inl (yt3, 14, .inl r3))] sz)) 0 0 (va_A [(tb, .inr (9, [.ref tk, .ref tf, .ref t1, .ref t2, .ref t3, .int (nI tN)])), (tk, .inl (ytk, 14, .inl rk)), (tf, .inl (ytf, 14, .inl rf)), (t1, .inl (yt1, 14, .inl r1)), (t2, .inl (yt2, 14, .inl r2)), (t3, .inl (yt3, 14, .inl r3))] sz) := by
  refine Met.ofW (cc := cX7_isArray) (maxL := 2) (ret := (some .boolean)) (by decide) rfl ?_
  intro p e s m args below meth c s₁ B hml hv
  obtain ⟨rfl, hsz, hP, hK, hD0⟩ := hv
  have hx := B.exec
  have hb := B.bytes
  have hr := B.returns
  have hts := atoms_spec (ws := .code yX7_isArray cX7_isArray 2 (some .boolean) :: wAll) B.pre
  have hwA := fun w (h : w ∈ wAll) => hts w (List.mem_cons_of_mem _ h)
  have hown : s.vm.findClass RX7 = some m.cls := findClass_of_methodNamed B.named
  have hlocks := B.notSynchronized
  subst hsz
  have hD := hD0.self (sz := s.heap.size)
  generalize hAe : va_A [(tb, .inr (9, [.ref tk, .ref tf, .ref t1, .ref t2, .ref t3, .int (nI tN)])), (tk, .inl (ytk, 14, .inl rk)), (tf, .inl (ytf, 14, .inl rf)), (t1, .inl (yt1, 14, .inl r1)), (t2, .inl (yt2, 14, .inl r2)), (t3, .inl (yt3, 14, .inl r3))] s.heap.size = A at hD ⊢
  have hA : ∀ q : Nat, s.heap.size ≤ q → A q := fun q h => by rw [← hAe]; exact Or.inr h
  have hS : va_S A s.heap s.heap [] := va_S.rf
  have hP : va_P (dC, dI) vwCl [(tb, .inr (9, [.ref tk, .ref tf, .ref t1, .ref t2, .ref t3, .int (nI tN)])), (tk, .inl (ytk, 14, .inl rk)), (tf, .inl (ytf, 14, .inl rf)), (t1, .inl (yt1, 14, .inl r1)), (t2, .inl (yt2, 14, .inl r2)), (t3, .inl (yt3, 14, .inl r3))] s.heap := hP
  have hl := lv_entry ([.ref tb, .int x]) (n := 2) (Nat.le_of_ble_eq_true rfl)
  rw [lg_entry_eq]
  generalize (lg_sl ([.ref tb, .int x]) ++ List.replicate (2 - (lg_sl ([.ref tb, .int x])).length) Slot.unset).toArray = ls at hl ⊢
  have hl : lv_has ls 2 [(0, .ref tb), (1, .int x)] := hl
  refine lv_aload_n hx hb dX7_isArray_0 rfl (lv_at hl 0 rfl) ?_
  refine lv_iload_n hx hb dX7_isArray_1 rfl (lv_at hl 1 rfl) ?_
  have hPc := hP.sub (ws' := [(tb, .inr (9, [.ref tk, .ref tf, .ref t1, .ref t2, .ref t3, .int (nI tN)])), (tk, .inl (ytk, 14, .inl rk)), (tf, .inl (ytf, 14, .inl rf)), (t1, .inl (yt1, 14, .inl r1)), (t2, .inl (yt2, 14, .inl r2)), (t3, .inl (yt3, 14, .inl r3))]) [0, 1, 2, 3, 4, 5] rfl
  have hDc := hD.sub (ws' := [(tb, .inr (9, [.ref tk, .ref tf, .ref t1, .ref t2, .ref t3, .int (nI tN)])), (tk, .inl (ytk, 14, .inl rk)), (tf, .inl (ytf, 14, .inl rf)), (t1, .inl (yt1, 14, .inl r1)), (t2, .inl (yt2, 14, .inl r2)), (t3, .inl (yt3, 14, .inl r3))]) [0, 1, 2, 3, 4, 5] (by decide) rfl
  have hKc := hK.sub (tys' := [(ytk, .char), (ytf, .int), (yt1, .int), (yt2, .int), (yt3, .int)]) [0, 1, 2, 3, 4] rfl
  have hFc := va_free (wc := [(tb, .inr (9, [.ref tk, .ref tf, .ref t1, .ref t2, .ref t3, .int (nI tN)])), (tk, .inl (ytk, 14, .inl rk)), (tf, .inl (ytf, 14, .inl rf)), (t1, .inl (yt1, 14, .inl r1)), (t2, .inl (yt2, 14, .inl r2)), (t3, .inl (yt3, 14, .inl r3))]) hD hS hA [0, 1, 2, 3, 4, 5] rfl
  refine va_calli (va_runV (As := [.int x]) (rest := []) ⟨hx, hb, hml, hown, hwA⟩ (c_X7_isTerm l dC dI tb tk tf t1 t2 t3 ytk ytf yt1 yt2 yt3 s.heap.size rk rf r1 r2 r3 (nI tN) x ) (cwV 1 hwA (gwV (in_wA_5 _ (List.mem_of_getElem? (i := 41) rfl)) (in_wA_5 _ (List.mem_of_getElem? (i := 42) rfl)) (in_wA_5 _ (List.mem_of_getElem? (i := 43) rfl)) (in_wA_2 _ (List.mem_of_getElem? (i := 0) rfl)) (in_wA_5 _ (List.mem_of_getElem? (i := 39) rfl))) rfl rfl rfl (by decide +kernel) ⟨Nat.le_of_ble_eq_true rfl, Nat.le_of_ble_eq_true rfl⟩) ⟨fun a U g mk q => by obtain ⟨q0, q1, qP, qK, qD⟩ := q; exact ⟨q0, q1, qP, va_K.moved (u := U) (U := U.calling g mk a) (Vm.Alike.refl U.vm) qK, qD⟩, va_recv hKc hPc (ci := 9) (q0 := 0) rfl rfl, fun U hU hW => ⟨rfl, by rw [hU], by rw [hU]; exact hPc, va_K.moved hW.alike hKc, hDc.weaken (fun _ _ _ _ => trivial)⟩⟩ rfl rfl hl.1 rfl (lv_room (Nat.le_of_ble_eq_true rfl)) dX7_isArray_2 ⟨Nat.le_of_ble_eq_true rfl, Nat.le_of_ble_eq_true rfl⟩) hS (fun q _ h => hFc q h) hFc (fun r_2 u_1 t H1 locs ht hvm hw hB hz1 hk1 hS => ?_)
  obtain ⟨hP1, hK1, hD1⟩ := hB
  rw [ht] at hP1
  have hK1 := va_K.moved hvm.symm hK1
  obtain ⟨hP, hD⟩ := va_join (wr := []) (w1 := [(tb, .inr (9, [.ref tk, .ref tf, .ref t1, .ref t2, .ref t3, .int (nI tN)])), (tk, .inl (ytk, 14, .inl rk)), (tf, .inl (ytf, 14, .inl rf)), (t1, .inl (yt1, 14, .inl r1)), (t2, .inl (yt2, 14, .inl r2)), (t3, .inl (yt3, 14, .inl r3))]) hP hD [0, 1, 2, 3, 4, 5] [] rfl rfl (by decide) (by decide) hk1 hFc hP1 hD1
  have hK := (hK.sub (tys' := []) [] rfl).app hK1
  generalize H1 = H at hP hS ⊢
  have hP : va_P (dC, dI) vwCl [(tb, .inr (9, [.ref tk, .ref tf, .ref t1, .ref t2, .ref t3, .int (nI tN)])), (tk, .inl (ytk, 14, .inl rk)), (tf, .inl (ytf, 14, .inl rf)), (t1, .inl (yt1, 14, .inl r1)), (t2, .inl (yt2, 14, .inl r2)), (t3, .inl (yt3, 14, .inl r3))] H := hP
  have hD : va_D A [(tb, .inr (9, [.ref tk, .ref tf, .ref t1, .ref t2, .ref t3, .int (nI tN)])), (tk, .inl (ytk, 14, .inl rk)), (tf, .inl (ytf, 14, .inl rf)), (t1, .inl (yt1, 14, .inl r1)), (t2, .inl (yt2, 14, .inl r2)), (t3, .inl (yt3, 14, .inl r3))] := hD
  have hK : va_K (dC, dI) vwCl [(ytk, .char), (ytf, .int), (yt1, .int), (yt2, .int), (yt3, .int)] s := hK
  refine W.widen (k := 0) (n := 0) (by omega) (by omega) ?_
  have hw_3 := hw
  obtain rfl : r_2 = f_X7_isTerm (nI tN) x := hw_3
  refine lv_if_eq (tgt := 34) hx hb dX7_isArray_5 (by decide) (fun c_4 => ?_) (fun c_4 => ?_)
  · refine lv_iconst (v := 0) hx hb dX7_isArray_34 (by decide) ?_
    have hP9 := hP.sub (ws' := [(tb, .inr (9, [.ref tk, .ref tf, .ref t1, .ref t2, .ref t3, .int (nI tN)])), (tk, .inl (ytk, 14, .inl rk)), (tf, .inl (ytf, 14, .inl rf)), (t1, .inl (yt1, 14, .inl r1)), (t2, .inl (yt2, 14, .inl r2)), (t3, .inl (yt3, 14, .inl r3))]) [0, 1, 2, 3, 4, 5] rfl
    have hD9 := hD.sub (ws' := [(tb, .inr (9, [.ref tk, .ref tf, .ref t1, .ref t2, .ref t3, .int (nI tN)])), (tk, .inl (ytk, 14, .inl rk)), (tf, .inl (ytf, 14, .inl rf)), (t1, .inl (yt1, 14, .inl r1)), (t2, .inl (yt2, 14, .inl r2)), (t3, .inl (yt3, 14, .inl r3))]) [0, 1, 2, 3, 4, 5] (by decide) rfl
    have hK9 := hK.sub (tys' := [(ytk, .char), (ytf, .int), (yt1, .int), (yt2, .int), (yt3, .int)]) [0, 1, 2, 3, 4] rfl
    refine W.widen (k := 0) (n := 0) (by omega) (by omega) ?_
    exact W.zret (v := 0) (ty := .boolean) hx hb hr (by decide +kernel) (fun t ht hW => ⟨⟨0, (), rfl, (by unfold f_X7_isArray; rw [if_pos c_4]), by rw [ht]; exact hP9, va_K.moved hW.alike hK9, hD9⟩, hS.F ht⟩) hS.2.2 dX7_isArray_35
  · refine lv_aload_n hx hb dX7_isArray_8 rfl (lv_at hl 0 rfl) ?_
    refine va_get (D := (dC, dI)) (ci := 9) (v := .ref tk) (C := RX7) (T := TX7) (N := 6) hx hb hwA in_wsX70 hown hK hP 0 rfl rfl 0 (by decide) (hwA (.fieldLink RX7 9 "Congruary$Table" "kinds" "[C") (in_wA_1 _ (List.mem_of_getElem? (i := 53) rfl))) (fun _ h9 => h9) rfl dX7_isArray_9 ?_
    refine lv_iload_n hx hb dX7_isArray_12 rfl (lv_at hl 1 rfl) ?_
    refine va_cald hx hb hK hP 1 0 rfl rfl (in_of_isTerm c_4 hT) dX7_isArray_13 ?_
    refine lv_bipush (v := 97) hx hb dX7_isArray_14 (by decide) ?_
    refine lv_icmp_eq (tgt := 30) hx hb dX7_isArray_16 (by decide) (fun c_5 => ?_) (fun c_5 => ?_)
    · refine lv_iconst (v := 1) hx hb dX7_isArray_30 (by decide) ?_
      refine lv_goto (tgt := 35) hx hb dX7_isArray_31 (by decide) ?_
      have hP9 := hP.sub (ws' := [(tb, .inr (9, [.ref tk, .ref tf, .ref t1, .ref t2, .ref t3, .int (nI tN)])), (tk, .inl (ytk, 14, .inl rk)), (tf, .inl (ytf, 14, .inl rf)), (t1, .inl (yt1, 14, .inl r1)), (t2, .inl (yt2, 14, .inl r2)), (t3, .inl (yt3, 14, .inl r3))]) [0, 1, 2, 3, 4, 5] rfl
      have hD9 := hD.sub (ws' := [(tb, .inr (9, [.ref tk, .ref tf, .ref t1, .ref t2, .ref t3, .int (nI tN)])), (tk, .inl (ytk, 14, .inl rk)), (tf, .inl (ytf, 14, .inl rf)), (t1, .inl (yt1, 14, .inl r1)), (t2, .inl (yt2, 14, .inl r2)), (t3, .inl (yt3, 14, .inl r3))]) [0, 1, 2, 3, 4, 5] (by decide) rfl
      have hK9 := hK.sub (tys' := [(ytk, .char), (ytf, .int), (yt1, .int), (yt2, .int), (yt3, .int)]) [0, 1, 2, 3, 4] rfl
      refine W.widen (k := 0) (n := 0) (by omega) (by omega) ?_
      exact W.zret (v := 1) (ty := .boolean) hx hb hr (by decide +kernel) (fun t ht hW => ⟨⟨1, (), rfl, (by unfold f_X7_isArray; rw [if_neg c_4, if_pos c_5]), by rw [ht]; exact hP9, va_K.moved hW.alike hK9, hD9⟩, hS.F ht⟩) hS.2.2 dX7_isArray_35
    · refine lv_aload_n hx hb dX7_isArray_19 rfl (lv_at hl 0 rfl) ?_
      refine va_get (D := (dC, dI)) (ci := 9) (v := .ref tk) (C := RX7) (T := TX7) (N := 6) hx hb hwA in_wsX70 hown hK hP 0 rfl rfl 0 (by decide) (hwA (.fieldLink RX7 9 "Congruary$Table" "kinds" "[C") (in_wA_1 _ (List.mem_of_getElem? (i := 53) rfl))) (fun _ h9 => h9) rfl dX7_isArray_20 ?_
      refine lv_iload_n hx hb dX7_isArray_23 rfl (lv_at hl 1 rfl) ?_
      refine va_cald hx hb hK hP 1 0 rfl rfl (in_of_isTerm c_4 hT) dX7_isArray_24 ?_
      refine lv_bipush (v := 119) hx hb dX7_isArray_25 (by decide) ?_
      refine lv_icmp_ne (tgt := 34) hx hb dX7_isArray_27 (by decide) (fun c_6 => ?_) (fun c_6 => ?_)
      · refine lv_iconst (v := 0) hx hb dX7_isArray_34 (by decide) ?_
        have hP9 := hP.sub (ws' := [(tb, .inr (9, [.ref tk, .ref tf, .ref t1, .ref t2, .ref t3, .int (nI tN)])), (tk, .inl (ytk, 14, .inl rk)), (tf, .inl (ytf, 14, .inl rf)), (t1, .inl (yt1, 14, .inl r1)), (t2, .inl (yt2, 14, .inl r2)), (t3, .inl (yt3, 14, .inl r3))]) [0, 1, 2, 3, 4, 5] rfl
        have hD9 := hD.sub (ws' := [(tb, .inr (9, [.ref tk, .ref tf, .ref t1, .ref t2, .ref t3, .int (nI tN)])), (tk, .inl (ytk, 14, .inl rk)), (tf, .inl (ytf, 14, .inl rf)), (t1, .inl (yt1, 14, .inl r1)), (t2, .inl (yt2, 14, .inl r2)), (t3, .inl (yt3, 14, .inl r3))]) [0, 1, 2, 3, 4, 5] (by decide) rfl
        have hK9 := hK.sub (tys' := [(ytk, .char), (ytf, .int), (yt1, .int), (yt2, .int), (yt3, .int)]) [0, 1, 2, 3, 4] rfl
        refine W.widen (k := 0) (n := 0) (by omega) (by omega) ?_
        exact W.zret (v := 0) (ty := .boolean) hx hb hr (by decide +kernel) (fun t ht hW => ⟨⟨0, (), rfl, (by unfold f_X7_isArray; rw [if_neg c_4, if_neg c_5, if_neg c_6]), by rw [ht]; exact hP9, va_K.moved hW.alike hK9, hD9⟩, hS.F ht⟩) hS.2.2 dX7_isArray_35
      · refine lv_iconst (v := 1) hx hb dX7_isArray_30 (by decide) ?_
        refine lv_goto (tgt := 35) hx hb dX7_isArray_31 (by decide) ?_
        have hP9 := hP.sub (ws' := [(tb, .inr (9, [.ref tk, .ref tf, .ref t1, .ref t2, .ref t3, .int (nI tN)])), (tk, .inl (ytk, 14, .inl rk)), (tf, .inl (ytf, 14, .inl rf)), (t1, .inl (yt1, 14, .inl r1)), (t2, .inl (yt2, 14, .inl r2)), (t3, .inl (yt3, 14, .inl r3))]) [0, 1, 2, 3, 4, 5] rfl
        have hD9 := hD.sub (ws' := [(tb, .inr (9, [.ref tk, .ref tf, .ref t1, .ref t2, .ref t3, .int (nI tN)])), (tk, .inl (ytk, 14, .inl rk)), (tf, .inl (ytf, 14, .inl rf)), (t1, .inl (yt1, 14, .inl r1)), (t2, .inl (yt2, 14, .inl r2)), (t3, .inl (yt3, 14, .inl r3))]) [0, 1, 2, 3, 4, 5] (by decide) rfl
        have hK9 := hK.sub (tys' := [(ytk, .char), (ytf, .int), (yt1, .int), (yt2, .int), (yt3, .int)]) [0, 1, 2, 3, 4] rfl
        refine W.widen (k := 0) (n := 0) (by omega) (by omega) ?_
        exact W.zret (v := 1) (ty := .boolean) hx hb hr (by decide +kernel) (fun t ht hW => ⟨⟨1, (), rfl, (by unfold f_X7_isArray; rw [if_neg c_4, if_neg c_5, if_pos c_6]), by rw [ht]; exact hP9, va_K.moved hW.alike hK9, hD9⟩, hS.F ht⟩) hS.2.2 dX7_isArray_35

def f_X7_isValue (rk : Nat → Int32) (tN : Nat) (x : Int32) : Int32 := if (f_X7_isTerm (nI tN) x) = (0 : Int32) then 0 else if (rk x.toNatClampNeg) = (97 : Int32) then 0 else if (rk x.toNatClampNeg) = (119 : Int32) then 0 else 1
set_option maxHeartbeats 4000000 in
set_option maxRecDepth 100000 in
theorem c_X7_isValue (l : Launch) (dC : Nat → ClassId) (dI : Nat → Nat → Nat) (tb tk tf t1 t2 t3 : Nat) (ytk ytf yt1 yt2 yt3 : ClassId) (sz : Nat) (rk : Nat → Int32) (rf : Nat → Int32) (r1 : Nat → Int32) (r2 : Nat → Int32) (r3 : Nat → Int32) (tN : Nat) (x : Int32) (hT : tN ≤ 14) : Met l yX7_isValue (.code yX7_isValue cX7_isValue 2 (some .boolean) :: wAll) ({ frames := 1, cells := 0, slots := 0, locals := 21 }) (va_Pc [.ref tb, .int x] (fun U => U.heap.size = sz ∧ va_P (dC, dI) vwCl [(tb, .inr (9, [.ref tk, .ref tf, .ref t1, .ref t2, .ref t3, .int (nI tN)])), (tk, .inl (ytk, 14, .inl rk)), (tf, .inl (ytf, 14, .inl rf)), (t1, .inl (yt1, 14, .inl r1)), (t2, .inl (yt2, 14, .inl r2)), (t3, .inl (yt3, 14, .inl r3))] U.heap ∧ va_K (dC, dI) vwCl [(ytk, .char), (ytf, .int), (yt1, .int), (yt2, .int), (yt3, .int)] U ∧ va_D (fun _ => True) [(tb, .inr (9, [.ref tk, .ref tf, .ref t1, .ref t2, .ref t3, .int (nI tN)])), (tk, .inl (ytk, 14, .inl rk)), (tf, .inl (ytf, 14, .inl rf)), (t1, .inl (yt1, 14, .inl r1)), (t2, .inl (yt2, 14, .inl r2)), (t3, .inl (yt3, 14, .inl r3))])) (va_Qi (fun (r : Int32) (_ : Unit) => r = f_X7_isValue rk tN x) (fun (_ : Unit) (t : State) => va_P (dC, dI) vwCl [(tb, .inr (9, [.ref tk, .ref tf, .ref t1, .ref t2, .ref t3, .int (nI tN)])), (tk, .inl (ytk, 14, .inl rk)), (tf, .inl (ytf, 14, .inl rf)), (t1, .inl (yt1, 14, .inl r1)), (t2, .inl (yt2, 14, .inl r2)), (t3, .inl (yt3, 14, .inl r3))] t.heap ∧ va_K (dC, dI) vwCl [(ytk, .char), (ytf, .int), (yt1, .int), (yt2, .int), (yt3, .int)] t ∧ va_D (va_A [(tb, .inr (9, [.ref tk, .ref tf, .ref t1, .ref t2, .ref t3, .int (nI tN)])), (tk, .inl (ytk, 14, .inl rk)), (tf, .inl (ytf, 14, .inl rf)), (t1, .inl (yt1, 14, .inl r1)), (t2, .inl (yt2, 14, .inl r2)), (t3, .inl (yt3, 14, .inl r3))] sz) [(tb, .inr (9, [.ref tk, .ref tf, .ref t1, .ref t2, .ref t3, .int (nI tN)])), (tk, .inl (ytk, 14, .inl rk)), (tf, .inl (ytf, 14, .inl rf)), (t1, .inl (yt1, 14, .inl r1)), (t2, .inl (yt2, 14, .inl r2)), (t3, .inl (yt3, 14, .inl r3))]) (va_A [(tb, .inr (9, [.ref tk, .ref tf, .ref t1, .ref t2, .ref t3, .int (nI tN)])), (tk, .inl (ytk, 14, .inl rk)), (tf, .inl (ytf, 14, .inl rf)), (t1, .inl (yt1, 14, .inl r1)), (t2, .inl (yt2, 14, .inl r2)), (t3, .inl (yt3, 14, .inl r3))] sz)) 0 0 (va_A [(tb, .inr (9, [.ref tk, .ref tf, .ref t1, .ref t2, .ref t3, .int (nI tN)])), (tk, .inl (ytk, 14, .inl rk)), (tf, .inl (ytf, 14, .inl rf)), (t1, .inl (yt1, 14, .inl r1)), (t2, .inl (yt2, 14, .inl r2)), (t3, .inl (yt3, 14, .inl r3))] sz) := by
  refine Met.ofW (cc := cX7_isValue) (maxL := 2) (ret := (some .boolean)) (by decide) rfl ?_
  intro p e s m args below meth c s₁ B hml hv
  obtain ⟨rfl, hsz, hP, hK, hD0⟩ := hv
  have hx := B.exec
  have hb := B.bytes
  have hr := B.returns
  have hts := atoms_spec (ws := .code yX7_isValue cX7_isValue 2 (some .boolean) :: wAll) B.pre
  have hwA := fun w (h : w ∈ wAll) => hts w (List.mem_cons_of_mem _ h)
  have hown : s.vm.findClass RX7 = some m.cls := findClass_of_methodNamed B.named
  have hlocks := B.notSynchronized
  subst hsz
  have hD := hD0.self (sz := s.heap.size)
  generalize hAe : va_A [(tb, .inr (9, [.ref tk, .ref tf, .ref t1, .ref t2, .ref t3, .int (nI tN)])), (tk, .inl (ytk, 14, .inl rk)), (tf, .inl (ytf, 14, .inl rf)), (t1, .inl (yt1, 14, .inl r1)), (t2, .inl (yt2, 14, .inl r2)), (t3, .inl (yt3, 14, .inl r3))] s.heap.size = A at hD ⊢
  have hA : ∀ q : Nat, s.heap.size ≤ q → A q := fun q h => by rw [← hAe]; exact Or.inr h
  have hS : va_S A s.heap s.heap [] := va_S.rf
  have hP : va_P (dC, dI) vwCl [(tb, .inr (9, [.ref tk, .ref tf, .ref t1, .ref t2, .ref t3, .int (nI tN)])), (tk, .inl (ytk, 14, .inl rk)), (tf, .inl (ytf, 14, .inl rf)), (t1, .inl (yt1, 14, .inl r1)), (t2, .inl (yt2, 14, .inl r2)), (t3, .inl (yt3, 14, .inl r3))] s.heap := hP
  have hl := lv_entry ([.ref tb, .int x]) (n := 2) (Nat.le_of_ble_eq_true rfl)
  rw [lg_entry_eq]
  generalize (lg_sl ([.ref tb, .int x]) ++ List.replicate (2 - (lg_sl ([.ref tb, .int x])).length) Slot.unset).toArray = ls at hl ⊢
  have hl : lv_has ls 2 [(0, .ref tb), (1, .int x)] := hl
  refine lv_aload_n hx hb dX7_isValue_0 rfl (lv_at hl 0 rfl) ?_
  refine lv_iload_n hx hb dX7_isValue_1 rfl (lv_at hl 1 rfl) ?_
  have hPc := hP.sub (ws' := [(tb, .inr (9, [.ref tk, .ref tf, .ref t1, .ref t2, .ref t3, .int (nI tN)])), (tk, .inl (ytk, 14, .inl rk)), (tf, .inl (ytf, 14, .inl rf)), (t1, .inl (yt1, 14, .inl r1)), (t2, .inl (yt2, 14, .inl r2)), (t3, .inl (yt3, 14, .inl r3))]) [0, 1, 2, 3, 4, 5] rfl
  have hDc := hD.sub (ws' := [(tb, .inr (9, [.ref tk, .ref tf, .ref t1, .ref t2, .ref t3, .int (nI tN)])), (tk, .inl (ytk, 14, .inl rk)), (tf, .inl (ytf, 14, .inl rf)), (t1, .inl (yt1, 14, .inl r1)), (t2, .inl (yt2, 14, .inl r2)), (t3, .inl (yt3, 14, .inl r3))]) [0, 1, 2, 3, 4, 5] (by decide) rfl
  have hKc := hK.sub (tys' := [(ytk, .char), (ytf, .int), (yt1, .int), (yt2, .int), (yt3, .int)]) [0, 1, 2, 3, 4] rfl
  have hFc := va_free (wc := [(tb, .inr (9, [.ref tk, .ref tf, .ref t1, .ref t2, .ref t3, .int (nI tN)])), (tk, .inl (ytk, 14, .inl rk)), (tf, .inl (ytf, 14, .inl rf)), (t1, .inl (yt1, 14, .inl r1)), (t2, .inl (yt2, 14, .inl r2)), (t3, .inl (yt3, 14, .inl r3))]) hD hS hA [0, 1, 2, 3, 4, 5] rfl
  refine va_calli (va_runV (As := [.int x]) (rest := []) ⟨hx, hb, hml, hown, hwA⟩ (c_X7_isTerm l dC dI tb tk tf t1 t2 t3 ytk ytf yt1 yt2 yt3 s.heap.size rk rf r1 r2 r3 (nI tN) x ) (cwV 1 hwA (gwV (in_wA_5 _ (List.mem_of_getElem? (i := 41) rfl)) (in_wA_5 _ (List.mem_of_getElem? (i := 42) rfl)) (in_wA_5 _ (List.mem_of_getElem? (i := 43) rfl)) (in_wA_2 _ (List.mem_of_getElem? (i := 0) rfl)) (in_wA_5 _ (List.mem_of_getElem? (i := 39) rfl))) rfl rfl rfl (by decide +kernel) ⟨Nat.le_of_ble_eq_true rfl, Nat.le_of_ble_eq_true rfl⟩) ⟨fun a U g mk q => by obtain ⟨q0, q1, qP, qK, qD⟩ := q; exact ⟨q0, q1, qP, va_K.moved (u := U) (U := U.calling g mk a) (Vm.Alike.refl U.vm) qK, qD⟩, va_recv hKc hPc (ci := 9) (q0 := 0) rfl rfl, fun U hU hW => ⟨rfl, by rw [hU], by rw [hU]; exact hPc, va_K.moved hW.alike hKc, hDc.weaken (fun _ _ _ _ => trivial)⟩⟩ rfl rfl hl.1 rfl (lv_room (Nat.le_of_ble_eq_true rfl)) dX7_isValue_2 ⟨Nat.le_of_ble_eq_true rfl, Nat.le_of_ble_eq_true rfl⟩) hS (fun q _ h => hFc q h) hFc (fun r_2 u_1 t H1 locs ht hvm hw hB hz1 hk1 hS => ?_)
  obtain ⟨hP1, hK1, hD1⟩ := hB
  rw [ht] at hP1
  have hK1 := va_K.moved hvm.symm hK1
  obtain ⟨hP, hD⟩ := va_join (wr := []) (w1 := [(tb, .inr (9, [.ref tk, .ref tf, .ref t1, .ref t2, .ref t3, .int (nI tN)])), (tk, .inl (ytk, 14, .inl rk)), (tf, .inl (ytf, 14, .inl rf)), (t1, .inl (yt1, 14, .inl r1)), (t2, .inl (yt2, 14, .inl r2)), (t3, .inl (yt3, 14, .inl r3))]) hP hD [0, 1, 2, 3, 4, 5] [] rfl rfl (by decide) (by decide) hk1 hFc hP1 hD1
  have hK := (hK.sub (tys' := []) [] rfl).app hK1
  generalize H1 = H at hP hS ⊢
  have hP : va_P (dC, dI) vwCl [(tb, .inr (9, [.ref tk, .ref tf, .ref t1, .ref t2, .ref t3, .int (nI tN)])), (tk, .inl (ytk, 14, .inl rk)), (tf, .inl (ytf, 14, .inl rf)), (t1, .inl (yt1, 14, .inl r1)), (t2, .inl (yt2, 14, .inl r2)), (t3, .inl (yt3, 14, .inl r3))] H := hP
  have hD : va_D A [(tb, .inr (9, [.ref tk, .ref tf, .ref t1, .ref t2, .ref t3, .int (nI tN)])), (tk, .inl (ytk, 14, .inl rk)), (tf, .inl (ytf, 14, .inl rf)), (t1, .inl (yt1, 14, .inl r1)), (t2, .inl (yt2, 14, .inl r2)), (t3, .inl (yt3, 14, .inl r3))] := hD
  have hK : va_K (dC, dI) vwCl [(ytk, .char), (ytf, .int), (yt1, .int), (yt2, .int), (yt3, .int)] s := hK
  refine W.widen (k := 0) (n := 0) (by omega) (by omega) ?_
  have hw_3 := hw
  obtain rfl : r_2 = f_X7_isTerm (nI tN) x := hw_3
  refine lv_if_eq (tgt := 34) hx hb dX7_isValue_5 (by decide) (fun c_4 => ?_) (fun c_4 => ?_)
  · refine lv_iconst (v := 0) hx hb dX7_isValue_34 (by decide) ?_
    have hP9 := hP.sub (ws' := [(tb, .inr (9, [.ref tk, .ref tf, .ref t1, .ref t2, .ref t3, .int (nI tN)])), (tk, .inl (ytk, 14, .inl rk)), (tf, .inl (ytf, 14, .inl rf)), (t1, .inl (yt1, 14, .inl r1)), (t2, .inl (yt2, 14, .inl r2)), (t3, .inl (yt3, 14, .inl r3))]) [0, 1, 2, 3, 4, 5] rfl
    have hD9 := hD.sub (ws' := [(tb, .inr (9, [.ref tk, .ref tf, .ref t1, .ref t2, .ref t3, .int (nI tN)])), (tk, .inl (ytk, 14, .inl rk)), (tf, .inl (ytf, 14, .inl rf)), (t1, .inl (yt1, 14, .inl r1)), (t2, .inl (yt2, 14, .inl r2)), (t3, .inl (yt3, 14, .inl r3))]) [0, 1, 2, 3, 4, 5] (by decide) rfl
    have hK9 := hK.sub (tys' := [(ytk, .char), (ytf, .int), (yt1, .int), (yt2, .int), (yt3, .int)]) [0, 1, 2, 3, 4] rfl
    refine W.widen (k := 0) (n := 0) (by omega) (by omega) ?_
    exact W.zret (v := 0) (ty := .boolean) hx hb hr (by decide +kernel) (fun t ht hW => ⟨⟨0, (), rfl, (by unfold f_X7_isValue; rw [if_pos c_4]), by rw [ht]; exact hP9, va_K.moved hW.alike hK9, hD9⟩, hS.F ht⟩) hS.2.2 dX7_isValue_35
  · refine lv_aload_n hx hb dX7_isValue_8 rfl (lv_at hl 0 rfl) ?_
    refine va_get (D := (dC, dI)) (ci := 9) (v := .ref tk) (C := RX7) (T := TX7) (N := 6) hx hb hwA in_wsX70 hown hK hP 0 rfl rfl 0 (by decide) (hwA (.fieldLink RX7 9 "Congruary$Table" "kinds" "[C") (in_wA_1 _ (List.mem_of_getElem? (i := 53) rfl))) (fun _ h9 => h9) rfl dX7_isValue_9 ?_
    refine lv_iload_n hx hb dX7_isValue_12 rfl (lv_at hl 1 rfl) ?_
    refine va_cald hx hb hK hP 1 0 rfl rfl (in_of_isTerm c_4 hT) dX7_isValue_13 ?_
    refine lv_bipush (v := 97) hx hb dX7_isValue_14 (by decide) ?_
    refine lv_icmp_eq (tgt := 34) hx hb dX7_isValue_16 (by decide) (fun c_5 => ?_) (fun c_5 => ?_)
    · refine lv_iconst (v := 0) hx hb dX7_isValue_34 (by decide) ?_
      have hP9 := hP.sub (ws' := [(tb, .inr (9, [.ref tk, .ref tf, .ref t1, .ref t2, .ref t3, .int (nI tN)])), (tk, .inl (ytk, 14, .inl rk)), (tf, .inl (ytf, 14, .inl rf)), (t1, .inl (yt1, 14, .inl r1)), (t2, .inl (yt2, 14, .inl r2)), (t3, .inl (yt3, 14, .inl r3))]) [0, 1, 2, 3, 4, 5] rfl
      have hD9 := hD.sub (ws' := [(tb, .inr (9, [.ref tk, .ref tf, .ref t1, .ref t2, .ref t3, .int (nI tN)])), (tk, .inl (ytk, 14, .inl rk)), (tf, .inl (ytf, 14, .inl rf)), (t1, .inl (yt1, 14, .inl r1)), (t2, .inl (yt2, 14, .inl r2)), (t3, .inl (yt3, 14, .inl r3))]) [0, 1, 2, 3, 4, 5] (by decide) rfl
      have hK9 := hK.sub (tys' := [(ytk, .char), (ytf, .int), (yt1, .int), (yt2, .int), (yt3, .int)]) [0, 1, 2, 3, 4] rfl
      refine W.widen (k := 0) (n := 0) (by omega) (by omega) ?_
      exact W.zret (v := 0) (ty := .boolean) hx hb hr (by decide +kernel) (fun t ht hW => ⟨⟨0, (), rfl, (by unfold f_X7_isValue; rw [if_neg c_4, if_pos c_5]), by rw [ht]; exact hP9, va_K.moved hW.alike hK9, hD9⟩, hS.F ht⟩) hS.2.2 dX7_isValue_35
    · refine lv_aload_n hx hb dX7_isValue_19 rfl (lv_at hl 0 rfl) ?_
      refine va_get (D := (dC, dI)) (ci := 9) (v := .ref tk) (C := RX7) (T := TX7) (N := 6) hx hb hwA in_wsX70 hown hK hP 0 rfl rfl 0 (by decide) (hwA (.fieldLink RX7 9 "Congruary$Table" "kinds" "[C") (in_wA_1 _ (List.mem_of_getElem? (i := 53) rfl))) (fun _ h9 => h9) rfl dX7_isValue_20 ?_
      refine lv_iload_n hx hb dX7_isValue_23 rfl (lv_at hl 1 rfl) ?_
      refine va_cald hx hb hK hP 1 0 rfl rfl (in_of_isTerm c_4 hT) dX7_isValue_24 ?_
      refine lv_bipush (v := 119) hx hb dX7_isValue_25 (by decide) ?_
      refine lv_icmp_eq (tgt := 34) hx hb dX7_isValue_27 (by decide) (fun c_6 => ?_) (fun c_6 => ?_)
      · refine lv_iconst (v := 0) hx hb dX7_isValue_34 (by decide) ?_
        have hP9 := hP.sub (ws' := [(tb, .inr (9, [.ref tk, .ref tf, .ref t1, .ref t2, .ref t3, .int (nI tN)])), (tk, .inl (ytk, 14, .inl rk)), (tf, .inl (ytf, 14, .inl rf)), (t1, .inl (yt1, 14, .inl r1)), (t2, .inl (yt2, 14, .inl r2)), (t3, .inl (yt3, 14, .inl r3))]) [0, 1, 2, 3, 4, 5] rfl
        have hD9 := hD.sub (ws' := [(tb, .inr (9, [.ref tk, .ref tf, .ref t1, .ref t2, .ref t3, .int (nI tN)])), (tk, .inl (ytk, 14, .inl rk)), (tf, .inl (ytf, 14, .inl rf)), (t1, .inl (yt1, 14, .inl r1)), (t2, .inl (yt2, 14, .inl r2)), (t3, .inl (yt3, 14, .inl r3))]) [0, 1, 2, 3, 4, 5] (by decide) rfl
        have hK9 := hK.sub (tys' := [(ytk, .char), (ytf, .int), (yt1, .int), (yt2, .int), (yt3, .int)]) [0, 1, 2, 3, 4] rfl
        refine W.widen (k := 0) (n := 0) (by omega) (by omega) ?_
        exact W.zret (v := 0) (ty := .boolean) hx hb hr (by decide +kernel) (fun t ht hW => ⟨⟨0, (), rfl, (by unfold f_X7_isValue; rw [if_neg c_4, if_neg c_5, if_pos c_6]), by rw [ht]; exact hP9, va_K.moved hW.alike hK9, hD9⟩, hS.F ht⟩) hS.2.2 dX7_isValue_35
      · refine lv_iconst (v := 1) hx hb dX7_isValue_30 (by decide) ?_
        refine lv_goto (tgt := 35) hx hb dX7_isValue_31 (by decide) ?_
        have hP9 := hP.sub (ws' := [(tb, .inr (9, [.ref tk, .ref tf, .ref t1, .ref t2, .ref t3, .int (nI tN)])), (tk, .inl (ytk, 14, .inl rk)), (tf, .inl (ytf, 14, .inl rf)), (t1, .inl (yt1, 14, .inl r1)), (t2, .inl (yt2, 14, .inl r2)), (t3, .inl (yt3, 14, .inl r3))]) [0, 1, 2, 3, 4, 5] rfl
        have hD9 := hD.sub (ws' := [(tb, .inr (9, [.ref tk, .ref tf, .ref t1, .ref t2, .ref t3, .int (nI tN)])), (tk, .inl (ytk, 14, .inl rk)), (tf, .inl (ytf, 14, .inl rf)), (t1, .inl (yt1, 14, .inl r1)), (t2, .inl (yt2, 14, .inl r2)), (t3, .inl (yt3, 14, .inl r3))]) [0, 1, 2, 3, 4, 5] (by decide) rfl
        have hK9 := hK.sub (tys' := [(ytk, .char), (ytf, .int), (yt1, .int), (yt2, .int), (yt3, .int)]) [0, 1, 2, 3, 4] rfl
        refine W.widen (k := 0) (n := 0) (by omega) (by omega) ?_
        exact W.zret (v := 1) (ty := .boolean) hx hb hr (by decide +kernel) (fun t ht hW => ⟨⟨1, (), rfl, (by unfold f_X7_isValue; rw [if_neg c_4, if_neg c_5, if_neg c_6]), by rw [ht]; exact hP9, va_K.moved hW.alike hK9, hD9⟩, hS.F ht⟩) hS.2.2 dX7_isValue_35

set_option maxHeartbeats 4000000 in
set_option maxRecDepth 100000 in
theorem c_X7_add (l : Launch) (dC : Nat → ClassId) (dI : Nat → Nat → Nat) (tb tk tf t1 t2 t3 : Nat) (ytk ytf yt1 yt2 yt3 : ClassId) (sz : Nat) (rk : Nat → Int32) (rf : Nat → Int32) (r1 : Nat → Int32) (r2 : Nat → Int32) (r3 : Nat → Int32) (tN : Nat) (kd : Int32) (fn : Int32) (a0 : Int32) (b0 : Int32) (c0 : Int32) (hT : tN < 14) : Met l yX7_add (.code yX7_add cX7_add 6 (some .int) :: wAll) ({ frames := 0, cells := 0, slots := 0, locals := 0 }) (va_Pc [.ref tb, .int kd, .int fn, .int a0, .int b0, .int c0] (fun U => U.heap.size = sz ∧ va_P (dC, dI) vwCl [(tb, .inr (9, [.ref tk, .ref tf, .ref t1, .ref t2, .ref t3, .int (nI tN)])), (tk, .inl (ytk, 14, .inl rk)), (tf, .inl (ytf, 14, .inl rf)), (t1, .inl (yt1, 14, .inl r1)), (t2, .inl (yt2, 14, .inl r2)), (t3, .inl (yt3, 14, .inl r3))] U.heap ∧ va_K (dC, dI) vwCl [(ytk, .char), (ytf, .int), (yt1, .int), (yt2, .int), (yt3, .int)] U ∧ va_D (fun _ => True) [(tb, .inr (9, [.ref tk, .ref tf, .ref t1, .ref t2, .ref t3, .int (nI tN)])), (tk, .inl (ytk, 14, .inl rk)), (tf, .inl (ytf, 14, .inl rf)), (t1, .inl (yt1, 14, .inl r1)), (t2, .inl (yt2, 14, .inl r2)), (t3, .inl (yt3, 14, .inl r3))])) (va_Qi (fun (r : Int32) (_ : Unit) => r = nI tN) (fun (_ : Unit) (t : State) => va_P (dC, dI) vwCl [(tb, .inr (9, [.ref tk, .ref tf, .ref t1, .ref t2, .ref t3, .int (nI (tN + 1))])), (tk, .inl (ytk, 14, .inl (upd rk tN (vp_nar .char kd)))), (tf, .inl (ytf, 14, .inl (upd rf tN fn))), (t1, .inl (yt1, 14, .inl (upd r1 tN a0))), (t2, .inl (yt2, 14, .inl (upd r2 tN b0))), (t3, .inl (yt3, 14, .inl (upd r3 tN c0)))] t.heap ∧ va_K (dC, dI) vwCl [(ytk, .char), (ytf, .int), (yt1, .int), (yt2, .int), (yt3, .int)] t ∧ va_D (va_A [(tb, .inr (9, [.ref tk, .ref tf, .ref t1, .ref t2, .ref t3, .int (nI tN)])), (tk, .inl (ytk, 14, .inl rk)), (tf, .inl (ytf, 14, .inl rf)), (t1, .inl (yt1, 14, .inl r1)), (t2, .inl (yt2, 14, .inl r2)), (t3, .inl (yt3, 14, .inl r3))] sz) [(tb, .inr (9, [.ref tk, .ref tf, .ref t1, .ref t2, .ref t3, .int (nI (tN + 1))])), (tk, .inl (ytk, 14, .inl (upd rk tN (vp_nar .char kd)))), (tf, .inl (ytf, 14, .inl (upd rf tN fn))), (t1, .inl (yt1, 14, .inl (upd r1 tN a0))), (t2, .inl (yt2, 14, .inl (upd r2 tN b0))), (t3, .inl (yt3, 14, .inl (upd r3 tN c0)))]) (va_A [(tb, .inr (9, [.ref tk, .ref tf, .ref t1, .ref t2, .ref t3, .int (nI tN)])), (tk, .inl (ytk, 14, .inl rk)), (tf, .inl (ytf, 14, .inl rf)), (t1, .inl (yt1, 14, .inl r1)), (t2, .inl (yt2, 14, .inl r2)), (t3, .inl (yt3, 14, .inl r3))] sz)) 0 0 (va_A [(tb, .inr (9, [.ref tk, .ref tf, .ref t1, .ref t2, .ref t3, .int (nI tN)])), (tk, .inl (ytk, 14, .inl rk)), (tf, .inl (ytf, 14, .inl rf)), (t1, .inl (yt1, 14, .inl r1)), (t2, .inl (yt2, 14, .inl r2)), (t3, .inl (yt3, 14, .inl r3))] sz) := by
  refine Met.ofW (cc := cX7_add) (maxL := 6) (ret := (some .int)) (by decide) rfl ?_
  intro p e s m args below meth c s₁ B hml hv
  obtain ⟨rfl, hsz, hP, hK, hD0⟩ := hv
  have hx := B.exec
  have hb := B.bytes
  have hr := B.returns
  have hts := atoms_spec (ws := .code yX7_add cX7_add 6 (some .int) :: wAll) B.pre
  have hwA := fun w (h : w ∈ wAll) => hts w (List.mem_cons_of_mem _ h)
  have hown : s.vm.findClass RX7 = some m.cls := findClass_of_methodNamed B.named
  have hlocks := B.notSynchronized
  subst hsz
  have hD := hD0.self (sz := s.heap.size)
  generalize hAe : va_A [(tb, .inr (9, [.ref tk, .ref tf, .ref t1, .ref t2, .ref t3, .int (nI tN)])), (tk, .inl (ytk, 14, .inl rk)), (tf, .inl (ytf, 14, .inl rf)), (t1, .inl (yt1, 14, .inl r1)), (t2, .inl (yt2, 14, .inl r2)), (t3, .inl (yt3, 14, .inl r3))] s.heap.size = A at hD ⊢
  have hA : ∀ q : Nat, s.heap.size ≤ q → A q := fun q h => by rw [← hAe]; exact Or.inr h
  have hS : va_S A s.heap s.heap [] := va_S.rf
  have hP : va_P (dC, dI) vwCl [(tb, .inr (9, [.ref tk, .ref tf, .ref t1, .ref t2, .ref t3, .int (nI tN)])), (tk, .inl (ytk, 14, .inl rk)), (tf, .inl (ytf, 14, .inl rf)), (t1, .inl (yt1, 14, .inl r1)), (t2, .inl (yt2, 14, .inl r2)), (t3, .inl (yt3, 14, .inl r3))] s.heap := hP
  have hl := lv_entry ([.ref tb, .int kd, .int fn, .int a0, .int b0, .int c0]) (n := 6) (Nat.le_of_ble_eq_true rfl)
  rw [lg_entry_eq]
  generalize (lg_sl ([.ref tb, .int kd, .int fn, .int a0, .int b0, .int c0]) ++ List.replicate (6 - (lg_sl ([.ref tb, .int kd, .int fn, .int a0, .int b0, .int c0])).length) Slot.unset).toArray = ls at hl ⊢
  have hl : lv_has ls 6 [(0, .ref tb), (1, .int kd), (2, .int fn), (3, .int a0), (4, .int b0), (5, .int c0)] := hl
  refine lv_aload_n hx hb dX7_add_0 rfl (lv_at hl 0 rfl) ?_
  refine va_get (D := (dC, dI)) (ci := 9) (v := .ref tk) (C := RX7) (T := TX7) (N := 6) hx hb hwA in_wsX70 hown hK hP 0 rfl rfl 0 (by decide) (hwA (.fieldLink RX7 9 "Congruary$Table" "kinds" "[C") (in_wA_1 _ (List.mem_of_getElem? (i := 53) rfl))) (fun _ h9 => h9) rfl dX7_add_1 ?_
  refine lv_aload_n hx hb dX7_add_4 rfl (lv_at hl 0 rfl) ?_
  refine va_get (D := (dC, dI)) (ci := 9) (v := .int (nI tN)) (C := RX7) (T := TX7) (N := 6) hx hb hwA in_wsX70 hown hK hP 0 rfl rfl 5 (by decide) (hwA (.fieldLink RX7 26 "Congruary$Table" "count" "I") (in_wA_2 _ (List.mem_of_getElem? (i := 26) rfl))) (fun _ h9 => h9) rfl dX7_add_5 ?_
  refine lv_iload_n hx hb dX7_add_8 rfl (lv_at hl 1 rfl) ?_
  refine va_cast hx hb hK hP hD hS 1 0 rfl rfl (vp_in_nI (n := tN) (by omega) (by omega)) dX7_add_9 (fun H locs hP hD hS => ?_)
  rw [show (nI tN).toNatClampNeg = tN from nI_clamp (by omega)] at hP hD
  have hP : va_P (dC, dI) vwCl [(tb, .inr (9, [.ref tk, .ref tf, .ref t1, .ref t2, .ref t3, .int (nI tN)])), (tk, .inl (ytk, 14, .inl (upd rk tN (vp_nar .char kd)))), (tf, .inl (ytf, 14, .inl rf)), (t1, .inl (yt1, 14, .inl r1)), (t2, .inl (yt2, 14, .inl r2)), (t3, .inl (yt3, 14, .inl r3))] H := hP
  have hD : va_D A [(tb, .inr (9, [.ref tk, .ref tf, .ref t1, .ref t2, .ref t3, .int (nI tN)])), (tk, .inl (ytk, 14, .inl (upd rk tN (vp_nar .char kd)))), (tf, .inl (ytf, 14, .inl rf)), (t1, .inl (yt1, 14, .inl r1)), (t2, .inl (yt2, 14, .inl r2)), (t3, .inl (yt3, 14, .inl r3))] := hD
  refine lv_aload_n hx hb dX7_add_10 rfl (lv_at hl 0 rfl) ?_
  refine va_get (D := (dC, dI)) (ci := 9) (v := .ref tf) (C := RX7) (T := TX7) (N := 6) hx hb hwA in_wsX70 hown hK hP 0 rfl rfl 1 (by decide) (hwA (.fieldLink RX7 13 "Congruary$Table" "functions" "[I") (in_wA_1 _ (List.mem_of_getElem? (i := 54) rfl))) (fun _ h9 => h9) rfl dX7_add_11 ?_
  refine lv_aload_n hx hb dX7_add_14 rfl (lv_at hl 0 rfl) ?_
  refine va_get (D := (dC, dI)) (ci := 9) (v := .int (nI tN)) (C := RX7) (T := TX7) (N := 6) hx hb hwA in_wsX70 hown hK hP 0 rfl rfl 5 (by decide) (hwA (.fieldLink RX7 26 "Congruary$Table" "count" "I") (in_wA_2 _ (List.mem_of_getElem? (i := 26) rfl))) (fun _ h9 => h9) rfl dX7_add_15 ?_
  refine lv_iload_n hx hb dX7_add_18 rfl (lv_at hl 2 rfl) ?_
  refine va_iast hx hb hK hP hD hS 2 1 rfl rfl (vp_in_nI (n := tN) (by omega) (by omega)) dX7_add_19 (fun H locs hP hD hS => ?_)
  rw [show (nI tN).toNatClampNeg = tN from nI_clamp (by omega)] at hP hD
  have hP : va_P (dC, dI) vwCl [(tb, .inr (9, [.ref tk, .ref tf, .ref t1, .ref t2, .ref t3, .int (nI tN)])), (tk, .inl (ytk, 14, .inl (upd rk tN (vp_nar .char kd)))), (tf, .inl (ytf, 14, .inl (upd rf tN fn))), (t1, .inl (yt1, 14, .inl r1)), (t2, .inl (yt2, 14, .inl r2)), (t3, .inl (yt3, 14, .inl r3))] H := hP
  have hD : va_D A [(tb, .inr (9, [.ref tk, .ref tf, .ref t1, .ref t2, .ref t3, .int (nI tN)])), (tk, .inl (ytk, 14, .inl (upd rk tN (vp_nar .char kd)))), (tf, .inl (ytf, 14, .inl (upd rf tN fn))), (t1, .inl (yt1, 14, .inl r1)), (t2, .inl (yt2, 14, .inl r2)), (t3, .inl (yt3, 14, .inl r3))] := hD
  refine lv_aload_n hx hb dX7_add_20 rfl (lv_at hl 0 rfl) ?_
  refine va_get (D := (dC, dI)) (ci := 9) (v := .ref t1) (C := RX7) (T := TX7) (N := 6) hx hb hwA in_wsX70 hown hK hP 0 rfl rfl 2 (by decide) (hwA (.fieldLink RX7 17 "Congruary$Table" "firsts" "[I") (in_wA_2 _ (List.mem_of_getElem? (i := 27) rfl))) (fun _ h9 => h9) rfl dX7_add_21 ?_
  refine lv_aload_n hx hb dX7_add_24 rfl (lv_at hl 0 rfl) ?_
  refine va_get (D := (dC, dI)) (ci := 9) (v := .int (nI tN)) (C := RX7) (T := TX7) (N := 6) hx hb hwA in_wsX70 hown hK hP 0 rfl rfl 5 (by decide) (hwA (.fieldLink RX7 26 "Congruary$Table" "count" "I") (in_wA_2 _ (List.mem_of_getElem? (i := 26) rfl))) (fun _ h9 => h9) rfl dX7_add_25 ?_
  refine lv_iload_n hx hb dX7_add_28 rfl (lv_at hl 3 rfl) ?_
  refine va_iast hx hb hK hP hD hS 3 2 rfl rfl (vp_in_nI (n := tN) (by omega) (by omega)) dX7_add_29 (fun H locs hP hD hS => ?_)
  rw [show (nI tN).toNatClampNeg = tN from nI_clamp (by omega)] at hP hD
  have hP : va_P (dC, dI) vwCl [(tb, .inr (9, [.ref tk, .ref tf, .ref t1, .ref t2, .ref t3, .int (nI tN)])), (tk, .inl (ytk, 14, .inl (upd rk tN (vp_nar .char kd)))), (tf, .inl (ytf, 14, .inl (upd rf tN fn))), (t1, .inl (yt1, 14, .inl (upd r1 tN a0))), (t2, .inl (yt2, 14, .inl r2)), (t3, .inl (yt3, 14, .inl r3))] H := hP
  have hD : va_D A [(tb, .inr (9, [.ref tk, .ref tf, .ref t1, .ref t2, .ref t3, .int (nI tN)])), (tk, .inl (ytk, 14, .inl (upd rk tN (vp_nar .char kd)))), (tf, .inl (ytf, 14, .inl (upd rf tN fn))), (t1, .inl (yt1, 14, .inl (upd r1 tN a0))), (t2, .inl (yt2, 14, .inl r2)), (t3, .inl (yt3, 14, .inl r3))] := hD
  refine lv_aload_n hx hb dX7_add_30 rfl (lv_at hl 0 rfl) ?_
  refine va_get (D := (dC, dI)) (ci := 9) (v := .ref t2) (C := RX7) (T := TX7) (N := 6) hx hb hwA in_wsX70 hown hK hP 0 rfl rfl 3 (by decide) (hwA (.fieldLink RX7 20 "Congruary$Table" "seconds" "[I") (in_wA_7 _ (List.mem_of_getElem? (i := 30) rfl))) (fun _ h9 => h9) rfl dX7_add_31 ?_
  refine lv_aload_n hx hb dX7_add_34 rfl (lv_at hl 0 rfl) ?_
  refine va_get (D := (dC, dI)) (ci := 9) (v := .int (nI tN)) (C := RX7) (T := TX7) (N := 6) hx hb hwA in_wsX70 hown hK hP 0 rfl rfl 5 (by decide) (hwA (.fieldLink RX7 26 "Congruary$Table" "count" "I") (in_wA_2 _ (List.mem_of_getElem? (i := 26) rfl))) (fun _ h9 => h9) rfl dX7_add_35 ?_
  refine lv_iload hx hb dX7_add_38 (lv_at hl 4 rfl) ?_
  refine va_iast hx hb hK hP hD hS 4 3 rfl rfl (vp_in_nI (n := tN) (by omega) (by omega)) dX7_add_40 (fun H locs hP hD hS => ?_)
  rw [show (nI tN).toNatClampNeg = tN from nI_clamp (by omega)] at hP hD
  have hP : va_P (dC, dI) vwCl [(tb, .inr (9, [.ref tk, .ref tf, .ref t1, .ref t2, .ref t3, .int (nI tN)])), (tk, .inl (ytk, 14, .inl (upd rk tN (vp_nar .char kd)))), (tf, .inl (ytf, 14, .inl (upd rf tN fn))), (t1, .inl (yt1, 14, .inl (upd r1 tN a0))), (t2, .inl (yt2, 14, .inl (upd r2 tN b0))), (t3, .inl (yt3, 14, .inl r3))] H := hP
  have hD : va_D A [(tb, .inr (9, [.ref tk, .ref tf, .ref t1, .ref t2, .ref t3, .int (nI tN)])), (tk, .inl (ytk, 14, .inl (upd rk tN (vp_nar .char kd)))), (tf, .inl (ytf, 14, .inl (upd rf tN fn))), (t1, .inl (yt1, 14, .inl (upd r1 tN a0))), (t2, .inl (yt2, 14, .inl (upd r2 tN b0))), (t3, .inl (yt3, 14, .inl r3))] := hD
  refine lv_aload_n hx hb dX7_add_41 rfl (lv_at hl 0 rfl) ?_
  refine va_get (D := (dC, dI)) (ci := 9) (v := .ref t3) (C := RX7) (T := TX7) (N := 6) hx hb hwA in_wsX70 hown hK hP 0 rfl rfl 4 (by decide) (hwA (.fieldLink RX7 23 "Congruary$Table" "tolds" "[I") (in_wA_7 _ (List.mem_of_getElem? (i := 31) rfl))) (fun _ h9 => h9) rfl dX7_add_42 ?_
  refine lv_aload_n hx hb dX7_add_45 rfl (lv_at hl 0 rfl) ?_
  refine va_get (D := (dC, dI)) (ci := 9) (v := .int (nI tN)) (C := RX7) (T := TX7) (N := 6) hx hb hwA in_wsX70 hown hK hP 0 rfl rfl 5 (by decide) (hwA (.fieldLink RX7 26 "Congruary$Table" "count" "I") (in_wA_2 _ (List.mem_of_getElem? (i := 26) rfl))) (fun _ h9 => h9) rfl dX7_add_46 ?_
  refine lv_iload hx hb dX7_add_49 (lv_at hl 5 rfl) ?_
  refine va_iast hx hb hK hP hD hS 5 4 rfl rfl (vp_in_nI (n := tN) (by omega) (by omega)) dX7_add_51 (fun H locs hP hD hS => ?_)
  rw [show (nI tN).toNatClampNeg = tN from nI_clamp (by omega)] at hP hD
  have hP : va_P (dC, dI) vwCl [(tb, .inr (9, [.ref tk, .ref tf, .ref t1, .ref t2, .ref t3, .int (nI tN)])), (tk, .inl (ytk, 14, .inl (upd rk tN (vp_nar .char kd)))), (tf, .inl (ytf, 14, .inl (upd rf tN fn))), (t1, .inl (yt1, 14, .inl (upd r1 tN a0))), (t2, .inl (yt2, 14, .inl (upd r2 tN b0))), (t3, .inl (yt3, 14, .inl (upd r3 tN c0)))] H := hP
  have hD : va_D A [(tb, .inr (9, [.ref tk, .ref tf, .ref t1, .ref t2, .ref t3, .int (nI tN)])), (tk, .inl (ytk, 14, .inl (upd rk tN (vp_nar .char kd)))), (tf, .inl (ytf, 14, .inl (upd rf tN fn))), (t1, .inl (yt1, 14, .inl (upd r1 tN a0))), (t2, .inl (yt2, 14, .inl (upd r2 tN b0))), (t3, .inl (yt3, 14, .inl (upd r3 tN c0)))] := hD
  refine lv_aload_n hx hb dX7_add_52 rfl (lv_at hl 0 rfl) ?_
  refine lv_dup hx hb dX7_add_53 rfl ?_
  refine va_get (D := (dC, dI)) (ci := 9) (v := .int (nI tN)) (C := RX7) (T := TX7) (N := 6) hx hb hwA in_wsX70 hown hK hP 0 rfl rfl 5 (by decide) (hwA (.fieldLink RX7 26 "Congruary$Table" "count" "I") (in_wA_2 _ (List.mem_of_getElem? (i := 26) rfl))) (fun _ h9 => h9) rfl dX7_add_54 ?_
  refine lv_iconst (v := 1) hx hb dX7_add_57 (by decide) ?_
  refine lv_iadd hx hb dX7_add_58 ?_
  rw [show (nI tN) + (1 : Int32) = nI (tN + 1) from nI_add tN 1]
  refine va_put (D := (dC, dI)) (ci := 9) (v := .int (nI (tN + 1))) (ty := .int) (C := RX7) (T := TX7) (N := 6) hx hb hwA in_wsX70 tyX7 tyX7_ok nmX7 hown hK hP hD hS 0 rfl rfl 5 (by decide) (hwA (.fieldLink RX7 26 "Congruary$Table" "count" "I") (in_wA_2 _ (List.mem_of_getElem? (i := 26) rfl))) (fun _ h9 => h9) rfl (by decide +kernel) rfl rfl (Nat.le_of_ble_eq_true rfl) dX7_add_59 (fun H locs hP hD hS => ?_)
  have hP : va_P (dC, dI) vwCl [(tb, .inr (9, [.ref tk, .ref tf, .ref t1, .ref t2, .ref t3, .int (nI (tN + 1))])), (tk, .inl (ytk, 14, .inl (upd rk tN (vp_nar .char kd)))), (tf, .inl (ytf, 14, .inl (upd rf tN fn))), (t1, .inl (yt1, 14, .inl (upd r1 tN a0))), (t2, .inl (yt2, 14, .inl (upd r2 tN b0))), (t3, .inl (yt3, 14, .inl (upd r3 tN c0)))] H := hP
  have hD : va_D A [(tb, .inr (9, [.ref tk, .ref tf, .ref t1, .ref t2, .ref t3, .int (nI (tN + 1))])), (tk, .inl (ytk, 14, .inl (upd rk tN (vp_nar .char kd)))), (tf, .inl (ytf, 14, .inl (upd rf tN fn))), (t1, .inl (yt1, 14, .inl (upd r1 tN a0))), (t2, .inl (yt2, 14, .inl (upd r2 tN b0))), (t3, .inl (yt3, 14, .inl (upd r3 tN c0)))] := hD
  refine lv_aload_n hx hb dX7_add_62 rfl (lv_at hl 0 rfl) ?_
  refine va_get (D := (dC, dI)) (ci := 9) (v := .int (nI (tN + 1))) (C := RX7) (T := TX7) (N := 6) hx hb hwA in_wsX70 hown hK hP 0 rfl rfl 5 (by decide) (hwA (.fieldLink RX7 26 "Congruary$Table" "count" "I") (in_wA_2 _ (List.mem_of_getElem? (i := 26) rfl))) (fun _ h9 => h9) rfl dX7_add_63 ?_
  refine lv_iconst (v := 1) hx hb dX7_add_66 (by decide) ?_
  refine lv_isub hx hb dX7_add_67 ?_
  rw [show (nI (tN + 1)) - (1 : Int32) = nI tN from nI_pred tN]
  have hP9 := hP.sub (ws' := [(tb, .inr (9, [.ref tk, .ref tf, .ref t1, .ref t2, .ref t3, .int (nI (tN + 1))])), (tk, .inl (ytk, 14, .inl (upd rk tN (vp_nar .char kd)))), (tf, .inl (ytf, 14, .inl (upd rf tN fn))), (t1, .inl (yt1, 14, .inl (upd r1 tN a0))), (t2, .inl (yt2, 14, .inl (upd r2 tN b0))), (t3, .inl (yt3, 14, .inl (upd r3 tN c0)))]) [0, 1, 2, 3, 4, 5] rfl
  have hD9 := hD.sub (ws' := [(tb, .inr (9, [.ref tk, .ref tf, .ref t1, .ref t2, .ref t3, .int (nI (tN + 1))])), (tk, .inl (ytk, 14, .inl (upd rk tN (vp_nar .char kd)))), (tf, .inl (ytf, 14, .inl (upd rf tN fn))), (t1, .inl (yt1, 14, .inl (upd r1 tN a0))), (t2, .inl (yt2, 14, .inl (upd r2 tN b0))), (t3, .inl (yt3, 14, .inl (upd r3 tN c0)))]) [0, 1, 2, 3, 4, 5] (by decide) rfl
  have hK9 := hK.sub (tys' := [(ytk, .char), (ytf, .int), (yt1, .int), (yt2, .int), (yt3, .int)]) [0, 1, 2, 3, 4] rfl
  refine W.widen (k := 0) (n := 0) (by omega) (by omega) ?_
  exact W.iret (v := nI tN) hx hb hr (fun t ht hW => ⟨⟨nI tN, (), rfl, rfl, by rw [ht]; exact hP9, va_K.moved hW.alike hK9, hD9⟩, hS.F ht⟩) hS.2.2 dX7_add_68

def P_find (rk rf r1 r2 r3 : Nat → Int32) (kd fn a0 b0 c0 : Int32) (i : Nat) : Bool := decide (r1 i = a0 ∧ r2 i = b0 ∧ r3 i = c0 ∧ rk i = kd ∧ rf i = fn)

set_option maxHeartbeats 4000000 in
set_option maxRecDepth 100000 in
theorem c_X7_find (l : Launch) (dC : Nat → ClassId) (dI : Nat → Nat → Nat) (tb tk tf t1 t2 t3 : Nat) (ytk ytf yt1 yt2 yt3 : ClassId) (sz : Nat) (rk : Nat → Int32) (rf : Nat → Int32) (r1 : Nat → Int32) (r2 : Nat → Int32) (r3 : Nat → Int32) (tN : Nat) (kd : Int32) (fn : Int32) (a0 : Int32) (b0 : Int32) (c0 : Int32) (hT : tN ≤ 14) : Met l yX7_find (.code yX7_find cX7_find 8 (some .int) :: wAll) ({ frames := 0, cells := 0, slots := 0, locals := 0 }) (va_Pc [.ref tb, .int kd, .int fn, .int a0, .int b0, .int c0] (fun U => U.heap.size = sz ∧ va_P (dC, dI) vwCl [(tb, .inr (9, [.ref tk, .ref tf, .ref t1, .ref t2, .ref t3, .int (nI tN)])), (tk, .inl (ytk, 14, .inl rk)), (tf, .inl (ytf, 14, .inl rf)), (t1, .inl (yt1, 14, .inl r1)), (t2, .inl (yt2, 14, .inl r2)), (t3, .inl (yt3, 14, .inl r3))] U.heap ∧ va_K (dC, dI) vwCl [(ytk, .char), (ytf, .int), (yt1, .int), (yt2, .int), (yt3, .int)] U ∧ va_D (fun _ => True) [(tb, .inr (9, [.ref tk, .ref tf, .ref t1, .ref t2, .ref t3, .int (nI tN)])), (tk, .inl (ytk, 14, .inl rk)), (tf, .inl (ytf, 14, .inl rf)), (t1, .inl (yt1, 14, .inl r1)), (t2, .inl (yt2, 14, .inl r2)), (t3, .inl (yt3, 14, .inl r3))])) (va_Qi (fun (r : Int32) (_ : Unit) => r = firstFrom (P_find rk rf r1 r2 r3 kd fn a0 b0 c0) tN 0) (fun (_ : Unit) (t : State) => va_P (dC, dI) vwCl [(tb, .inr (9, [.ref tk, .ref tf, .ref t1, .ref t2, .ref t3, .int (nI tN)])), (tk, .inl (ytk, 14, .inl rk)), (tf, .inl (ytf, 14, .inl rf)), (t1, .inl (yt1, 14, .inl r1)), (t2, .inl (yt2, 14, .inl r2)), (t3, .inl (yt3, 14, .inl r3))] t.heap ∧ va_K (dC, dI) vwCl [(ytk, .char), (ytf, .int), (yt1, .int), (yt2, .int), (yt3, .int)] t ∧ va_D (va_A [(tb, .inr (9, [.ref tk, .ref tf, .ref t1, .ref t2, .ref t3, .int (nI tN)])), (tk, .inl (ytk, 14, .inl rk)), (tf, .inl (ytf, 14, .inl rf)), (t1, .inl (yt1, 14, .inl r1)), (t2, .inl (yt2, 14, .inl r2)), (t3, .inl (yt3, 14, .inl r3))] sz) [(tb, .inr (9, [.ref tk, .ref tf, .ref t1, .ref t2, .ref t3, .int (nI tN)])), (tk, .inl (ytk, 14, .inl rk)), (tf, .inl (ytf, 14, .inl rf)), (t1, .inl (yt1, 14, .inl r1)), (t2, .inl (yt2, 14, .inl r2)), (t3, .inl (yt3, 14, .inl r3))]) (va_A [(tb, .inr (9, [.ref tk, .ref tf, .ref t1, .ref t2, .ref t3, .int (nI tN)])), (tk, .inl (ytk, 14, .inl rk)), (tf, .inl (ytf, 14, .inl rf)), (t1, .inl (yt1, 14, .inl r1)), (t2, .inl (yt2, 14, .inl r2)), (t3, .inl (yt3, 14, .inl r3))] sz)) 0 0 (va_A [(tb, .inr (9, [.ref tk, .ref tf, .ref t1, .ref t2, .ref t3, .int (nI tN)])), (tk, .inl (ytk, 14, .inl rk)), (tf, .inl (ytf, 14, .inl rf)), (t1, .inl (yt1, 14, .inl r1)), (t2, .inl (yt2, 14, .inl r2)), (t3, .inl (yt3, 14, .inl r3))] sz) := by
  refine Met.ofW (cc := cX7_find) (maxL := 8) (ret := (some .int)) (by decide) rfl ?_
  intro p e s m args below meth c s₁ B hml hv
  obtain ⟨rfl, hsz, hP, hK, hD0⟩ := hv
  have hx := B.exec
  have hb := B.bytes
  have hr := B.returns
  have hts := atoms_spec (ws := .code yX7_find cX7_find 8 (some .int) :: wAll) B.pre
  have hwA := fun w (h : w ∈ wAll) => hts w (List.mem_cons_of_mem _ h)
  have hown : s.vm.findClass RX7 = some m.cls := findClass_of_methodNamed B.named
  have hlocks := B.notSynchronized
  subst hsz
  have hD := hD0.self (sz := s.heap.size)
  generalize hAe : va_A [(tb, .inr (9, [.ref tk, .ref tf, .ref t1, .ref t2, .ref t3, .int (nI tN)])), (tk, .inl (ytk, 14, .inl rk)), (tf, .inl (ytf, 14, .inl rf)), (t1, .inl (yt1, 14, .inl r1)), (t2, .inl (yt2, 14, .inl r2)), (t3, .inl (yt3, 14, .inl r3))] s.heap.size = A at hD ⊢
  have hA : ∀ q : Nat, s.heap.size ≤ q → A q := fun q h => by rw [← hAe]; exact Or.inr h
  have hS : va_S A s.heap s.heap [] := va_S.rf
  have hP : va_P (dC, dI) vwCl [(tb, .inr (9, [.ref tk, .ref tf, .ref t1, .ref t2, .ref t3, .int (nI tN)])), (tk, .inl (ytk, 14, .inl rk)), (tf, .inl (ytf, 14, .inl rf)), (t1, .inl (yt1, 14, .inl r1)), (t2, .inl (yt2, 14, .inl r2)), (t3, .inl (yt3, 14, .inl r3))] s.heap := hP
  have hl := lv_entry ([.ref tb, .int kd, .int fn, .int a0, .int b0, .int c0]) (n := 8) (Nat.le_of_ble_eq_true rfl)
  rw [lg_entry_eq]
  generalize (lg_sl ([.ref tb, .int kd, .int fn, .int a0, .int b0, .int c0]) ++ List.replicate (8 - (lg_sl ([.ref tb, .int kd, .int fn, .int a0, .int b0, .int c0])).length) Slot.unset).toArray = ls at hl ⊢
  have hl : lv_has ls 8 [(0, .ref tb), (1, .int kd), (2, .int fn), (3, .int a0), (4, .int b0), (5, .int c0)] := hl
  refine wq_name (fun Q hQ => ?_)
  refine lv_iconst (v := 0) hx hb dX7_find_0 (by decide) ?_
  refine lv_istore (lv' := [(6, .int 0), (0, .ref tb), (1, .int kd), (2, .int fn), (3, .int a0), (4, .int b0), (5, .int c0)]) hx hb dX7_find_1 hl (by decide) rfl (fun ls hl => ?_)
  have loop3 : ∀ (n : Nat) (k : Nat), firstFrom (P_find rk rf r1 r2 r3 kd fn a0 b0 c0) tN 0 = firstFrom (P_find rk rf r1 r2 r3 kd fn a0 b0 c0) (tN - k) k → k ≤ tN → tN - k < n → ∀ (H : Heap) (locs : List Loc) (ls : Array Slot), va_P (dC, dI) vwCl [(tb, .inr (9, [.ref tk, .ref tf, .ref t1, .ref t2, .ref t3, .int (nI tN)])), (tk, .inl (ytk, 14, .inl rk)), (tf, .inl (ytf, 14, .inl rf)), (t1, .inl (yt1, 14, .inl r1)), (t2, .inl (yt2, 14, .inl r2)), (t3, .inl (yt3, 14, .inl r3))] H → va_D A [(tb, .inr (9, [.ref tk, .ref tf, .ref t1, .ref t2, .ref t3, .int (nI tN)])), (tk, .inl (ytk, 14, .inl rk)), (tf, .inl (ytf, 14, .inl rf)), (t1, .inl (yt1, 14, .inl r1)), (t2, .inl (yt2, 14, .inl r2)), (t3, .inl (yt3, 14, .inl r3))] → va_S A s.heap H locs → lv_has ls 8 [(6, .int (nI k)), (0, .ref tb), (1, .int kd), (2, .int fn), (3, .int a0), (4, .int b0), (5, .int c0)] → W p l e ({ frames := 0, cells := 0, slots := 0, locals := 0 } : Room) s m #[.ref tb, .int kd, .int fn, .int a0, .int b0, .int c0] below meth c H locs 0 0 Q (F0 m 3 ls []) := by
    intro n
    induction n with
    | zero => intro k hk hkN hmu; exact absurd hmu (Nat.not_lt_zero _)
    | succ n ih3 =>
      intro k hk hkN hmu3 H locs ls hP hD hS hl
      refine lv_iload hx hb dX7_find_3 (lv_at hl 0 rfl) ?_
      refine lv_aload_n hx hb dX7_find_5 rfl (lv_at hl 1 rfl) ?_
      refine va_get (D := (dC, dI)) (ci := 9) (v := .int (nI tN)) (C := RX7) (T := TX7) (N := 6) hx hb hwA in_wsX70 hown hK hP 0 rfl rfl 5 (by decide) (hwA (.fieldLink RX7 26 "Congruary$Table" "count" "I") (in_wA_2 _ (List.mem_of_getElem? (i := 26) rfl))) (fun _ h9 => h9) rfl dX7_find_6 ?_
      refine lv_icmp_ge (tgt := 90) hx hb dX7_find_9 (by decide) (fun c_1 => ?_) (fun c_1 => ?_)
      · have c_1' : tN ≤ k := (nI_leI (a := tN) (b := k) (by omega) (by omega)).mp c_1
        refine lv_iconst (v := (-1)) hx hb dX7_find_90 (by decide) ?_
        subst hQ
        have hP9 := hP.sub (ws' := [(tb, .inr (9, [.ref tk, .ref tf, .ref t1, .ref t2, .ref t3, .int (nI tN)])), (tk, .inl (ytk, 14, .inl rk)), (tf, .inl (ytf, 14, .inl rf)), (t1, .inl (yt1, 14, .inl r1)), (t2, .inl (yt2, 14, .inl r2)), (t3, .inl (yt3, 14, .inl r3))]) [0, 1, 2, 3, 4, 5] rfl
        have hD9 := hD.sub (ws' := [(tb, .inr (9, [.ref tk, .ref tf, .ref t1, .ref t2, .ref t3, .int (nI tN)])), (tk, .inl (ytk, 14, .inl rk)), (tf, .inl (ytf, 14, .inl rf)), (t1, .inl (yt1, 14, .inl r1)), (t2, .inl (yt2, 14, .inl r2)), (t3, .inl (yt3, 14, .inl r3))]) [0, 1, 2, 3, 4, 5] (by decide) rfl
        have hK9 := hK.sub (tys' := [(ytk, .char), (ytf, .int), (yt1, .int), (yt2, .int), (yt3, .int)]) [0, 1, 2, 3, 4] rfl
        refine W.widen (k := 0) (n := 0) (by omega) (by omega) ?_
        exact W.iret (v := (-1)) hx hb hr (fun t ht hW => ⟨⟨(-1), (), rfl, (hk.trans (firstFrom_end (by omega))).symm, by rw [ht]; exact hP9, va_K.moved hW.alike hK9, hD9⟩, hS.F ht⟩) hS.2.2 dX7_find_91
      · have c_1' : ¬ (tN ≤ k) := fun h => c_1 ((nI_leI (a := tN) (b := k) (by omega) (by omega)).mpr h)
        refine lv_aload_n hx hb dX7_find_12 rfl (lv_at hl 1 rfl) ?_
        refine va_get (D := (dC, dI)) (ci := 9) (v := .ref t1) (C := RX7) (T := TX7) (N := 6) hx hb hwA in_wsX70 hown hK hP 0 rfl rfl 2 (by decide) (hwA (.fieldLink RX7 17 "Congruary$Table" "firsts" "[I") (in_wA_2 _ (List.mem_of_getElem? (i := 27) rfl))) (fun _ h9 => h9) rfl dX7_find_13 ?_
        refine lv_iload hx hb dX7_find_16 (lv_at hl 0 rfl) ?_
        refine va_iald hx hb hK hP 3 2 rfl rfl (vp_in_nI (n := k) (by omega) (by omega)) dX7_find_18 ?_
        rw [show (nI k).toNatClampNeg = k from nI_clamp (by omega)]
        refine lv_iload_n hx hb dX7_find_19 rfl (lv_at hl 4 rfl) ?_
        refine lv_icmp_ne (tgt := 51) hx hb dX7_find_20 (by decide) (fun c_2 => ?_) (fun c_2 => ?_)
        · refine lv_iconst (v := 0) hx hb dX7_find_51 (by decide) ?_
          refine lv_istore (lv' := [(7, .int 0), (6, .int (nI k)), (0, .ref tb), (1, .int kd), (2, .int fn), (3, .int a0), (4, .int b0), (5, .int c0)]) hx hb dX7_find_52 hl (by decide) rfl (fun ls hl => ?_)
          refine lv_iload hx hb dX7_find_54 (lv_at hl 0 rfl) ?_
          refine lv_if_eq (tgt := 84) hx hb dX7_find_56 (by decide) (fun c_3 => ?_) (fun c_3 => ?_)
          · refine lv_iinc (v := nI (k + 1)) (lv' := [(6, .int (nI (k + 1))), (7, .int 0), (0, .ref tb), (1, .int kd), (2, .int fn), (3, .int a0), (4, .int b0), (5, .int c0)]) hx hb dX7_find_84 hl (k := 1) rfl (by exact nI_add k 1) (by decide) rfl (fun ls hl => ?_)
            refine lv_goto (tgt := 3) hx hb dX7_find_87 (by decide) ?_
            exact ih3 (k + 1) (hk.trans (firstFrom_miss (by omega) (decide_eq_false (fun h => c_2 h.1)))) (by omega) (by omega) _ _ _ (hP.sub [0, 1, 2, 3, 4, 5] rfl) (hD.sub [0, 1, 2, 3, 4, 5] (by decide) rfl) hS (lv_sub hl [0, 2, 3, 4, 5, 6, 7] rfl)
          · exact absurd c_3 (by decide)
        · refine lv_aload_n hx hb dX7_find_23 rfl (lv_at hl 1 rfl) ?_
          refine va_get (D := (dC, dI)) (ci := 9) (v := .ref t2) (C := RX7) (T := TX7) (N := 6) hx hb hwA in_wsX70 hown hK hP 0 rfl rfl 3 (by decide) (hwA (.fieldLink RX7 20 "Congruary$Table" "seconds" "[I") (in_wA_7 _ (List.mem_of_getElem? (i := 30) rfl))) (fun _ h9 => h9) rfl dX7_find_24 ?_
          refine lv_iload hx hb dX7_find_27 (lv_at hl 0 rfl) ?_
          refine va_iald hx hb hK hP 4 3 rfl rfl (vp_in_nI (n := k) (by omega) (by omega)) dX7_find_29 ?_
          rw [show (nI k).toNatClampNeg = k from nI_clamp (by omega)]
          refine lv_iload hx hb dX7_find_30 (lv_at hl 5 rfl) ?_
          refine lv_icmp_ne (tgt := 51) hx hb dX7_find_32 (by decide) (fun c_5 => ?_) (fun c_5 => ?_)
          · refine lv_iconst (v := 0) hx hb dX7_find_51 (by decide) ?_
            refine lv_istore (lv' := [(7, .int 0), (6, .int (nI k)), (0, .ref tb), (1, .int kd), (2, .int fn), (3, .int a0), (4, .int b0), (5, .int c0)]) hx hb dX7_find_52 hl (by decide) rfl (fun ls hl => ?_)
            refine lv_iload hx hb dX7_find_54 (lv_at hl 0 rfl) ?_
            refine lv_if_eq (tgt := 84) hx hb dX7_find_56 (by decide) (fun c_6 => ?_) (fun c_6 => ?_)
            · refine lv_iinc (v := nI (k + 1)) (lv' := [(6, .int (nI (k + 1))), (7, .int 0), (0, .ref tb), (1, .int kd), (2, .int fn), (3, .int a0), (4, .int b0), (5, .int c0)]) hx hb dX7_find_84 hl (k := 1) rfl (by exact nI_add k 1) (by decide) rfl (fun ls hl => ?_)
              refine lv_goto (tgt := 3) hx hb dX7_find_87 (by decide) ?_
              exact ih3 (k + 1) (hk.trans (firstFrom_miss (by omega) (decide_eq_false (fun h => c_5 h.2.1)))) (by omega) (by omega) _ _ _ (hP.sub [0, 1, 2, 3, 4, 5] rfl) (hD.sub [0, 1, 2, 3, 4, 5] (by decide) rfl) hS (lv_sub hl [0, 2, 3, 4, 5, 6, 7] rfl)
            · exact absurd c_6 (by decide)
          · refine lv_aload_n hx hb dX7_find_35 rfl (lv_at hl 1 rfl) ?_
            refine va_get (D := (dC, dI)) (ci := 9) (v := .ref t3) (C := RX7) (T := TX7) (N := 6) hx hb hwA in_wsX70 hown hK hP 0 rfl rfl 4 (by decide) (hwA (.fieldLink RX7 23 "Congruary$Table" "tolds" "[I") (in_wA_7 _ (List.mem_of_getElem? (i := 31) rfl))) (fun _ h9 => h9) rfl dX7_find_36 ?_
            refine lv_iload hx hb dX7_find_39 (lv_at hl 0 rfl) ?_
            refine va_iald hx hb hK hP 5 4 rfl rfl (vp_in_nI (n := k) (by omega) (by omega)) dX7_find_41 ?_
            rw [show (nI k).toNatClampNeg = k from nI_clamp (by omega)]
            refine lv_iload hx hb dX7_find_42 (lv_at hl 6 rfl) ?_
            refine lv_icmp_ne (tgt := 51) hx hb dX7_find_44 (by decide) (fun c_8 => ?_) (fun c_8 => ?_)
            · refine lv_iconst (v := 0) hx hb dX7_find_51 (by decide) ?_
              refine lv_istore (lv' := [(7, .int 0), (6, .int (nI k)), (0, .ref tb), (1, .int kd), (2, .int fn), (3, .int a0), (4, .int b0), (5, .int c0)]) hx hb dX7_find_52 hl (by decide) rfl (fun ls hl => ?_)
              refine lv_iload hx hb dX7_find_54 (lv_at hl 0 rfl) ?_
              refine lv_if_eq (tgt := 84) hx hb dX7_find_56 (by decide) (fun c_9 => ?_) (fun c_9 => ?_)
              · refine lv_iinc (v := nI (k + 1)) (lv' := [(6, .int (nI (k + 1))), (7, .int 0), (0, .ref tb), (1, .int kd), (2, .int fn), (3, .int a0), (4, .int b0), (5, .int c0)]) hx hb dX7_find_84 hl (k := 1) rfl (by exact nI_add k 1) (by decide) rfl (fun ls hl => ?_)
                refine lv_goto (tgt := 3) hx hb dX7_find_87 (by decide) ?_
                exact ih3 (k + 1) (hk.trans (firstFrom_miss (by omega) (decide_eq_false (fun h => c_8 h.2.2.1)))) (by omega) (by omega) _ _ _ (hP.sub [0, 1, 2, 3, 4, 5] rfl) (hD.sub [0, 1, 2, 3, 4, 5] (by decide) rfl) hS (lv_sub hl [0, 2, 3, 4, 5, 6, 7] rfl)
              · exact absurd c_9 (by decide)
            · refine lv_iconst (v := 1) hx hb dX7_find_47 (by decide) ?_
              refine lv_goto (tgt := 52) hx hb dX7_find_48 (by decide) ?_
              refine lv_istore (lv' := [(7, .int 1), (6, .int (nI k)), (0, .ref tb), (1, .int kd), (2, .int fn), (3, .int a0), (4, .int b0), (5, .int c0)]) hx hb dX7_find_52 hl (by decide) rfl (fun ls hl => ?_)
              refine lv_iload hx hb dX7_find_54 (lv_at hl 0 rfl) ?_
              refine lv_if_eq (tgt := 84) hx hb dX7_find_56 (by decide) (fun c_11 => ?_) (fun c_11 => ?_)
              · exact absurd c_11 (by decide)
              · refine lv_aload_n hx hb dX7_find_59 rfl (lv_at hl 2 rfl) ?_
                refine va_get (D := (dC, dI)) (ci := 9) (v := .ref tk) (C := RX7) (T := TX7) (N := 6) hx hb hwA in_wsX70 hown hK hP 0 rfl rfl 0 (by decide) (hwA (.fieldLink RX7 9 "Congruary$Table" "kinds" "[C") (in_wA_1 _ (List.mem_of_getElem? (i := 53) rfl))) (fun _ h9 => h9) rfl dX7_find_60 ?_
                refine lv_iload hx hb dX7_find_63 (lv_at hl 1 rfl) ?_
                refine va_cald hx hb hK hP 1 0 rfl rfl (vp_in_nI (n := k) (by omega) (by omega)) dX7_find_65 ?_
                rw [show (nI k).toNatClampNeg = k from nI_clamp (by omega)]
                refine lv_iload_n hx hb dX7_find_66 rfl (lv_at hl 3 rfl) ?_
                refine lv_icmp_ne (tgt := 84) hx hb dX7_find_67 (by decide) (fun c_12 => ?_) (fun c_12 => ?_)
                · refine lv_iinc (v := nI (k + 1)) (lv' := [(6, .int (nI (k + 1))), (7, .int 1), (0, .ref tb), (1, .int kd), (2, .int fn), (3, .int a0), (4, .int b0), (5, .int c0)]) hx hb dX7_find_84 hl (k := 1) rfl (by exact nI_add k 1) (by decide) rfl (fun ls hl => ?_)
                  refine lv_goto (tgt := 3) hx hb dX7_find_87 (by decide) ?_
                  exact ih3 (k + 1) (hk.trans (firstFrom_miss (by omega) (decide_eq_false (fun h => c_12 h.2.2.2.1)))) (by omega) (by omega) _ _ _ (hP.sub [0, 1, 2, 3, 4, 5] rfl) (hD.sub [0, 1, 2, 3, 4, 5] (by decide) rfl) hS (lv_sub hl [0, 2, 3, 4, 5, 6, 7] rfl)
                · refine lv_aload_n hx hb dX7_find_70 rfl (lv_at hl 2 rfl) ?_
                  refine va_get (D := (dC, dI)) (ci := 9) (v := .ref tf) (C := RX7) (T := TX7) (N := 6) hx hb hwA in_wsX70 hown hK hP 0 rfl rfl 1 (by decide) (hwA (.fieldLink RX7 13 "Congruary$Table" "functions" "[I") (in_wA_1 _ (List.mem_of_getElem? (i := 54) rfl))) (fun _ h9 => h9) rfl dX7_find_71 ?_
                  refine lv_iload hx hb dX7_find_74 (lv_at hl 1 rfl) ?_
                  refine va_iald hx hb hK hP 2 1 rfl rfl (vp_in_nI (n := k) (by omega) (by omega)) dX7_find_76 ?_
                  rw [show (nI k).toNatClampNeg = k from nI_clamp (by omega)]
                  refine lv_iload_n hx hb dX7_find_77 rfl (lv_at hl 4 rfl) ?_
                  refine lv_icmp_ne (tgt := 84) hx hb dX7_find_78 (by decide) (fun c_14 => ?_) (fun c_14 => ?_)
                  · refine lv_iinc (v := nI (k + 1)) (lv' := [(6, .int (nI (k + 1))), (7, .int 1), (0, .ref tb), (1, .int kd), (2, .int fn), (3, .int a0), (4, .int b0), (5, .int c0)]) hx hb dX7_find_84 hl (k := 1) rfl (by exact nI_add k 1) (by decide) rfl (fun ls hl => ?_)
                    refine lv_goto (tgt := 3) hx hb dX7_find_87 (by decide) ?_
                    exact ih3 (k + 1) (hk.trans (firstFrom_miss (by omega) (decide_eq_false (fun h => c_14 h.2.2.2.2)))) (by omega) (by omega) _ _ _ (hP.sub [0, 1, 2, 3, 4, 5] rfl) (hD.sub [0, 1, 2, 3, 4, 5] (by decide) rfl) hS (lv_sub hl [0, 2, 3, 4, 5, 6, 7] rfl)
                  · refine lv_iload hx hb dX7_find_81 (lv_at hl 1 rfl) ?_
                    subst hQ
                    have hP9 := hP.sub (ws' := [(tb, .inr (9, [.ref tk, .ref tf, .ref t1, .ref t2, .ref t3, .int (nI tN)])), (tk, .inl (ytk, 14, .inl rk)), (tf, .inl (ytf, 14, .inl rf)), (t1, .inl (yt1, 14, .inl r1)), (t2, .inl (yt2, 14, .inl r2)), (t3, .inl (yt3, 14, .inl r3))]) [0, 1, 2, 3, 4, 5] rfl
                    have hD9 := hD.sub (ws' := [(tb, .inr (9, [.ref tk, .ref tf, .ref t1, .ref t2, .ref t3, .int (nI tN)])), (tk, .inl (ytk, 14, .inl rk)), (tf, .inl (ytf, 14, .inl rf)), (t1, .inl (yt1, 14, .inl r1)), (t2, .inl (yt2, 14, .inl r2)), (t3, .inl (yt3, 14, .inl r3))]) [0, 1, 2, 3, 4, 5] (by decide) rfl
                    have hK9 := hK.sub (tys' := [(ytk, .char), (ytf, .int), (yt1, .int), (yt2, .int), (yt3, .int)]) [0, 1, 2, 3, 4] rfl
                    refine W.widen (k := 0) (n := 0) (by omega) (by omega) ?_
                    exact W.iret (v := nI k) hx hb hr (fun t ht hW => ⟨⟨nI k, (), rfl, (hk.trans (firstFrom_hit (by omega) (decide_eq_true ⟨c_2, c_5, c_8, c_12, c_14⟩))).symm, by rw [ht]; exact hP9, va_K.moved hW.alike hK9, hD9⟩, hS.F ht⟩) hS.2.2 dX7_find_83
  exact loop3 _ 0 rfl (Nat.zero_le _) (Nat.lt_succ_self _) _ _ _ hP hD hS (lv_sub hl [0, 1, 2, 3, 4, 5, 6] rfl)

def f_X7_isOfFunction (rk : Nat → Int32) (rf : Nat → Int32) (x : Nat) (fn : Int32) : Int32 := if (rk x) = (102 : Int32) then if (rf x) = fn then 1 else 0 else 0
set_option maxHeartbeats 4000000 in
set_option maxRecDepth 100000 in
theorem c_X7_isOfFunction (l : Launch) (dC : Nat → ClassId) (dI : Nat → Nat → Nat) (tb tk tf t1 t2 t3 : Nat) (ytk ytf yt1 yt2 yt3 : ClassId) (sz : Nat) (rk : Nat → Int32) (rf : Nat → Int32) (r1 : Nat → Int32) (r2 : Nat → Int32) (r3 : Nat → Int32) (tN : Nat) (x : Nat) (fn : Int32) (hx : x < 14) : Met l yX7_isOfFunction (.code yX7_isOfFunction cX7_isOfFunction 3 (some .boolean) :: wAll) ({ frames := 0, cells := 0, slots := 0, locals := 0 }) (va_Pc [.ref tb, .int (nI x), .int fn] (fun U => U.heap.size = sz ∧ va_P (dC, dI) vwCl [(tb, .inr (9, [.ref tk, .ref tf, .ref t1, .ref t2, .ref t3, .int (nI tN)])), (tk, .inl (ytk, 14, .inl rk)), (tf, .inl (ytf, 14, .inl rf)), (t1, .inl (yt1, 14, .inl r1)), (t2, .inl (yt2, 14, .inl r2)), (t3, .inl (yt3, 14, .inl r3))] U.heap ∧ va_K (dC, dI) vwCl [(ytk, .char), (ytf, .int), (yt1, .int), (yt2, .int), (yt3, .int)] U ∧ va_D (fun _ => True) [(tb, .inr (9, [.ref tk, .ref tf, .ref t1, .ref t2, .ref t3, .int (nI tN)])), (tk, .inl (ytk, 14, .inl rk)), (tf, .inl (ytf, 14, .inl rf)), (t1, .inl (yt1, 14, .inl r1)), (t2, .inl (yt2, 14, .inl r2)), (t3, .inl (yt3, 14, .inl r3))])) (va_Qi (fun (r : Int32) (_ : Unit) => r = f_X7_isOfFunction rk rf x fn) (fun (_ : Unit) (t : State) => va_P (dC, dI) vwCl [(tb, .inr (9, [.ref tk, .ref tf, .ref t1, .ref t2, .ref t3, .int (nI tN)])), (tk, .inl (ytk, 14, .inl rk)), (tf, .inl (ytf, 14, .inl rf)), (t1, .inl (yt1, 14, .inl r1)), (t2, .inl (yt2, 14, .inl r2)), (t3, .inl (yt3, 14, .inl r3))] t.heap ∧ va_K (dC, dI) vwCl [(ytk, .char), (ytf, .int), (yt1, .int), (yt2, .int), (yt3, .int)] t ∧ va_D (va_A [(tb, .inr (9, [.ref tk, .ref tf, .ref t1, .ref t2, .ref t3, .int (nI tN)])), (tk, .inl (ytk, 14, .inl rk)), (tf, .inl (ytf, 14, .inl rf)), (t1, .inl (yt1, 14, .inl r1)), (t2, .inl (yt2, 14, .inl r2)), (t3, .inl (yt3, 14, .inl r3))] sz) [(tb, .inr (9, [.ref tk, .ref tf, .ref t1, .ref t2, .ref t3, .int (nI tN)])), (tk, .inl (ytk, 14, .inl rk)), (tf, .inl (ytf, 14, .inl rf)), (t1, .inl (yt1, 14, .inl r1)), (t2, .inl (yt2, 14, .inl r2)), (t3, .inl (yt3, 14, .inl r3))]) (va_A [(tb, .inr (9, [.ref tk, .ref tf, .ref t1, .ref t2, .ref t3, .int (nI tN)])), (tk, .inl (ytk, 14, .inl rk)), (tf, .inl (ytf, 14, .inl rf)), (t1, .inl (yt1, 14, .inl r1)), (t2, .inl (yt2, 14, .inl r2)), (t3, .inl (yt3, 14, .inl r3))] sz)) 0 0 (va_A [(tb, .inr (9, [.ref tk, .ref tf, .ref t1, .ref t2, .ref t3, .int (nI tN)])), (tk, .inl (ytk, 14, .inl rk)), (tf, .inl (ytf, 14, .inl rf)), (t1, .inl (yt1, 14, .inl r1)), (t2, .inl (yt2, 14, .inl r2)), (t3, .inl (yt3, 14, .inl r3))] sz) := by
  refine Met.ofW (cc := cX7_isOfFunction) (maxL := 3) (ret := (some .boolean)) (by decide) rfl ?_
  intro p e s m args below meth c s₁ B hml hv
  obtain ⟨rfl, hsz, hP, hK, hD0⟩ := hv
  have hx := B.exec
  have hb := B.bytes
  have hr := B.returns
  have hts := atoms_spec (ws := .code yX7_isOfFunction cX7_isOfFunction 3 (some .boolean) :: wAll) B.pre
  have hwA := fun w (h : w ∈ wAll) => hts w (List.mem_cons_of_mem _ h)
  have hown : s.vm.findClass RX7 = some m.cls := findClass_of_methodNamed B.named
  have hlocks := B.notSynchronized
  subst hsz
  have hD := hD0.self (sz := s.heap.size)
  generalize hAe : va_A [(tb, .inr (9, [.ref tk, .ref tf, .ref t1, .ref t2, .ref t3, .int (nI tN)])), (tk, .inl (ytk, 14, .inl rk)), (tf, .inl (ytf, 14, .inl rf)), (t1, .inl (yt1, 14, .inl r1)), (t2, .inl (yt2, 14, .inl r2)), (t3, .inl (yt3, 14, .inl r3))] s.heap.size = A at hD ⊢
  have hA : ∀ q : Nat, s.heap.size ≤ q → A q := fun q h => by rw [← hAe]; exact Or.inr h
  have hS : va_S A s.heap s.heap [] := va_S.rf
  have hP : va_P (dC, dI) vwCl [(tb, .inr (9, [.ref tk, .ref tf, .ref t1, .ref t2, .ref t3, .int (nI tN)])), (tk, .inl (ytk, 14, .inl rk)), (tf, .inl (ytf, 14, .inl rf)), (t1, .inl (yt1, 14, .inl r1)), (t2, .inl (yt2, 14, .inl r2)), (t3, .inl (yt3, 14, .inl r3))] s.heap := hP
  have hl := lv_entry ([.ref tb, .int (nI x), .int fn]) (n := 3) (Nat.le_of_ble_eq_true rfl)
  rw [lg_entry_eq]
  generalize (lg_sl ([.ref tb, .int (nI x), .int fn]) ++ List.replicate (3 - (lg_sl ([.ref tb, .int (nI x), .int fn])).length) Slot.unset).toArray = ls at hl ⊢
  have hl : lv_has ls 3 [(0, .ref tb), (1, .int (nI x)), (2, .int fn)] := hl
  refine lv_aload_n hx hb dX7_isOfFunction_0 rfl (lv_at hl 0 rfl) ?_
  refine va_get (D := (dC, dI)) (ci := 9) (v := .ref tk) (C := RX7) (T := TX7) (N := 6) hx hb hwA in_wsX70 hown hK hP 0 rfl rfl 0 (by decide) (hwA (.fieldLink RX7 9 "Congruary$Table" "kinds" "[C") (in_wA_1 _ (List.mem_of_getElem? (i := 53) rfl))) (fun _ h9 => h9) rfl dX7_isOfFunction_1 ?_
  refine lv_iload_n hx hb dX7_isOfFunction_4 rfl (lv_at hl 1 rfl) ?_
  refine va_cald hx hb hK hP 1 0 rfl rfl (vp_in_nI (n := x) (by omega) (by omega)) dX7_isOfFunction_5 ?_
  rw [show (nI x).toNatClampNeg = x from nI_clamp (by omega)]
  refine lv_bipush (v := 102) hx hb dX7_isOfFunction_6 (by decide) ?_
  refine lv_icmp_ne (tgt := 25) hx hb dX7_isOfFunction_8 (by decide) (fun c_1 => ?_) (fun c_1 => ?_)
  · refine lv_iconst (v := 0) hx hb dX7_isOfFunction_25 (by decide) ?_
    have hP9 := hP.sub (ws' := [(tb, .inr (9, [.ref tk, .ref tf, .ref t1, .ref t2, .ref t3, .int (nI tN)])), (tk, .inl (ytk, 14, .inl rk)), (tf, .inl (ytf, 14, .inl rf)), (t1, .inl (yt1, 14, .inl r1)), (t2, .inl (yt2, 14, .inl r2)), (t3, .inl (yt3, 14, .inl r3))]) [0, 1, 2, 3, 4, 5] rfl
    have hD9 := hD.sub (ws' := [(tb, .inr (9, [.ref tk, .ref tf, .ref t1, .ref t2, .ref t3, .int (nI tN)])), (tk, .inl (ytk, 14, .inl rk)), (tf, .inl (ytf, 14, .inl rf)), (t1, .inl (yt1, 14, .inl r1)), (t2, .inl (yt2, 14, .inl r2)), (t3, .inl (yt3, 14, .inl r3))]) [0, 1, 2, 3, 4, 5] (by decide) rfl
    have hK9 := hK.sub (tys' := [(ytk, .char), (ytf, .int), (yt1, .int), (yt2, .int), (yt3, .int)]) [0, 1, 2, 3, 4] rfl
    refine W.widen (k := 0) (n := 0) (by omega) (by omega) ?_
    exact W.zret (v := 0) (ty := .boolean) hx hb hr (by decide +kernel) (fun t ht hW => ⟨⟨0, (), rfl, (by unfold f_X7_isOfFunction; rw [if_neg c_1]), by rw [ht]; exact hP9, va_K.moved hW.alike hK9, hD9⟩, hS.F ht⟩) hS.2.2 dX7_isOfFunction_26
  · refine lv_aload_n hx hb dX7_isOfFunction_11 rfl (lv_at hl 0 rfl) ?_
    refine va_get (D := (dC, dI)) (ci := 9) (v := .ref tf) (C := RX7) (T := TX7) (N := 6) hx hb hwA in_wsX70 hown hK hP 0 rfl rfl 1 (by decide) (hwA (.fieldLink RX7 13 "Congruary$Table" "functions" "[I") (in_wA_1 _ (List.mem_of_getElem? (i := 54) rfl))) (fun _ h9 => h9) rfl dX7_isOfFunction_12 ?_
    refine lv_iload_n hx hb dX7_isOfFunction_15 rfl (lv_at hl 1 rfl) ?_
    refine va_iald hx hb hK hP 2 1 rfl rfl (vp_in_nI (n := x) (by omega) (by omega)) dX7_isOfFunction_16 ?_
    rw [show (nI x).toNatClampNeg = x from nI_clamp (by omega)]
    refine lv_iload_n hx hb dX7_isOfFunction_17 rfl (lv_at hl 2 rfl) ?_
    refine lv_icmp_ne (tgt := 25) hx hb dX7_isOfFunction_18 (by decide) (fun c_2 => ?_) (fun c_2 => ?_)
    · refine lv_iconst (v := 0) hx hb dX7_isOfFunction_25 (by decide) ?_
      have hP9 := hP.sub (ws' := [(tb, .inr (9, [.ref tk, .ref tf, .ref t1, .ref t2, .ref t3, .int (nI tN)])), (tk, .inl (ytk, 14, .inl rk)), (tf, .inl (ytf, 14, .inl rf)), (t1, .inl (yt1, 14, .inl r1)), (t2, .inl (yt2, 14, .inl r2)), (t3, .inl (yt3, 14, .inl r3))]) [0, 1, 2, 3, 4, 5] rfl
      have hD9 := hD.sub (ws' := [(tb, .inr (9, [.ref tk, .ref tf, .ref t1, .ref t2, .ref t3, .int (nI tN)])), (tk, .inl (ytk, 14, .inl rk)), (tf, .inl (ytf, 14, .inl rf)), (t1, .inl (yt1, 14, .inl r1)), (t2, .inl (yt2, 14, .inl r2)), (t3, .inl (yt3, 14, .inl r3))]) [0, 1, 2, 3, 4, 5] (by decide) rfl
      have hK9 := hK.sub (tys' := [(ytk, .char), (ytf, .int), (yt1, .int), (yt2, .int), (yt3, .int)]) [0, 1, 2, 3, 4] rfl
      refine W.widen (k := 0) (n := 0) (by omega) (by omega) ?_
      exact W.zret (v := 0) (ty := .boolean) hx hb hr (by decide +kernel) (fun t ht hW => ⟨⟨0, (), rfl, (by unfold f_X7_isOfFunction; rw [if_pos c_1, if_neg c_2]), by rw [ht]; exact hP9, va_K.moved hW.alike hK9, hD9⟩, hS.F ht⟩) hS.2.2 dX7_isOfFunction_26
    · refine lv_iconst (v := 1) hx hb dX7_isOfFunction_21 (by decide) ?_
      refine lv_goto (tgt := 26) hx hb dX7_isOfFunction_22 (by decide) ?_
      have hP9 := hP.sub (ws' := [(tb, .inr (9, [.ref tk, .ref tf, .ref t1, .ref t2, .ref t3, .int (nI tN)])), (tk, .inl (ytk, 14, .inl rk)), (tf, .inl (ytf, 14, .inl rf)), (t1, .inl (yt1, 14, .inl r1)), (t2, .inl (yt2, 14, .inl r2)), (t3, .inl (yt3, 14, .inl r3))]) [0, 1, 2, 3, 4, 5] rfl
      have hD9 := hD.sub (ws' := [(tb, .inr (9, [.ref tk, .ref tf, .ref t1, .ref t2, .ref t3, .int (nI tN)])), (tk, .inl (ytk, 14, .inl rk)), (tf, .inl (ytf, 14, .inl rf)), (t1, .inl (yt1, 14, .inl r1)), (t2, .inl (yt2, 14, .inl r2)), (t3, .inl (yt3, 14, .inl r3))]) [0, 1, 2, 3, 4, 5] (by decide) rfl
      have hK9 := hK.sub (tys' := [(ytk, .char), (ytf, .int), (yt1, .int), (yt2, .int), (yt3, .int)]) [0, 1, 2, 3, 4] rfl
      refine W.widen (k := 0) (n := 0) (by omega) (by omega) ?_
      exact W.zret (v := 1) (ty := .boolean) hx hb hr (by decide +kernel) (fun t ht hW => ⟨⟨1, (), rfl, (by unfold f_X7_isOfFunction; rw [if_pos c_1, if_pos c_2]), by rw [ht]; exact hP9, va_K.moved hW.alike hK9, hD9⟩, hS.F ht⟩) hS.2.2 dX7_isOfFunction_26

set_option maxHeartbeats 4000000 in
set_option maxRecDepth 100000 in
theorem c_J7_fill_53178 (l : Launch) (dC : Nat → ClassId) (dI : Nat → Nat → Nat) (q : Nat) (yq : ClassId) (sz : Nat) (nA : Nat) (f : Nat → Int32) (v : Int32) (hn : nA < 2 ^ 31) : Met l yJ7_fill_53178 (.code yJ7_fill_53178 cJ7_fill_53178 4 none :: wAll) ({ frames := 0, cells := 0, slots := 0, locals := 0 }) (va_Pc [.ref q, .int v] (fun U => U.heap.size = sz ∧ va_P (dC, dI) vwCl [(q, .inl (yq, nA, .inl f))] U.heap ∧ va_K (dC, dI) vwCl [(yq, .int)] U ∧ va_D (fun _ => True) [(q, .inl (yq, nA, .inl f))])) (va_Qv (fun (_ : Unit) => True) (fun (_ : Unit) (t : State) => va_P (dC, dI) vwCl [(q, .inl (yq, nA, .inl (fillR f 0 nA v)))] t.heap ∧ va_K (dC, dI) vwCl [(yq, .int)] t ∧ va_D (va_A [(q, .inl (yq, nA, .inl f))] sz) [(q, .inl (yq, nA, .inl (fillR f 0 nA v)))]) (va_A [(q, .inl (yq, nA, .inl f))] sz)) 0 0 (va_A [(q, .inl (yq, nA, .inl f))] sz) := by
  refine Met.ofW (cc := cJ7_fill_53178) (maxL := 4) (ret := none) (by decide) rfl ?_
  intro p e s m args below meth c s₁ B hml hv
  obtain ⟨rfl, hsz, hP, hK, hD0⟩ := hv
  have hx := B.exec
  have hb := B.bytes
  have hr := B.returns
  have hts := atoms_spec (ws := .code yJ7_fill_53178 cJ7_fill_53178 4 none :: wAll) B.pre
  have hwA := fun w (h : w ∈ wAll) => hts w (List.mem_cons_of_mem _ h)
  have hown : s.vm.findClass RJ7 = some m.cls := findClass_of_methodNamed B.named
  have hlocks := B.notSynchronized
  subst hsz
  have hD := hD0.self (sz := s.heap.size)
  generalize hAe : va_A [(q, .inl (yq, nA, .inl f))] s.heap.size = A at hD ⊢
  have hA : ∀ q : Nat, s.heap.size ≤ q → A q := fun q h => by rw [← hAe]; exact Or.inr h
  have hS : va_S A s.heap s.heap [] := va_S.rf
  have hP : va_P (dC, dI) vwCl [(q, .inl (yq, nA, .inl f))] s.heap := hP
  have hl := lv_entry ([.ref q, .int v]) (n := 4) (Nat.le_of_ble_eq_true rfl)
  rw [lg_entry_eq]
  generalize (lg_sl ([.ref q, .int v]) ++ List.replicate (4 - (lg_sl ([.ref q, .int v])).length) Slot.unset).toArray = ls at hl ⊢
  have hl : lv_has ls 4 [(0, .ref q), (1, .int v)] := hl
  refine wq_name (fun Q hQ => ?_)
  refine lv_iconst (v := 0) hx hb dJ7_fill_53178_0 (by decide) ?_
  refine lv_istore_n (lv' := [(2, .int 0), (0, .ref q), (1, .int v)]) hx hb dJ7_fill_53178_1 rfl hl (by decide) rfl (fun ls hl => ?_)
  refine lv_aload_n hx hb dJ7_fill_53178_2 rfl (lv_at hl 1 rfl) ?_
  refine va_alen (v := nI nA) hx hb hK hP 0 0 rfl rfl rfl dJ7_fill_53178_3 ?_
  refine lv_istore_n (lv' := [(3, .int (nI nA)), (2, .int 0), (0, .ref q), (1, .int v)]) hx hb dJ7_fill_53178_4 rfl hl (by decide) rfl (fun ls hl => ?_)
  have loop5 : ∀ (n : Nat) (k : Nat) (g : Nat → Int32), g = fillR f 0 k v → k ≤ nA → nA - k < n → ∀ (H : Heap) (locs : List Loc) (ls : Array Slot), va_P (dC, dI) vwCl [(q, .inl (yq, nA, .inl g))] H → va_D A [(q, .inl (yq, nA, .inl g))] → va_S A s.heap H locs → lv_has ls 4 [(3, .int (nI nA)), (2, .int (nI k)), (0, .ref q), (1, .int v)] → W p l e ({ frames := 0, cells := 0, slots := 0, locals := 0 } : Room) s m #[.ref q, .int v] below meth c H locs 0 0 Q (F0 m 5 ls []) := by
    intro n
    induction n with
    | zero => intro k g hk hkN hmu; exact absurd hmu (Nat.not_lt_zero _)
    | succ n ih5 =>
      intro k g hk hkN hmu5 H locs ls hP hD hS hl
      refine lv_iload_n hx hb dJ7_fill_53178_5 rfl (lv_at hl 1 rfl) ?_
      refine lv_iload_n hx hb dJ7_fill_53178_6 rfl (lv_at hl 0 rfl) ?_
      refine lv_icmp_ge (tgt := 20) hx hb dJ7_fill_53178_7 (by decide) (fun c_1 => ?_) (fun c_1 => ?_)
      · have c_1' : nA ≤ k := (nI_leI (a := nA) (b := k) (by omega) (by omega)).mp c_1
        subst hQ
        obtain rfl : nA = k := by omega
        subst hk
        have hP9 := hP.sub (ws' := [(q, .inl (yq, nA, .inl (fillR f 0 nA v)))]) [0] rfl
        have hD9 := hD.sub (ws' := [(q, .inl (yq, nA, .inl (fillR f 0 nA v)))]) [0] (by decide) rfl
        have hK9 := hK.sub (tys' := [(yq, .int)]) [0] rfl
        refine W.widen (k := 0) (n := 0) (by omega) (by omega) ?_
        exact W.vret hx hb hr (fun t ht hW => ⟨⟨(), rfl, trivial, by rw [ht]; exact hP9, va_K.moved hW.alike hK9, hD9⟩, hS.F ht⟩) hS.2.2 dJ7_fill_53178_20
      · have c_1' : ¬ (nA ≤ k) := fun h => c_1 ((nI_leI (a := nA) (b := k) (by omega) (by omega)).mpr h)
        refine lv_aload_n hx hb dJ7_fill_53178_10 rfl (lv_at hl 2 rfl) ?_
        refine lv_iload_n hx hb dJ7_fill_53178_11 rfl (lv_at hl 1 rfl) ?_
        refine lv_iload_n hx hb dJ7_fill_53178_12 rfl (lv_at hl 3 rfl) ?_
        refine va_iast hx hb hK hP hD hS 0 0 rfl rfl (vp_in_nI (n := k) (by omega) (by omega)) dJ7_fill_53178_13 (fun H locs hP hD hS => ?_)
        rw [show (nI k).toNatClampNeg = k from nI_clamp (by omega)] at hP hD
        have hP : va_P (dC, dI) vwCl [(q, .inl (yq, nA, .inl (upd g k v)))] H := hP
        have hD : va_D A [(q, .inl (yq, nA, .inl (upd g k v)))] := hD
        refine lv_iinc (v := nI (k + 1)) (lv' := [(2, .int (nI (k + 1))), (3, .int (nI nA)), (0, .ref q), (1, .int v)]) hx hb dJ7_fill_53178_14 hl (k := 1) rfl (by exact nI_add k 1) (by decide) rfl (fun ls hl => ?_)
        refine lv_goto (tgt := 5) hx hb dJ7_fill_53178_17 (by decide) ?_
        exact ih5 (k + 1) (upd g k v) (by rw [hk]; exact fillR_s f 0 k v (Nat.zero_le _)) (by omega) (by omega) _ _ _ (hP.sub [0] rfl) (hD.sub [0] (by decide) rfl) hS (lv_sub hl [1, 0, 2, 3] rfl)
  exact loop5 _ 0 f (fillR_0 f 0 v).symm (Nat.zero_le _) (Nat.lt_succ_self _) _ _ _ hP hD hS (lv_sub hl [0, 1, 2, 3] rfl)
