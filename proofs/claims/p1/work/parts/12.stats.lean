def P_atom (qf : Nat → Int32) (x : Int32) (i : Nat) : Bool := decide (qf i = x)

set_option maxHeartbeats 4000000 in
set_option maxRecDepth 100000 in
theorem c_X6_findAtom (l : Launch) (dC : Nat → ClassId) (dI : Nat → Nat → Nat) (sm sf sl sk su : Nat) (ysf ysl ysk ysu : ClassId) (sz : Nat) (qf : Nat → Int32) (ql : Nat → Int32) (qk : Nat → Int32) (qu : Nat → Int32) (nA : Nat) (nC : Nat) (nR : Nat) (x : Int32) (hA24 : nA ≤ 24) : Met l yX6_findAtom (.code yX6_findAtom cX6_findAtom 3 (some .int) :: wAll) ({ frames := 0, cells := 0, slots := 0, locals := 0 }) (va_Pc [.ref sm, .int x] (fun U => U.heap.size = sz ∧ va_P (dC, dI) vwCl [(sm, .inr (8, [.ref sf, .ref sl, .ref sk, .ref su, .int (nI nA), .int (nI nC), .int (nI nR)])), (sf, .inl (ysf, 24, .inl qf)), (sl, .inl (ysl, 42, .inl ql)), (sk, .inl (ysk, 4, .inl qk)), (su, .inl (ysu, 4, .inl qu))] U.heap ∧ va_K (dC, dI) vwCl [(ysf, .int), (ysl, .int), (ysk, .char), (ysu, .int)] U ∧ va_D (fun _ => True) [(sm, .inr (8, [.ref sf, .ref sl, .ref sk, .ref su, .int (nI nA), .int (nI nC), .int (nI nR)])), (sf, .inl (ysf, 24, .inl qf)), (sl, .inl (ysl, 42, .inl ql)), (sk, .inl (ysk, 4, .inl qk)), (su, .inl (ysu, 4, .inl qu))])) (va_Qi (fun (r : Int32) (_ : Unit) => r = firstFrom (P_atom qf x) nA 0) (fun (_ : Unit) (t : State) => va_P (dC, dI) vwCl [(sm, .inr (8, [.ref sf, .ref sl, .ref sk, .ref su, .int (nI nA), .int (nI nC), .int (nI nR)])), (sf, .inl (ysf, 24, .inl qf)), (sl, .inl (ysl, 42, .inl ql)), (sk, .inl (ysk, 4, .inl qk)), (su, .inl (ysu, 4, .inl qu))] t.heap ∧ va_K (dC, dI) vwCl [(ysf, .int), (ysl, .int), (ysk, .char), (ysu, .int)] t ∧ va_D (va_A [(sm, .inr (8, [.ref sf, .ref sl, .ref sk, .ref su, .int (nI nA), .int (nI nC), .int (nI nR)])), (sf, .inl (ysf, 24, .inl qf)), (sl, .inl (ysl, 42, .inl ql)), (sk, .inl (ysk, 4, .inl qk)), (su, .inl (ysu, 4, .inl qu))] sz) [(sm, .inr (8, [.ref sf, .ref sl, .ref sk, .ref su, .int (nI nA), .int (nI nC), .int (nI nR)])), (sf, .inl (ysf, 24, .inl qf)), (sl, .inl (ysl, 42, .inl ql)), (sk, .inl (ysk, 4, .inl qk)), (su, .inl (ysu, 4, .inl qu))]) (va_A [(sm, .inr (8, [.ref sf, .ref sl, .ref sk, .ref su, .int (nI nA), .int (nI nC), .int (nI nR)])), (sf, .inl (ysf, 24, .inl qf)), (sl, .inl (ysl, 42, .inl ql)), (sk, .inl (ysk, 4, .inl qk)), (su, .inl (ysu, 4, .inl qu))] sz)) 0 0 (va_A [(sm, .inr (8, [.ref sf, .ref sl, .ref sk, .ref su, .int (nI nA), .int (nI nC), .int (nI nR)])), (sf, .inl (ysf, 24, .inl qf)), (sl, .inl (ysl, 42, .inl ql)), (sk, .inl (ysk, 4, .inl qk)), (su, .inl (ysu, 4, .inl qu))] sz) := by
  refine Met.ofW (cc := cX6_findAtom) (maxL := 3) (ret := (some .int)) (by decide) rfl ?_
  intro p e s m args below meth c s₁ B hml hv
  obtain ⟨rfl, hsz, hP, hK, hD0⟩ := hv
  have hx := B.exec
  have hb := B.bytes
  have hr := B.returns
  have hts := atoms_spec (ws := .code yX6_findAtom cX6_findAtom 3 (some .int) :: wAll) B.pre
  have hwA := fun w (h : w ∈ wAll) => hts w (List.mem_cons_of_mem _ h)
  have hown : s.vm.findClass RX6 = some m.cls := findClass_of_methodNamed B.named
  have hlocks := B.notSynchronized
  subst hsz
  have hD := hD0.self (sz := s.heap.size)
  generalize hAe : va_A [(sm, .inr (8, [.ref sf, .ref sl, .ref sk, .ref su, .int (nI nA), .int (nI nC), .int (nI nR)])), (sf, .inl (ysf, 24, .inl qf)), (sl, .inl (ysl, 42, .inl ql)), (sk, .inl (ysk, 4, .inl qk)), (su, .inl (ysu, 4, .inl qu))] s.heap.size = A at hD ⊢
  have hA : ∀ q : Nat, s.heap.size ≤ q → A q := fun q h => by rw [← hAe]; exact Or.inr h
  have hS : va_S A s.heap s.heap [] := va_S.rf
  have hP : va_P (dC, dI) vwCl [(sm, .inr (8, [.ref sf, .ref sl, .ref sk, .ref su, .int (nI nA), .int (nI nC), .int (nI nR)])), (sf, .inl (ysf, 24, .inl qf)), (sl, .inl (ysl, 42, .inl ql)), (sk, .inl (ysk, 4, .inl qk)), (su, .inl (ysu, 4, .inl qu))] s.heap := hP
  have hl := lv_entry ([.ref sm, .int x]) (n := 3) (Nat.le_of_ble_eq_true rfl)
  rw [lg_entry_eq]
  generalize (lg_sl ([.ref sm, .int x]) ++ List.replicate (3 - (lg_sl ([.ref sm, .int x])).length) Slot.unset).toArray = ls at hl ⊢
  have hl : lv_has ls 3 [(0, .ref sm), (1, .int x)] := hl
  refine wq_name (fun Q hQ => ?_)
  refine lv_iconst (v := 0) hx hb dX6_findAtom_0 (by decide) ?_
  refine lv_istore_n (lv' := [(2, .int 0), (0, .ref sm), (1, .int x)]) hx hb dX6_findAtom_1 rfl hl (by decide) rfl (fun ls hl => ?_)
  have loop2 : ∀ (n : Nat) (k : Nat), firstFrom (P_atom qf x) nA 0 = firstFrom (P_atom qf x) (nA - k) k → k ≤ nA → nA - k < n → ∀ (H : Heap) (locs : List Loc) (ls : Array Slot), va_P (dC, dI) vwCl [(sm, .inr (8, [.ref sf, .ref sl, .ref sk, .ref su, .int (nI nA), .int (nI nC), .int (nI nR)])), (sf, .inl (ysf, 24, .inl qf)), (sl, .inl (ysl, 42, .inl ql)), (sk, .inl (ysk, 4, .inl qk)), (su, .inl (ysu, 4, .inl qu))] H → va_D A [(sm, .inr (8, [.ref sf, .ref sl, .ref sk, .ref su, .int (nI nA), .int (nI nC), .int (nI nR)])), (sf, .inl (ysf, 24, .inl qf)), (sl, .inl (ysl, 42, .inl ql)), (sk, .inl (ysk, 4, .inl qk)), (su, .inl (ysu, 4, .inl qu))] → va_S A s.heap H locs → lv_has ls 3 [(2, .int (nI k)), (0, .ref sm), (1, .int x)] → W p l e ({ frames := 0, cells := 0, slots := 0, locals := 0 } : Room) s m #[.ref sm, .int x] below meth c H locs 0 0 Q (F0 m 2 ls []) := by
    intro n
    induction n with
    | zero => intro k hk hkN hmu; exact absurd hmu (Nat.not_lt_zero _)
    | succ n ih2 =>
      intro k hk hkN hmu2 H locs ls hP hD hS hl
      refine lv_iload_n hx hb dX6_findAtom_2 rfl (lv_at hl 0 rfl) ?_
      refine lv_aload_n hx hb dX6_findAtom_3 rfl (lv_at hl 1 rfl) ?_
      refine va_get (D := (dC, dI)) (ci := 8) (v := .int (nI nA)) (C := RX6) (T := TX6) (N := 7) hx hb hwA in_wsX60 hown hK hP 0 rfl rfl 4 (by decide) (hwA (.fieldLink RX6 23 "Congruary$Statements" "atoms" "I") (in_wA_7 _ (List.mem_of_getElem? (i := 19) rfl))) (fun _ h9 => h9) rfl dX6_findAtom_4 ?_
      refine lv_icmp_ge (tgt := 28) hx hb dX6_findAtom_7 (by decide) (fun c_1 => ?_) (fun c_1 => ?_)
      · have c_1' : nA ≤ k := (nI_leI (a := nA) (b := k) (by omega) (by omega)).mp c_1
        refine lv_iconst (v := (-1)) hx hb dX6_findAtom_28 (by decide) ?_
        subst hQ
        have hP9 := hP.sub (ws' := [(sm, .inr (8, [.ref sf, .ref sl, .ref sk, .ref su, .int (nI nA), .int (nI nC), .int (nI nR)])), (sf, .inl (ysf, 24, .inl qf)), (sl, .inl (ysl, 42, .inl ql)), (sk, .inl (ysk, 4, .inl qk)), (su, .inl (ysu, 4, .inl qu))]) [0, 1, 2, 3, 4] rfl
        have hD9 := hD.sub (ws' := [(sm, .inr (8, [.ref sf, .ref sl, .ref sk, .ref su, .int (nI nA), .int (nI nC), .int (nI nR)])), (sf, .inl (ysf, 24, .inl qf)), (sl, .inl (ysl, 42, .inl ql)), (sk, .inl (ysk, 4, .inl qk)), (su, .inl (ysu, 4, .inl qu))]) [0, 1, 2, 3, 4] (by decide) rfl
        have hK9 := hK.sub (tys' := [(ysf, .int), (ysl, .int), (ysk, .char), (ysu, .int)]) [0, 1, 2, 3] rfl
        refine W.widen (k := 0) (n := 0) (by omega) (by omega) ?_
        exact W.iret (v := (-1)) hx hb hr (fun t ht hW => ⟨⟨(-1), (), rfl, (hk.trans (firstFrom_end (by omega))).symm, by rw [ht]; exact hP9, va_K.moved hW.alike hK9, hD9⟩, hS.F ht⟩) hS.2.2 dX6_findAtom_29
      · have c_1' : ¬ (nA ≤ k) := fun h => c_1 ((nI_leI (a := nA) (b := k) (by omega) (by omega)).mpr h)
        refine lv_aload_n hx hb dX6_findAtom_10 rfl (lv_at hl 1 rfl) ?_
        refine va_get (D := (dC, dI)) (ci := 8) (v := .ref sf) (C := RX6) (T := TX6) (N := 7) hx hb hwA in_wsX60 hown hK hP 0 rfl rfl 0 (by decide) (hwA (.fieldLink RX6 9 "Congruary$Statements" "atomFacts" "[I") (in_wA_1 _ (List.mem_of_getElem? (i := 14) rfl))) (fun _ h9 => h9) rfl dX6_findAtom_11 ?_
        refine lv_iload_n hx hb dX6_findAtom_14 rfl (lv_at hl 0 rfl) ?_
        refine va_iald hx hb hK hP 1 0 rfl rfl (vp_in_nI (n := k) (by omega) (by omega)) dX6_findAtom_15 ?_
        rw [show (nI k).toNatClampNeg = k from nI_clamp (by omega)]
        refine lv_iload_n hx hb dX6_findAtom_16 rfl (lv_at hl 2 rfl) ?_
        refine lv_icmp_ne (tgt := 22) hx hb dX6_findAtom_17 (by decide) (fun c_2 => ?_) (fun c_2 => ?_)
        · refine lv_iinc (v := nI (k + 1)) (lv' := [(2, .int (nI (k + 1))), (0, .ref sm), (1, .int x)]) hx hb dX6_findAtom_22 hl (k := 0) rfl (by exact nI_add k 1) (by decide) rfl (fun ls hl => ?_)
          refine lv_goto (tgt := 2) hx hb dX6_findAtom_25 (by decide) ?_
          exact ih2 (k + 1) (hk.trans (firstFrom_miss (by omega) (decide_eq_false c_2))) (by omega) (by omega) _ _ _ (hP.sub [0, 1, 2, 3, 4] rfl) (hD.sub [0, 1, 2, 3, 4] (by decide) rfl) hS (lv_sub hl [0, 1, 2] rfl)
        · refine lv_iload_n hx hb dX6_findAtom_20 rfl (lv_at hl 0 rfl) ?_
          subst hQ
          have hP9 := hP.sub (ws' := [(sm, .inr (8, [.ref sf, .ref sl, .ref sk, .ref su, .int (nI nA), .int (nI nC), .int (nI nR)])), (sf, .inl (ysf, 24, .inl qf)), (sl, .inl (ysl, 42, .inl ql)), (sk, .inl (ysk, 4, .inl qk)), (su, .inl (ysu, 4, .inl qu))]) [0, 1, 2, 3, 4] rfl
          have hD9 := hD.sub (ws' := [(sm, .inr (8, [.ref sf, .ref sl, .ref sk, .ref su, .int (nI nA), .int (nI nC), .int (nI nR)])), (sf, .inl (ysf, 24, .inl qf)), (sl, .inl (ysl, 42, .inl ql)), (sk, .inl (ysk, 4, .inl qk)), (su, .inl (ysu, 4, .inl qu))]) [0, 1, 2, 3, 4] (by decide) rfl
          have hK9 := hK.sub (tys' := [(ysf, .int), (ysl, .int), (ysk, .char), (ysu, .int)]) [0, 1, 2, 3] rfl
          refine W.widen (k := 0) (n := 0) (by omega) (by omega) ?_
          exact W.iret (v := nI k) hx hb hr (fun t ht hW => ⟨⟨nI k, (), rfl, (hk.trans (firstFrom_hit (by omega) (decide_eq_true c_2))).symm, by rw [ht]; exact hP9, va_K.moved hW.alike hK9, hD9⟩, hS.F ht⟩) hS.2.2 dX6_findAtom_21
  exact loop2 _ 0 rfl (Nat.zero_le _) (Nat.lt_succ_self _) _ _ _ hP hD hS (lv_sub hl [0, 1, 2] rfl)

set_option maxHeartbeats 4000000 in
set_option maxRecDepth 100000 in
theorem c_X6_addAtom (l : Launch) (dC : Nat → ClassId) (dI : Nat → Nat → Nat) (sm sf sl sk su : Nat) (ysf ysl ysk ysu : ClassId) (sz : Nat) (qf : Nat → Int32) (ql : Nat → Int32) (qk : Nat → Int32) (qu : Nat → Int32) (nA : Nat) (nC : Nat) (nR : Nat) (x : Int32) (hA24 : nA < 24) : Met l yX6_addAtom (.code yX6_addAtom cX6_addAtom 2 (some .int) :: wAll) ({ frames := 0, cells := 0, slots := 0, locals := 0 }) (va_Pc [.ref sm, .int x] (fun U => U.heap.size = sz ∧ va_P (dC, dI) vwCl [(sm, .inr (8, [.ref sf, .ref sl, .ref sk, .ref su, .int (nI nA), .int (nI nC), .int (nI nR)])), (sf, .inl (ysf, 24, .inl qf)), (sl, .inl (ysl, 42, .inl ql)), (sk, .inl (ysk, 4, .inl qk)), (su, .inl (ysu, 4, .inl qu))] U.heap ∧ va_K (dC, dI) vwCl [(ysf, .int), (ysl, .int), (ysk, .char), (ysu, .int)] U ∧ va_D (fun _ => True) [(sm, .inr (8, [.ref sf, .ref sl, .ref sk, .ref su, .int (nI nA), .int (nI nC), .int (nI nR)])), (sf, .inl (ysf, 24, .inl qf)), (sl, .inl (ysl, 42, .inl ql)), (sk, .inl (ysk, 4, .inl qk)), (su, .inl (ysu, 4, .inl qu))])) (va_Qi (fun (r : Int32) (_ : Unit) => r = nI nA) (fun (_ : Unit) (t : State) => va_P (dC, dI) vwCl [(sm, .inr (8, [.ref sf, .ref sl, .ref sk, .ref su, .int (nI (nA + 1)), .int (nI nC), .int (nI nR)])), (sf, .inl (ysf, 24, .inl (upd qf nA x))), (sl, .inl (ysl, 42, .inl ql)), (sk, .inl (ysk, 4, .inl qk)), (su, .inl (ysu, 4, .inl qu))] t.heap ∧ va_K (dC, dI) vwCl [(ysf, .int), (ysl, .int), (ysk, .char), (ysu, .int)] t ∧ va_D (va_A [(sm, .inr (8, [.ref sf, .ref sl, .ref sk, .ref su, .int (nI nA), .int (nI nC), .int (nI nR)])), (sf, .inl (ysf, 24, .inl qf)), (sl, .inl (ysl, 42, .inl ql)), (sk, .inl (ysk, 4, .inl qk)), (su, .inl (ysu, 4, .inl qu))] sz) [(sm, .inr (8, [.ref sf, .ref sl, .ref sk, .ref su, .int (nI (nA + 1)), .int (nI nC), .int (nI nR)])), (sf, .inl (ysf, 24, .inl (upd qf nA x))), (sl, .inl (ysl, 42, .inl ql)), (sk, .inl (ysk, 4, .inl qk)), (su, .inl (ysu, 4, .inl qu))]) (va_A [(sm, .inr (8, [.ref sf, .ref sl, .ref sk, .ref su, .int (nI nA), .int (nI nC), .int (nI nR)])), (sf, .inl (ysf, 24, .inl qf)), (sl, .inl (ysl, 42, .inl ql)), (sk, .inl (ysk, 4, .inl qk)), (su, .inl (ysu, 4, .inl qu))] sz)) 0 0 (va_A [(sm, .inr (8, [.ref sf, .ref sl, .ref sk, .ref su, .int (nI nA), .int (nI nC), .int (nI nR)])), (sf, .inl (ysf, 24, .inl qf)), (sl, .inl (ysl, 42, .inl ql)), (sk, .inl (ysk, 4, .inl qk)), (su, .inl (ysu, 4, .inl qu))] sz) := by
  refine Met.ofW (cc := cX6_addAtom) (maxL := 2) (ret := (some .int)) (by decide) rfl ?_
  intro p e s m args below meth c s₁ B hml hv
  obtain ⟨rfl, hsz, hP, hK, hD0⟩ := hv
  have hx := B.exec
  have hb := B.bytes
  have hr := B.returns
  have hts := atoms_spec (ws := .code yX6_addAtom cX6_addAtom 2 (some .int) :: wAll) B.pre
  have hwA := fun w (h : w ∈ wAll) => hts w (List.mem_cons_of_mem _ h)
  have hown : s.vm.findClass RX6 = some m.cls := findClass_of_methodNamed B.named
  have hlocks := B.notSynchronized
  subst hsz
  have hD := hD0.self (sz := s.heap.size)
  generalize hAe : va_A [(sm, .inr (8, [.ref sf, .ref sl, .ref sk, .ref su, .int (nI nA), .int (nI nC), .int (nI nR)])), (sf, .inl (ysf, 24, .inl qf)), (sl, .inl (ysl, 42, .inl ql)), (sk, .inl (ysk, 4, .inl qk)), (su, .inl (ysu, 4, .inl qu))] s.heap.size = A at hD ⊢
  have hA : ∀ q : Nat, s.heap.size ≤ q → A q := fun q h => by rw [← hAe]; exact Or.inr h
  have hS : va_S A s.heap s.heap [] := va_S.rf
  have hP : va_P (dC, dI) vwCl [(sm, .inr (8, [.ref sf, .ref sl, .ref sk, .ref su, .int (nI nA), .int (nI nC), .int (nI nR)])), (sf, .inl (ysf, 24, .inl qf)), (sl, .inl (ysl, 42, .inl ql)), (sk, .inl (ysk, 4, .inl qk)), (su, .inl (ysu, 4, .inl qu))] s.heap := hP
  have hl := lv_entry ([.ref sm, .int x]) (n := 2) (Nat.le_of_ble_eq_true rfl)
  rw [lg_entry_eq]
  generalize (lg_sl ([.ref sm, .int x]) ++ List.replicate (2 - (lg_sl ([.ref sm, .int x])).length) Slot.unset).toArray = ls at hl ⊢
  have hl : lv_has ls 2 [(0, .ref sm), (1, .int x)] := hl
  refine lv_aload_n hx hb dX6_addAtom_0 rfl (lv_at hl 0 rfl) ?_
  refine va_get (D := (dC, dI)) (ci := 8) (v := .ref sf) (C := RX6) (T := TX6) (N := 7) hx hb hwA in_wsX60 hown hK hP 0 rfl rfl 0 (by decide) (hwA (.fieldLink RX6 9 "Congruary$Statements" "atomFacts" "[I") (in_wA_1 _ (List.mem_of_getElem? (i := 14) rfl))) (fun _ h9 => h9) rfl dX6_addAtom_1 ?_
  refine lv_aload_n hx hb dX6_addAtom_4 rfl (lv_at hl 0 rfl) ?_
  refine va_get (D := (dC, dI)) (ci := 8) (v := .int (nI nA)) (C := RX6) (T := TX6) (N := 7) hx hb hwA in_wsX60 hown hK hP 0 rfl rfl 4 (by decide) (hwA (.fieldLink RX6 23 "Congruary$Statements" "atoms" "I") (in_wA_7 _ (List.mem_of_getElem? (i := 19) rfl))) (fun _ h9 => h9) rfl dX6_addAtom_5 ?_
  refine lv_iload_n hx hb dX6_addAtom_8 rfl (lv_at hl 1 rfl) ?_
  refine va_iast hx hb hK hP hD hS 1 0 rfl rfl (vp_in_nI (n := nA) (by omega) (by omega)) dX6_addAtom_9 (fun H locs hP hD hS => ?_)
  rw [show (nI nA).toNatClampNeg = nA from nI_clamp (by omega)] at hP hD
  have hP : va_P (dC, dI) vwCl [(sm, .inr (8, [.ref sf, .ref sl, .ref sk, .ref su, .int (nI nA), .int (nI nC), .int (nI nR)])), (sf, .inl (ysf, 24, .inl (upd qf nA x))), (sl, .inl (ysl, 42, .inl ql)), (sk, .inl (ysk, 4, .inl qk)), (su, .inl (ysu, 4, .inl qu))] H := hP
  have hD : va_D A [(sm, .inr (8, [.ref sf, .ref sl, .ref sk, .ref su, .int (nI nA), .int (nI nC), .int (nI nR)])), (sf, .inl (ysf, 24, .inl (upd qf nA x))), (sl, .inl (ysl, 42, .inl ql)), (sk, .inl (ysk, 4, .inl qk)), (su, .inl (ysu, 4, .inl qu))] := hD
  refine lv_aload_n hx hb dX6_addAtom_10 rfl (lv_at hl 0 rfl) ?_
  refine lv_dup hx hb dX6_addAtom_11 rfl ?_
  refine va_get (D := (dC, dI)) (ci := 8) (v := .int (nI nA)) (C := RX6) (T := TX6) (N := 7) hx hb hwA in_wsX60 hown hK hP 0 rfl rfl 4 (by decide) (hwA (.fieldLink RX6 23 "Congruary$Statements" "atoms" "I") (in_wA_7 _ (List.mem_of_getElem? (i := 19) rfl))) (fun _ h9 => h9) rfl dX6_addAtom_12 ?_
  refine lv_iconst (v := 1) hx hb dX6_addAtom_15 (by decide) ?_
  refine lv_iadd hx hb dX6_addAtom_16 ?_
  rw [show (nI nA) + (1 : Int32) = nI (nA + 1) from nI_add nA 1]
  refine va_put (D := (dC, dI)) (ci := 8) (v := .int (nI (nA + 1))) (ty := .int) (C := RX6) (T := TX6) (N := 7) hx hb hwA in_wsX60 tyX6 tyX6_ok nmX6 hown hK hP hD hS 0 rfl rfl 4 (by decide) (hwA (.fieldLink RX6 23 "Congruary$Statements" "atoms" "I") (in_wA_7 _ (List.mem_of_getElem? (i := 19) rfl))) (fun _ h9 => h9) rfl (by decide +kernel) rfl rfl (Nat.le_of_ble_eq_true rfl) dX6_addAtom_17 (fun H locs hP hD hS => ?_)
  have hP : va_P (dC, dI) vwCl [(sm, .inr (8, [.ref sf, .ref sl, .ref sk, .ref su, .int (nI (nA + 1)), .int (nI nC), .int (nI nR)])), (sf, .inl (ysf, 24, .inl (upd qf nA x))), (sl, .inl (ysl, 42, .inl ql)), (sk, .inl (ysk, 4, .inl qk)), (su, .inl (ysu, 4, .inl qu))] H := hP
  have hD : va_D A [(sm, .inr (8, [.ref sf, .ref sl, .ref sk, .ref su, .int (nI (nA + 1)), .int (nI nC), .int (nI nR)])), (sf, .inl (ysf, 24, .inl (upd qf nA x))), (sl, .inl (ysl, 42, .inl ql)), (sk, .inl (ysk, 4, .inl qk)), (su, .inl (ysu, 4, .inl qu))] := hD
  refine lv_aload_n hx hb dX6_addAtom_20 rfl (lv_at hl 0 rfl) ?_
  refine va_get (D := (dC, dI)) (ci := 8) (v := .int (nI (nA + 1))) (C := RX6) (T := TX6) (N := 7) hx hb hwA in_wsX60 hown hK hP 0 rfl rfl 4 (by decide) (hwA (.fieldLink RX6 23 "Congruary$Statements" "atoms" "I") (in_wA_7 _ (List.mem_of_getElem? (i := 19) rfl))) (fun _ h9 => h9) rfl dX6_addAtom_21 ?_
  refine lv_iconst (v := 1) hx hb dX6_addAtom_24 (by decide) ?_
  refine lv_isub hx hb dX6_addAtom_25 ?_
  rw [show (nI (nA + 1)) - (1 : Int32) = nI nA from nI_pred nA]
  have hP9 := hP.sub (ws' := [(sm, .inr (8, [.ref sf, .ref sl, .ref sk, .ref su, .int (nI (nA + 1)), .int (nI nC), .int (nI nR)])), (sf, .inl (ysf, 24, .inl (upd qf nA x))), (sl, .inl (ysl, 42, .inl ql)), (sk, .inl (ysk, 4, .inl qk)), (su, .inl (ysu, 4, .inl qu))]) [0, 1, 2, 3, 4] rfl
  have hD9 := hD.sub (ws' := [(sm, .inr (8, [.ref sf, .ref sl, .ref sk, .ref su, .int (nI (nA + 1)), .int (nI nC), .int (nI nR)])), (sf, .inl (ysf, 24, .inl (upd qf nA x))), (sl, .inl (ysl, 42, .inl ql)), (sk, .inl (ysk, 4, .inl qk)), (su, .inl (ysu, 4, .inl qu))]) [0, 1, 2, 3, 4] (by decide) rfl
  have hK9 := hK.sub (tys' := [(ysf, .int), (ysl, .int), (ysk, .char), (ysu, .int)]) [0, 1, 2, 3] rfl
  refine W.widen (k := 0) (n := 0) (by omega) (by omega) ?_
  exact W.iret (v := nI nA) hx hb hr (fun t ht hW => ⟨⟨nI nA, (), rfl, rfl, by rw [ht]; exact hP9, va_K.moved hW.alike hK9, hD9⟩, hS.F ht⟩) hS.2.2 dX6_addAtom_26

set_option maxHeartbeats 4000000 in
set_option maxRecDepth 100000 in
theorem c_X6_addRule (l : Launch) (dC : Nat → ClassId) (dI : Nat → Nat → Nat) (sm sf sl sk su : Nat) (ysf ysl ysk ysu : ClassId) (sz : Nat) (qf : Nat → Int32) (ql : Nat → Int32) (qk : Nat → Int32) (qu : Nat → Int32) (nA : Nat) (nC : Nat) (nR : Nat) (kd : Int32) (fn : Int32) (hR4 : nR < 4) : Met l yX6_addRule (.code yX6_addRule cX6_addRule 3 (some .int) :: wAll) ({ frames := 0, cells := 0, slots := 0, locals := 0 }) (va_Pc [.ref sm, .int kd, .int fn] (fun U => U.heap.size = sz ∧ va_P (dC, dI) vwCl [(sm, .inr (8, [.ref sf, .ref sl, .ref sk, .ref su, .int (nI nA), .int (nI nC), .int (nI nR)])), (sf, .inl (ysf, 24, .inl qf)), (sl, .inl (ysl, 42, .inl ql)), (sk, .inl (ysk, 4, .inl qk)), (su, .inl (ysu, 4, .inl qu))] U.heap ∧ va_K (dC, dI) vwCl [(ysf, .int), (ysl, .int), (ysk, .char), (ysu, .int)] U ∧ va_D (fun _ => True) [(sm, .inr (8, [.ref sf, .ref sl, .ref sk, .ref su, .int (nI nA), .int (nI nC), .int (nI nR)])), (sf, .inl (ysf, 24, .inl qf)), (sl, .inl (ysl, 42, .inl ql)), (sk, .inl (ysk, 4, .inl qk)), (su, .inl (ysu, 4, .inl qu))])) (va_Qi (fun (r : Int32) (_ : Unit) => r = nI (nR + 1)) (fun (_ : Unit) (t : State) => va_P (dC, dI) vwCl [(sm, .inr (8, [.ref sf, .ref sl, .ref sk, .ref su, .int (nI nA), .int (nI nC), .int (nI (nR + 1))])), (sf, .inl (ysf, 24, .inl qf)), (sl, .inl (ysl, 42, .inl ql)), (sk, .inl (ysk, 4, .inl (upd qk nR (vp_nar .char kd)))), (su, .inl (ysu, 4, .inl (upd qu nR fn)))] t.heap ∧ va_K (dC, dI) vwCl [(ysf, .int), (ysl, .int), (ysk, .char), (ysu, .int)] t ∧ va_D (va_A [(sm, .inr (8, [.ref sf, .ref sl, .ref sk, .ref su, .int (nI nA), .int (nI nC), .int (nI nR)])), (sf, .inl (ysf, 24, .inl qf)), (sl, .inl (ysl, 42, .inl ql)), (sk, .inl (ysk, 4, .inl qk)), (su, .inl (ysu, 4, .inl qu))] sz) [(sm, .inr (8, [.ref sf, .ref sl, .ref sk, .ref su, .int (nI nA), .int (nI nC), .int (nI (nR + 1))])), (sf, .inl (ysf, 24, .inl qf)), (sl, .inl (ysl, 42, .inl ql)), (sk, .inl (ysk, 4, .inl (upd qk nR (vp_nar .char kd)))), (su, .inl (ysu, 4, .inl (upd qu nR fn)))]) (va_A [(sm, .inr (8, [.ref sf, .ref sl, .ref sk, .ref su, .int (nI nA), .int (nI nC), .int (nI nR)])), (sf, .inl (ysf, 24, .inl qf)), (sl, .inl (ysl, 42, .inl ql)), (sk, .inl (ysk, 4, .inl qk)), (su, .inl (ysu, 4, .inl qu))] sz)) 0 0 (va_A [(sm, .inr (8, [.ref sf, .ref sl, .ref sk, .ref su, .int (nI nA), .int (nI nC), .int (nI nR)])), (sf, .inl (ysf, 24, .inl qf)), (sl, .inl (ysl, 42, .inl ql)), (sk, .inl (ysk, 4, .inl qk)), (su, .inl (ysu, 4, .inl qu))] sz) := by
  refine Met.ofW (cc := cX6_addRule) (maxL := 3) (ret := (some .int)) (by decide) rfl ?_
  intro p e s m args below meth c s₁ B hml hv
  obtain ⟨rfl, hsz, hP, hK, hD0⟩ := hv
  have hx := B.exec
  have hb := B.bytes
  have hr := B.returns
  have hts := atoms_spec (ws := .code yX6_addRule cX6_addRule 3 (some .int) :: wAll) B.pre
  have hwA := fun w (h : w ∈ wAll) => hts w (List.mem_cons_of_mem _ h)
  have hown : s.vm.findClass RX6 = some m.cls := findClass_of_methodNamed B.named
  have hlocks := B.notSynchronized
  subst hsz
  have hD := hD0.self (sz := s.heap.size)
  generalize hAe : va_A [(sm, .inr (8, [.ref sf, .ref sl, .ref sk, .ref su, .int (nI nA), .int (nI nC), .int (nI nR)])), (sf, .inl (ysf, 24, .inl qf)), (sl, .inl (ysl, 42, .inl ql)), (sk, .inl (ysk, 4, .inl qk)), (su, .inl (ysu, 4, .inl qu))] s.heap.size = A at hD ⊢
  have hA : ∀ q : Nat, s.heap.size ≤ q → A q := fun q h => by rw [← hAe]; exact Or.inr h
  have hS : va_S A s.heap s.heap [] := va_S.rf
  have hP : va_P (dC, dI) vwCl [(sm, .inr (8, [.ref sf, .ref sl, .ref sk, .ref su, .int (nI nA), .int (nI nC), .int (nI nR)])), (sf, .inl (ysf, 24, .inl qf)), (sl, .inl (ysl, 42, .inl ql)), (sk, .inl (ysk, 4, .inl qk)), (su, .inl (ysu, 4, .inl qu))] s.heap := hP
  have hl := lv_entry ([.ref sm, .int kd, .int fn]) (n := 3) (Nat.le_of_ble_eq_true rfl)
  rw [lg_entry_eq]
  generalize (lg_sl ([.ref sm, .int kd, .int fn]) ++ List.replicate (3 - (lg_sl ([.ref sm, .int kd, .int fn])).length) Slot.unset).toArray = ls at hl ⊢
  have hl : lv_has ls 3 [(0, .ref sm), (1, .int kd), (2, .int fn)] := hl
  refine lv_aload_n hx hb dX6_addRule_0 rfl (lv_at hl 0 rfl) ?_
  refine va_get (D := (dC, dI)) (ci := 8) (v := .ref sk) (C := RX6) (T := TX6) (N := 7) hx hb hwA in_wsX60 hown hK hP 0 rfl rfl 2 (by decide) (hwA (.fieldLink RX6 16 "Congruary$Statements" "ruleKinds" "[C") (in_wA_7 _ (List.mem_of_getElem? (i := 16) rfl))) (fun _ h9 => h9) rfl dX6_addRule_1 ?_
  refine lv_aload_n hx hb dX6_addRule_4 rfl (lv_at hl 0 rfl) ?_
  refine va_get (D := (dC, dI)) (ci := 8) (v := .int (nI nR)) (C := RX6) (T := TX6) (N := 7) hx hb hwA in_wsX60 hown hK hP 0 rfl rfl 6 (by decide) (hwA (.fieldLink RX6 30 "Congruary$Statements" "rules" "I") (in_wA_7 _ (List.mem_of_getElem? (i := 22) rfl))) (fun _ h9 => h9) rfl dX6_addRule_5 ?_
  refine lv_iload_n hx hb dX6_addRule_8 rfl (lv_at hl 1 rfl) ?_
  refine va_cast hx hb hK hP hD hS 3 2 rfl rfl (vp_in_nI (n := nR) (by omega) (by omega)) dX6_addRule_9 (fun H locs hP hD hS => ?_)
  rw [show (nI nR).toNatClampNeg = nR from nI_clamp (by omega)] at hP hD
  have hP : va_P (dC, dI) vwCl [(sm, .inr (8, [.ref sf, .ref sl, .ref sk, .ref su, .int (nI nA), .int (nI nC), .int (nI nR)])), (sf, .inl (ysf, 24, .inl qf)), (sl, .inl (ysl, 42, .inl ql)), (sk, .inl (ysk, 4, .inl (upd qk nR (vp_nar .char kd)))), (su, .inl (ysu, 4, .inl qu))] H := hP
  have hD : va_D A [(sm, .inr (8, [.ref sf, .ref sl, .ref sk, .ref su, .int (nI nA), .int (nI nC), .int (nI nR)])), (sf, .inl (ysf, 24, .inl qf)), (sl, .inl (ysl, 42, .inl ql)), (sk, .inl (ysk, 4, .inl (upd qk nR (vp_nar .char kd)))), (su, .inl (ysu, 4, .inl qu))] := hD
  refine lv_aload_n hx hb dX6_addRule_10 rfl (lv_at hl 0 rfl) ?_
  refine va_get (D := (dC, dI)) (ci := 8) (v := .ref su) (C := RX6) (T := TX6) (N := 7) hx hb hwA in_wsX60 hown hK hP 0 rfl rfl 3 (by decide) (hwA (.fieldLink RX6 20 "Congruary$Statements" "ruleFunctions" "[I") (in_wA_7 _ (List.mem_of_getElem? (i := 17) rfl))) (fun _ h9 => h9) rfl dX6_addRule_11 ?_
  refine lv_aload_n hx hb dX6_addRule_14 rfl (lv_at hl 0 rfl) ?_
  refine va_get (D := (dC, dI)) (ci := 8) (v := .int (nI nR)) (C := RX6) (T := TX6) (N := 7) hx hb hwA in_wsX60 hown hK hP 0 rfl rfl 6 (by decide) (hwA (.fieldLink RX6 30 "Congruary$Statements" "rules" "I") (in_wA_7 _ (List.mem_of_getElem? (i := 22) rfl))) (fun _ h9 => h9) rfl dX6_addRule_15 ?_
  refine lv_iload_n hx hb dX6_addRule_18 rfl (lv_at hl 2 rfl) ?_
  refine va_iast hx hb hK hP hD hS 4 3 rfl rfl (vp_in_nI (n := nR) (by omega) (by omega)) dX6_addRule_19 (fun H locs hP hD hS => ?_)
  rw [show (nI nR).toNatClampNeg = nR from nI_clamp (by omega)] at hP hD
  have hP : va_P (dC, dI) vwCl [(sm, .inr (8, [.ref sf, .ref sl, .ref sk, .ref su, .int (nI nA), .int (nI nC), .int (nI nR)])), (sf, .inl (ysf, 24, .inl qf)), (sl, .inl (ysl, 42, .inl ql)), (sk, .inl (ysk, 4, .inl (upd qk nR (vp_nar .char kd)))), (su, .inl (ysu, 4, .inl (upd qu nR fn)))] H := hP
  have hD : va_D A [(sm, .inr (8, [.ref sf, .ref sl, .ref sk, .ref su, .int (nI nA), .int (nI nC), .int (nI nR)])), (sf, .inl (ysf, 24, .inl qf)), (sl, .inl (ysl, 42, .inl ql)), (sk, .inl (ysk, 4, .inl (upd qk nR (vp_nar .char kd)))), (su, .inl (ysu, 4, .inl (upd qu nR fn)))] := hD
  refine lv_aload_n hx hb dX6_addRule_20 rfl (lv_at hl 0 rfl) ?_
  refine lv_dup hx hb dX6_addRule_21 rfl ?_
  refine va_get (D := (dC, dI)) (ci := 8) (v := .int (nI nR)) (C := RX6) (T := TX6) (N := 7) hx hb hwA in_wsX60 hown hK hP 0 rfl rfl 6 (by decide) (hwA (.fieldLink RX6 30 "Congruary$Statements" "rules" "I") (in_wA_7 _ (List.mem_of_getElem? (i := 22) rfl))) (fun _ h9 => h9) rfl dX6_addRule_22 ?_
  refine lv_iconst (v := 1) hx hb dX6_addRule_25 (by decide) ?_
  refine lv_iadd hx hb dX6_addRule_26 ?_
  rw [show (nI nR) + (1 : Int32) = nI (nR + 1) from nI_add nR 1]
  refine va_put (D := (dC, dI)) (ci := 8) (v := .int (nI (nR + 1))) (ty := .int) (C := RX6) (T := TX6) (N := 7) hx hb hwA in_wsX60 tyX6 tyX6_ok nmX6 hown hK hP hD hS 0 rfl rfl 6 (by decide) (hwA (.fieldLink RX6 30 "Congruary$Statements" "rules" "I") (in_wA_7 _ (List.mem_of_getElem? (i := 22) rfl))) (fun _ h9 => h9) rfl (by decide +kernel) rfl rfl (Nat.le_of_ble_eq_true rfl) dX6_addRule_27 (fun H locs hP hD hS => ?_)
  have hP : va_P (dC, dI) vwCl [(sm, .inr (8, [.ref sf, .ref sl, .ref sk, .ref su, .int (nI nA), .int (nI nC), .int (nI (nR + 1))])), (sf, .inl (ysf, 24, .inl qf)), (sl, .inl (ysl, 42, .inl ql)), (sk, .inl (ysk, 4, .inl (upd qk nR (vp_nar .char kd)))), (su, .inl (ysu, 4, .inl (upd qu nR fn)))] H := hP
  have hD : va_D A [(sm, .inr (8, [.ref sf, .ref sl, .ref sk, .ref su, .int (nI nA), .int (nI nC), .int (nI (nR + 1))])), (sf, .inl (ysf, 24, .inl qf)), (sl, .inl (ysl, 42, .inl ql)), (sk, .inl (ysk, 4, .inl (upd qk nR (vp_nar .char kd)))), (su, .inl (ysu, 4, .inl (upd qu nR fn)))] := hD
  refine lv_aload_n hx hb dX6_addRule_30 rfl (lv_at hl 0 rfl) ?_
  refine va_get (D := (dC, dI)) (ci := 8) (v := .int (nI (nR + 1))) (C := RX6) (T := TX6) (N := 7) hx hb hwA in_wsX60 hown hK hP 0 rfl rfl 6 (by decide) (hwA (.fieldLink RX6 30 "Congruary$Statements" "rules" "I") (in_wA_7 _ (List.mem_of_getElem? (i := 22) rfl))) (fun _ h9 => h9) rfl dX6_addRule_31 ?_
  have hP9 := hP.sub (ws' := [(sm, .inr (8, [.ref sf, .ref sl, .ref sk, .ref su, .int (nI nA), .int (nI nC), .int (nI (nR + 1))])), (sf, .inl (ysf, 24, .inl qf)), (sl, .inl (ysl, 42, .inl ql)), (sk, .inl (ysk, 4, .inl (upd qk nR (vp_nar .char kd)))), (su, .inl (ysu, 4, .inl (upd qu nR fn)))]) [0, 1, 2, 3, 4] rfl
  have hD9 := hD.sub (ws' := [(sm, .inr (8, [.ref sf, .ref sl, .ref sk, .ref su, .int (nI nA), .int (nI nC), .int (nI (nR + 1))])), (sf, .inl (ysf, 24, .inl qf)), (sl, .inl (ysl, 42, .inl ql)), (sk, .inl (ysk, 4, .inl (upd qk nR (vp_nar .char kd)))), (su, .inl (ysu, 4, .inl (upd qu nR fn)))]) [0, 1, 2, 3, 4] (by decide) rfl
  have hK9 := hK.sub (tys' := [(ysf, .int), (ysl, .int), (ysk, .char), (ysu, .int)]) [0, 1, 2, 3] rfl
  refine W.widen (k := 0) (n := 0) (by omega) (by omega) ?_
  exact W.iret (v := nI (nR + 1)) hx hb hr (fun t ht hW => ⟨⟨nI (nR + 1), (), rfl, rfl, by rw [ht]; exact hP9, va_K.moved hW.alike hK9, hD9⟩, hS.F ht⟩) hS.2.2 dX6_addRule_34

set_option maxHeartbeats 4000000 in
set_option maxRecDepth 100000 in
theorem c_X6_addClause (l : Launch) (dC : Nat → ClassId) (dI : Nat → Nat → Nat) (sm sf sl sk su : Nat) (ysf ysl ysk ysu : ClassId) (sz : Nat) (qf : Nat → Int32) (ql : Nat → Int32) (qk : Nat → Int32) (qu : Nat → Int32) (nA : Nat) (nC : Nat) (nR : Nat) (l0 : Int32) (l1 : Int32) (l2 : Int32) (hC14 : nC < 14) : Met l yX6_addClause (.code yX6_addClause cX6_addClause 4 (some .int) :: wAll) ({ frames := 0, cells := 0, slots := 0, locals := 0 }) (va_Pc [.ref sm, .int l0, .int l1, .int l2] (fun U => U.heap.size = sz ∧ va_P (dC, dI) vwCl [(sm, .inr (8, [.ref sf, .ref sl, .ref sk, .ref su, .int (nI nA), .int (nI nC), .int (nI nR)])), (sf, .inl (ysf, 24, .inl qf)), (sl, .inl (ysl, 42, .inl ql)), (sk, .inl (ysk, 4, .inl qk)), (su, .inl (ysu, 4, .inl qu))] U.heap ∧ va_K (dC, dI) vwCl [(ysf, .int), (ysl, .int), (ysk, .char), (ysu, .int)] U ∧ va_D (fun _ => True) [(sm, .inr (8, [.ref sf, .ref sl, .ref sk, .ref su, .int (nI nA), .int (nI nC), .int (nI nR)])), (sf, .inl (ysf, 24, .inl qf)), (sl, .inl (ysl, 42, .inl ql)), (sk, .inl (ysk, 4, .inl qk)), (su, .inl (ysu, 4, .inl qu))])) (va_Qi (fun (r : Int32) (_ : Unit) => r = nI nC) (fun (_ : Unit) (t : State) => va_P (dC, dI) vwCl [(sm, .inr (8, [.ref sf, .ref sl, .ref sk, .ref su, .int (nI nA), .int (nI (nC + 1)), .int (nI nR)])), (sf, .inl (ysf, 24, .inl qf)), (sl, .inl (ysl, 42, .inl (upd (upd (upd ql (nC * 3) l0) (nC * 3 + 1) l1) (nC * 3 + 2) l2))), (sk, .inl (ysk, 4, .inl qk)), (su, .inl (ysu, 4, .inl qu))] t.heap ∧ va_K (dC, dI) vwCl [(ysf, .int), (ysl, .int), (ysk, .char), (ysu, .int)] t ∧ va_D (va_A [(sm, .inr (8, [.ref sf, .ref sl, .ref sk, .ref su, .int (nI nA), .int (nI nC), .int (nI nR)])), (sf, .inl (ysf, 24, .inl qf)), (sl, .inl (ysl, 42, .inl ql)), (sk, .inl (ysk, 4, .inl qk)), (su, .inl (ysu, 4, .inl qu))] sz) [(sm, .inr (8, [.ref sf, .ref sl, .ref sk, .ref su, .int (nI nA), .int (nI (nC + 1)), .int (nI nR)])), (sf, .inl (ysf, 24, .inl qf)), (sl, .inl (ysl, 42, .inl (upd (upd (upd ql (nC * 3) l0) (nC * 3 + 1) l1) (nC * 3 + 2) l2))), (sk, .inl (ysk, 4, .inl qk)), (su, .inl (ysu, 4, .inl qu))]) (va_A [(sm, .inr (8, [.ref sf, .ref sl, .ref sk, .ref su, .int (nI nA), .int (nI nC), .int (nI nR)])), (sf, .inl (ysf, 24, .inl qf)), (sl, .inl (ysl, 42, .inl ql)), (sk, .inl (ysk, 4, .inl qk)), (su, .inl (ysu, 4, .inl qu))] sz)) 0 0 (va_A [(sm, .inr (8, [.ref sf, .ref sl, .ref sk, .ref su, .int (nI nA), .int (nI nC), .int (nI nR)])), (sf, .inl (ysf, 24, .inl qf)), (sl, .inl (ysl, 42, .inl ql)), (sk, .inl (ysk, 4, .inl qk)), (su, .inl (ysu, 4, .inl qu))] sz) := by
  refine Met.ofW (cc := cX6_addClause) (maxL := 4) (ret := (some .int)) (by decide) rfl ?_
  intro p e s m args below meth c s₁ B hml hv
  obtain ⟨rfl, hsz, hP, hK, hD0⟩ := hv
  have hx := B.exec
  have hb := B.bytes
  have hr := B.returns
  have hts := atoms_spec (ws := .code yX6_addClause cX6_addClause 4 (some .int) :: wAll) B.pre
  have hwA := fun w (h : w ∈ wAll) => hts w (List.mem_cons_of_mem _ h)
  have hown : s.vm.findClass RX6 = some m.cls := findClass_of_methodNamed B.named
  have hlocks := B.notSynchronized
  subst hsz
  have hD := hD0.self (sz := s.heap.size)
  generalize hAe : va_A [(sm, .inr (8, [.ref sf, .ref sl, .ref sk, .ref su, .int (nI nA), .int (nI nC), .int (nI nR)])), (sf, .inl (ysf, 24, .inl qf)), (sl, .inl (ysl, 42, .inl ql)), (sk, .inl (ysk, 4, .inl qk)), (su, .inl (ysu, 4, .inl qu))] s.heap.size = A at hD ⊢
  have hA : ∀ q : Nat, s.heap.size ≤ q → A q := fun q h => by rw [← hAe]; exact Or.inr h
  have hS : va_S A s.heap s.heap [] := va_S.rf
  have hP : va_P (dC, dI) vwCl [(sm, .inr (8, [.ref sf, .ref sl, .ref sk, .ref su, .int (nI nA), .int (nI nC), .int (nI nR)])), (sf, .inl (ysf, 24, .inl qf)), (sl, .inl (ysl, 42, .inl ql)), (sk, .inl (ysk, 4, .inl qk)), (su, .inl (ysu, 4, .inl qu))] s.heap := hP
  have hl := lv_entry ([.ref sm, .int l0, .int l1, .int l2]) (n := 4) (Nat.le_of_ble_eq_true rfl)
  rw [lg_entry_eq]
  generalize (lg_sl ([.ref sm, .int l0, .int l1, .int l2]) ++ List.replicate (4 - (lg_sl ([.ref sm, .int l0, .int l1, .int l2])).length) Slot.unset).toArray = ls at hl ⊢
  have hl : lv_has ls 4 [(0, .ref sm), (1, .int l0), (2, .int l1), (3, .int l2)] := hl
  refine lv_aload_n hx hb dX6_addClause_0 rfl (lv_at hl 0 rfl) ?_
  refine va_get (D := (dC, dI)) (ci := 8) (v := .ref sl) (C := RX6) (T := TX6) (N := 7) hx hb hwA in_wsX60 hown hK hP 0 rfl rfl 1 (by decide) (hwA (.fieldLink RX6 13 "Congruary$Statements" "literals" "[I") (in_wA_7 _ (List.mem_of_getElem? (i := 14) rfl))) (fun _ h9 => h9) rfl dX6_addClause_1 ?_
  refine lv_aload_n hx hb dX6_addClause_4 rfl (lv_at hl 0 rfl) ?_
  refine va_get (D := (dC, dI)) (ci := 8) (v := .int (nI nC)) (C := RX6) (T := TX6) (N := 7) hx hb hwA in_wsX60 hown hK hP 0 rfl rfl 5 (by decide) (hwA (.fieldLink RX6 27 "Congruary$Statements" "clauses" "I") (in_wA_2 _ (List.mem_of_getElem? (i := 52) rfl))) (fun _ h9 => h9) rfl dX6_addClause_5 ?_
  refine lv_iconst (v := 3) hx hb dX6_addClause_8 (by decide) ?_
  refine lv_imul hx hb dX6_addClause_9 ?_
  rw [show (nI nC) * (3 : Int32) = nI (nC * 3) from nI_times nC 3]
  refine lv_iload_n hx hb dX6_addClause_10 rfl (lv_at hl 1 rfl) ?_
  refine va_iast hx hb hK hP hD hS 2 1 rfl rfl (vp_in_nI (n := nC * 3) (by omega) (by omega)) dX6_addClause_11 (fun H locs hP hD hS => ?_)
  rw [show (nI (nC * 3)).toNatClampNeg = nC * 3 from nI_clamp (by omega)] at hP hD
  have hP : va_P (dC, dI) vwCl [(sm, .inr (8, [.ref sf, .ref sl, .ref sk, .ref su, .int (nI nA), .int (nI nC), .int (nI nR)])), (sf, .inl (ysf, 24, .inl qf)), (sl, .inl (ysl, 42, .inl (upd ql (nC * 3) l0))), (sk, .inl (ysk, 4, .inl qk)), (su, .inl (ysu, 4, .inl qu))] H := hP
  have hD : va_D A [(sm, .inr (8, [.ref sf, .ref sl, .ref sk, .ref su, .int (nI nA), .int (nI nC), .int (nI nR)])), (sf, .inl (ysf, 24, .inl qf)), (sl, .inl (ysl, 42, .inl (upd ql (nC * 3) l0))), (sk, .inl (ysk, 4, .inl qk)), (su, .inl (ysu, 4, .inl qu))] := hD
  refine lv_aload_n hx hb dX6_addClause_12 rfl (lv_at hl 0 rfl) ?_
  refine va_get (D := (dC, dI)) (ci := 8) (v := .ref sl) (C := RX6) (T := TX6) (N := 7) hx hb hwA in_wsX60 hown hK hP 0 rfl rfl 1 (by decide) (hwA (.fieldLink RX6 13 "Congruary$Statements" "literals" "[I") (in_wA_7 _ (List.mem_of_getElem? (i := 14) rfl))) (fun _ h9 => h9) rfl dX6_addClause_13 ?_
  refine lv_aload_n hx hb dX6_addClause_16 rfl (lv_at hl 0 rfl) ?_
  refine va_get (D := (dC, dI)) (ci := 8) (v := .int (nI nC)) (C := RX6) (T := TX6) (N := 7) hx hb hwA in_wsX60 hown hK hP 0 rfl rfl 5 (by decide) (hwA (.fieldLink RX6 27 "Congruary$Statements" "clauses" "I") (in_wA_2 _ (List.mem_of_getElem? (i := 52) rfl))) (fun _ h9 => h9) rfl dX6_addClause_17 ?_
  refine lv_iconst (v := 3) hx hb dX6_addClause_20 (by decide) ?_
  refine lv_imul hx hb dX6_addClause_21 ?_
  rw [show (nI nC) * (3 : Int32) = nI (nC * 3) from nI_times nC 3]
  refine lv_iconst (v := 1) hx hb dX6_addClause_22 (by decide) ?_
  refine lv_iadd hx hb dX6_addClause_23 ?_
  rw [show (nI (nC * 3)) + (1 : Int32) = nI (nC * 3 + 1) from nI_add (nC * 3) 1]
  refine lv_iload_n hx hb dX6_addClause_24 rfl (lv_at hl 2 rfl) ?_
  refine va_iast hx hb hK hP hD hS 2 1 rfl rfl (vp_in_nI (n := nC * 3 + 1) (by omega) (by omega)) dX6_addClause_25 (fun H locs hP hD hS => ?_)
  rw [show (nI (nC * 3 + 1)).toNatClampNeg = nC * 3 + 1 from nI_clamp (by omega)] at hP hD
  have hP : va_P (dC, dI) vwCl [(sm, .inr (8, [.ref sf, .ref sl, .ref sk, .ref su, .int (nI nA), .int (nI nC), .int (nI nR)])), (sf, .inl (ysf, 24, .inl qf)), (sl, .inl (ysl, 42, .inl (upd (upd ql (nC * 3) l0) (nC * 3 + 1) l1))), (sk, .inl (ysk, 4, .inl qk)), (su, .inl (ysu, 4, .inl qu))] H := hP
  have hD : va_D A [(sm, .inr (8, [.ref sf, .ref sl, .ref sk, .ref su, .int (nI nA), .int (nI nC), .int (nI nR)])), (sf, .inl (ysf, 24, .inl qf)), (sl, .inl (ysl, 42, .inl (upd (upd ql (nC * 3) l0) (nC * 3 + 1) l1))), (sk, .inl (ysk, 4, .inl qk)), (su, .inl (ysu, 4, .inl qu))] := hD
  refine lv_aload_n hx hb dX6_addClause_26 rfl (lv_at hl 0 rfl) ?_
  refine va_get (D := (dC, dI)) (ci := 8) (v := .ref sl) (C := RX6) (T := TX6) (N := 7) hx hb hwA in_wsX60 hown hK hP 0 rfl rfl 1 (by decide) (hwA (.fieldLink RX6 13 "Congruary$Statements" "literals" "[I") (in_wA_7 _ (List.mem_of_getElem? (i := 14) rfl))) (fun _ h9 => h9) rfl dX6_addClause_27 ?_
  refine lv_aload_n hx hb dX6_addClause_30 rfl (lv_at hl 0 rfl) ?_
  refine va_get (D := (dC, dI)) (ci := 8) (v := .int (nI nC)) (C := RX6) (T := TX6) (N := 7) hx hb hwA in_wsX60 hown hK hP 0 rfl rfl 5 (by decide) (hwA (.fieldLink RX6 27 "Congruary$Statements" "clauses" "I") (in_wA_2 _ (List.mem_of_getElem? (i := 52) rfl))) (fun _ h9 => h9) rfl dX6_addClause_31 ?_
  refine lv_iconst (v := 3) hx hb dX6_addClause_34 (by decide) ?_
  refine lv_imul hx hb dX6_addClause_35 ?_
  rw [show (nI nC) * (3 : Int32) = nI (nC * 3) from nI_times nC 3]
  refine lv_iconst (v := 2) hx hb dX6_addClause_36 (by decide) ?_
  refine lv_iadd hx hb dX6_addClause_37 ?_
  rw [show (nI (nC * 3)) + (2 : Int32) = nI (nC * 3 + 2) from nI_add (nC * 3) 2]
  refine lv_iload_n hx hb dX6_addClause_38 rfl (lv_at hl 3 rfl) ?_
  refine va_iast hx hb hK hP hD hS 2 1 rfl rfl (vp_in_nI (n := nC * 3 + 2) (by omega) (by omega)) dX6_addClause_39 (fun H locs hP hD hS => ?_)
  rw [show (nI (nC * 3 + 2)).toNatClampNeg = nC * 3 + 2 from nI_clamp (by omega)] at hP hD
  have hP : va_P (dC, dI) vwCl [(sm, .inr (8, [.ref sf, .ref sl, .ref sk, .ref su, .int (nI nA), .int (nI nC), .int (nI nR)])), (sf, .inl (ysf, 24, .inl qf)), (sl, .inl (ysl, 42, .inl (upd (upd (upd ql (nC * 3) l0) (nC * 3 + 1) l1) (nC * 3 + 2) l2))), (sk, .inl (ysk, 4, .inl qk)), (su, .inl (ysu, 4, .inl qu))] H := hP
  have hD : va_D A [(sm, .inr (8, [.ref sf, .ref sl, .ref sk, .ref su, .int (nI nA), .int (nI nC), .int (nI nR)])), (sf, .inl (ysf, 24, .inl qf)), (sl, .inl (ysl, 42, .inl (upd (upd (upd ql (nC * 3) l0) (nC * 3 + 1) l1) (nC * 3 + 2) l2))), (sk, .inl (ysk, 4, .inl qk)), (su, .inl (ysu, 4, .inl qu))] := hD
  refine lv_aload_n hx hb dX6_addClause_40 rfl (lv_at hl 0 rfl) ?_
  refine lv_dup hx hb dX6_addClause_41 rfl ?_
  refine va_get (D := (dC, dI)) (ci := 8) (v := .int (nI nC)) (C := RX6) (T := TX6) (N := 7) hx hb hwA in_wsX60 hown hK hP 0 rfl rfl 5 (by decide) (hwA (.fieldLink RX6 27 "Congruary$Statements" "clauses" "I") (in_wA_2 _ (List.mem_of_getElem? (i := 52) rfl))) (fun _ h9 => h9) rfl dX6_addClause_42 ?_
  refine lv_iconst (v := 1) hx hb dX6_addClause_45 (by decide) ?_
  refine lv_iadd hx hb dX6_addClause_46 ?_
  rw [show (nI nC) + (1 : Int32) = nI (nC + 1) from nI_add nC 1]
  refine va_put (D := (dC, dI)) (ci := 8) (v := .int (nI (nC + 1))) (ty := .int) (C := RX6) (T := TX6) (N := 7) hx hb hwA in_wsX60 tyX6 tyX6_ok nmX6 hown hK hP hD hS 0 rfl rfl 5 (by decide) (hwA (.fieldLink RX6 27 "Congruary$Statements" "clauses" "I") (in_wA_2 _ (List.mem_of_getElem? (i := 52) rfl))) (fun _ h9 => h9) rfl (by decide +kernel) rfl rfl (Nat.le_of_ble_eq_true rfl) dX6_addClause_47 (fun H locs hP hD hS => ?_)
  have hP : va_P (dC, dI) vwCl [(sm, .inr (8, [.ref sf, .ref sl, .ref sk, .ref su, .int (nI nA), .int (nI (nC + 1)), .int (nI nR)])), (sf, .inl (ysf, 24, .inl qf)), (sl, .inl (ysl, 42, .inl (upd (upd (upd ql (nC * 3) l0) (nC * 3 + 1) l1) (nC * 3 + 2) l2))), (sk, .inl (ysk, 4, .inl qk)), (su, .inl (ysu, 4, .inl qu))] H := hP
  have hD : va_D A [(sm, .inr (8, [.ref sf, .ref sl, .ref sk, .ref su, .int (nI nA), .int (nI (nC + 1)), .int (nI nR)])), (sf, .inl (ysf, 24, .inl qf)), (sl, .inl (ysl, 42, .inl (upd (upd (upd ql (nC * 3) l0) (nC * 3 + 1) l1) (nC * 3 + 2) l2))), (sk, .inl (ysk, 4, .inl qk)), (su, .inl (ysu, 4, .inl qu))] := hD
  refine lv_aload_n hx hb dX6_addClause_50 rfl (lv_at hl 0 rfl) ?_
  refine va_get (D := (dC, dI)) (ci := 8) (v := .int (nI (nC + 1))) (C := RX6) (T := TX6) (N := 7) hx hb hwA in_wsX60 hown hK hP 0 rfl rfl 5 (by decide) (hwA (.fieldLink RX6 27 "Congruary$Statements" "clauses" "I") (in_wA_2 _ (List.mem_of_getElem? (i := 52) rfl))) (fun _ h9 => h9) rfl dX6_addClause_51 ?_
  refine lv_iconst (v := 1) hx hb dX6_addClause_54 (by decide) ?_
  refine lv_isub hx hb dX6_addClause_55 ?_
  rw [show (nI (nC + 1)) - (1 : Int32) = nI nC from nI_pred nC]
  have hP9 := hP.sub (ws' := [(sm, .inr (8, [.ref sf, .ref sl, .ref sk, .ref su, .int (nI nA), .int (nI (nC + 1)), .int (nI nR)])), (sf, .inl (ysf, 24, .inl qf)), (sl, .inl (ysl, 42, .inl (upd (upd (upd ql (nC * 3) l0) (nC * 3 + 1) l1) (nC * 3 + 2) l2))), (sk, .inl (ysk, 4, .inl qk)), (su, .inl (ysu, 4, .inl qu))]) [0, 1, 2, 3, 4] rfl
  have hD9 := hD.sub (ws' := [(sm, .inr (8, [.ref sf, .ref sl, .ref sk, .ref su, .int (nI nA), .int (nI (nC + 1)), .int (nI nR)])), (sf, .inl (ysf, 24, .inl qf)), (sl, .inl (ysl, 42, .inl (upd (upd (upd ql (nC * 3) l0) (nC * 3 + 1) l1) (nC * 3 + 2) l2))), (sk, .inl (ysk, 4, .inl qk)), (su, .inl (ysu, 4, .inl qu))]) [0, 1, 2, 3, 4] (by decide) rfl
  have hK9 := hK.sub (tys' := [(ysf, .int), (ysl, .int), (ysk, .char), (ysu, .int)]) [0, 1, 2, 3] rfl
  refine W.widen (k := 0) (n := 0) (by omega) (by omega) ?_
  exact W.iret (v := nI nC) hx hb hr (fun t ht hW => ⟨⟨nI nC, (), rfl, rfl, by rw [ht]; exact hP9, va_K.moved hW.alike hK9, hD9⟩, hS.F ht⟩) hS.2.2 dX6_addClause_56

set_option maxHeartbeats 4000000 in
set_option maxRecDepth 100000 in
theorem c_X0_forget (l : Launch) (dC : Nat → ClassId) (dI : Nat → Nat → Nat) (an tb sm de se am al ag ah : Nat) (sz : Nat) (ai : Int32) (aj : Int32) (ak : Int32) (ao : Int32) : Met l yX0_forget (.code yX0_forget cX0_forget 1 none :: wAll) ({ frames := 0, cells := 0, slots := 0, locals := 0 }) (va_Pc [.ref an] (fun U => U.heap.size = sz ∧ va_P (dC, dI) vwCl [(an, .inr (3, [.ref tb, .ref sm, .ref de, .ref se, .ref am, .ref al, .ref ag, .ref ah, .int ai, .int aj, .int ak, .int ao]))] U.heap ∧ va_K (dC, dI) vwCl [] U ∧ va_D (fun _ => True) [(an, .inr (3, [.ref tb, .ref sm, .ref de, .ref se, .ref am, .ref al, .ref ag, .ref ah, .int ai, .int aj, .int ak, .int ao]))])) (va_Qv (fun (_ : Unit) => True) (fun (_ : Unit) (t : State) => va_P (dC, dI) vwCl [(an, .inr (3, [.ref tb, .ref sm, .ref de, .ref se, .ref am, .ref al, .ref ag, .ref ah, .int ai, .int 0, .int 0, .int 0]))] t.heap ∧ va_K (dC, dI) vwCl [] t ∧ va_D (va_A [(an, .inr (3, [.ref tb, .ref sm, .ref de, .ref se, .ref am, .ref al, .ref ag, .ref ah, .int ai, .int aj, .int ak, .int ao]))] sz) [(an, .inr (3, [.ref tb, .ref sm, .ref de, .ref se, .ref am, .ref al, .ref ag, .ref ah, .int ai, .int 0, .int 0, .int 0]))]) (va_A [(an, .inr (3, [.ref tb, .ref sm, .ref de, .ref se, .ref am, .ref al, .ref ag, .ref ah, .int ai, .int aj, .int ak, .int ao]))] sz)) 0 0 (va_A [(an, .inr (3, [.ref tb, .ref sm, .ref de, .ref se, .ref am, .ref al, .ref ag, .ref ah, .int ai, .int aj, .int ak, .int ao]))] sz) := by
  refine Met.ofW (cc := cX0_forget) (maxL := 1) (ret := none) (by decide) rfl ?_
  intro p e s m args below meth c s₁ B hml hv
  obtain ⟨rfl, hsz, hP, hK, hD0⟩ := hv
  have hx := B.exec
  have hb := B.bytes
  have hr := B.returns
  have hts := atoms_spec (ws := .code yX0_forget cX0_forget 1 none :: wAll) B.pre
  have hwA := fun w (h : w ∈ wAll) => hts w (List.mem_cons_of_mem _ h)
  have hown : s.vm.findClass RX0 = some m.cls := findClass_of_methodNamed B.named
  have hlocks := B.notSynchronized
  subst hsz
  have hD := hD0.self (sz := s.heap.size)
  generalize hAe : va_A [(an, .inr (3, [.ref tb, .ref sm, .ref de, .ref se, .ref am, .ref al, .ref ag, .ref ah, .int ai, .int aj, .int ak, .int ao]))] s.heap.size = A at hD ⊢
  have hA : ∀ q : Nat, s.heap.size ≤ q → A q := fun q h => by rw [← hAe]; exact Or.inr h
  have hS : va_S A s.heap s.heap [] := va_S.rf
  have hP : va_P (dC, dI) vwCl [(an, .inr (3, [.ref tb, .ref sm, .ref de, .ref se, .ref am, .ref al, .ref ag, .ref ah, .int ai, .int aj, .int ak, .int ao]))] s.heap := hP
  have hl := lv_entry ([.ref an]) (n := 1) (Nat.le_of_ble_eq_true rfl)
  rw [lg_entry_eq]
  generalize (lg_sl ([.ref an]) ++ List.replicate (1 - (lg_sl ([.ref an])).length) Slot.unset).toArray = ls at hl ⊢
  have hl : lv_has ls 1 [(0, .ref an)] := hl
  refine lv_aload_n hx hb dX0_forget_0 rfl (lv_at hl 0 rfl) ?_
  refine lv_iconst (v := 0) hx hb dX0_forget_1 (by decide) ?_
  refine va_put (D := (dC, dI)) (ci := 3) (v := .int 0) (ty := .boolean) (C := RX0) (T := TX0) (N := 12) hx hb hwA in_wsX00 tyX0 tyX0_ok nmX0 hown hK hP hD hS 0 rfl rfl 9 (by decide) (hwA (.fieldLink RX0 52 "Congruary$Answers" "knowsInterpretation" "Z") (in_wA_0 _ (List.mem_of_getElem? (i := 49) rfl))) (fun _ h9 => h9) rfl (by decide +kernel) (by decide +kernel) rfl (Nat.le_of_ble_eq_true rfl) dX0_forget_2 (fun H locs hP hD hS => ?_)
  have hP : va_P (dC, dI) vwCl [(an, .inr (3, [.ref tb, .ref sm, .ref de, .ref se, .ref am, .ref al, .ref ag, .ref ah, .int ai, .int 0, .int ak, .int ao]))] H := hP
  have hD : va_D A [(an, .inr (3, [.ref tb, .ref sm, .ref de, .ref se, .ref am, .ref al, .ref ag, .ref ah, .int ai, .int 0, .int ak, .int ao]))] := hD
  refine lv_aload_n hx hb dX0_forget_5 rfl (lv_at hl 0 rfl) ?_
  refine lv_iconst (v := 0) hx hb dX0_forget_6 (by decide) ?_
  refine va_put (D := (dC, dI)) (ci := 3) (v := .int 0) (ty := .boolean) (C := RX0) (T := TX0) (N := 12) hx hb hwA in_wsX00 tyX0 tyX0_ok nmX0 hown hK hP hD hS 0 rfl rfl 10 (by decide) (hwA (.fieldLink RX0 56 "Congruary$Answers" "knowsModel" "Z") (in_wA_0 _ (List.mem_of_getElem? (i := 50) rfl))) (fun _ h9 => h9) rfl (by decide +kernel) (by decide +kernel) rfl (Nat.le_of_ble_eq_true rfl) dX0_forget_7 (fun H locs hP hD hS => ?_)
  have hP : va_P (dC, dI) vwCl [(an, .inr (3, [.ref tb, .ref sm, .ref de, .ref se, .ref am, .ref al, .ref ag, .ref ah, .int ai, .int 0, .int 0, .int ao]))] H := hP
  have hD : va_D A [(an, .inr (3, [.ref tb, .ref sm, .ref de, .ref se, .ref am, .ref al, .ref ag, .ref ah, .int ai, .int 0, .int 0, .int ao]))] := hD
  refine lv_aload_n hx hb dX0_forget_10 rfl (lv_at hl 0 rfl) ?_
  refine lv_iconst (v := 0) hx hb dX0_forget_11 (by decide) ?_
  refine va_put (D := (dC, dI)) (ci := 3) (v := .int 0) (ty := .boolean) (C := RX0) (T := TX0) (N := 12) hx hb hwA in_wsX00 tyX0 tyX0_ok nmX0 hown hK hP hD hS 0 rfl rfl 11 (by decide) (hwA (.fieldLink RX0 59 "Congruary$Answers" "knowsClasses" "Z") (in_wA_0 _ (List.mem_of_getElem? (i := 51) rfl))) (fun _ h9 => h9) rfl (by decide +kernel) (by decide +kernel) rfl (Nat.le_of_ble_eq_true rfl) dX0_forget_12 (fun H locs hP hD hS => ?_)
  have hP : va_P (dC, dI) vwCl [(an, .inr (3, [.ref tb, .ref sm, .ref de, .ref se, .ref am, .ref al, .ref ag, .ref ah, .int ai, .int 0, .int 0, .int 0]))] H := hP
  have hD : va_D A [(an, .inr (3, [.ref tb, .ref sm, .ref de, .ref se, .ref am, .ref al, .ref ag, .ref ah, .int ai, .int 0, .int 0, .int 0]))] := hD
  have hP9 := hP.sub (ws' := [(an, .inr (3, [.ref tb, .ref sm, .ref de, .ref se, .ref am, .ref al, .ref ag, .ref ah, .int ai, .int 0, .int 0, .int 0]))]) [0] rfl
  have hD9 := hD.sub (ws' := [(an, .inr (3, [.ref tb, .ref sm, .ref de, .ref se, .ref am, .ref al, .ref ag, .ref ah, .int ai, .int 0, .int 0, .int 0]))]) [0] (by decide) rfl
  have hK9 := hK.sub (tys' := []) [] rfl
  refine W.widen (k := 0) (n := 0) (by omega) (by omega) ?_
  exact W.vret hx hb hr (fun t ht hW => ⟨⟨(), rfl, trivial, by rw [ht]; exact hP9, va_K.moved hW.alike hK9, hD9⟩, hS.F ht⟩) hS.2.2 dX0_forget_15
