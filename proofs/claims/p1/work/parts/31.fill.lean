set_option maxHeartbeats 4000000 in
set_option maxRecDepth 100000 in
theorem c_J7_rangeCheck_23922 (l : Launch) (dC : Nat → ClassId) (dI : Nat → Nat → Nat) (sz : Nat) (nA : Nat) (ka : Nat) (kb : Nat) (hab : ka ≤ kb) (hbn : kb ≤ nA) (hn : nA < 2 ^ 31) : Met l yJ7_rangeCheck_23922 (.code yJ7_rangeCheck_23922 cJ7_rangeCheck_23922 3 none :: wAll) ({ frames := 0, cells := 0, slots := 0, locals := 0 }) (va_Pc [.int (nI nA), .int (nI ka), .int (nI kb)] (fun U => U.heap.size = sz ∧ va_P (dC, dI) vwCl [] U.heap ∧ va_K (dC, dI) vwCl [] U ∧ va_D (fun _ => True) [])) (va_Qv (fun (_ : Unit) => True) (fun (_ : Unit) (t : State) => va_P (dC, dI) vwCl [] t.heap ∧ va_K (dC, dI) vwCl [] t ∧ va_D (va_A [] sz) []) (va_A [] sz)) 0 0 (va_A [] sz) := by
  refine Met.ofW (cc := cJ7_rangeCheck_23922) (maxL := 3) (ret := none) (by decide) rfl ?_
  intro p e s m args below meth c s₁ B hml hv
  obtain ⟨rfl, hsz, hP, hK, hD0⟩ := hv
  have hx := B.exec
  have hb := B.bytes
  have hr := B.returns
  have hts := atoms_spec (ws := .code yJ7_rangeCheck_23922 cJ7_rangeCheck_23922 3 none :: wAll) B.pre
  have hwA := fun w (h : w ∈ wAll) => hts w (List.mem_cons_of_mem _ h)
  have hown : s.vm.findClass RJ7 = some m.cls := findClass_of_methodNamed B.named
  have hlocks := B.notSynchronized
  subst hsz
  have hD := hD0.self (sz := s.heap.size)
  generalize hAe : va_A [] s.heap.size = A at hD ⊢
  have hA : ∀ q : Nat, s.heap.size ≤ q → A q := fun q h => by rw [← hAe]; exact Or.inr h
  have hS : va_S A s.heap s.heap [] := va_S.rf
  have hP : va_P (dC, dI) vwCl [] s.heap := hP
  have hl := lv_entry ([.int (nI nA), .int (nI ka), .int (nI kb)]) (n := 3) (Nat.le_of_ble_eq_true rfl)
  rw [lg_entry_eq]
  generalize (lg_sl ([.int (nI nA), .int (nI ka), .int (nI kb)]) ++ List.replicate (3 - (lg_sl ([.int (nI nA), .int (nI ka), .int (nI kb)])).length) Slot.unset).toArray = ls at hl ⊢
  have hl : lv_has ls 3 [(0, .int (nI nA)), (1, .int (nI ka)), (2, .int (nI kb))] := hl
  refine lv_iload_n hx hb dJ7_rangeCheck_23922_0 rfl (lv_at hl 1 rfl) ?_
  refine lv_iload_n hx hb dJ7_rangeCheck_23922_1 rfl (lv_at hl 2 rfl) ?_
  refine lv_icmp_le (tgt := 46) hx hb dJ7_rangeCheck_23922_2 (by decide) (fun c_1 => ?_) (fun c_1 => ?_)
  · refine lv_iload_n hx hb dJ7_rangeCheck_23922_46 rfl (lv_at hl 1 rfl) ?_
    refine lv_if_ge (tgt := 59) hx hb dJ7_rangeCheck_23922_47 (by decide) (fun c_2 => ?_) (fun c_2 => ?_)
    · refine lv_iload_n hx hb dJ7_rangeCheck_23922_59 rfl (lv_at hl 2 rfl) ?_
      refine lv_iload_n hx hb dJ7_rangeCheck_23922_60 rfl (lv_at hl 0 rfl) ?_
      refine lv_icmp_le (tgt := 73) hx hb dJ7_rangeCheck_23922_61 (by decide) (fun c_3 => ?_) (fun c_3 => ?_)
      · have hP9 := hP.sub (ws' := []) [] rfl
        have hD9 := hD.sub (ws' := []) [] (by decide) rfl
        have hK9 := hK.sub (tys' := []) [] rfl
        refine W.widen (k := 0) (n := 0) (by omega) (by omega) ?_
        exact W.vret hx hb hr (fun t ht hW => ⟨⟨(), rfl, trivial, by rw [ht]; exact hP9, va_K.moved hW.alike hK9, hD9⟩, hS.F ht⟩) hS.2.2 dJ7_rangeCheck_23922_73
      · exact absurd ((nI_leI (a := kb) (b := nA) (by omega) (by omega)).mpr hbn) c_3
    · exact absurd (nI_pos' (n := ka) (by omega)) c_2
  · exact absurd ((nI_leI (a := ka) (b := kb) (by omega) (by omega)).mpr hab) c_1

set_option maxHeartbeats 4000000 in
set_option maxRecDepth 100000 in
theorem c_J7_fill_fda19 (l : Launch) (dC : Nat → ClassId) (dI : Nat → Nat → Nat) (q : Nat) (yq : ClassId) (sz : Nat) (nA : Nat) (ka : Nat) (kb : Nat) (f : Nat → Int32) (v : Int32) (hab : ka ≤ kb) (hbn : kb ≤ nA) (hn : nA < 2 ^ 31) : Met l yJ7_fill_fda19 (.code yJ7_fill_fda19 cJ7_fill_fda19 5 none :: wAll) ({ frames := 1, cells := 0, slots := 0, locals := 22 }) (va_Pc [.ref q, .int (nI ka), .int (nI kb), .int v] (fun U => U.heap.size = sz ∧ va_P (dC, dI) vwCl [(q, .inl (yq, nA, .inl f))] U.heap ∧ va_K (dC, dI) vwCl [(yq, .int)] U ∧ va_D (fun _ => True) [(q, .inl (yq, nA, .inl f))])) (va_Qv (fun (_ : Unit) => True) (fun (_ : Unit) (t : State) => va_P (dC, dI) vwCl [(q, .inl (yq, nA, .inl (fillR f ka kb v)))] t.heap ∧ va_K (dC, dI) vwCl [(yq, .int)] t ∧ va_D (va_A [(q, .inl (yq, nA, .inl f))] sz) [(q, .inl (yq, nA, .inl (fillR f ka kb v)))]) (va_A [(q, .inl (yq, nA, .inl f))] sz)) 0 0 (va_A [(q, .inl (yq, nA, .inl f))] sz) := by
  refine Met.ofW (cc := cJ7_fill_fda19) (maxL := 5) (ret := none) (by decide) rfl ?_
  intro p e s m args below meth c s₁ B hml hv
  obtain ⟨rfl, hsz, hP, hK, hD0⟩ := hv
  have hx := B.exec
  have hb := B.bytes
  have hr := B.returns
  have hts := atoms_spec (ws := .code yJ7_fill_fda19 cJ7_fill_fda19 5 none :: wAll) B.pre
  have hwA := fun w (h : w ∈ wAll) => hts w (List.mem_cons_of_mem _ h)
  have hown : s.vm.findClass RJ7 = some m.cls := findClass_of_methodNamed B.named
  have hlocks := B.notSynchronized
  subst hsz
  have hD := hD0.self (sz := s.heap.size)
  generalize hAe : va_A [(q, .inl (yq, nA, .inl f))] s.heap.size = A at hD ⊢
  have hA : ∀ q : Nat, s.heap.size ≤ q → A q := fun q h => by rw [← hAe]; exact Or.inr h
  have hS : va_S A s.heap s.heap [] := va_S.rf
  have hP : va_P (dC, dI) vwCl [(q, .inl (yq, nA, .inl f))] s.heap := hP
  have hl := lv_entry ([.ref q, .int (nI ka), .int (nI kb), .int v]) (n := 5) (Nat.le_of_ble_eq_true rfl)
  rw [lg_entry_eq]
  generalize (lg_sl ([.ref q, .int (nI ka), .int (nI kb), .int v]) ++ List.replicate (5 - (lg_sl ([.ref q, .int (nI ka), .int (nI kb), .int v])).length) Slot.unset).toArray = ls at hl ⊢
  have hl : lv_has ls 5 [(0, .ref q), (1, .int (nI ka)), (2, .int (nI kb)), (3, .int v)] := hl
  refine wq_name (fun Q hQ => ?_)
  refine lv_aload_n hx hb dJ7_fill_fda19_0 rfl (lv_at hl 0 rfl) ?_
  refine va_alen (v := nI nA) hx hb hK hP 0 0 rfl rfl rfl dJ7_fill_fda19_1 ?_
  refine lv_iload_n hx hb dJ7_fill_fda19_2 rfl (lv_at hl 1 rfl) ?_
  refine lv_iload_n hx hb dJ7_fill_fda19_3 rfl (lv_at hl 2 rfl) ?_
  have hPc := hP.sub (ws' := []) [] rfl
  have hDc := hD.sub (ws' := []) [] (by decide) rfl
  have hKc := hK.sub (tys' := []) [] rfl
  have hFc := va_free (wc := []) hD hS hA [] rfl
  refine va_callv (va_runS (As := [.int (nI nA), .int (nI ka), .int (nI kb)]) (rest := []) ⟨hx, hb, hml, hown, hwA⟩ (c_J7_rangeCheck_23922 l dC dI   s.heap.size nA ka kb (by omega) (by omega) (by omega)) (va_cwS 3 hwA (gwS (in_wA_2 _ (List.mem_of_getElem? (i := 61) rfl)) (in_wA_2 _ (List.mem_of_getElem? (i := 62) rfl)) (in_wA_1 _ (List.mem_of_getElem? (i := 37) rfl)) (in_wA_2 _ (List.mem_of_getElem? (i := 53) rfl))) rfl rfl rfl (by decide +kernel) ⟨Nat.le_of_ble_eq_true rfl, Nat.le_of_ble_eq_true rfl⟩) ⟨fun a U g mk q => by obtain ⟨q0, q1, qP, qK, qD⟩ := q; exact ⟨q0, q1, qP, va_K.moved (u := U) (U := U.calling g mk a) (Vm.Alike.refl U.vm) qK, qD⟩, fun U hU hW => ⟨rfl, by rw [hU], by rw [hU]; exact hPc, va_K.moved hW.alike hKc, hDc.weaken (fun _ _ _ _ => trivial)⟩⟩ rfl rfl hl.1 rfl (lv_room (Nat.le_of_ble_eq_true rfl)) dJ7_fill_fda19_4 ⟨Nat.le_of_ble_eq_true rfl, Nat.le_of_ble_eq_true rfl⟩) hS (fun q _ h => hFc q h) hFc (fun u_1 t H1 locs ht hvm hw hB hz1 hk1 hS => ?_)
  obtain ⟨hP1, hK1, hD1⟩ := hB
  rw [ht] at hP1
  have hK1 := va_K.moved hvm.symm hK1
  obtain ⟨hP, hD⟩ := va_join (wr := [(q, .inl (yq, nA, .inl f))]) (w1 := []) hP hD [] [0] rfl rfl (by decide) (by decide) hk1 hFc hP1 hD1
  have hK := (hK.sub (tys' := [(yq, .int)]) [0] rfl).app hK1
  generalize H1 = H at hP hS ⊢
  have hP : va_P (dC, dI) vwCl [(q, .inl (yq, nA, .inl f))] H := hP
  have hD : va_D A [(q, .inl (yq, nA, .inl f))] := hD
  have hK : va_K (dC, dI) vwCl [(yq, .int)] s := hK
  refine W.widen (k := 0) (n := 0) (by omega) (by omega) ?_
  have hw_3 := hw
  refine lv_iload_n hx hb dJ7_fill_fda19_7 rfl (lv_at hl 1 rfl) ?_
  refine lv_istore (lv' := [(4, .int (nI ka)), (0, .ref q), (1, .int (nI ka)), (2, .int (nI kb)), (3, .int v)]) hx hb dJ7_fill_fda19_8 hl (by decide) rfl (fun ls hl => ?_)
  have loop10 : ∀ (n : Nat) (k : Nat) (g : Nat → Int32), g = fillR f ka k v → ka ≤ k ∧ k ≤ kb → kb - k < n → ∀ (H : Heap) (locs : List Loc) (ls : Array Slot), va_P (dC, dI) vwCl [(q, .inl (yq, nA, .inl g))] H → va_D A [(q, .inl (yq, nA, .inl g))] → va_S A s.heap H locs → lv_has ls 5 [(4, .int (nI k)), (0, .ref q), (1, .int (nI ka)), (2, .int (nI kb)), (3, .int v)] → W p l e ({ frames := 1, cells := 0, slots := 0, locals := 22 } : Room) s m #[.ref q, .int (nI ka), .int (nI kb), .int v] below meth c H locs 0 0 Q (F0 m 10 ls []) := by
    intro n
    induction n with
    | zero => intro k g hk hkN hmu; exact absurd hmu (Nat.not_lt_zero _)
    | succ n ih10 =>
      intro k g hk hkN hmu10 H locs ls hP hD hS hl
      refine lv_iload hx hb dJ7_fill_fda19_10 (lv_at hl 0 rfl) ?_
      refine lv_iload_n hx hb dJ7_fill_fda19_12 rfl (lv_at hl 3 rfl) ?_
      refine lv_icmp_ge (tgt := 27) hx hb dJ7_fill_fda19_13 (by decide) (fun c_4 => ?_) (fun c_4 => ?_)
      · have c_4' : kb ≤ k := (nI_leI (a := kb) (b := k) (by omega) (by omega)).mp c_4
        subst hQ
        obtain rfl : kb = k := by omega
        subst hk
        have hP9 := hP.sub (ws' := [(q, .inl (yq, nA, .inl (fillR f ka kb v)))]) [0] rfl
        have hD9 := hD.sub (ws' := [(q, .inl (yq, nA, .inl (fillR f ka kb v)))]) [0] (by decide) rfl
        have hK9 := hK.sub (tys' := [(yq, .int)]) [0] rfl
        refine W.widen (k := 0) (n := 0) (by omega) (by omega) ?_
        exact W.vret hx hb hr (fun t ht hW => ⟨⟨(), rfl, trivial, by rw [ht]; exact hP9, va_K.moved hW.alike hK9, hD9⟩, hS.F ht⟩) hS.2.2 dJ7_fill_fda19_27
      · have c_4' : ¬ (kb ≤ k) := fun h => c_4 ((nI_leI (a := kb) (b := k) (by omega) (by omega)).mpr h)
        refine lv_aload_n hx hb dJ7_fill_fda19_16 rfl (lv_at hl 1 rfl) ?_
        refine lv_iload hx hb dJ7_fill_fda19_17 (lv_at hl 0 rfl) ?_
        refine lv_iload_n hx hb dJ7_fill_fda19_19 rfl (lv_at hl 4 rfl) ?_
        refine va_iast hx hb hK hP hD hS 0 0 rfl rfl (vp_in_nI (n := k) (by omega) (by omega)) dJ7_fill_fda19_20 (fun H locs hP hD hS => ?_)
        rw [show (nI k).toNatClampNeg = k from nI_clamp (by omega)] at hP hD
        have hP : va_P (dC, dI) vwCl [(q, .inl (yq, nA, .inl (upd g k v)))] H := hP
        have hD : va_D A [(q, .inl (yq, nA, .inl (upd g k v)))] := hD
        refine lv_iinc (v := nI (k + 1)) (lv' := [(4, .int (nI (k + 1))), (0, .ref q), (1, .int (nI ka)), (2, .int (nI kb)), (3, .int v)]) hx hb dJ7_fill_fda19_21 hl (k := 0) rfl (by exact nI_add k 1) (by decide) rfl (fun ls hl => ?_)
        refine lv_goto (tgt := 10) hx hb dJ7_fill_fda19_24 (by decide) ?_
        exact ih10 (k + 1) (upd g k v) (by rw [hk]; exact fillR_s f ka k v (by omega)) ⟨by omega, by omega⟩ (by omega) _ _ _ (hP.sub [0] rfl) (hD.sub [0] (by decide) rfl) hS (lv_sub hl [0, 1, 2, 3, 4] rfl)
  exact loop10 _ ka f (fillR_0 f ka v).symm ⟨Nat.le_refl _, hab⟩ (Nat.lt_succ_self _) _ _ _ hP hD hS (lv_sub hl [0, 1, 2, 3, 4] rfl)

set_option maxHeartbeats 4000000 in
set_option maxRecDepth 100000 in
theorem c_J7_fill_bad5a (l : Launch) (dC : Nat → ClassId) (dI : Nat → Nat → Nat) (q : Nat) (yq : ClassId) (sz : Nat) (nA : Nat) (ka : Nat) (kb : Nat) (f : Nat → Int64) (v : Int64) (hab : ka ≤ kb) (hbn : kb ≤ nA) (hn : nA < 2 ^ 31) : Met l yJ7_fill_bad5a (.code yJ7_fill_bad5a cJ7_fill_bad5a 6 none :: wAll) ({ frames := 1, cells := 0, slots := 0, locals := 22 }) (va_Pc [.ref q, .int (nI ka), .int (nI kb), .long v] (fun U => U.heap.size = sz ∧ va_P (dC, dI) vwCl [(q, .inl (yq, nA, .inr (.inl f)))] U.heap ∧ va_K (dC, dI) vwCl [(yq, .long)] U ∧ va_D (fun _ => True) [(q, .inl (yq, nA, .inr (.inl f)))])) (va_Qv (fun (_ : Unit) => True) (fun (_ : Unit) (t : State) => va_P (dC, dI) vwCl [(q, .inl (yq, nA, .inr (.inl (fillR f ka kb v))))] t.heap ∧ va_K (dC, dI) vwCl [(yq, .long)] t ∧ va_D (va_A [(q, .inl (yq, nA, .inr (.inl f)))] sz) [(q, .inl (yq, nA, .inr (.inl (fillR f ka kb v))))]) (va_A [(q, .inl (yq, nA, .inr (.inl f)))] sz)) 0 0 (va_A [(q, .inl (yq, nA, .inr (.inl f)))] sz) := by
  refine Met.ofW (cc := cJ7_fill_bad5a) (maxL := 6) (ret := none) (by decide) rfl ?_
  intro p e s m args below meth c s₁ B hml hv
  obtain ⟨rfl, hsz, hP, hK, hD0⟩ := hv
  have hx := B.exec
  have hb := B.bytes
  have hr := B.returns
  have hts := atoms_spec (ws := .code yJ7_fill_bad5a cJ7_fill_bad5a 6 none :: wAll) B.pre
  have hwA := fun w (h : w ∈ wAll) => hts w (List.mem_cons_of_mem _ h)
  have hown : s.vm.findClass RJ7 = some m.cls := findClass_of_methodNamed B.named
  have hlocks := B.notSynchronized
  subst hsz
  have hD := hD0.self (sz := s.heap.size)
  generalize hAe : va_A [(q, .inl (yq, nA, .inr (.inl f)))] s.heap.size = A at hD ⊢
  have hA : ∀ q : Nat, s.heap.size ≤ q → A q := fun q h => by rw [← hAe]; exact Or.inr h
  have hS : va_S A s.heap s.heap [] := va_S.rf
  have hP : va_P (dC, dI) vwCl [(q, .inl (yq, nA, .inr (.inl f)))] s.heap := hP
  have hl := lv_entry ([.ref q, .int (nI ka), .int (nI kb), .long v]) (n := 6) (Nat.le_of_ble_eq_true rfl)
  rw [lg_entry_eq]
  generalize (lg_sl ([.ref q, .int (nI ka), .int (nI kb), .long v]) ++ List.replicate (6 - (lg_sl ([.ref q, .int (nI ka), .int (nI kb), .long v])).length) Slot.unset).toArray = ls at hl ⊢
  have hl : lv_has ls 6 [(0, .ref q), (1, .int (nI ka)), (2, .int (nI kb)), (3, .long v)] := hl
  refine wq_name (fun Q hQ => ?_)
  refine lv_aload_n hx hb dJ7_fill_bad5a_0 rfl (lv_at hl 0 rfl) ?_
  refine va_alen (v := nI nA) hx hb hK hP 0 0 rfl rfl rfl dJ7_fill_bad5a_1 ?_
  refine lv_iload_n hx hb dJ7_fill_bad5a_2 rfl (lv_at hl 1 rfl) ?_
  refine lv_iload_n hx hb dJ7_fill_bad5a_3 rfl (lv_at hl 2 rfl) ?_
  have hPc := hP.sub (ws' := []) [] rfl
  have hDc := hD.sub (ws' := []) [] (by decide) rfl
  have hKc := hK.sub (tys' := []) [] rfl
  have hFc := va_free (wc := []) hD hS hA [] rfl
  refine va_callv (va_runS (As := [.int (nI nA), .int (nI ka), .int (nI kb)]) (rest := []) ⟨hx, hb, hml, hown, hwA⟩ (c_J7_rangeCheck_23922 l dC dI   s.heap.size nA ka kb (by omega) (by omega) (by omega)) (va_cwS 3 hwA (gwS (in_wA_2 _ (List.mem_of_getElem? (i := 61) rfl)) (in_wA_2 _ (List.mem_of_getElem? (i := 62) rfl)) (in_wA_1 _ (List.mem_of_getElem? (i := 37) rfl)) (in_wA_2 _ (List.mem_of_getElem? (i := 53) rfl))) rfl rfl rfl (by decide +kernel) ⟨Nat.le_of_ble_eq_true rfl, Nat.le_of_ble_eq_true rfl⟩) ⟨fun a U g mk q => by obtain ⟨q0, q1, qP, qK, qD⟩ := q; exact ⟨q0, q1, qP, va_K.moved (u := U) (U := U.calling g mk a) (Vm.Alike.refl U.vm) qK, qD⟩, fun U hU hW => ⟨rfl, by rw [hU], by rw [hU]; exact hPc, va_K.moved hW.alike hKc, hDc.weaken (fun _ _ _ _ => trivial)⟩⟩ rfl rfl hl.1 rfl (lv_room (Nat.le_of_ble_eq_true rfl)) dJ7_fill_bad5a_4 ⟨Nat.le_of_ble_eq_true rfl, Nat.le_of_ble_eq_true rfl⟩) hS (fun q _ h => hFc q h) hFc (fun u_1 t H1 locs ht hvm hw hB hz1 hk1 hS => ?_)
  obtain ⟨hP1, hK1, hD1⟩ := hB
  rw [ht] at hP1
  have hK1 := va_K.moved hvm.symm hK1
  obtain ⟨hP, hD⟩ := va_join (wr := [(q, .inl (yq, nA, .inr (.inl f)))]) (w1 := []) hP hD [] [0] rfl rfl (by decide) (by decide) hk1 hFc hP1 hD1
  have hK := (hK.sub (tys' := [(yq, .long)]) [0] rfl).app hK1
  generalize H1 = H at hP hS ⊢
  have hP : va_P (dC, dI) vwCl [(q, .inl (yq, nA, .inr (.inl f)))] H := hP
  have hD : va_D A [(q, .inl (yq, nA, .inr (.inl f)))] := hD
  have hK : va_K (dC, dI) vwCl [(yq, .long)] s := hK
  refine W.widen (k := 0) (n := 0) (by omega) (by omega) ?_
  have hw_3 := hw
  refine lv_iload_n hx hb dJ7_fill_bad5a_7 rfl (lv_at hl 1 rfl) ?_
  refine lv_istore (lv' := [(5, .int (nI ka)), (0, .ref q), (1, .int (nI ka)), (2, .int (nI kb)), (3, .long v)]) hx hb dJ7_fill_bad5a_8 hl (by decide) rfl (fun ls hl => ?_)
  have loop10 : ∀ (n : Nat) (k : Nat) (g : Nat → Int64), g = fillR f ka k v → ka ≤ k ∧ k ≤ kb → kb - k < n → ∀ (H : Heap) (locs : List Loc) (ls : Array Slot), va_P (dC, dI) vwCl [(q, .inl (yq, nA, .inr (.inl g)))] H → va_D A [(q, .inl (yq, nA, .inr (.inl g)))] → va_S A s.heap H locs → lv_has ls 6 [(5, .int (nI k)), (0, .ref q), (1, .int (nI ka)), (2, .int (nI kb)), (3, .long v)] → W p l e ({ frames := 1, cells := 0, slots := 0, locals := 22 } : Room) s m #[.ref q, .int (nI ka), .int (nI kb), .long v] below meth c H locs 0 0 Q (F0 m 10 ls []) := by
    intro n
    induction n with
    | zero => intro k g hk hkN hmu; exact absurd hmu (Nat.not_lt_zero _)
    | succ n ih10 =>
      intro k g hk hkN hmu10 H locs ls hP hD hS hl
      refine lv_iload hx hb dJ7_fill_bad5a_10 (lv_at hl 0 rfl) ?_
      refine lv_iload_n hx hb dJ7_fill_bad5a_12 rfl (lv_at hl 3 rfl) ?_
      refine lv_icmp_ge (tgt := 27) hx hb dJ7_fill_bad5a_13 (by decide) (fun c_4 => ?_) (fun c_4 => ?_)
      · have c_4' : kb ≤ k := (nI_leI (a := kb) (b := k) (by omega) (by omega)).mp c_4
        subst hQ
        obtain rfl : kb = k := by omega
        subst hk
        have hP9 := hP.sub (ws' := [(q, .inl (yq, nA, .inr (.inl (fillR f ka kb v))))]) [0] rfl
        have hD9 := hD.sub (ws' := [(q, .inl (yq, nA, .inr (.inl (fillR f ka kb v))))]) [0] (by decide) rfl
        have hK9 := hK.sub (tys' := [(yq, .long)]) [0] rfl
        refine W.widen (k := 0) (n := 0) (by omega) (by omega) ?_
        exact W.vret hx hb hr (fun t ht hW => ⟨⟨(), rfl, trivial, by rw [ht]; exact hP9, va_K.moved hW.alike hK9, hD9⟩, hS.F ht⟩) hS.2.2 dJ7_fill_bad5a_27
      · have c_4' : ¬ (kb ≤ k) := fun h => c_4 ((nI_leI (a := kb) (b := k) (by omega) (by omega)).mpr h)
        refine lv_aload_n hx hb dJ7_fill_bad5a_16 rfl (lv_at hl 1 rfl) ?_
        refine lv_iload hx hb dJ7_fill_bad5a_17 (lv_at hl 0 rfl) ?_
        refine lv_lload_n hx hb dJ7_fill_bad5a_19 rfl (lv_at hl 4 rfl) ?_
        refine va_last hx hb hK hP hD hS 0 0 rfl rfl (vp_in_nI (n := k) (by omega) (by omega)) dJ7_fill_bad5a_20 (fun H locs hP hD hS => ?_)
        rw [show (nI k).toNatClampNeg = k from nI_clamp (by omega)] at hP hD
        have hP : va_P (dC, dI) vwCl [(q, .inl (yq, nA, .inr (.inl (vp_updL g k v))))] H := hP
        have hD : va_D A [(q, .inl (yq, nA, .inr (.inl (vp_updL g k v))))] := hD
        refine lv_iinc (v := nI (k + 1)) (lv' := [(5, .int (nI (k + 1))), (0, .ref q), (1, .int (nI ka)), (2, .int (nI kb)), (3, .long v)]) hx hb dJ7_fill_bad5a_21 hl (k := 0) rfl (by exact nI_add k 1) (by decide) rfl (fun ls hl => ?_)
        refine lv_goto (tgt := 10) hx hb dJ7_fill_bad5a_24 (by decide) ?_
        exact ih10 (k + 1) (vp_updL g k v) (by rw [hk]; exact fillR_sL f ka k v (by omega)) ⟨by omega, by omega⟩ (by omega) _ _ _ (hP.sub [0] rfl) (hD.sub [0] (by decide) rfl) hS (lv_sub hl [0, 1, 2, 3, 4] rfl)
  exact loop10 _ ka f (fillR_0 f ka v).symm ⟨Nat.le_refl _, hab⟩ (Nat.lt_succ_self _) _ _ _ hP hD hS (lv_sub hl [0, 1, 2, 3, 4] rfl)
