set_option maxHeartbeats 4000000 in
set_option maxRecDepth 100000 in
theorem c_X2_clear_F (l : Launch) (dC : Nat → ClassId) (dI : Nat → Nat → Nat) (df da db dm : Nat) (yda ydb ydm : ClassId) (sz : Nat) (ea : Nat → Int32) (eb : Nat → Int64) (em : Nat → Int32) (dh : Int64) (dn : Int32) (dz : Int32) (ds : Int32) (dc : Int32) : Met l yX2_clear (.code yX2_clear cX2_clear 3 none :: wAll) ({ frames := 2, cells := 0, slots := 0, locals := 47 }) (va_Pc [.ref df, .int 0] (fun U => U.heap.size = sz ∧ va_P (dC, dI) vwCl [(df, .inr (5, [.int dn, .int dz, .int ds, .int dc, .ref da, .ref db, .long dh, .ref dm])), (da, .inl (yda, 240, .inl ea)), (db, .inl (ydb, 450, .inr (.inl eb))), (dm, .inl (ydm, 14, .inl em))] U.heap ∧ va_K (dC, dI) vwCl [(yda, .int), (ydb, .long), (ydm, .int)] U ∧ va_D (fun _ => True) [(df, .inr (5, [.int dn, .int dz, .int ds, .int dc, .ref da, .ref db, .long dh, .ref dm])), (da, .inl (yda, 240, .inl ea)), (db, .inl (ydb, 450, .inr (.inl eb))), (dm, .inl (ydm, 14, .inl em))])) (va_Qv (fun (_ : Unit) => True) (fun (_ : Unit) (t : State) => va_P (dC, dI) vwCl [(df, .inr (5, [.int 1, .int 0, .int 2, .int 2, .ref da, .ref db, .long dh, .ref dm])), (da, .inl (yda, 240, .inl (upd (upd (fillR (fillR ea 0 1 1000000) 1 2 0) 0 0) 0 0))), (db, .inl (ydb, 450, .inr (.inl (fillR eb 0 2 0)))), (dm, .inl (ydm, 14, .inl em))] t.heap ∧ va_K (dC, dI) vwCl [(yda, .int), (ydb, .long), (ydm, .int)] t ∧ va_D (va_A [(df, .inr (5, [.int dn, .int dz, .int ds, .int dc, .ref da, .ref db, .long dh, .ref dm])), (da, .inl (yda, 240, .inl ea)), (db, .inl (ydb, 450, .inr (.inl eb))), (dm, .inl (ydm, 14, .inl em))] sz) [(df, .inr (5, [.int 1, .int 0, .int 2, .int 2, .ref da, .ref db, .long dh, .ref dm])), (da, .inl (yda, 240, .inl (upd (upd (fillR (fillR ea 0 1 1000000) 1 2 0) 0 0) 0 0))), (db, .inl (ydb, 450, .inr (.inl (fillR eb 0 2 0)))), (dm, .inl (ydm, 14, .inl em))]) (va_A [(df, .inr (5, [.int dn, .int dz, .int ds, .int dc, .ref da, .ref db, .long dh, .ref dm])), (da, .inl (yda, 240, .inl ea)), (db, .inl (ydb, 450, .inr (.inl eb))), (dm, .inl (ydm, 14, .inl em))] sz)) 0 0 (va_A [(df, .inr (5, [.int dn, .int dz, .int ds, .int dc, .ref da, .ref db, .long dh, .ref dm])), (da, .inl (yda, 240, .inl ea)), (db, .inl (ydb, 450, .inr (.inl eb))), (dm, .inl (ydm, 14, .inl em))] sz) := by
  refine Met.ofW (cc := cX2_clear) (maxL := 3) (ret := none) (by decide) rfl ?_
  intro p e s m args below meth c s₁ B hml hv
  obtain ⟨rfl, hsz, hP, hK, hD0⟩ := hv
  have hx := B.exec
  have hb := B.bytes
  have hr := B.returns
  have hts := atoms_spec (ws := .code yX2_clear cX2_clear 3 none :: wAll) B.pre
  have hwA := fun w (h : w ∈ wAll) => hts w (List.mem_cons_of_mem _ h)
  have hown : s.vm.findClass RX2 = some m.cls := findClass_of_methodNamed B.named
  have hlocks := B.notSynchronized
  subst hsz
  have hD := hD0.self (sz := s.heap.size)
  generalize hAe : va_A [(df, .inr (5, [.int dn, .int dz, .int ds, .int dc, .ref da, .ref db, .long dh, .ref dm])), (da, .inl (yda, 240, .inl ea)), (db, .inl (ydb, 450, .inr (.inl eb))), (dm, .inl (ydm, 14, .inl em))] s.heap.size = A at hD ⊢
  have hA : ∀ q : Nat, s.heap.size ≤ q → A q := fun q h => by rw [← hAe]; exact Or.inr h
  have hS : va_S A s.heap s.heap [] := va_S.rf
  have hP : va_P (dC, dI) vwCl [(df, .inr (5, [.int dn, .int dz, .int ds, .int dc, .ref da, .ref db, .long dh, .ref dm])), (da, .inl (yda, 240, .inl ea)), (db, .inl (ydb, 450, .inr (.inl eb))), (dm, .inl (ydm, 14, .inl em))] s.heap := hP
  have hl := lv_entry ([.ref df, .int 0]) (n := 3) (Nat.le_of_ble_eq_true rfl)
  rw [lg_entry_eq]
  generalize (lg_sl ([.ref df, .int 0]) ++ List.replicate (3 - (lg_sl ([.ref df, .int 0])).length) Slot.unset).toArray = ls at hl ⊢
  have hl : lv_has ls 3 [(0, .ref df), (1, .int 0)] := hl
  refine lv_aload_n hx hb dX2_clear_0 rfl (lv_at hl 0 rfl) ?_
  refine lv_iload_n hx hb dX2_clear_1 rfl (lv_at hl 1 rfl) ?_
  refine lv_iconst (v := 1) hx hb dX2_clear_2 (by decide) ?_
  refine lv_iadd hx hb dX2_clear_3 ?_
  refine lv_topi (fun x_1 ex_1 => ?_)
  obtain rfl : x_1 = 1 := ex_1.trans (by decide)
  refine va_put (D := (dC, dI)) (ci := 5) (v := .int 1) (ty := .int) (C := RX2) (T := TX2) (N := 8) hx hb hwA in_wsX20 tyX2 tyX2_ok nmX2 hown hK hP hD hS 0 rfl rfl 0 (by decide) (hwA (.fieldLink RX2 22 "Congruary$Differences" "nodes" "I") (in_wA_3 _ (List.mem_of_getElem? (i := 1) rfl))) (fun _ h9 => h9) rfl (by decide +kernel) rfl rfl (Nat.le_of_ble_eq_true rfl) dX2_clear_4 (fun H locs hP hD hS => ?_)
  have hP : va_P (dC, dI) vwCl [(df, .inr (5, [.int 1, .int dz, .int ds, .int dc, .ref da, .ref db, .long dh, .ref dm])), (da, .inl (yda, 240, .inl ea)), (db, .inl (ydb, 450, .inr (.inl eb))), (dm, .inl (ydm, 14, .inl em))] H := hP
  have hD : va_D A [(df, .inr (5, [.int 1, .int dz, .int ds, .int dc, .ref da, .ref db, .long dh, .ref dm])), (da, .inl (yda, 240, .inl ea)), (db, .inl (ydb, 450, .inr (.inl eb))), (dm, .inl (ydm, 14, .inl em))] := hD
  refine lv_aload_n hx hb dX2_clear_7 rfl (lv_at hl 0 rfl) ?_
  refine lv_iload_n hx hb dX2_clear_8 rfl (lv_at hl 1 rfl) ?_
  refine va_put (D := (dC, dI)) (ci := 5) (v := .int 0) (ty := .int) (C := RX2) (T := TX2) (N := 8) hx hb hwA in_wsX20 tyX2 tyX2_ok nmX2 hown hK hP hD hS 0 rfl rfl 1 (by decide) (hwA (.fieldLink RX2 26 "Congruary$Differences" "zero" "I") (in_wA_3 _ (List.mem_of_getElem? (i := 2) rfl))) (fun _ h9 => h9) rfl (by decide +kernel) rfl rfl (Nat.le_of_ble_eq_true rfl) dX2_clear_9 (fun H locs hP hD hS => ?_)
  have hP : va_P (dC, dI) vwCl [(df, .inr (5, [.int 1, .int 0, .int ds, .int dc, .ref da, .ref db, .long dh, .ref dm])), (da, .inl (yda, 240, .inl ea)), (db, .inl (ydb, 450, .inr (.inl eb))), (dm, .inl (ydm, 14, .inl em))] H := hP
  have hD : va_D A [(df, .inr (5, [.int 1, .int 0, .int ds, .int dc, .ref da, .ref db, .long dh, .ref dm])), (da, .inl (yda, 240, .inl ea)), (db, .inl (ydb, 450, .inr (.inl eb))), (dm, .inl (ydm, 14, .inl em))] := hD
  refine lv_aload_n hx hb dX2_clear_12 rfl (lv_at hl 0 rfl) ?_
  refine lv_aload_n hx hb dX2_clear_13 rfl (lv_at hl 0 rfl) ?_
  refine va_get (D := (dC, dI)) (ci := 5) (v := .int 1) (C := RX2) (T := TX2) (N := 8) hx hb hwA in_wsX20 hown hK hP 0 rfl rfl 0 (by decide) (hwA (.fieldLink RX2 22 "Congruary$Differences" "nodes" "I") (in_wA_3 _ (List.mem_of_getElem? (i := 1) rfl))) (fun _ h9 => h9) rfl dX2_clear_14 ?_
  refine lv_aload_n hx hb dX2_clear_17 rfl (lv_at hl 0 rfl) ?_
  refine va_get (D := (dC, dI)) (ci := 5) (v := .int 1) (C := RX2) (T := TX2) (N := 8) hx hb hwA in_wsX20 hown hK hP 0 rfl rfl 0 (by decide) (hwA (.fieldLink RX2 22 "Congruary$Differences" "nodes" "I") (in_wA_3 _ (List.mem_of_getElem? (i := 1) rfl))) (fun _ h9 => h9) rfl dX2_clear_18 ?_
  refine lv_imul hx hb dX2_clear_21 ?_
  refine lv_topi (fun x_2 ex_2 => ?_)
  obtain rfl : x_2 = 1 := ex_2.trans (by decide)
  refine lv_aload_n hx hb dX2_clear_22 rfl (lv_at hl 0 rfl) ?_
  refine va_get (D := (dC, dI)) (ci := 5) (v := .int 1) (C := RX2) (T := TX2) (N := 8) hx hb hwA in_wsX20 hown hK hP 0 rfl rfl 0 (by decide) (hwA (.fieldLink RX2 22 "Congruary$Differences" "nodes" "I") (in_wA_3 _ (List.mem_of_getElem? (i := 1) rfl))) (fun _ h9 => h9) rfl dX2_clear_23 ?_
  refine lv_iadd hx hb dX2_clear_26 ?_
  refine lv_topi (fun x_3 ex_3 => ?_)
  obtain rfl : x_3 = 2 := ex_3.trans (by decide)
  refine va_put (D := (dC, dI)) (ci := 5) (v := .int 2) (ty := .int) (C := RX2) (T := TX2) (N := 8) hx hb hwA in_wsX20 tyX2 tyX2_ok nmX2 hown hK hP hD hS 0 rfl rfl 2 (by decide) (hwA (.fieldLink RX2 29 "Congruary$Differences" "size" "I") (in_wA_3 _ (List.mem_of_getElem? (i := 3) rfl))) (fun _ h9 => h9) rfl (by decide +kernel) rfl rfl (Nat.le_of_ble_eq_true rfl) dX2_clear_27 (fun H locs hP hD hS => ?_)
  have hP : va_P (dC, dI) vwCl [(df, .inr (5, [.int 1, .int 0, .int 2, .int dc, .ref da, .ref db, .long dh, .ref dm])), (da, .inl (yda, 240, .inl ea)), (db, .inl (ydb, 450, .inr (.inl eb))), (dm, .inl (ydm, 14, .inl em))] H := hP
  have hD : va_D A [(df, .inr (5, [.int 1, .int 0, .int 2, .int dc, .ref da, .ref db, .long dh, .ref dm])), (da, .inl (yda, 240, .inl ea)), (db, .inl (ydb, 450, .inr (.inl eb))), (dm, .inl (ydm, 14, .inl em))] := hD
  refine lv_aload_n hx hb dX2_clear_30 rfl (lv_at hl 0 rfl) ?_
  refine lv_iconst (v := 2) hx hb dX2_clear_31 (by decide) ?_
  refine lv_aload_n hx hb dX2_clear_32 rfl (lv_at hl 0 rfl) ?_
  refine va_get (D := (dC, dI)) (ci := 5) (v := .int 1) (C := RX2) (T := TX2) (N := 8) hx hb hwA in_wsX20 hown hK hP 0 rfl rfl 0 (by decide) (hwA (.fieldLink RX2 22 "Congruary$Differences" "nodes" "I") (in_wA_3 _ (List.mem_of_getElem? (i := 1) rfl))) (fun _ h9 => h9) rfl dX2_clear_33 ?_
  refine lv_imul hx hb dX2_clear_36 ?_
  refine lv_topi (fun x_4 ex_4 => ?_)
  obtain rfl : x_4 = 2 := ex_4.trans (by decide)
  refine lv_aload_n hx hb dX2_clear_37 rfl (lv_at hl 0 rfl) ?_
  refine va_get (D := (dC, dI)) (ci := 5) (v := .int 1) (C := RX2) (T := TX2) (N := 8) hx hb hwA in_wsX20 hown hK hP 0 rfl rfl 0 (by decide) (hwA (.fieldLink RX2 22 "Congruary$Differences" "nodes" "I") (in_wA_3 _ (List.mem_of_getElem? (i := 1) rfl))) (fun _ h9 => h9) rfl dX2_clear_38 ?_
  refine lv_imul hx hb dX2_clear_41 ?_
  refine lv_topi (fun x_5 ex_5 => ?_)
  obtain rfl : x_5 = 2 := ex_5.trans (by decide)
  refine va_put (D := (dC, dI)) (ci := 5) (v := .int 2) (ty := .int) (C := RX2) (T := TX2) (N := 8) hx hb hwA in_wsX20 tyX2 tyX2_ok nmX2 hown hK hP hD hS 0 rfl rfl 3 (by decide) (hwA (.fieldLink RX2 32 "Congruary$Differences" "causeSize" "I") (in_wA_3 _ (List.mem_of_getElem? (i := 4) rfl))) (fun _ h9 => h9) rfl (by decide +kernel) rfl rfl (Nat.le_of_ble_eq_true rfl) dX2_clear_42 (fun H locs hP hD hS => ?_)
  have hP : va_P (dC, dI) vwCl [(df, .inr (5, [.int 1, .int 0, .int 2, .int 2, .ref da, .ref db, .long dh, .ref dm])), (da, .inl (yda, 240, .inl ea)), (db, .inl (ydb, 450, .inr (.inl eb))), (dm, .inl (ydm, 14, .inl em))] H := hP
  have hD : va_D A [(df, .inr (5, [.int 1, .int 0, .int 2, .int 2, .ref da, .ref db, .long dh, .ref dm])), (da, .inl (yda, 240, .inl ea)), (db, .inl (ydb, 450, .inr (.inl eb))), (dm, .inl (ydm, 14, .inl em))] := hD
  refine lv_aload_n hx hb dX2_clear_45 rfl (lv_at hl 0 rfl) ?_
  refine va_get (D := (dC, dI)) (ci := 5) (v := .ref da) (C := RX2) (T := TX2) (N := 8) hx hb hwA in_wsX20 hown hK hP 0 rfl rfl 4 (by decide) (hwA (.fieldLink RX2 11 "Congruary$Differences" "state" "[I") (in_wA_0 _ (List.mem_of_getElem? (i := 11) rfl))) (fun _ h9 => h9) rfl dX2_clear_46 ?_
  refine lv_iconst (v := 0) hx hb dX2_clear_49 (by decide) ?_
  refine lv_aload_n hx hb dX2_clear_50 rfl (lv_at hl 0 rfl) ?_
  refine va_get (D := (dC, dI)) (ci := 5) (v := .int 1) (C := RX2) (T := TX2) (N := 8) hx hb hwA in_wsX20 hown hK hP 0 rfl rfl 0 (by decide) (hwA (.fieldLink RX2 22 "Congruary$Differences" "nodes" "I") (in_wA_3 _ (List.mem_of_getElem? (i := 1) rfl))) (fun _ h9 => h9) rfl dX2_clear_51 ?_
  refine lv_aload_n hx hb dX2_clear_54 rfl (lv_at hl 0 rfl) ?_
  refine va_get (D := (dC, dI)) (ci := 5) (v := .int 1) (C := RX2) (T := TX2) (N := 8) hx hb hwA in_wsX20 hown hK hP 0 rfl rfl 0 (by decide) (hwA (.fieldLink RX2 22 "Congruary$Differences" "nodes" "I") (in_wA_3 _ (List.mem_of_getElem? (i := 1) rfl))) (fun _ h9 => h9) rfl dX2_clear_55 ?_
  refine lv_imul hx hb dX2_clear_58 ?_
  refine lv_topi (fun x_6 ex_6 => ?_)
  obtain rfl : x_6 = 1 := ex_6.trans (by decide)
  refine lv_ldc (v := 1000000) hx hb hown (hwA (.constant RX2 35 (1000000)) (in_wA_3 _ (List.mem_of_getElem? (i := 5) rfl))) dX2_clear_59 ?_
  have hPc := hP.sub (ws' := [(da, .inl (yda, 240, .inl ea))]) [1] rfl
  have hDc := hD.sub (ws' := [(da, .inl (yda, 240, .inl ea))]) [1] (by decide) rfl
  have hKc := hK.sub (tys' := [(yda, .int)]) [0] rfl
  have hFc := va_free (wc := [(da, .inl (yda, 240, .inl ea))]) hD hS hA [1] rfl
  refine va_callv (va_runS (As := [.ref da, .int 0, .int 1, .int 1000000]) (rest := []) ⟨hx, hb, hml, hown, hwA⟩ (c_J7_fill_fda19 l dC dI da yda H.size 240 0 1 ea 1000000 (by omega) (by omega) (by omega)) (va_cwS 4 hwA (gwS (in_wA_3 _ (List.mem_of_getElem? (i := 6) rfl)) (in_wA_3 _ (List.mem_of_getElem? (i := 7) rfl)) (in_wA_1 _ (List.mem_of_getElem? (i := 37) rfl)) (in_wA_2 _ (List.mem_of_getElem? (i := 60) rfl))) rfl rfl rfl (by decide +kernel) ⟨Nat.le_of_ble_eq_true rfl, Nat.le_of_ble_eq_true rfl⟩) ⟨fun a U g mk q => by obtain ⟨q0, q1, qP, qK, qD⟩ := q; exact ⟨q0, q1, qP, va_K.moved (u := U) (U := U.calling g mk a) (Vm.Alike.refl U.vm) qK, qD⟩, fun U hU hW => ⟨rfl, by rw [hU], by rw [hU]; exact hPc, va_K.moved hW.alike hKc, hDc.weaken (fun _ _ _ _ => trivial)⟩⟩ rfl rfl hl.1 rfl (lv_room (Nat.le_of_ble_eq_true rfl)) dX2_clear_61 ⟨Nat.le_of_ble_eq_true rfl, Nat.le_of_ble_eq_true rfl⟩) hS (fun q _ h => hFc q h) hFc (fun u_7 t H1 locs ht hvm hw hB hz1 hk1 hS => ?_)
  obtain ⟨hP1, hK1, hD1⟩ := hB
  rw [ht] at hP1
  have hK1 := va_K.moved hvm.symm hK1
  obtain ⟨hP, hD⟩ := va_join (wr := [(df, .inr (5, [.int 1, .int 0, .int 2, .int 2, .ref da, .ref db, .long dh, .ref dm])), (db, .inl (ydb, 450, .inr (.inl eb))), (dm, .inl (ydm, 14, .inl em))]) (w1 := [(da, .inl (yda, 240, .inl (fillR ea 0 1 1000000)))]) hP hD [1] [0, 2, 3] rfl rfl (by decide) (by decide) hk1 hFc hP1 hD1
  have hK := (hK.sub (tys' := [(ydb, .long), (ydm, .int)]) [1, 2] rfl).app hK1
  generalize H1 = H at hP hS ⊢
  have hP : va_P (dC, dI) vwCl [(df, .inr (5, [.int 1, .int 0, .int 2, .int 2, .ref da, .ref db, .long dh, .ref dm])), (db, .inl (ydb, 450, .inr (.inl eb))), (dm, .inl (ydm, 14, .inl em)), (da, .inl (yda, 240, .inl (fillR ea 0 1 1000000)))] H := hP
  have hD : va_D A [(df, .inr (5, [.int 1, .int 0, .int 2, .int 2, .ref da, .ref db, .long dh, .ref dm])), (db, .inl (ydb, 450, .inr (.inl eb))), (dm, .inl (ydm, 14, .inl em)), (da, .inl (yda, 240, .inl (fillR ea 0 1 1000000)))] := hD
  have hK : va_K (dC, dI) vwCl [(ydb, .long), (ydm, .int), (yda, .int)] s := hK
  refine W.widen (k := 0) (n := 0) (by omega) (by omega) ?_
  have hw_9 := hw
  refine lv_aload_n hx hb dX2_clear_64 rfl (lv_at hl 0 rfl) ?_
  refine va_get (D := (dC, dI)) (ci := 5) (v := .ref da) (C := RX2) (T := TX2) (N := 8) hx hb hwA in_wsX20 hown hK hP 0 rfl rfl 4 (by decide) (hwA (.fieldLink RX2 11 "Congruary$Differences" "state" "[I") (in_wA_0 _ (List.mem_of_getElem? (i := 11) rfl))) (fun _ h9 => h9) rfl dX2_clear_65 ?_
  refine lv_aload_n hx hb dX2_clear_68 rfl (lv_at hl 0 rfl) ?_
  refine va_get (D := (dC, dI)) (ci := 5) (v := .int 1) (C := RX2) (T := TX2) (N := 8) hx hb hwA in_wsX20 hown hK hP 0 rfl rfl 0 (by decide) (hwA (.fieldLink RX2 22 "Congruary$Differences" "nodes" "I") (in_wA_3 _ (List.mem_of_getElem? (i := 1) rfl))) (fun _ h9 => h9) rfl dX2_clear_69 ?_
  refine lv_aload_n hx hb dX2_clear_72 rfl (lv_at hl 0 rfl) ?_
  refine va_get (D := (dC, dI)) (ci := 5) (v := .int 1) (C := RX2) (T := TX2) (N := 8) hx hb hwA in_wsX20 hown hK hP 0 rfl rfl 0 (by decide) (hwA (.fieldLink RX2 22 "Congruary$Differences" "nodes" "I") (in_wA_3 _ (List.mem_of_getElem? (i := 1) rfl))) (fun _ h9 => h9) rfl dX2_clear_73 ?_
  refine lv_imul hx hb dX2_clear_76 ?_
  refine lv_topi (fun x_10 ex_10 => ?_)
  obtain rfl : x_10 = 1 := ex_10.trans (by decide)
  refine lv_aload_n hx hb dX2_clear_77 rfl (lv_at hl 0 rfl) ?_
  refine va_get (D := (dC, dI)) (ci := 5) (v := .int 2) (C := RX2) (T := TX2) (N := 8) hx hb hwA in_wsX20 hown hK hP 0 rfl rfl 2 (by decide) (hwA (.fieldLink RX2 29 "Congruary$Differences" "size" "I") (in_wA_3 _ (List.mem_of_getElem? (i := 3) rfl))) (fun _ h9 => h9) rfl dX2_clear_78 ?_
  refine lv_iconst (v := 0) hx hb dX2_clear_81 (by decide) ?_
  have hPc := hP.sub (ws' := [(da, .inl (yda, 240, .inl (fillR ea 0 1 1000000)))]) [3] rfl
  have hDc := hD.sub (ws' := [(da, .inl (yda, 240, .inl (fillR ea 0 1 1000000)))]) [3] (by decide) rfl
  have hKc := hK.sub (tys' := [(yda, .int)]) [2] rfl
  have hFc := va_free (wc := [(da, .inl (yda, 240, .inl (fillR ea 0 1 1000000)))]) hD hS hA [3] rfl
  refine va_callv (va_runS (As := [.ref da, .int 1, .int 2, .int 0]) (rest := []) ⟨hx, hb, hml, hown, hwA⟩ (c_J7_fill_fda19 l dC dI da yda H.size 240 1 2 (fillR ea 0 1 1000000) 0 (by omega) (by omega) (by omega)) (va_cwS 4 hwA (gwS (in_wA_3 _ (List.mem_of_getElem? (i := 6) rfl)) (in_wA_3 _ (List.mem_of_getElem? (i := 7) rfl)) (in_wA_1 _ (List.mem_of_getElem? (i := 37) rfl)) (in_wA_2 _ (List.mem_of_getElem? (i := 60) rfl))) rfl rfl rfl (by decide +kernel) ⟨Nat.le_of_ble_eq_true rfl, Nat.le_of_ble_eq_true rfl⟩) ⟨fun a U g mk q => by obtain ⟨q0, q1, qP, qK, qD⟩ := q; exact ⟨q0, q1, qP, va_K.moved (u := U) (U := U.calling g mk a) (Vm.Alike.refl U.vm) qK, qD⟩, fun U hU hW => ⟨rfl, by rw [hU], by rw [hU]; exact hPc, va_K.moved hW.alike hKc, hDc.weaken (fun _ _ _ _ => trivial)⟩⟩ rfl rfl hl.1 rfl (lv_room (Nat.le_of_ble_eq_true rfl)) dX2_clear_82 ⟨Nat.le_of_ble_eq_true rfl, Nat.le_of_ble_eq_true rfl⟩) hS (fun q _ h => hFc q h) hFc (fun u_11 t H1 locs ht hvm hw hB hz1 hk1 hS => ?_)
  obtain ⟨hP1, hK1, hD1⟩ := hB
  rw [ht] at hP1
  have hK1 := va_K.moved hvm.symm hK1
  obtain ⟨hP, hD⟩ := va_join (wr := [(df, .inr (5, [.int 1, .int 0, .int 2, .int 2, .ref da, .ref db, .long dh, .ref dm])), (db, .inl (ydb, 450, .inr (.inl eb))), (dm, .inl (ydm, 14, .inl em))]) (w1 := [(da, .inl (yda, 240, .inl (fillR (fillR ea 0 1 1000000) 1 2 0)))]) hP hD [3] [0, 1, 2] rfl rfl (by decide) (by decide) hk1 hFc hP1 hD1
  have hK := (hK.sub (tys' := [(ydb, .long), (ydm, .int)]) [0, 1] rfl).app hK1
  generalize H1 = H at hP hS ⊢
  have hP : va_P (dC, dI) vwCl [(df, .inr (5, [.int 1, .int 0, .int 2, .int 2, .ref da, .ref db, .long dh, .ref dm])), (db, .inl (ydb, 450, .inr (.inl eb))), (dm, .inl (ydm, 14, .inl em)), (da, .inl (yda, 240, .inl (fillR (fillR ea 0 1 1000000) 1 2 0)))] H := hP
  have hD : va_D A [(df, .inr (5, [.int 1, .int 0, .int 2, .int 2, .ref da, .ref db, .long dh, .ref dm])), (db, .inl (ydb, 450, .inr (.inl eb))), (dm, .inl (ydm, 14, .inl em)), (da, .inl (yda, 240, .inl (fillR (fillR ea 0 1 1000000) 1 2 0)))] := hD
  have hK : va_K (dC, dI) vwCl [(ydb, .long), (ydm, .int), (yda, .int)] s := hK
  refine W.widen (k := 0) (n := 0) (by omega) (by omega) ?_
  have hw_13 := hw
  refine lv_aload_n hx hb dX2_clear_85 rfl (lv_at hl 0 rfl) ?_
  refine va_get (D := (dC, dI)) (ci := 5) (v := .ref db) (C := RX2) (T := TX2) (N := 8) hx hb hwA in_wsX20 hown hK hP 0 rfl rfl 5 (by decide) (hwA (.fieldLink RX2 15 "Congruary$Differences" "causes" "[J") (in_wA_0 _ (List.mem_of_getElem? (i := 13) rfl))) (fun _ h9 => h9) rfl dX2_clear_86 ?_
  refine lv_iconst (v := 0) hx hb dX2_clear_89 (by decide) ?_
  refine lv_iconst (v := 2) hx hb dX2_clear_90 (by decide) ?_
  refine lv_aload_n hx hb dX2_clear_91 rfl (lv_at hl 0 rfl) ?_
  refine va_get (D := (dC, dI)) (ci := 5) (v := .int 1) (C := RX2) (T := TX2) (N := 8) hx hb hwA in_wsX20 hown hK hP 0 rfl rfl 0 (by decide) (hwA (.fieldLink RX2 22 "Congruary$Differences" "nodes" "I") (in_wA_3 _ (List.mem_of_getElem? (i := 1) rfl))) (fun _ h9 => h9) rfl dX2_clear_92 ?_
  refine lv_imul hx hb dX2_clear_95 ?_
  refine lv_topi (fun x_14 ex_14 => ?_)
  obtain rfl : x_14 = 2 := ex_14.trans (by decide)
  refine lv_aload_n hx hb dX2_clear_96 rfl (lv_at hl 0 rfl) ?_
  refine va_get (D := (dC, dI)) (ci := 5) (v := .int 1) (C := RX2) (T := TX2) (N := 8) hx hb hwA in_wsX20 hown hK hP 0 rfl rfl 0 (by decide) (hwA (.fieldLink RX2 22 "Congruary$Differences" "nodes" "I") (in_wA_3 _ (List.mem_of_getElem? (i := 1) rfl))) (fun _ h9 => h9) rfl dX2_clear_97 ?_
  refine lv_imul hx hb dX2_clear_100 ?_
  refine lv_topi (fun x_15 ex_15 => ?_)
  obtain rfl : x_15 = 2 := ex_15.trans (by decide)
  refine lv_lconst (v := 0) hx hb dX2_clear_101 (by decide) ?_
  have hPc := hP.sub (ws' := [(db, .inl (ydb, 450, .inr (.inl eb)))]) [1] rfl
  have hDc := hD.sub (ws' := [(db, .inl (ydb, 450, .inr (.inl eb)))]) [1] (by decide) rfl
  have hKc := hK.sub (tys' := [(ydb, .long)]) [0] rfl
  have hFc := va_free (wc := [(db, .inl (ydb, 450, .inr (.inl eb)))]) hD hS hA [1] rfl
  refine va_callv (va_runS (As := [.ref db, .int 0, .int 2, .long 0]) (rest := []) ⟨hx, hb, hml, hown, hwA⟩ (c_J7_fill_bad5a l dC dI db ydb H.size 450 0 2 eb 0 (by omega) (by omega) (by omega)) (va_cwS 4 hwA (gwS (in_wA_3 _ (List.mem_of_getElem? (i := 8) rfl)) (in_wA_3 _ (List.mem_of_getElem? (i := 9) rfl)) (in_wA_1 _ (List.mem_of_getElem? (i := 37) rfl)) (in_wA_2 _ (List.mem_of_getElem? (i := 63) rfl))) rfl rfl rfl (by decide +kernel) ⟨Nat.le_of_ble_eq_true rfl, Nat.le_of_ble_eq_true rfl⟩) ⟨fun a U g mk q => by obtain ⟨q0, q1, qP, qK, qD⟩ := q; exact ⟨q0, q1, qP, va_K.moved (u := U) (U := U.calling g mk a) (Vm.Alike.refl U.vm) qK, qD⟩, fun U hU hW => ⟨rfl, by rw [hU], by rw [hU]; exact hPc, va_K.moved hW.alike hKc, hDc.weaken (fun _ _ _ _ => trivial)⟩⟩ rfl rfl hl.1 rfl (lv_room (Nat.le_of_ble_eq_true rfl)) dX2_clear_102 ⟨Nat.le_of_ble_eq_true rfl, Nat.le_of_ble_eq_true rfl⟩) hS (fun q _ h => hFc q h) hFc (fun u_16 t H1 locs ht hvm hw hB hz1 hk1 hS => ?_)
  obtain ⟨hP1, hK1, hD1⟩ := hB
  rw [ht] at hP1
  have hK1 := va_K.moved hvm.symm hK1
  obtain ⟨hP, hD⟩ := va_join (wr := [(df, .inr (5, [.int 1, .int 0, .int 2, .int 2, .ref da, .ref db, .long dh, .ref dm])), (dm, .inl (ydm, 14, .inl em)), (da, .inl (yda, 240, .inl (fillR (fillR ea 0 1 1000000) 1 2 0)))]) (w1 := [(db, .inl (ydb, 450, .inr (.inl (fillR eb 0 2 0))))]) hP hD [1] [0, 2, 3] rfl rfl (by decide) (by decide) hk1 hFc hP1 hD1
  have hK := (hK.sub (tys' := [(ydm, .int), (yda, .int)]) [1, 2] rfl).app hK1
  generalize H1 = H at hP hS ⊢
  have hP : va_P (dC, dI) vwCl [(df, .inr (5, [.int 1, .int 0, .int 2, .int 2, .ref da, .ref db, .long dh, .ref dm])), (dm, .inl (ydm, 14, .inl em)), (da, .inl (yda, 240, .inl (fillR (fillR ea 0 1 1000000) 1 2 0))), (db, .inl (ydb, 450, .inr (.inl (fillR eb 0 2 0))))] H := hP
  have hD : va_D A [(df, .inr (5, [.int 1, .int 0, .int 2, .int 2, .ref da, .ref db, .long dh, .ref dm])), (dm, .inl (ydm, 14, .inl em)), (da, .inl (yda, 240, .inl (fillR (fillR ea 0 1 1000000) 1 2 0))), (db, .inl (ydb, 450, .inr (.inl (fillR eb 0 2 0))))] := hD
  have hK : va_K (dC, dI) vwCl [(ydm, .int), (yda, .int), (ydb, .long)] s := hK
  refine W.widen (k := 0) (n := 0) (by omega) (by omega) ?_
  have hw_18 := hw
  refine lv_iconst (v := 0) hx hb dX2_clear_105 (by decide) ?_
  refine lv_istore_n (lv' := [(2, .int 0), (0, .ref df), (1, .int 0)]) hx hb dX2_clear_106 rfl hl (by decide) rfl (fun ls hl => ?_)
  refine lv_iload_n hx hb dX2_clear_107 rfl (lv_at hl 0 rfl) ?_
  refine lv_aload_n hx hb dX2_clear_108 rfl (lv_at hl 1 rfl) ?_
  refine va_get (D := (dC, dI)) (ci := 5) (v := .int 1) (C := RX2) (T := TX2) (N := 8) hx hb hwA in_wsX20 hown hK hP 0 rfl rfl 0 (by decide) (hwA (.fieldLink RX2 22 "Congruary$Differences" "nodes" "I") (in_wA_3 _ (List.mem_of_getElem? (i := 1) rfl))) (fun _ h9 => h9) rfl dX2_clear_109 ?_
  refine lv_icmp_ge (tgt := 152) hx hb dX2_clear_112 (by decide) (fun c_19 => ?_) (fun c_19 => ?_)
  · exact absurd c_19 (by decide)
  · refine lv_aload_n hx hb dX2_clear_115 rfl (lv_at hl 1 rfl) ?_
    refine va_get (D := (dC, dI)) (ci := 5) (v := .ref da) (C := RX2) (T := TX2) (N := 8) hx hb hwA in_wsX20 hown hK hP 0 rfl rfl 4 (by decide) (hwA (.fieldLink RX2 11 "Congruary$Differences" "state" "[I") (in_wA_0 _ (List.mem_of_getElem? (i := 11) rfl))) (fun _ h9 => h9) rfl dX2_clear_116 ?_
    refine lv_aload_n hx hb dX2_clear_119 rfl (lv_at hl 1 rfl) ?_
    refine va_get (D := (dC, dI)) (ci := 5) (v := .int 0) (C := RX2) (T := TX2) (N := 8) hx hb hwA in_wsX20 hown hK hP 0 rfl rfl 1 (by decide) (hwA (.fieldLink RX2 26 "Congruary$Differences" "zero" "I") (in_wA_3 _ (List.mem_of_getElem? (i := 2) rfl))) (fun _ h9 => h9) rfl dX2_clear_120 ?_
    refine lv_aload_n hx hb dX2_clear_123 rfl (lv_at hl 1 rfl) ?_
    refine va_get (D := (dC, dI)) (ci := 5) (v := .int 1) (C := RX2) (T := TX2) (N := 8) hx hb hwA in_wsX20 hown hK hP 0 rfl rfl 0 (by decide) (hwA (.fieldLink RX2 22 "Congruary$Differences" "nodes" "I") (in_wA_3 _ (List.mem_of_getElem? (i := 1) rfl))) (fun _ h9 => h9) rfl dX2_clear_124 ?_
    refine lv_imul hx hb dX2_clear_127 ?_
    refine lv_topi (fun x_20 ex_20 => ?_)
    obtain rfl : x_20 = 0 := ex_20.trans (by decide)
    refine lv_iload_n hx hb dX2_clear_128 rfl (lv_at hl 0 rfl) ?_
    refine lv_iadd hx hb dX2_clear_129 ?_
    refine lv_topi (fun x_21 ex_21 => ?_)
    obtain rfl : x_21 = 0 := ex_21.trans (by decide)
    refine lv_iconst (v := 0) hx hb dX2_clear_130 (by decide) ?_
    refine va_iast hx hb hK hP hD hS 2 1 rfl rfl (vp_in_nI (n := 0) (by omega) (by omega)) dX2_clear_131 (fun H locs hP hD hS => ?_)
    have hP : va_P (dC, dI) vwCl [(df, .inr (5, [.int 1, .int 0, .int 2, .int 2, .ref da, .ref db, .long dh, .ref dm])), (dm, .inl (ydm, 14, .inl em)), (da, .inl (yda, 240, .inl (upd (fillR (fillR ea 0 1 1000000) 1 2 0) 0 0))), (db, .inl (ydb, 450, .inr (.inl (fillR eb 0 2 0))))] H := hP
    have hD : va_D A [(df, .inr (5, [.int 1, .int 0, .int 2, .int 2, .ref da, .ref db, .long dh, .ref dm])), (dm, .inl (ydm, 14, .inl em)), (da, .inl (yda, 240, .inl (upd (fillR (fillR ea 0 1 1000000) 1 2 0) 0 0))), (db, .inl (ydb, 450, .inr (.inl (fillR eb 0 2 0))))] := hD
    refine lv_aload_n hx hb dX2_clear_132 rfl (lv_at hl 1 rfl) ?_
    refine va_get (D := (dC, dI)) (ci := 5) (v := .ref da) (C := RX2) (T := TX2) (N := 8) hx hb hwA in_wsX20 hown hK hP 0 rfl rfl 4 (by decide) (hwA (.fieldLink RX2 11 "Congruary$Differences" "state" "[I") (in_wA_0 _ (List.mem_of_getElem? (i := 11) rfl))) (fun _ h9 => h9) rfl dX2_clear_133 ?_
    refine lv_iload_n hx hb dX2_clear_136 rfl (lv_at hl 0 rfl) ?_
    refine lv_aload_n hx hb dX2_clear_137 rfl (lv_at hl 1 rfl) ?_
    refine va_get (D := (dC, dI)) (ci := 5) (v := .int 1) (C := RX2) (T := TX2) (N := 8) hx hb hwA in_wsX20 hown hK hP 0 rfl rfl 0 (by decide) (hwA (.fieldLink RX2 22 "Congruary$Differences" "nodes" "I") (in_wA_3 _ (List.mem_of_getElem? (i := 1) rfl))) (fun _ h9 => h9) rfl dX2_clear_138 ?_
    refine lv_imul hx hb dX2_clear_141 ?_
    refine lv_topi (fun x_22 ex_22 => ?_)
    obtain rfl : x_22 = 0 := ex_22.trans (by decide)
    refine lv_iload_n hx hb dX2_clear_142 rfl (lv_at hl 0 rfl) ?_
    refine lv_iadd hx hb dX2_clear_143 ?_
    refine lv_topi (fun x_23 ex_23 => ?_)
    obtain rfl : x_23 = 0 := ex_23.trans (by decide)
    refine lv_iconst (v := 0) hx hb dX2_clear_144 (by decide) ?_
    refine va_iast hx hb hK hP hD hS 2 1 rfl rfl (vp_in_nI (n := 0) (by omega) (by omega)) dX2_clear_145 (fun H locs hP hD hS => ?_)
    have hP : va_P (dC, dI) vwCl [(df, .inr (5, [.int 1, .int 0, .int 2, .int 2, .ref da, .ref db, .long dh, .ref dm])), (dm, .inl (ydm, 14, .inl em)), (da, .inl (yda, 240, .inl (upd (upd (fillR (fillR ea 0 1 1000000) 1 2 0) 0 0) 0 0))), (db, .inl (ydb, 450, .inr (.inl (fillR eb 0 2 0))))] H := hP
    have hD : va_D A [(df, .inr (5, [.int 1, .int 0, .int 2, .int 2, .ref da, .ref db, .long dh, .ref dm])), (dm, .inl (ydm, 14, .inl em)), (da, .inl (yda, 240, .inl (upd (upd (fillR (fillR ea 0 1 1000000) 1 2 0) 0 0) 0 0))), (db, .inl (ydb, 450, .inr (.inl (fillR eb 0 2 0))))] := hD
    refine lv_iinc (v := 1) (lv' := [(2, .int 1), (0, .ref df), (1, .int 0)]) hx hb dX2_clear_146 hl (k := 0) rfl (by decide) (by decide) rfl (fun ls hl => ?_)
    refine lv_goto (tgt := 107) hx hb dX2_clear_149 (by decide) ?_
    refine lv_iload_n hx hb dX2_clear_107 rfl (lv_at hl 0 rfl) ?_
    refine lv_aload_n hx hb dX2_clear_108 rfl (lv_at hl 1 rfl) ?_
    refine va_get (D := (dC, dI)) (ci := 5) (v := .int 1) (C := RX2) (T := TX2) (N := 8) hx hb hwA in_wsX20 hown hK hP 0 rfl rfl 0 (by decide) (hwA (.fieldLink RX2 22 "Congruary$Differences" "nodes" "I") (in_wA_3 _ (List.mem_of_getElem? (i := 1) rfl))) (fun _ h9 => h9) rfl dX2_clear_109 ?_
    refine lv_icmp_ge (tgt := 152) hx hb dX2_clear_112 (by decide) (fun c_25 => ?_) (fun c_25 => ?_)
    · have hP9 := hP.sub (ws' := [(df, .inr (5, [.int 1, .int 0, .int 2, .int 2, .ref da, .ref db, .long dh, .ref dm])), (da, .inl (yda, 240, .inl (upd (upd (fillR (fillR ea 0 1 1000000) 1 2 0) 0 0) 0 0))), (db, .inl (ydb, 450, .inr (.inl (fillR eb 0 2 0)))), (dm, .inl (ydm, 14, .inl em))]) [0, 2, 3, 1] rfl
      have hD9 := hD.sub (ws' := [(df, .inr (5, [.int 1, .int 0, .int 2, .int 2, .ref da, .ref db, .long dh, .ref dm])), (da, .inl (yda, 240, .inl (upd (upd (fillR (fillR ea 0 1 1000000) 1 2 0) 0 0) 0 0))), (db, .inl (ydb, 450, .inr (.inl (fillR eb 0 2 0)))), (dm, .inl (ydm, 14, .inl em))]) [0, 2, 3, 1] (by decide) rfl
      have hK9 := hK.sub (tys' := [(yda, .int), (ydb, .long), (ydm, .int)]) [1, 2, 0] rfl
      refine W.widen (k := 0) (n := 0) (by omega) (by omega) ?_
      exact W.vret hx hb hr (fun t ht hW => ⟨⟨(), rfl, trivial, by rw [ht]; exact hP9, va_K.moved hW.alike hK9, hD9⟩, hS.F ht⟩) hS.2.2 dX2_clear_152
    · exact absurd c_25 (by decide)

set_option maxHeartbeats 4000000 in
set_option maxRecDepth 100000 in
theorem c_X2_chooseNumbers_F (l : Launch) (dC : Nat → ClassId) (dI : Nat → Nat → Nat) (df da db dm : Nat) (yda ydb ydm : ClassId) (sz : Nat) (ea : Nat → Int32) (eb : Nat → Int64) (em : Nat → Int32) (dh : Int64) (x : Int32) : Met l yX2_chooseNumbers (.code yX2_chooseNumbers cX2_chooseNumbers 6 none :: wAll) ({ frames := 0, cells := 0, slots := 0, locals := 0 }) (va_Pc [.ref df, .int x] (fun U => U.heap.size = sz ∧ va_P (dC, dI) vwCl [(df, .inr (5, [.int 1, .int 0, .int 2, .int 2, .ref da, .ref db, .long dh, .ref dm])), (da, .inl (yda, 240, .inl ea)), (db, .inl (ydb, 450, .inr (.inl eb))), (dm, .inl (ydm, 14, .inl em))] U.heap ∧ va_K (dC, dI) vwCl [(yda, .int), (ydb, .long), (ydm, .int)] U ∧ va_D (fun _ => True) [(df, .inr (5, [.int 1, .int 0, .int 2, .int 2, .ref da, .ref db, .long dh, .ref dm])), (da, .inl (yda, 240, .inl ea)), (db, .inl (ydb, 450, .inr (.inl eb))), (dm, .inl (ydm, 14, .inl em))])) (va_Qv (fun (_ : Unit) => True) (fun (_ : Unit) (t : State) => va_P (dC, dI) vwCl [(df, .inr (5, [.int 1, .int 0, .int 2, .int 2, .ref da, .ref db, .long dh, .ref dm])), (da, .inl (yda, 240, .inl ea)), (db, .inl (ydb, 450, .inr (.inl eb))), (dm, .inl (ydm, 14, .inl em))] t.heap ∧ va_K (dC, dI) vwCl [(yda, .int), (ydb, .long), (ydm, .int)] t ∧ va_D (va_A [(df, .inr (5, [.int 1, .int 0, .int 2, .int 2, .ref da, .ref db, .long dh, .ref dm])), (da, .inl (yda, 240, .inl ea)), (db, .inl (ydb, 450, .inr (.inl eb))), (dm, .inl (ydm, 14, .inl em))] sz) [(df, .inr (5, [.int 1, .int 0, .int 2, .int 2, .ref da, .ref db, .long dh, .ref dm])), (da, .inl (yda, 240, .inl ea)), (db, .inl (ydb, 450, .inr (.inl eb))), (dm, .inl (ydm, 14, .inl em))]) (va_A [(df, .inr (5, [.int 1, .int 0, .int 2, .int 2, .ref da, .ref db, .long dh, .ref dm])), (da, .inl (yda, 240, .inl ea)), (db, .inl (ydb, 450, .inr (.inl eb))), (dm, .inl (ydm, 14, .inl em))] sz)) 0 0 (va_A [(df, .inr (5, [.int 1, .int 0, .int 2, .int 2, .ref da, .ref db, .long dh, .ref dm])), (da, .inl (yda, 240, .inl ea)), (db, .inl (ydb, 450, .inr (.inl eb))), (dm, .inl (ydm, 14, .inl em))] sz) := by
  refine Met.ofW (cc := cX2_chooseNumbers) (maxL := 6) (ret := none) (by decide) rfl ?_
  intro p e s m args below meth c s₁ B hml hv
  obtain ⟨rfl, hsz, hP, hK, hD0⟩ := hv
  have hx := B.exec
  have hb := B.bytes
  have hr := B.returns
  have hts := atoms_spec (ws := .code yX2_chooseNumbers cX2_chooseNumbers 6 none :: wAll) B.pre
  have hwA := fun w (h : w ∈ wAll) => hts w (List.mem_cons_of_mem _ h)
  have hown : s.vm.findClass RX2 = some m.cls := findClass_of_methodNamed B.named
  have hlocks := B.notSynchronized
  subst hsz
  have hD := hD0.self (sz := s.heap.size)
  generalize hAe : va_A [(df, .inr (5, [.int 1, .int 0, .int 2, .int 2, .ref da, .ref db, .long dh, .ref dm])), (da, .inl (yda, 240, .inl ea)), (db, .inl (ydb, 450, .inr (.inl eb))), (dm, .inl (ydm, 14, .inl em))] s.heap.size = A at hD ⊢
  have hA : ∀ q : Nat, s.heap.size ≤ q → A q := fun q h => by rw [← hAe]; exact Or.inr h
  have hS : va_S A s.heap s.heap [] := va_S.rf
  have hP : va_P (dC, dI) vwCl [(df, .inr (5, [.int 1, .int 0, .int 2, .int 2, .ref da, .ref db, .long dh, .ref dm])), (da, .inl (yda, 240, .inl ea)), (db, .inl (ydb, 450, .inr (.inl eb))), (dm, .inl (ydm, 14, .inl em))] s.heap := hP
  have hl := lv_entry ([.ref df, .int x]) (n := 6) (Nat.le_of_ble_eq_true rfl)
  rw [lg_entry_eq]
  generalize (lg_sl ([.ref df, .int x]) ++ List.replicate (6 - (lg_sl ([.ref df, .int x])).length) Slot.unset).toArray = ls at hl ⊢
  have hl : lv_has ls 6 [(0, .ref df), (1, .int x)] := hl
  refine lv_iconst (v := 0) hx hb dX2_chooseNumbers_0 (by decide) ?_
  refine lv_istore_n (lv' := [(2, .int 0), (0, .ref df), (1, .int x)]) hx hb dX2_chooseNumbers_1 rfl hl (by decide) rfl (fun ls hl => ?_)
  refine lv_iload_n hx hb dX2_chooseNumbers_2 rfl (lv_at hl 0 rfl) ?_
  refine lv_aload_n hx hb dX2_chooseNumbers_3 rfl (lv_at hl 1 rfl) ?_
  refine va_get (D := (dC, dI)) (ci := 5) (v := .int 0) (C := RX2) (T := TX2) (N := 8) hx hb hwA in_wsX20 hown hK hP 0 rfl rfl 1 (by decide) (hwA (.fieldLink RX2 26 "Congruary$Differences" "zero" "I") (in_wA_3 _ (List.mem_of_getElem? (i := 2) rfl))) (fun _ h9 => h9) rfl dX2_chooseNumbers_4 ?_
  refine lv_icmp_ge (tgt := 153) hx hb dX2_chooseNumbers_7 (by decide) (fun c_1 => ?_) (fun c_1 => ?_)
  · have hP9 := hP.sub (ws' := [(df, .inr (5, [.int 1, .int 0, .int 2, .int 2, .ref da, .ref db, .long dh, .ref dm])), (da, .inl (yda, 240, .inl ea)), (db, .inl (ydb, 450, .inr (.inl eb))), (dm, .inl (ydm, 14, .inl em))]) [0, 1, 2, 3] rfl
    have hD9 := hD.sub (ws' := [(df, .inr (5, [.int 1, .int 0, .int 2, .int 2, .ref da, .ref db, .long dh, .ref dm])), (da, .inl (yda, 240, .inl ea)), (db, .inl (ydb, 450, .inr (.inl eb))), (dm, .inl (ydm, 14, .inl em))]) [0, 1, 2, 3] (by decide) rfl
    have hK9 := hK.sub (tys' := [(yda, .int), (ydb, .long), (ydm, .int)]) [0, 1, 2] rfl
    refine W.widen (k := 0) (n := 0) (by omega) (by omega) ?_
    exact W.vret hx hb hr (fun t ht hW => ⟨⟨(), rfl, trivial, by rw [ht]; exact hP9, va_K.moved hW.alike hK9, hD9⟩, hS.F ht⟩) hS.2.2 dX2_chooseNumbers_153
  · exact absurd c_1 (by decide)

set_option maxHeartbeats 4000000 in
set_option maxRecDepth 100000 in
theorem c_X5_partSame_F (l : Launch) (dC : Nat → ClassId) (dI : Nat → Nat → Nat) (se tb de df sn ss sv sy tk tf t1 t2 t3 : Nat) (ysn : ClassId) (sz : Nat) (ed : Int32) (ec : Int32) (ef : Int32) (ey : Int32) (en : Nat → Int32) : Met l yX5_partSame (.code yX5_partSame cX5_partSame 4 (some .boolean) :: wAll) ({ frames := 0, cells := 0, slots := 0, locals := 0 }) (va_Pc [.ref se] (fun U => U.heap.size = sz ∧ va_P (dC, dI) vwCl [(se, .inr (7, [.ref tb, .ref de, .ref df, .ref sn, .ref ss, .ref sv, .ref sy, .int ed, .int ec, .int ef, .int ey])), (sn, .inl (ysn, 14, .inl en)), (tb, .inr (9, [.ref tk, .ref tf, .ref t1, .ref t2, .ref t3, .int 0]))] U.heap ∧ va_K (dC, dI) vwCl [(ysn, .int)] U ∧ va_D (fun _ => True) [(se, .inr (7, [.ref tb, .ref de, .ref df, .ref sn, .ref ss, .ref sv, .ref sy, .int ed, .int ec, .int ef, .int ey])), (sn, .inl (ysn, 14, .inl en)), (tb, .inr (9, [.ref tk, .ref tf, .ref t1, .ref t2, .ref t3, .int 0]))])) (va_Qi (fun (r : Int32) (_ : Unit) => r = 1) (fun (_ : Unit) (t : State) => va_P (dC, dI) vwCl [(se, .inr (7, [.ref tb, .ref de, .ref df, .ref sn, .ref ss, .ref sv, .ref sy, .int ed, .int ec, .int ef, .int ey])), (sn, .inl (ysn, 14, .inl en)), (tb, .inr (9, [.ref tk, .ref tf, .ref t1, .ref t2, .ref t3, .int 0]))] t.heap ∧ va_K (dC, dI) vwCl [(ysn, .int)] t ∧ va_D (va_A [(se, .inr (7, [.ref tb, .ref de, .ref df, .ref sn, .ref ss, .ref sv, .ref sy, .int ed, .int ec, .int ef, .int ey])), (sn, .inl (ysn, 14, .inl en)), (tb, .inr (9, [.ref tk, .ref tf, .ref t1, .ref t2, .ref t3, .int 0]))] sz) [(se, .inr (7, [.ref tb, .ref de, .ref df, .ref sn, .ref ss, .ref sv, .ref sy, .int ed, .int ec, .int ef, .int ey])), (sn, .inl (ysn, 14, .inl en)), (tb, .inr (9, [.ref tk, .ref tf, .ref t1, .ref t2, .ref t3, .int 0]))]) (va_A [(se, .inr (7, [.ref tb, .ref de, .ref df, .ref sn, .ref ss, .ref sv, .ref sy, .int ed, .int ec, .int ef, .int ey])), (sn, .inl (ysn, 14, .inl en)), (tb, .inr (9, [.ref tk, .ref tf, .ref t1, .ref t2, .ref t3, .int 0]))] sz)) 0 0 (va_A [(se, .inr (7, [.ref tb, .ref de, .ref df, .ref sn, .ref ss, .ref sv, .ref sy, .int ed, .int ec, .int ef, .int ey])), (sn, .inl (ysn, 14, .inl en)), (tb, .inr (9, [.ref tk, .ref tf, .ref t1, .ref t2, .ref t3, .int 0]))] sz) := by
  refine Met.ofW (cc := cX5_partSame) (maxL := 4) (ret := (some .boolean)) (by decide) rfl ?_
  intro p e s m args below meth c s₁ B hml hv
  obtain ⟨rfl, hsz, hP, hK, hD0⟩ := hv
  have hx := B.exec
  have hb := B.bytes
  have hr := B.returns
  have hts := atoms_spec (ws := .code yX5_partSame cX5_partSame 4 (some .boolean) :: wAll) B.pre
  have hwA := fun w (h : w ∈ wAll) => hts w (List.mem_cons_of_mem _ h)
  have hown : s.vm.findClass RX5 = some m.cls := findClass_of_methodNamed B.named
  have hlocks := B.notSynchronized
  subst hsz
  have hD := hD0.self (sz := s.heap.size)
  generalize hAe : va_A [(se, .inr (7, [.ref tb, .ref de, .ref df, .ref sn, .ref ss, .ref sv, .ref sy, .int ed, .int ec, .int ef, .int ey])), (sn, .inl (ysn, 14, .inl en)), (tb, .inr (9, [.ref tk, .ref tf, .ref t1, .ref t2, .ref t3, .int 0]))] s.heap.size = A at hD ⊢
  have hA : ∀ q : Nat, s.heap.size ≤ q → A q := fun q h => by rw [← hAe]; exact Or.inr h
  have hS : va_S A s.heap s.heap [] := va_S.rf
  have hP : va_P (dC, dI) vwCl [(se, .inr (7, [.ref tb, .ref de, .ref df, .ref sn, .ref ss, .ref sv, .ref sy, .int ed, .int ec, .int ef, .int ey])), (sn, .inl (ysn, 14, .inl en)), (tb, .inr (9, [.ref tk, .ref tf, .ref t1, .ref t2, .ref t3, .int 0]))] s.heap := hP
  have hl := lv_entry ([.ref se]) (n := 4) (Nat.le_of_ble_eq_true rfl)
  rw [lg_entry_eq]
  generalize (lg_sl ([.ref se]) ++ List.replicate (4 - (lg_sl ([.ref se])).length) Slot.unset).toArray = ls at hl ⊢
  have hl : lv_has ls 4 [(0, .ref se)] := hl
  refine lv_iconst (v := 0) hx hb dX5_partSame_0 (by decide) ?_
  refine lv_istore_n (lv' := [(1, .int 0), (0, .ref se)]) hx hb dX5_partSame_1 rfl hl (by decide) rfl (fun ls hl => ?_)
  refine lv_iload_n hx hb dX5_partSame_2 rfl (lv_at hl 0 rfl) ?_
  refine lv_aload_n hx hb dX5_partSame_3 rfl (lv_at hl 1 rfl) ?_
  refine va_get (D := (dC, dI)) (ci := 7) (v := .ref tb) (C := RX5) (T := TX5) (N := 11) hx hb hwA in_wsX50 hown hK hP 0 rfl rfl 0 (by decide) (hwA (.fieldLink RX5 32 "Congruary$Search" "table" "LCongruary$Table;") (in_wA_0 _ (List.mem_of_getElem? (i := 25) rfl))) (fun _ h9 => h9) rfl dX5_partSame_4 ?_
  refine va_get (D := (dC, dI)) (ci := 9) (v := .int 0) (C := RX7) (T := TX7) (N := 6) hx hb hwA in_wsX70 hown hK hP 2 rfl rfl 5 (by decide) (hwA (.fieldLink RX5 51 "Congruary$Table" "count" "I") (in_wA_3 _ (List.mem_of_getElem? (i := 32) rfl))) (fun _ h9 => h9) rfl dX5_partSame_7 ?_
  refine lv_icmp_ge (tgt := 127) hx hb dX5_partSame_10 (by decide) (fun c_1 => ?_) (fun c_1 => ?_)
  · refine lv_iconst (v := 1) hx hb dX5_partSame_127 (by decide) ?_
    have hP9 := hP.sub (ws' := [(se, .inr (7, [.ref tb, .ref de, .ref df, .ref sn, .ref ss, .ref sv, .ref sy, .int ed, .int ec, .int ef, .int ey])), (sn, .inl (ysn, 14, .inl en)), (tb, .inr (9, [.ref tk, .ref tf, .ref t1, .ref t2, .ref t3, .int 0]))]) [0, 1, 2] rfl
    have hD9 := hD.sub (ws' := [(se, .inr (7, [.ref tb, .ref de, .ref df, .ref sn, .ref ss, .ref sv, .ref sy, .int ed, .int ec, .int ef, .int ey])), (sn, .inl (ysn, 14, .inl en)), (tb, .inr (9, [.ref tk, .ref tf, .ref t1, .ref t2, .ref t3, .int 0]))]) [0, 1, 2] (by decide) rfl
    have hK9 := hK.sub (tys' := [(ysn, .int)]) [0] rfl
    refine W.widen (k := 0) (n := 0) (by omega) (by omega) ?_
    exact W.zret (v := 1) (ty := .boolean) hx hb hr (by decide +kernel) (fun t ht hW => ⟨⟨1, (), rfl, rfl, by rw [ht]; exact hP9, va_K.moved hW.alike hK9, hD9⟩, hS.F ht⟩) hS.2.2 dX5_partSame_128
  · exact absurd c_1 (by decide)

set_option maxHeartbeats 4000000 in
set_option maxRecDepth 100000 in
theorem c_X5_look_F (l : Launch) (dC : Nat → ClassId) (dI : Nat → Nat → Nat) (se tb de df sn ss sv sy tk tf t1 t2 t3 sm dfa den : Nat) (ysn : ClassId) (sz : Nat) (ed : Int32) (ec : Int32) (ef : Int32) (ey : Int32) (en : Nat → Int32) (x : Int32) : Met l yX5_look (.code yX5_look cX5_look 4 (some .int) :: wAll) ({ frames := 1, cells := 0, slots := 0, locals := 23 }) (va_Pc [.ref se, .int x] (fun U => U.heap.size = sz ∧ va_P (dC, dI) vwCl [(se, .inr (7, [.ref tb, .ref de, .ref df, .ref sn, .ref ss, .ref sv, .ref sy, .int ed, .int ec, .int ef, .int ey])), (sn, .inl (ysn, 14, .inl en)), (tb, .inr (9, [.ref tk, .ref tf, .ref t1, .ref t2, .ref t3, .int 0])), (de, .inr (4, [.ref tb, .ref sm, .ref dfa, .ref den, .int 0, .int 0, .int 0]))] U.heap ∧ va_K (dC, dI) vwCl [(ysn, .int)] U ∧ va_D (fun _ => True) [(se, .inr (7, [.ref tb, .ref de, .ref df, .ref sn, .ref ss, .ref sv, .ref sy, .int ed, .int ec, .int ef, .int ey])), (sn, .inl (ysn, 14, .inl en)), (tb, .inr (9, [.ref tk, .ref tf, .ref t1, .ref t2, .ref t3, .int 0])), (de, .inr (4, [.ref tb, .ref sm, .ref dfa, .ref den, .int 0, .int 0, .int 0]))])) (va_Qi (fun (r : Int32) (_ : Unit) => r = 3) (fun (_ : Unit) (t : State) => va_P (dC, dI) vwCl [(se, .inr (7, [.ref tb, .ref de, .ref df, .ref sn, .ref ss, .ref sv, .ref sy, .int ed, .int 0, .int 1000, .int ey])), (sn, .inl (ysn, 14, .inl en)), (tb, .inr (9, [.ref tk, .ref tf, .ref t1, .ref t2, .ref t3, .int 0])), (de, .inr (4, [.ref tb, .ref sm, .ref dfa, .ref den, .int 0, .int 0, .int 0]))] t.heap ∧ va_K (dC, dI) vwCl [(ysn, .int)] t ∧ va_D (va_A [(se, .inr (7, [.ref tb, .ref de, .ref df, .ref sn, .ref ss, .ref sv, .ref sy, .int ed, .int ec, .int ef, .int ey])), (sn, .inl (ysn, 14, .inl en)), (tb, .inr (9, [.ref tk, .ref tf, .ref t1, .ref t2, .ref t3, .int 0])), (de, .inr (4, [.ref tb, .ref sm, .ref dfa, .ref den, .int 0, .int 0, .int 0]))] sz) [(se, .inr (7, [.ref tb, .ref de, .ref df, .ref sn, .ref ss, .ref sv, .ref sy, .int ed, .int 0, .int 1000, .int ey])), (sn, .inl (ysn, 14, .inl en)), (tb, .inr (9, [.ref tk, .ref tf, .ref t1, .ref t2, .ref t3, .int 0])), (de, .inr (4, [.ref tb, .ref sm, .ref dfa, .ref den, .int 0, .int 0, .int 0]))]) (va_A [(se, .inr (7, [.ref tb, .ref de, .ref df, .ref sn, .ref ss, .ref sv, .ref sy, .int ed, .int ec, .int ef, .int ey])), (sn, .inl (ysn, 14, .inl en)), (tb, .inr (9, [.ref tk, .ref tf, .ref t1, .ref t2, .ref t3, .int 0])), (de, .inr (4, [.ref tb, .ref sm, .ref dfa, .ref den, .int 0, .int 0, .int 0]))] sz)) 0 0 (va_A [(se, .inr (7, [.ref tb, .ref de, .ref df, .ref sn, .ref ss, .ref sv, .ref sy, .int ed, .int ec, .int ef, .int ey])), (sn, .inl (ysn, 14, .inl en)), (tb, .inr (9, [.ref tk, .ref tf, .ref t1, .ref t2, .ref t3, .int 0])), (de, .inr (4, [.ref tb, .ref sm, .ref dfa, .ref den, .int 0, .int 0, .int 0]))] sz) := by
  refine Met.ofW (cc := cX5_look) (maxL := 4) (ret := (some .int)) (by decide) rfl ?_
  intro p e s m args below meth c s₁ B hml hv
  obtain ⟨rfl, hsz, hP, hK, hD0⟩ := hv
  have hx := B.exec
  have hb := B.bytes
  have hr := B.returns
  have hts := atoms_spec (ws := .code yX5_look cX5_look 4 (some .int) :: wAll) B.pre
  have hwA := fun w (h : w ∈ wAll) => hts w (List.mem_cons_of_mem _ h)
  have hown : s.vm.findClass RX5 = some m.cls := findClass_of_methodNamed B.named
  have hlocks := B.notSynchronized
  subst hsz
  have hD := hD0.self (sz := s.heap.size)
  generalize hAe : va_A [(se, .inr (7, [.ref tb, .ref de, .ref df, .ref sn, .ref ss, .ref sv, .ref sy, .int ed, .int ec, .int ef, .int ey])), (sn, .inl (ysn, 14, .inl en)), (tb, .inr (9, [.ref tk, .ref tf, .ref t1, .ref t2, .ref t3, .int 0])), (de, .inr (4, [.ref tb, .ref sm, .ref dfa, .ref den, .int 0, .int 0, .int 0]))] s.heap.size = A at hD ⊢
  have hA : ∀ q : Nat, s.heap.size ≤ q → A q := fun q h => by rw [← hAe]; exact Or.inr h
  have hS : va_S A s.heap s.heap [] := va_S.rf
  have hP : va_P (dC, dI) vwCl [(se, .inr (7, [.ref tb, .ref de, .ref df, .ref sn, .ref ss, .ref sv, .ref sy, .int ed, .int ec, .int ef, .int ey])), (sn, .inl (ysn, 14, .inl en)), (tb, .inr (9, [.ref tk, .ref tf, .ref t1, .ref t2, .ref t3, .int 0])), (de, .inr (4, [.ref tb, .ref sm, .ref dfa, .ref den, .int 0, .int 0, .int 0]))] s.heap := hP
  have hl := lv_entry ([.ref se, .int x]) (n := 4) (Nat.le_of_ble_eq_true rfl)
  rw [lg_entry_eq]
  generalize (lg_sl ([.ref se, .int x]) ++ List.replicate (4 - (lg_sl ([.ref se, .int x])).length) Slot.unset).toArray = ls at hl ⊢
  have hl : lv_has ls 4 [(0, .ref se), (1, .int x)] := hl
  refine lv_aload_n hx hb dX5_look_0 rfl (lv_at hl 0 rfl) ?_
  refine lv_iconst (v := 0) hx hb dX5_look_1 (by decide) ?_
  refine va_put (D := (dC, dI)) (ci := 7) (v := .int 0) (ty := .boolean) (C := RX5) (T := TX5) (N := 11) hx hb hwA in_wsX50 tyX5 tyX5_ok nmX5 hown hK hP hD hS 0 rfl rfl 8 (by decide) (hwA (.fieldLink RX5 97 "Congruary$Search" "changed" "Z") (in_wA_3 _ (List.mem_of_getElem? (i := 58) rfl))) (fun _ h9 => h9) rfl (by decide +kernel) (by decide +kernel) rfl (Nat.le_of_ble_eq_true rfl) dX5_look_2 (fun H locs hP hD hS => ?_)
  have hP : va_P (dC, dI) vwCl [(se, .inr (7, [.ref tb, .ref de, .ref df, .ref sn, .ref ss, .ref sv, .ref sy, .int ed, .int 0, .int ef, .int ey])), (sn, .inl (ysn, 14, .inl en)), (tb, .inr (9, [.ref tk, .ref tf, .ref t1, .ref t2, .ref t3, .int 0])), (de, .inr (4, [.ref tb, .ref sm, .ref dfa, .ref den, .int 0, .int 0, .int 0]))] H := hP
  have hD : va_D A [(se, .inr (7, [.ref tb, .ref de, .ref df, .ref sn, .ref ss, .ref sv, .ref sy, .int ed, .int 0, .int ef, .int ey])), (sn, .inl (ysn, 14, .inl en)), (tb, .inr (9, [.ref tk, .ref tf, .ref t1, .ref t2, .ref t3, .int 0])), (de, .inr (4, [.ref tb, .ref sm, .ref dfa, .ref den, .int 0, .int 0, .int 0]))] := hD
  refine lv_aload_n hx hb dX5_look_5 rfl (lv_at hl 0 rfl) ?_
  refine lv_sipush (v := 1000) hx hb dX5_look_6 (by decide) ?_
  refine va_put (D := (dC, dI)) (ci := 7) (v := .int 1000) (ty := .int) (C := RX5) (T := TX5) (N := 11) hx hb hwA in_wsX50 tyX5 tyX5_ok nmX5 hown hK hP hD hS 0 rfl rfl 9 (by decide) (hwA (.fieldLink RX5 101 "Congruary$Search" "fewest" "I") (in_wA_4 _ (List.mem_of_getElem? (i := 4) rfl))) (fun _ h9 => h9) rfl (by decide +kernel) rfl rfl (Nat.le_of_ble_eq_true rfl) dX5_look_9 (fun H locs hP hD hS => ?_)
  have hP : va_P (dC, dI) vwCl [(se, .inr (7, [.ref tb, .ref de, .ref df, .ref sn, .ref ss, .ref sv, .ref sy, .int ed, .int 0, .int 1000, .int ey])), (sn, .inl (ysn, 14, .inl en)), (tb, .inr (9, [.ref tk, .ref tf, .ref t1, .ref t2, .ref t3, .int 0])), (de, .inr (4, [.ref tb, .ref sm, .ref dfa, .ref den, .int 0, .int 0, .int 0]))] H := hP
  have hD : va_D A [(se, .inr (7, [.ref tb, .ref de, .ref df, .ref sn, .ref ss, .ref sv, .ref sy, .int ed, .int 0, .int 1000, .int ey])), (sn, .inl (ysn, 14, .inl en)), (tb, .inr (9, [.ref tk, .ref tf, .ref t1, .ref t2, .ref t3, .int 0])), (de, .inr (4, [.ref tb, .ref sm, .ref dfa, .ref den, .int 0, .int 0, .int 0]))] := hD
  refine lv_aload_n hx hb dX5_look_12 rfl (lv_at hl 0 rfl) ?_
  have hPc := hP.sub (ws' := [(se, .inr (7, [.ref tb, .ref de, .ref df, .ref sn, .ref ss, .ref sv, .ref sy, .int ed, .int 0, .int 1000, .int ey])), (sn, .inl (ysn, 14, .inl en)), (tb, .inr (9, [.ref tk, .ref tf, .ref t1, .ref t2, .ref t3, .int 0]))]) [0, 1, 2] rfl
  have hDc := hD.sub (ws' := [(se, .inr (7, [.ref tb, .ref de, .ref df, .ref sn, .ref ss, .ref sv, .ref sy, .int ed, .int 0, .int 1000, .int ey])), (sn, .inl (ysn, 14, .inl en)), (tb, .inr (9, [.ref tk, .ref tf, .ref t1, .ref t2, .ref t3, .int 0]))]) [0, 1, 2] (by decide) rfl
  have hKc := hK.sub (tys' := [(ysn, .int)]) [0] rfl
  have hFc := va_free (wc := [(se, .inr (7, [.ref tb, .ref de, .ref df, .ref sn, .ref ss, .ref sv, .ref sy, .int ed, .int 0, .int 1000, .int ey])), (sn, .inl (ysn, 14, .inl en)), (tb, .inr (9, [.ref tk, .ref tf, .ref t1, .ref t2, .ref t3, .int 0]))]) hD hS hA [0, 1, 2] rfl
  refine va_calli (va_runV (As := []) (rest := []) ⟨hx, hb, hml, hown, hwA⟩ (c_X5_partSame_F l dC dI se tb de df sn ss sv sy tk tf t1 t2 t3 ysn H.size ed 0 1000 ey en ) (cwV 0 hwA (gwV (in_wA_4 _ (List.mem_of_getElem? (i := 35) rfl)) (in_wA_4 _ (List.mem_of_getElem? (i := 36) rfl)) (in_wA_4 _ (List.mem_of_getElem? (i := 37) rfl)) (in_wA_0 _ (List.mem_of_getElem? (i := 41) rfl)) (in_wA_4 _ (List.mem_of_getElem? (i := 13) rfl))) rfl rfl rfl (by decide +kernel) ⟨Nat.le_of_ble_eq_true rfl, Nat.le_of_ble_eq_true rfl⟩) ⟨fun a U g mk q => by obtain ⟨q0, q1, qP, qK, qD⟩ := q; exact ⟨q0, q1, qP, va_K.moved (u := U) (U := U.calling g mk a) (Vm.Alike.refl U.vm) qK, qD⟩, va_recv hKc hPc (ci := 7) (q0 := 0) rfl rfl, fun U hU hW => ⟨rfl, by rw [hU], by rw [hU]; exact hPc, va_K.moved hW.alike hKc, hDc.weaken (fun _ _ _ _ => trivial)⟩⟩ rfl rfl hl.1 rfl (lv_room (Nat.le_of_ble_eq_true rfl)) dX5_look_13 ⟨Nat.le_of_ble_eq_true rfl, Nat.le_of_ble_eq_true rfl⟩) hS (fun q _ h => hFc q h) hFc (fun r_2 u_1 t H1 locs ht hvm hw hB hz1 hk1 hS => ?_)
  obtain ⟨hP1, hK1, hD1⟩ := hB
  rw [ht] at hP1
  have hK1 := va_K.moved hvm.symm hK1
  obtain ⟨hP, hD⟩ := va_join (wr := [(de, .inr (4, [.ref tb, .ref sm, .ref dfa, .ref den, .int 0, .int 0, .int 0]))]) (w1 := [(se, .inr (7, [.ref tb, .ref de, .ref df, .ref sn, .ref ss, .ref sv, .ref sy, .int ed, .int 0, .int 1000, .int ey])), (sn, .inl (ysn, 14, .inl en)), (tb, .inr (9, [.ref tk, .ref tf, .ref t1, .ref t2, .ref t3, .int 0]))]) hP hD [0, 1, 2] [3] rfl rfl (by decide) (by decide) hk1 hFc hP1 hD1
  have hK := (hK.sub (tys' := []) [] rfl).app hK1
  generalize H1 = H at hP hS ⊢
  have hP : va_P (dC, dI) vwCl [(de, .inr (4, [.ref tb, .ref sm, .ref dfa, .ref den, .int 0, .int 0, .int 0])), (se, .inr (7, [.ref tb, .ref de, .ref df, .ref sn, .ref ss, .ref sv, .ref sy, .int ed, .int 0, .int 1000, .int ey])), (sn, .inl (ysn, 14, .inl en)), (tb, .inr (9, [.ref tk, .ref tf, .ref t1, .ref t2, .ref t3, .int 0]))] H := hP
  have hD : va_D A [(de, .inr (4, [.ref tb, .ref sm, .ref dfa, .ref den, .int 0, .int 0, .int 0])), (se, .inr (7, [.ref tb, .ref de, .ref df, .ref sn, .ref ss, .ref sv, .ref sy, .int ed, .int 0, .int 1000, .int ey])), (sn, .inl (ysn, 14, .inl en)), (tb, .inr (9, [.ref tk, .ref tf, .ref t1, .ref t2, .ref t3, .int 0]))] := hD
  have hK : va_K (dC, dI) vwCl [(ysn, .int)] s := hK
  refine W.widen (k := 0) (n := 0) (by omega) (by omega) ?_
  have hw_3 := hw
  obtain rfl : r_2 = 1 := hw_3
  refine lv_if_ne (tgt := 21) hx hb dX5_look_16 (by decide) (fun c_4 => ?_) (fun c_4 => ?_)
  · refine lv_iconst (v := 0) hx hb dX5_look_21 (by decide) ?_
    refine lv_istore_n (lv' := [(2, .int 0), (0, .ref se), (1, .int x)]) hx hb dX5_look_22 rfl hl (by decide) rfl (fun ls hl => ?_)
    refine lv_iload_n hx hb dX5_look_23 rfl (lv_at hl 0 rfl) ?_
    refine lv_aload_n hx hb dX5_look_24 rfl (lv_at hl 1 rfl) ?_
    refine va_get (D := (dC, dI)) (ci := 7) (v := .ref de) (C := RX5) (T := TX5) (N := 11) hx hb hwA in_wsX50 hown hK hP 1 rfl rfl 1 (by decide) (hwA (.fieldLink RX5 36 "Congruary$Search" "demands" "LCongruary$Demands;") (in_wA_0 _ (List.mem_of_getElem? (i := 26) rfl))) (fun _ h9 => h9) rfl dX5_look_25 ?_
    refine va_get (D := (dC, dI)) (ci := 4) (v := .int 0) (C := RX1) (T := TX1) (N := 7) hx hb hwA in_wsX10 hown hK hP 0 rfl rfl 4 (by decide) (hwA (.fieldLink RX5 107 "Congruary$Demands" "count" "I") (in_wA_4 _ (List.mem_of_getElem? (i := 33) rfl))) (fun _ h9 => h9) rfl dX5_look_28 ?_
    refine lv_icmp_ge (tgt := 79) hx hb dX5_look_31 (by decide) (fun c_5 => ?_) (fun c_5 => ?_)
    · refine lv_aload_n hx hb dX5_look_79 rfl (lv_at hl 1 rfl) ?_
      refine va_get (D := (dC, dI)) (ci := 7) (v := .int 0) (C := RX5) (T := TX5) (N := 11) hx hb hwA in_wsX50 hown hK hP 1 rfl rfl 8 (by decide) (hwA (.fieldLink RX5 97 "Congruary$Search" "changed" "Z") (in_wA_3 _ (List.mem_of_getElem? (i := 58) rfl))) (fun _ h9 => h9) rfl dX5_look_80 ?_
      refine lv_if_eq (tgt := 88) hx hb dX5_look_83 (by decide) (fun c_6 => ?_) (fun c_6 => ?_)
      · refine lv_aload_n hx hb dX5_look_88 rfl (lv_at hl 1 rfl) ?_
        refine va_get (D := (dC, dI)) (ci := 7) (v := .int 1000) (C := RX5) (T := TX5) (N := 11) hx hb hwA in_wsX50 hown hK hP 1 rfl rfl 9 (by decide) (hwA (.fieldLink RX5 101 "Congruary$Search" "fewest" "I") (in_wA_4 _ (List.mem_of_getElem? (i := 4) rfl))) (fun _ h9 => h9) rfl dX5_look_89 ?_
        refine lv_sipush (v := 1000) hx hb dX5_look_92 (by decide) ?_
        refine lv_icmp_ge (tgt := 102) hx hb dX5_look_95 (by decide) (fun c_7 => ?_) (fun c_7 => ?_)
        · refine lv_iconst (v := 3) hx hb dX5_look_102 (by decide) ?_
          have hP9 := hP.sub (ws' := [(se, .inr (7, [.ref tb, .ref de, .ref df, .ref sn, .ref ss, .ref sv, .ref sy, .int ed, .int 0, .int 1000, .int ey])), (sn, .inl (ysn, 14, .inl en)), (tb, .inr (9, [.ref tk, .ref tf, .ref t1, .ref t2, .ref t3, .int 0])), (de, .inr (4, [.ref tb, .ref sm, .ref dfa, .ref den, .int 0, .int 0, .int 0]))]) [1, 2, 3, 0] rfl
          have hD9 := hD.sub (ws' := [(se, .inr (7, [.ref tb, .ref de, .ref df, .ref sn, .ref ss, .ref sv, .ref sy, .int ed, .int 0, .int 1000, .int ey])), (sn, .inl (ysn, 14, .inl en)), (tb, .inr (9, [.ref tk, .ref tf, .ref t1, .ref t2, .ref t3, .int 0])), (de, .inr (4, [.ref tb, .ref sm, .ref dfa, .ref den, .int 0, .int 0, .int 0]))]) [1, 2, 3, 0] (by decide) rfl
          have hK9 := hK.sub (tys' := [(ysn, .int)]) [0] rfl
          refine W.widen (k := 0) (n := 0) (by omega) (by omega) ?_
          exact W.iret (v := 3) hx hb hr (fun t ht hW => ⟨⟨3, (), rfl, rfl, by rw [ht]; exact hP9, va_K.moved hW.alike hK9, hD9⟩, hS.F ht⟩) hS.2.2 dX5_look_103
        · exact absurd c_7 (by decide)
      · exact absurd c_6 (by decide)
    · exact absurd c_5 (by decide)
  · exact absurd c_4 (by decide)

set_option maxHeartbeats 4000000 in
set_option maxRecDepth 100000 in
theorem c_X5_run_F (l : Launch) (dC : Nat → ClassId) (dI : Nat → Nat → Nat) (se tb de df sn ss sv sy tk tf t1 t2 t3 sm dfa den da db dm : Nat) (ysn yda ydb ydm : ClassId) (sz : Nat) (ed : Int32) (ec : Int32) (ef : Int32) (ey : Int32) (en : Nat → Int32) (ea : Nat → Int32) (eb : Nat → Int64) (em : Nat → Int32) (dh : Int64) (x : Int32) (y : Int32) : Met l yX5_run (.code yX5_run cX5_run 5 (some .boolean) :: wAll) ({ frames := 2, cells := 0, slots := 0, locals := 60 }) (va_Pc [.ref se, .int x, .int y] (fun U => U.heap.size = sz ∧ va_P (dC, dI) vwCl [(se, .inr (7, [.ref tb, .ref de, .ref df, .ref sn, .ref ss, .ref sv, .ref sy, .int ed, .int ec, .int ef, .int ey])), (sn, .inl (ysn, 14, .inl en)), (tb, .inr (9, [.ref tk, .ref tf, .ref t1, .ref t2, .ref t3, .int 0])), (de, .inr (4, [.ref tb, .ref sm, .ref dfa, .ref den, .int 0, .int 0, .int 0])), (df, .inr (5, [.int 1, .int 0, .int 2, .int 2, .ref da, .ref db, .long dh, .ref dm])), (da, .inl (yda, 240, .inl ea)), (db, .inl (ydb, 450, .inr (.inl eb))), (dm, .inl (ydm, 14, .inl em))] U.heap ∧ va_K (dC, dI) vwCl [(ysn, .int), (yda, .int), (ydb, .long), (ydm, .int)] U ∧ va_D (fun _ => True) [(se, .inr (7, [.ref tb, .ref de, .ref df, .ref sn, .ref ss, .ref sv, .ref sy, .int ed, .int ec, .int ef, .int ey])), (sn, .inl (ysn, 14, .inl en)), (tb, .inr (9, [.ref tk, .ref tf, .ref t1, .ref t2, .ref t3, .int 0])), (de, .inr (4, [.ref tb, .ref sm, .ref dfa, .ref den, .int 0, .int 0, .int 0])), (df, .inr (5, [.int 1, .int 0, .int 2, .int 2, .ref da, .ref db, .long dh, .ref dm])), (da, .inl (yda, 240, .inl ea)), (db, .inl (ydb, 450, .inr (.inl eb))), (dm, .inl (ydm, 14, .inl em))])) (va_Qi (fun (r : Int32) (_ : Unit) => r = 1) (fun (_ : Unit) (t : State) => va_P (dC, dI) vwCl [(se, .inr (7, [.ref tb, .ref de, .ref df, .ref sn, .ref ss, .ref sv, .ref sy, .int 0, .int 0, .int 1000, .int ey])), (sn, .inl (ysn, 14, .inl (va_cpy em en 0 0 0))), (tb, .inr (9, [.ref tk, .ref tf, .ref t1, .ref t2, .ref t3, .int 0])), (de, .inr (4, [.ref tb, .ref sm, .ref dfa, .ref den, .int 0, .int 0, .int 0])), (df, .inr (5, [.int 1, .int 0, .int 2, .int 2, .ref da, .ref db, .long dh, .ref dm])), (da, .inl (yda, 240, .inl ea)), (db, .inl (ydb, 450, .inr (.inl eb))), (dm, .inl (ydm, 14, .inl em))] t.heap ∧ va_K (dC, dI) vwCl [(ysn, .int), (yda, .int), (ydb, .long), (ydm, .int)] t ∧ va_D (va_A [(se, .inr (7, [.ref tb, .ref de, .ref df, .ref sn, .ref ss, .ref sv, .ref sy, .int ed, .int ec, .int ef, .int ey])), (sn, .inl (ysn, 14, .inl en)), (tb, .inr (9, [.ref tk, .ref tf, .ref t1, .ref t2, .ref t3, .int 0])), (de, .inr (4, [.ref tb, .ref sm, .ref dfa, .ref den, .int 0, .int 0, .int 0])), (df, .inr (5, [.int 1, .int 0, .int 2, .int 2, .ref da, .ref db, .long dh, .ref dm])), (da, .inl (yda, 240, .inl ea)), (db, .inl (ydb, 450, .inr (.inl eb))), (dm, .inl (ydm, 14, .inl em))] sz) [(se, .inr (7, [.ref tb, .ref de, .ref df, .ref sn, .ref ss, .ref sv, .ref sy, .int 0, .int 0, .int 1000, .int ey])), (sn, .inl (ysn, 14, .inl (va_cpy em en 0 0 0))), (tb, .inr (9, [.ref tk, .ref tf, .ref t1, .ref t2, .ref t3, .int 0])), (de, .inr (4, [.ref tb, .ref sm, .ref dfa, .ref den, .int 0, .int 0, .int 0])), (df, .inr (5, [.int 1, .int 0, .int 2, .int 2, .ref da, .ref db, .long dh, .ref dm])), (da, .inl (yda, 240, .inl ea)), (db, .inl (ydb, 450, .inr (.inl eb))), (dm, .inl (ydm, 14, .inl em))]) (va_A [(se, .inr (7, [.ref tb, .ref de, .ref df, .ref sn, .ref ss, .ref sv, .ref sy, .int ed, .int ec, .int ef, .int ey])), (sn, .inl (ysn, 14, .inl en)), (tb, .inr (9, [.ref tk, .ref tf, .ref t1, .ref t2, .ref t3, .int 0])), (de, .inr (4, [.ref tb, .ref sm, .ref dfa, .ref den, .int 0, .int 0, .int 0])), (df, .inr (5, [.int 1, .int 0, .int 2, .int 2, .ref da, .ref db, .long dh, .ref dm])), (da, .inl (yda, 240, .inl ea)), (db, .inl (ydb, 450, .inr (.inl eb))), (dm, .inl (ydm, 14, .inl em))] sz)) 0 0 (va_A [(se, .inr (7, [.ref tb, .ref de, .ref df, .ref sn, .ref ss, .ref sv, .ref sy, .int ed, .int ec, .int ef, .int ey])), (sn, .inl (ysn, 14, .inl en)), (tb, .inr (9, [.ref tk, .ref tf, .ref t1, .ref t2, .ref t3, .int 0])), (de, .inr (4, [.ref tb, .ref sm, .ref dfa, .ref den, .int 0, .int 0, .int 0])), (df, .inr (5, [.int 1, .int 0, .int 2, .int 2, .ref da, .ref db, .long dh, .ref dm])), (da, .inl (yda, 240, .inl ea)), (db, .inl (ydb, 450, .inr (.inl eb))), (dm, .inl (ydm, 14, .inl em))] sz) := by
  refine Met.ofW (cc := cX5_run) (maxL := 5) (ret := (some .boolean)) (by decide) rfl ?_
  intro p e s m args below meth c s₁ B hml hv
  obtain ⟨rfl, hsz, hP, hK, hD0⟩ := hv
  have hx := B.exec
  have hb := B.bytes
  have hr := B.returns
  have hts := atoms_spec (ws := .code yX5_run cX5_run 5 (some .boolean) :: wAll) B.pre
  have hwA := fun w (h : w ∈ wAll) => hts w (List.mem_cons_of_mem _ h)
  have hown : s.vm.findClass RX5 = some m.cls := findClass_of_methodNamed B.named
  have hlocks := B.notSynchronized
  subst hsz
  have hD := hD0.self (sz := s.heap.size)
  generalize hAe : va_A [(se, .inr (7, [.ref tb, .ref de, .ref df, .ref sn, .ref ss, .ref sv, .ref sy, .int ed, .int ec, .int ef, .int ey])), (sn, .inl (ysn, 14, .inl en)), (tb, .inr (9, [.ref tk, .ref tf, .ref t1, .ref t2, .ref t3, .int 0])), (de, .inr (4, [.ref tb, .ref sm, .ref dfa, .ref den, .int 0, .int 0, .int 0])), (df, .inr (5, [.int 1, .int 0, .int 2, .int 2, .ref da, .ref db, .long dh, .ref dm])), (da, .inl (yda, 240, .inl ea)), (db, .inl (ydb, 450, .inr (.inl eb))), (dm, .inl (ydm, 14, .inl em))] s.heap.size = A at hD ⊢
  have hA : ∀ q : Nat, s.heap.size ≤ q → A q := fun q h => by rw [← hAe]; exact Or.inr h
  have hS : va_S A s.heap s.heap [] := va_S.rf
  have hP : va_P (dC, dI) vwCl [(se, .inr (7, [.ref tb, .ref de, .ref df, .ref sn, .ref ss, .ref sv, .ref sy, .int ed, .int ec, .int ef, .int ey])), (sn, .inl (ysn, 14, .inl en)), (tb, .inr (9, [.ref tk, .ref tf, .ref t1, .ref t2, .ref t3, .int 0])), (de, .inr (4, [.ref tb, .ref sm, .ref dfa, .ref den, .int 0, .int 0, .int 0])), (df, .inr (5, [.int 1, .int 0, .int 2, .int 2, .ref da, .ref db, .long dh, .ref dm])), (da, .inl (yda, 240, .inl ea)), (db, .inl (ydb, 450, .inr (.inl eb))), (dm, .inl (ydm, 14, .inl em))] s.heap := hP
  have hl := lv_entry ([.ref se, .int x, .int y]) (n := 5) (Nat.le_of_ble_eq_true rfl)
  rw [lg_entry_eq]
  generalize (lg_sl ([.ref se, .int x, .int y]) ++ List.replicate (5 - (lg_sl ([.ref se, .int x, .int y])).length) Slot.unset).toArray = ls at hl ⊢
  have hl : lv_has ls 5 [(0, .ref se), (1, .int x), (2, .int y)] := hl
  refine lv_aload_n hx hb dX5_run_0 rfl (lv_at hl 0 rfl) ?_
  refine lv_iconst (v := 0) hx hb dX5_run_1 (by decide) ?_
  refine va_put (D := (dC, dI)) (ci := 7) (v := .int 0) (ty := .int) (C := RX5) (T := TX5) (N := 11) hx hb hwA in_wsX50 tyX5 tyX5_ok nmX5 hown hK hP hD hS 0 rfl rfl 7 (by decide) (hwA (.fieldLink RX5 72 "Congruary$Search" "depth" "I") (in_wA_4 _ (List.mem_of_getElem? (i := 49) rfl))) (fun _ h9 => h9) rfl (by decide +kernel) rfl rfl (Nat.le_of_ble_eq_true rfl) dX5_run_2 (fun H locs hP hD hS => ?_)
  have hP : va_P (dC, dI) vwCl [(se, .inr (7, [.ref tb, .ref de, .ref df, .ref sn, .ref ss, .ref sv, .ref sy, .int 0, .int ec, .int ef, .int ey])), (sn, .inl (ysn, 14, .inl en)), (tb, .inr (9, [.ref tk, .ref tf, .ref t1, .ref t2, .ref t3, .int 0])), (de, .inr (4, [.ref tb, .ref sm, .ref dfa, .ref den, .int 0, .int 0, .int 0])), (df, .inr (5, [.int 1, .int 0, .int 2, .int 2, .ref da, .ref db, .long dh, .ref dm])), (da, .inl (yda, 240, .inl ea)), (db, .inl (ydb, 450, .inr (.inl eb))), (dm, .inl (ydm, 14, .inl em))] H := hP
  have hD : va_D A [(se, .inr (7, [.ref tb, .ref de, .ref df, .ref sn, .ref ss, .ref sv, .ref sy, .int 0, .int ec, .int ef, .int ey])), (sn, .inl (ysn, 14, .inl en)), (tb, .inr (9, [.ref tk, .ref tf, .ref t1, .ref t2, .ref t3, .int 0])), (de, .inr (4, [.ref tb, .ref sm, .ref dfa, .ref den, .int 0, .int 0, .int 0])), (df, .inr (5, [.int 1, .int 0, .int 2, .int 2, .ref da, .ref db, .long dh, .ref dm])), (da, .inl (yda, 240, .inl ea)), (db, .inl (ydb, 450, .inr (.inl eb))), (dm, .inl (ydm, 14, .inl em))] := hD
  refine lv_iconst (v := 0) hx hb dX5_run_5 (by decide) ?_
  refine lv_istore_n (lv' := [(3, .int 0), (0, .ref se), (1, .int x), (2, .int y)]) hx hb dX5_run_6 rfl hl (by decide) rfl (fun ls hl => ?_)
  refine lv_iload_n hx hb dX5_run_7 rfl (lv_at hl 0 rfl) ?_
  refine lv_ldc (v := 1000000000) hx hb hown (hwA (.constant RX5 75 (1000000000)) (in_wA_4 _ (List.mem_of_getElem? (i := 61) rfl))) dX5_run_8 ?_
  refine lv_icmp_ge (tgt := 95) hx hb dX5_run_10 (by decide) (fun c_1 => ?_) (fun c_1 => ?_)
  · exact absurd c_1 (by decide)
  · refine lv_aload_n hx hb dX5_run_13 rfl (lv_at hl 1 rfl) ?_
    refine va_get (D := (dC, dI)) (ci := 7) (v := .ref df) (C := RX5) (T := TX5) (N := 11) hx hb hwA in_wsX50 hown hK hP 0 rfl rfl 2 (by decide) (hwA (.fieldLink RX5 10 "Congruary$Search" "differences" "LCongruary$Differences;") (in_wA_0 _ (List.mem_of_getElem? (i := 20) rfl))) (fun _ h9 => h9) rfl dX5_run_14 ?_
    refine lv_iload_n hx hb dX5_run_17 rfl (lv_at hl 3 rfl) ?_
    have hPc := hP.sub (ws' := [(df, .inr (5, [.int 1, .int 0, .int 2, .int 2, .ref da, .ref db, .long dh, .ref dm])), (da, .inl (yda, 240, .inl ea)), (db, .inl (ydb, 450, .inr (.inl eb))), (dm, .inl (ydm, 14, .inl em))]) [4, 5, 6, 7] rfl
    have hDc := hD.sub (ws' := [(df, .inr (5, [.int 1, .int 0, .int 2, .int 2, .ref da, .ref db, .long dh, .ref dm])), (da, .inl (yda, 240, .inl ea)), (db, .inl (ydb, 450, .inr (.inl eb))), (dm, .inl (ydm, 14, .inl em))]) [4, 5, 6, 7] (by decide) rfl
    have hKc := hK.sub (tys' := [(yda, .int), (ydb, .long), (ydm, .int)]) [1, 2, 3] rfl
    have hFc := va_free (wc := [(df, .inr (5, [.int 1, .int 0, .int 2, .int 2, .ref da, .ref db, .long dh, .ref dm])), (da, .inl (yda, 240, .inl ea)), (db, .inl (ydb, 450, .inr (.inl eb))), (dm, .inl (ydm, 14, .inl em))]) hD hS hA [4, 5, 6, 7] rfl
    refine va_callv (va_runV (As := [.int y]) (rest := []) ⟨hx, hb, hml, hown, hwA⟩ (c_X2_chooseNumbers_F l dC dI df da db dm yda ydb ydm H.size ea eb em dh y ) (cwV 1 hwA (gwV (in_wA_4 _ (List.mem_of_getElem? (i := 62) rfl)) (in_wA_4 _ (List.mem_of_getElem? (i := 63) rfl)) (in_wA_5 _ (List.mem_of_getElem? (i := 0) rfl)) (in_wA_0 _ (List.mem_of_getElem? (i := 19) rfl)) (in_wA_3 _ (List.mem_of_getElem? (i := 46) rfl))) rfl rfl rfl (by decide +kernel) ⟨Nat.le_of_ble_eq_true rfl, Nat.le_of_ble_eq_true rfl⟩) ⟨fun a U g mk q => by obtain ⟨q0, q1, qP, qK, qD⟩ := q; exact ⟨q0, q1, qP, va_K.moved (u := U) (U := U.calling g mk a) (Vm.Alike.refl U.vm) qK, qD⟩, va_recv hKc hPc (ci := 5) (q0 := 0) rfl rfl, fun U hU hW => ⟨rfl, by rw [hU], by rw [hU]; exact hPc, va_K.moved hW.alike hKc, hDc.weaken (fun _ _ _ _ => trivial)⟩⟩ rfl rfl hl.1 rfl (lv_room (Nat.le_of_ble_eq_true rfl)) dX5_run_18 ⟨Nat.le_of_ble_eq_true rfl, Nat.le_of_ble_eq_true rfl⟩) hS (fun q _ h => hFc q h) hFc (fun u_2 t H1 locs ht hvm hw hB hz1 hk1 hS => ?_)
    obtain ⟨hP1, hK1, hD1⟩ := hB
    rw [ht] at hP1
    have hK1 := va_K.moved hvm.symm hK1
    obtain ⟨hP, hD⟩ := va_join (wr := [(se, .inr (7, [.ref tb, .ref de, .ref df, .ref sn, .ref ss, .ref sv, .ref sy, .int 0, .int ec, .int ef, .int ey])), (sn, .inl (ysn, 14, .inl en)), (tb, .inr (9, [.ref tk, .ref tf, .ref t1, .ref t2, .ref t3, .int 0])), (de, .inr (4, [.ref tb, .ref sm, .ref dfa, .ref den, .int 0, .int 0, .int 0]))]) (w1 := [(df, .inr (5, [.int 1, .int 0, .int 2, .int 2, .ref da, .ref db, .long dh, .ref dm])), (da, .inl (yda, 240, .inl ea)), (db, .inl (ydb, 450, .inr (.inl eb))), (dm, .inl (ydm, 14, .inl em))]) hP hD [4, 5, 6, 7] [0, 1, 2, 3] rfl rfl (by decide) (by decide) hk1 hFc hP1 hD1
    have hK := (hK.sub (tys' := [(ysn, .int)]) [0] rfl).app hK1
    generalize H1 = H at hP hS ⊢
    have hP : va_P (dC, dI) vwCl [(se, .inr (7, [.ref tb, .ref de, .ref df, .ref sn, .ref ss, .ref sv, .ref sy, .int 0, .int ec, .int ef, .int ey])), (sn, .inl (ysn, 14, .inl en)), (tb, .inr (9, [.ref tk, .ref tf, .ref t1, .ref t2, .ref t3, .int 0])), (de, .inr (4, [.ref tb, .ref sm, .ref dfa, .ref den, .int 0, .int 0, .int 0])), (df, .inr (5, [.int 1, .int 0, .int 2, .int 2, .ref da, .ref db, .long dh, .ref dm])), (da, .inl (yda, 240, .inl ea)), (db, .inl (ydb, 450, .inr (.inl eb))), (dm, .inl (ydm, 14, .inl em))] H := hP
    have hD : va_D A [(se, .inr (7, [.ref tb, .ref de, .ref df, .ref sn, .ref ss, .ref sv, .ref sy, .int 0, .int ec, .int ef, .int ey])), (sn, .inl (ysn, 14, .inl en)), (tb, .inr (9, [.ref tk, .ref tf, .ref t1, .ref t2, .ref t3, .int 0])), (de, .inr (4, [.ref tb, .ref sm, .ref dfa, .ref den, .int 0, .int 0, .int 0])), (df, .inr (5, [.int 1, .int 0, .int 2, .int 2, .ref da, .ref db, .long dh, .ref dm])), (da, .inl (yda, 240, .inl ea)), (db, .inl (ydb, 450, .inr (.inl eb))), (dm, .inl (ydm, 14, .inl em))] := hD
    have hK : va_K (dC, dI) vwCl [(ysn, .int), (yda, .int), (ydb, .long), (ydm, .int)] s := hK
    refine W.widen (k := 0) (n := 0) (by omega) (by omega) ?_
    have hw_4 := hw
    refine lv_aload_n hx hb dX5_run_21 rfl (lv_at hl 1 rfl) ?_
    refine lv_iload_n hx hb dX5_run_22 rfl (lv_at hl 2 rfl) ?_
    have hPc := hP.sub (ws' := [(se, .inr (7, [.ref tb, .ref de, .ref df, .ref sn, .ref ss, .ref sv, .ref sy, .int 0, .int ec, .int ef, .int ey])), (sn, .inl (ysn, 14, .inl en)), (tb, .inr (9, [.ref tk, .ref tf, .ref t1, .ref t2, .ref t3, .int 0])), (de, .inr (4, [.ref tb, .ref sm, .ref dfa, .ref den, .int 0, .int 0, .int 0]))]) [0, 1, 2, 3] rfl
    have hDc := hD.sub (ws' := [(se, .inr (7, [.ref tb, .ref de, .ref df, .ref sn, .ref ss, .ref sv, .ref sy, .int 0, .int ec, .int ef, .int ey])), (sn, .inl (ysn, 14, .inl en)), (tb, .inr (9, [.ref tk, .ref tf, .ref t1, .ref t2, .ref t3, .int 0])), (de, .inr (4, [.ref tb, .ref sm, .ref dfa, .ref den, .int 0, .int 0, .int 0]))]) [0, 1, 2, 3] (by decide) rfl
    have hKc := hK.sub (tys' := [(ysn, .int)]) [0] rfl
    have hFc := va_free (wc := [(se, .inr (7, [.ref tb, .ref de, .ref df, .ref sn, .ref ss, .ref sv, .ref sy, .int 0, .int ec, .int ef, .int ey])), (sn, .inl (ysn, 14, .inl en)), (tb, .inr (9, [.ref tk, .ref tf, .ref t1, .ref t2, .ref t3, .int 0])), (de, .inr (4, [.ref tb, .ref sm, .ref dfa, .ref den, .int 0, .int 0, .int 0]))]) hD hS hA [0, 1, 2, 3] rfl
    refine va_calli (va_runV (As := [.int x]) (rest := []) ⟨hx, hb, hml, hown, hwA⟩ (c_X5_look_F l dC dI se tb de df sn ss sv sy tk tf t1 t2 t3 sm dfa den ysn H.size 0 ec ef ey en x ) (cwV 1 hwA (gwV (in_wA_5 _ (List.mem_of_getElem? (i := 1) rfl)) (in_wA_5 _ (List.mem_of_getElem? (i := 2) rfl)) (in_wA_5 _ (List.mem_of_getElem? (i := 3) rfl)) (in_wA_0 _ (List.mem_of_getElem? (i := 41) rfl)) (in_wA_4 _ (List.mem_of_getElem? (i := 41) rfl))) rfl rfl rfl (by decide +kernel) ⟨Nat.le_of_ble_eq_true rfl, Nat.le_of_ble_eq_true rfl⟩) ⟨fun a U g mk q => by obtain ⟨q0, q1, qP, qK, qD⟩ := q; exact ⟨q0, q1, qP, va_K.moved (u := U) (U := U.calling g mk a) (Vm.Alike.refl U.vm) qK, qD⟩, va_recv hKc hPc (ci := 7) (q0 := 0) rfl rfl, fun U hU hW => ⟨rfl, by rw [hU], by rw [hU]; exact hPc, va_K.moved hW.alike hKc, hDc.weaken (fun _ _ _ _ => trivial)⟩⟩ rfl rfl hl.1 rfl (lv_room (Nat.le_of_ble_eq_true rfl)) dX5_run_23 ⟨Nat.le_of_ble_eq_true rfl, Nat.le_of_ble_eq_true rfl⟩) hS (fun q _ h => hFc q h) hFc (fun r_6 u_5 t H1 locs ht hvm hw hB hz1 hk1 hS => ?_)
    obtain ⟨hP1, hK1, hD1⟩ := hB
    rw [ht] at hP1
    have hK1 := va_K.moved hvm.symm hK1
    obtain ⟨hP, hD⟩ := va_join (wr := [(df, .inr (5, [.int 1, .int 0, .int 2, .int 2, .ref da, .ref db, .long dh, .ref dm])), (da, .inl (yda, 240, .inl ea)), (db, .inl (ydb, 450, .inr (.inl eb))), (dm, .inl (ydm, 14, .inl em))]) (w1 := [(se, .inr (7, [.ref tb, .ref de, .ref df, .ref sn, .ref ss, .ref sv, .ref sy, .int 0, .int 0, .int 1000, .int ey])), (sn, .inl (ysn, 14, .inl en)), (tb, .inr (9, [.ref tk, .ref tf, .ref t1, .ref t2, .ref t3, .int 0])), (de, .inr (4, [.ref tb, .ref sm, .ref dfa, .ref den, .int 0, .int 0, .int 0]))]) hP hD [0, 1, 2, 3] [4, 5, 6, 7] rfl rfl (by decide) (by decide) hk1 hFc hP1 hD1
    have hK := (hK.sub (tys' := [(yda, .int), (ydb, .long), (ydm, .int)]) [1, 2, 3] rfl).app hK1
    generalize H1 = H at hP hS ⊢
    have hP : va_P (dC, dI) vwCl [(df, .inr (5, [.int 1, .int 0, .int 2, .int 2, .ref da, .ref db, .long dh, .ref dm])), (da, .inl (yda, 240, .inl ea)), (db, .inl (ydb, 450, .inr (.inl eb))), (dm, .inl (ydm, 14, .inl em)), (se, .inr (7, [.ref tb, .ref de, .ref df, .ref sn, .ref ss, .ref sv, .ref sy, .int 0, .int 0, .int 1000, .int ey])), (sn, .inl (ysn, 14, .inl en)), (tb, .inr (9, [.ref tk, .ref tf, .ref t1, .ref t2, .ref t3, .int 0])), (de, .inr (4, [.ref tb, .ref sm, .ref dfa, .ref den, .int 0, .int 0, .int 0]))] H := hP
    have hD : va_D A [(df, .inr (5, [.int 1, .int 0, .int 2, .int 2, .ref da, .ref db, .long dh, .ref dm])), (da, .inl (yda, 240, .inl ea)), (db, .inl (ydb, 450, .inr (.inl eb))), (dm, .inl (ydm, 14, .inl em)), (se, .inr (7, [.ref tb, .ref de, .ref df, .ref sn, .ref ss, .ref sv, .ref sy, .int 0, .int 0, .int 1000, .int ey])), (sn, .inl (ysn, 14, .inl en)), (tb, .inr (9, [.ref tk, .ref tf, .ref t1, .ref t2, .ref t3, .int 0])), (de, .inr (4, [.ref tb, .ref sm, .ref dfa, .ref den, .int 0, .int 0, .int 0]))] := hD
    have hK : va_K (dC, dI) vwCl [(yda, .int), (ydb, .long), (ydm, .int), (ysn, .int)] s := hK
    refine W.widen (k := 0) (n := 0) (by omega) (by omega) ?_
    have hw_7 := hw
    obtain rfl : r_6 = 3 := hw_7
    refine lv_istore (lv' := [(4, .int 3), (3, .int 0), (0, .ref se), (1, .int x), (2, .int y)]) hx hb dX5_run_26 hl (by decide) rfl (fun ls hl => ?_)
    refine lv_iload hx hb dX5_run_28 (lv_at hl 0 rfl) ?_
    refine lv_iconst (v := 3) hx hb dX5_run_30 (by decide) ?_
    refine lv_icmp_ne (tgt := 59) hx hb dX5_run_31 (by decide) (fun c_8 => ?_) (fun c_8 => ?_)
    · exact absurd c_8 (by decide)
    · refine lv_aload_n hx hb dX5_run_34 rfl (lv_at hl 2 rfl) ?_
      refine va_get (D := (dC, dI)) (ci := 7) (v := .ref df) (C := RX5) (T := TX5) (N := 11) hx hb hwA in_wsX50 hown hK hP 4 rfl rfl 2 (by decide) (hwA (.fieldLink RX5 10 "Congruary$Search" "differences" "LCongruary$Differences;") (in_wA_0 _ (List.mem_of_getElem? (i := 20) rfl))) (fun _ h9 => h9) rfl dX5_run_35 ?_
      refine va_get (D := (dC, dI)) (ci := 5) (v := .ref dm) (C := RX2) (T := TX2) (N := 8) hx hb hwA in_wsX20 hown hK hP 0 rfl rfl 7 (by decide) (hwA (.fieldLink RX5 83 "Congruary$Differences" "numbers" "[I") (in_wA_4 _ (List.mem_of_getElem? (i := 3) rfl))) (fun _ h9 => h9) rfl dX5_run_38 ?_
      refine lv_iconst (v := 0) hx hb dX5_run_41 (by decide) ?_
      refine lv_aload_n hx hb dX5_run_42 rfl (lv_at hl 2 rfl) ?_
      refine va_get (D := (dC, dI)) (ci := 7) (v := .ref sn) (C := RX5) (T := TX5) (N := 11) hx hb hwA in_wsX50 hown hK hP 4 rfl rfl 3 (by decide) (hwA (.fieldLink RX5 18 "Congruary$Search" "numbers" "[I") (in_wA_0 _ (List.mem_of_getElem? (i := 21) rfl))) (fun _ h9 => h9) rfl dX5_run_43 ?_
      refine lv_iconst (v := 0) hx hb dX5_run_46 (by decide) ?_
      refine lv_aload_n hx hb dX5_run_47 rfl (lv_at hl 2 rfl) ?_
      refine va_get (D := (dC, dI)) (ci := 7) (v := .ref tb) (C := RX5) (T := TX5) (N := 11) hx hb hwA in_wsX50 hown hK hP 4 rfl rfl 0 (by decide) (hwA (.fieldLink RX5 32 "Congruary$Search" "table" "LCongruary$Table;") (in_wA_0 _ (List.mem_of_getElem? (i := 25) rfl))) (fun _ h9 => h9) rfl dX5_run_48 ?_
      refine va_get (D := (dC, dI)) (ci := 9) (v := .int 0) (C := RX7) (T := TX7) (N := 6) hx hb hwA in_wsX70 hown hK hP 6 rfl rfl 5 (by decide) (hwA (.fieldLink RX5 51 "Congruary$Table" "count" "I") (in_wA_3 _ (List.mem_of_getElem? (i := 32) rfl))) (fun _ h9 => h9) rfl dX5_run_51 ?_
      refine va_copyi hx hb (by rw [hml]; exact hl.1.symm) hown (hwA (.methodLink RX5 84 arraycopyName) (in_wA_4 _ (List.mem_of_getElem? (i := 51) rfl))) (hwA (.native arraycopyName) (in_wA_1 _ (List.mem_of_getElem? (i := 30) rfl))) (hwA (.static arraycopyName) (in_wA_1 _ (List.mem_of_getElem? (i := 31) rfl))) (hwA (.initialized "java/lang/System") (in_wA_1 _ (List.mem_of_getElem? (i := 32) rfl))) hK hP hD hS 3 5 2 3 rfl rfl rfl rfl rfl (by decide) (by decide) (by decide) (by decide) (by decide) (fun i hi => rfl) (Nat.le_of_ble_eq_true rfl) (Nat.le_of_ble_eq_true rfl) dX5_run_54 (fun H locs hP hD hS => ?_)
      have hP : va_P (dC, dI) vwCl [(df, .inr (5, [.int 1, .int 0, .int 2, .int 2, .ref da, .ref db, .long dh, .ref dm])), (da, .inl (yda, 240, .inl ea)), (db, .inl (ydb, 450, .inr (.inl eb))), (dm, .inl (ydm, 14, .inl em)), (se, .inr (7, [.ref tb, .ref de, .ref df, .ref sn, .ref ss, .ref sv, .ref sy, .int 0, .int 0, .int 1000, .int ey])), (sn, .inl (ysn, 14, .inl (va_cpy em en 0 0 0))), (tb, .inr (9, [.ref tk, .ref tf, .ref t1, .ref t2, .ref t3, .int 0])), (de, .inr (4, [.ref tb, .ref sm, .ref dfa, .ref den, .int 0, .int 0, .int 0]))] H := hP
      have hD : va_D A [(df, .inr (5, [.int 1, .int 0, .int 2, .int 2, .ref da, .ref db, .long dh, .ref dm])), (da, .inl (yda, 240, .inl ea)), (db, .inl (ydb, 450, .inr (.inl eb))), (dm, .inl (ydm, 14, .inl em)), (se, .inr (7, [.ref tb, .ref de, .ref df, .ref sn, .ref ss, .ref sv, .ref sy, .int 0, .int 0, .int 1000, .int ey])), (sn, .inl (ysn, 14, .inl (va_cpy em en 0 0 0))), (tb, .inr (9, [.ref tk, .ref tf, .ref t1, .ref t2, .ref t3, .int 0])), (de, .inr (4, [.ref tb, .ref sm, .ref dfa, .ref den, .int 0, .int 0, .int 0]))] := hD
      refine lv_iconst (v := 1) hx hb dX5_run_57 (by decide) ?_
      have hP9 := hP.sub (ws' := [(se, .inr (7, [.ref tb, .ref de, .ref df, .ref sn, .ref ss, .ref sv, .ref sy, .int 0, .int 0, .int 1000, .int ey])), (sn, .inl (ysn, 14, .inl (va_cpy em en 0 0 0))), (tb, .inr (9, [.ref tk, .ref tf, .ref t1, .ref t2, .ref t3, .int 0])), (de, .inr (4, [.ref tb, .ref sm, .ref dfa, .ref den, .int 0, .int 0, .int 0])), (df, .inr (5, [.int 1, .int 0, .int 2, .int 2, .ref da, .ref db, .long dh, .ref dm])), (da, .inl (yda, 240, .inl ea)), (db, .inl (ydb, 450, .inr (.inl eb))), (dm, .inl (ydm, 14, .inl em))]) [4, 5, 6, 7, 0, 1, 2, 3] rfl
      have hD9 := hD.sub (ws' := [(se, .inr (7, [.ref tb, .ref de, .ref df, .ref sn, .ref ss, .ref sv, .ref sy, .int 0, .int 0, .int 1000, .int ey])), (sn, .inl (ysn, 14, .inl (va_cpy em en 0 0 0))), (tb, .inr (9, [.ref tk, .ref tf, .ref t1, .ref t2, .ref t3, .int 0])), (de, .inr (4, [.ref tb, .ref sm, .ref dfa, .ref den, .int 0, .int 0, .int 0])), (df, .inr (5, [.int 1, .int 0, .int 2, .int 2, .ref da, .ref db, .long dh, .ref dm])), (da, .inl (yda, 240, .inl ea)), (db, .inl (ydb, 450, .inr (.inl eb))), (dm, .inl (ydm, 14, .inl em))]) [4, 5, 6, 7, 0, 1, 2, 3] (by decide) rfl
      have hK9 := hK.sub (tys' := [(ysn, .int), (yda, .int), (ydb, .long), (ydm, .int)]) [3, 0, 1, 2] rfl
      refine W.widen (k := 0) (n := 0) (by omega) (by omega) ?_
      exact W.zret (v := 1) (ty := .boolean) hx hb hr (by decide +kernel) (fun t ht hW => ⟨⟨1, (), rfl, rfl, by rw [ht]; exact hP9, va_K.moved hW.alike hK9, hD9⟩, hS.F ht⟩) hS.2.2 dX5_run_58

set_option maxHeartbeats 4000000 in
set_option maxRecDepth 100000 in
theorem c_X5_begin_F (l : Launch) (dC : Nat → ClassId) (dI : Nat → Nat → Nat) (se tb de df sn ss sv sy tk tf t1 t2 t3 sm dfa den da db dm : Nat) (ysn yda ydb ydm : ClassId) (sz : Nat) (ed : Int32) (ec : Int32) (ef : Int32) (ey : Int32) (en : Nat → Int32) (ea : Nat → Int32) (eb : Nat → Int64) (em : Nat → Int32) (dh : Int64) (dn : Int32) (dz : Int32) (ds : Int32) (dc : Int32) : Met l yX5_begin (.code yX5_begin cX5_begin 2 (some .boolean) :: wAll) ({ frames := 3, cells := 0, slots := 0, locals := 69 }) (va_Pc [.ref se, .int (-1)] (fun U => U.heap.size = sz ∧ va_P (dC, dI) vwCl [(se, .inr (7, [.ref tb, .ref de, .ref df, .ref sn, .ref ss, .ref sv, .ref sy, .int ed, .int ec, .int ef, .int ey])), (sn, .inl (ysn, 14, .inl en)), (tb, .inr (9, [.ref tk, .ref tf, .ref t1, .ref t2, .ref t3, .int 0])), (de, .inr (4, [.ref tb, .ref sm, .ref dfa, .ref den, .int 0, .int 0, .int 0])), (df, .inr (5, [.int dn, .int dz, .int ds, .int dc, .ref da, .ref db, .long dh, .ref dm])), (da, .inl (yda, 240, .inl ea)), (db, .inl (ydb, 450, .inr (.inl eb))), (dm, .inl (ydm, 14, .inl em))] U.heap ∧ va_K (dC, dI) vwCl [(ysn, .int), (yda, .int), (ydb, .long), (ydm, .int)] U ∧ va_D (fun _ => True) [(se, .inr (7, [.ref tb, .ref de, .ref df, .ref sn, .ref ss, .ref sv, .ref sy, .int ed, .int ec, .int ef, .int ey])), (sn, .inl (ysn, 14, .inl en)), (tb, .inr (9, [.ref tk, .ref tf, .ref t1, .ref t2, .ref t3, .int 0])), (de, .inr (4, [.ref tb, .ref sm, .ref dfa, .ref den, .int 0, .int 0, .int 0])), (df, .inr (5, [.int dn, .int dz, .int ds, .int dc, .ref da, .ref db, .long dh, .ref dm])), (da, .inl (yda, 240, .inl ea)), (db, .inl (ydb, 450, .inr (.inl eb))), (dm, .inl (ydm, 14, .inl em))])) (va_Qi (fun (r : Int32) (_ : Unit) => r = 1) (fun (_ : Unit) (t : State) => va_P (dC, dI) vwCl [(se, .inr (7, [.ref tb, .ref de, .ref df, .ref sn, .ref ss, .ref sv, .ref sy, .int ed, .int ec, .int ef, .int ey])), (sn, .inl (ysn, 14, .inl en)), (tb, .inr (9, [.ref tk, .ref tf, .ref t1, .ref t2, .ref t3, .int 0])), (de, .inr (4, [.ref tb, .ref sm, .ref dfa, .ref den, .int 0, .int 0, .int 0])), (df, .inr (5, [.int 1, .int 0, .int 2, .int 2, .ref da, .ref db, .long dh, .ref dm])), (da, .inl (yda, 240, .inl (upd (upd (fillR (fillR ea 0 1 1000000) 1 2 0) 0 0) 0 0))), (db, .inl (ydb, 450, .inr (.inl (fillR eb 0 2 0)))), (dm, .inl (ydm, 14, .inl em))] t.heap ∧ va_K (dC, dI) vwCl [(ysn, .int), (yda, .int), (ydb, .long), (ydm, .int)] t ∧ va_D (va_A [(se, .inr (7, [.ref tb, .ref de, .ref df, .ref sn, .ref ss, .ref sv, .ref sy, .int ed, .int ec, .int ef, .int ey])), (sn, .inl (ysn, 14, .inl en)), (tb, .inr (9, [.ref tk, .ref tf, .ref t1, .ref t2, .ref t3, .int 0])), (de, .inr (4, [.ref tb, .ref sm, .ref dfa, .ref den, .int 0, .int 0, .int 0])), (df, .inr (5, [.int dn, .int dz, .int ds, .int dc, .ref da, .ref db, .long dh, .ref dm])), (da, .inl (yda, 240, .inl ea)), (db, .inl (ydb, 450, .inr (.inl eb))), (dm, .inl (ydm, 14, .inl em))] sz) [(se, .inr (7, [.ref tb, .ref de, .ref df, .ref sn, .ref ss, .ref sv, .ref sy, .int ed, .int ec, .int ef, .int ey])), (sn, .inl (ysn, 14, .inl en)), (tb, .inr (9, [.ref tk, .ref tf, .ref t1, .ref t2, .ref t3, .int 0])), (de, .inr (4, [.ref tb, .ref sm, .ref dfa, .ref den, .int 0, .int 0, .int 0])), (df, .inr (5, [.int 1, .int 0, .int 2, .int 2, .ref da, .ref db, .long dh, .ref dm])), (da, .inl (yda, 240, .inl (upd (upd (fillR (fillR ea 0 1 1000000) 1 2 0) 0 0) 0 0))), (db, .inl (ydb, 450, .inr (.inl (fillR eb 0 2 0)))), (dm, .inl (ydm, 14, .inl em))]) (va_A [(se, .inr (7, [.ref tb, .ref de, .ref df, .ref sn, .ref ss, .ref sv, .ref sy, .int ed, .int ec, .int ef, .int ey])), (sn, .inl (ysn, 14, .inl en)), (tb, .inr (9, [.ref tk, .ref tf, .ref t1, .ref t2, .ref t3, .int 0])), (de, .inr (4, [.ref tb, .ref sm, .ref dfa, .ref den, .int 0, .int 0, .int 0])), (df, .inr (5, [.int dn, .int dz, .int ds, .int dc, .ref da, .ref db, .long dh, .ref dm])), (da, .inl (yda, 240, .inl ea)), (db, .inl (ydb, 450, .inr (.inl eb))), (dm, .inl (ydm, 14, .inl em))] sz)) 0 0 (va_A [(se, .inr (7, [.ref tb, .ref de, .ref df, .ref sn, .ref ss, .ref sv, .ref sy, .int ed, .int ec, .int ef, .int ey])), (sn, .inl (ysn, 14, .inl en)), (tb, .inr (9, [.ref tk, .ref tf, .ref t1, .ref t2, .ref t3, .int 0])), (de, .inr (4, [.ref tb, .ref sm, .ref dfa, .ref den, .int 0, .int 0, .int 0])), (df, .inr (5, [.int dn, .int dz, .int ds, .int dc, .ref da, .ref db, .long dh, .ref dm])), (da, .inl (yda, 240, .inl ea)), (db, .inl (ydb, 450, .inr (.inl eb))), (dm, .inl (ydm, 14, .inl em))] sz) := by
  refine Met.ofW (cc := cX5_begin) (maxL := 2) (ret := (some .boolean)) (by decide) rfl ?_
  intro p e s m args below meth c s₁ B hml hv
  obtain ⟨rfl, hsz, hP, hK, hD0⟩ := hv
  have hx := B.exec
  have hb := B.bytes
  have hr := B.returns
  have hts := atoms_spec (ws := .code yX5_begin cX5_begin 2 (some .boolean) :: wAll) B.pre
  have hwA := fun w (h : w ∈ wAll) => hts w (List.mem_cons_of_mem _ h)
  have hown : s.vm.findClass RX5 = some m.cls := findClass_of_methodNamed B.named
  have hlocks := B.notSynchronized
  subst hsz
  have hD := hD0.self (sz := s.heap.size)
  generalize hAe : va_A [(se, .inr (7, [.ref tb, .ref de, .ref df, .ref sn, .ref ss, .ref sv, .ref sy, .int ed, .int ec, .int ef, .int ey])), (sn, .inl (ysn, 14, .inl en)), (tb, .inr (9, [.ref tk, .ref tf, .ref t1, .ref t2, .ref t3, .int 0])), (de, .inr (4, [.ref tb, .ref sm, .ref dfa, .ref den, .int 0, .int 0, .int 0])), (df, .inr (5, [.int dn, .int dz, .int ds, .int dc, .ref da, .ref db, .long dh, .ref dm])), (da, .inl (yda, 240, .inl ea)), (db, .inl (ydb, 450, .inr (.inl eb))), (dm, .inl (ydm, 14, .inl em))] s.heap.size = A at hD ⊢
  have hA : ∀ q : Nat, s.heap.size ≤ q → A q := fun q h => by rw [← hAe]; exact Or.inr h
  have hS : va_S A s.heap s.heap [] := va_S.rf
  have hP : va_P (dC, dI) vwCl [(se, .inr (7, [.ref tb, .ref de, .ref df, .ref sn, .ref ss, .ref sv, .ref sy, .int ed, .int ec, .int ef, .int ey])), (sn, .inl (ysn, 14, .inl en)), (tb, .inr (9, [.ref tk, .ref tf, .ref t1, .ref t2, .ref t3, .int 0])), (de, .inr (4, [.ref tb, .ref sm, .ref dfa, .ref den, .int 0, .int 0, .int 0])), (df, .inr (5, [.int dn, .int dz, .int ds, .int dc, .ref da, .ref db, .long dh, .ref dm])), (da, .inl (yda, 240, .inl ea)), (db, .inl (ydb, 450, .inr (.inl eb))), (dm, .inl (ydm, 14, .inl em))] s.heap := hP
  have hl := lv_entry ([.ref se, .int (-1)]) (n := 2) (Nat.le_of_ble_eq_true rfl)
  rw [lg_entry_eq]
  generalize (lg_sl ([.ref se, .int (-1)]) ++ List.replicate (2 - (lg_sl ([.ref se, .int (-1)])).length) Slot.unset).toArray = ls at hl ⊢
  have hl : lv_has ls 2 [(0, .ref se), (1, .int (-1))] := hl
  refine lv_aload_n hx hb dX5_begin_0 rfl (lv_at hl 0 rfl) ?_
  refine va_get (D := (dC, dI)) (ci := 7) (v := .ref df) (C := RX5) (T := TX5) (N := 11) hx hb hwA in_wsX50 hown hK hP 0 rfl rfl 2 (by decide) (hwA (.fieldLink RX5 10 "Congruary$Search" "differences" "LCongruary$Differences;") (in_wA_0 _ (List.mem_of_getElem? (i := 20) rfl))) (fun _ h9 => h9) rfl dX5_begin_1 ?_
  refine lv_aload_n hx hb dX5_begin_4 rfl (lv_at hl 0 rfl) ?_
  refine va_get (D := (dC, dI)) (ci := 7) (v := .ref tb) (C := RX5) (T := TX5) (N := 11) hx hb hwA in_wsX50 hown hK hP 0 rfl rfl 0 (by decide) (hwA (.fieldLink RX5 32 "Congruary$Search" "table" "LCongruary$Table;") (in_wA_0 _ (List.mem_of_getElem? (i := 25) rfl))) (fun _ h9 => h9) rfl dX5_begin_5 ?_
  refine va_get (D := (dC, dI)) (ci := 9) (v := .int 0) (C := RX7) (T := TX7) (N := 6) hx hb hwA in_wsX70 hown hK hP 2 rfl rfl 5 (by decide) (hwA (.fieldLink RX5 51 "Congruary$Table" "count" "I") (in_wA_3 _ (List.mem_of_getElem? (i := 32) rfl))) (fun _ h9 => h9) rfl dX5_begin_8 ?_
  have hPc := hP.sub (ws' := [(df, .inr (5, [.int dn, .int dz, .int ds, .int dc, .ref da, .ref db, .long dh, .ref dm])), (da, .inl (yda, 240, .inl ea)), (db, .inl (ydb, 450, .inr (.inl eb))), (dm, .inl (ydm, 14, .inl em))]) [4, 5, 6, 7] rfl
  have hDc := hD.sub (ws' := [(df, .inr (5, [.int dn, .int dz, .int ds, .int dc, .ref da, .ref db, .long dh, .ref dm])), (da, .inl (yda, 240, .inl ea)), (db, .inl (ydb, 450, .inr (.inl eb))), (dm, .inl (ydm, 14, .inl em))]) [4, 5, 6, 7] (by decide) rfl
  have hKc := hK.sub (tys' := [(yda, .int), (ydb, .long), (ydm, .int)]) [1, 2, 3] rfl
  have hFc := va_free (wc := [(df, .inr (5, [.int dn, .int dz, .int ds, .int dc, .ref da, .ref db, .long dh, .ref dm])), (da, .inl (yda, 240, .inl ea)), (db, .inl (ydb, 450, .inr (.inl eb))), (dm, .inl (ydm, 14, .inl em))]) hD hS hA [4, 5, 6, 7] rfl
  refine va_callv (va_runV (As := [.int 0]) (rest := []) ⟨hx, hb, hml, hown, hwA⟩ (c_X2_clear_F l dC dI df da db dm yda ydb ydm s.heap.size ea eb em dh dn dz ds dc ) (cwV 1 hwA (gwV (in_wA_3 _ (List.mem_of_getElem? (i := 33) rfl)) (in_wA_3 _ (List.mem_of_getElem? (i := 34) rfl)) (in_wA_3 _ (List.mem_of_getElem? (i := 35) rfl)) (in_wA_0 _ (List.mem_of_getElem? (i := 19) rfl)) (in_wA_3 _ (List.mem_of_getElem? (i := 0) rfl))) rfl rfl rfl (by decide +kernel) ⟨Nat.le_of_ble_eq_true rfl, Nat.le_of_ble_eq_true rfl⟩) ⟨fun a U g mk q => by obtain ⟨q0, q1, qP, qK, qD⟩ := q; exact ⟨q0, q1, qP, va_K.moved (u := U) (U := U.calling g mk a) (Vm.Alike.refl U.vm) qK, qD⟩, va_recv hKc hPc (ci := 5) (q0 := 0) rfl rfl, fun U hU hW => ⟨rfl, by rw [hU], by rw [hU]; exact hPc, va_K.moved hW.alike hKc, hDc.weaken (fun _ _ _ _ => trivial)⟩⟩ rfl rfl hl.1 rfl (lv_room (Nat.le_of_ble_eq_true rfl)) dX5_begin_11 ⟨Nat.le_of_ble_eq_true rfl, Nat.le_of_ble_eq_true rfl⟩) hS (fun q _ h => hFc q h) hFc (fun u_1 t H1 locs ht hvm hw hB hz1 hk1 hS => ?_)
  obtain ⟨hP1, hK1, hD1⟩ := hB
  rw [ht] at hP1
  have hK1 := va_K.moved hvm.symm hK1
  obtain ⟨hP, hD⟩ := va_join (wr := [(se, .inr (7, [.ref tb, .ref de, .ref df, .ref sn, .ref ss, .ref sv, .ref sy, .int ed, .int ec, .int ef, .int ey])), (sn, .inl (ysn, 14, .inl en)), (tb, .inr (9, [.ref tk, .ref tf, .ref t1, .ref t2, .ref t3, .int 0])), (de, .inr (4, [.ref tb, .ref sm, .ref dfa, .ref den, .int 0, .int 0, .int 0]))]) (w1 := [(df, .inr (5, [.int 1, .int 0, .int 2, .int 2, .ref da, .ref db, .long dh, .ref dm])), (da, .inl (yda, 240, .inl (upd (upd (fillR (fillR ea 0 1 1000000) 1 2 0) 0 0) 0 0))), (db, .inl (ydb, 450, .inr (.inl (fillR eb 0 2 0)))), (dm, .inl (ydm, 14, .inl em))]) hP hD [4, 5, 6, 7] [0, 1, 2, 3] rfl rfl (by decide) (by decide) hk1 hFc hP1 hD1
  have hK := (hK.sub (tys' := [(ysn, .int)]) [0] rfl).app hK1
  generalize H1 = H at hP hS ⊢
  have hP : va_P (dC, dI) vwCl [(se, .inr (7, [.ref tb, .ref de, .ref df, .ref sn, .ref ss, .ref sv, .ref sy, .int ed, .int ec, .int ef, .int ey])), (sn, .inl (ysn, 14, .inl en)), (tb, .inr (9, [.ref tk, .ref tf, .ref t1, .ref t2, .ref t3, .int 0])), (de, .inr (4, [.ref tb, .ref sm, .ref dfa, .ref den, .int 0, .int 0, .int 0])), (df, .inr (5, [.int 1, .int 0, .int 2, .int 2, .ref da, .ref db, .long dh, .ref dm])), (da, .inl (yda, 240, .inl (upd (upd (fillR (fillR ea 0 1 1000000) 1 2 0) 0 0) 0 0))), (db, .inl (ydb, 450, .inr (.inl (fillR eb 0 2 0)))), (dm, .inl (ydm, 14, .inl em))] H := hP
  have hD : va_D A [(se, .inr (7, [.ref tb, .ref de, .ref df, .ref sn, .ref ss, .ref sv, .ref sy, .int ed, .int ec, .int ef, .int ey])), (sn, .inl (ysn, 14, .inl en)), (tb, .inr (9, [.ref tk, .ref tf, .ref t1, .ref t2, .ref t3, .int 0])), (de, .inr (4, [.ref tb, .ref sm, .ref dfa, .ref den, .int 0, .int 0, .int 0])), (df, .inr (5, [.int 1, .int 0, .int 2, .int 2, .ref da, .ref db, .long dh, .ref dm])), (da, .inl (yda, 240, .inl (upd (upd (fillR (fillR ea 0 1 1000000) 1 2 0) 0 0) 0 0))), (db, .inl (ydb, 450, .inr (.inl (fillR eb 0 2 0)))), (dm, .inl (ydm, 14, .inl em))] := hD
  have hK : va_K (dC, dI) vwCl [(ysn, .int), (yda, .int), (ydb, .long), (ydm, .int)] s := hK
  refine W.widen (k := 0) (n := 0) (by omega) (by omega) ?_
  have hw_3 := hw
  refine lv_iload_n hx hb dX5_begin_14 rfl (lv_at hl 1 rfl) ?_
  refine lv_iconst (v := (-1)) hx hb dX5_begin_15 (by decide) ?_
  refine lv_icmp_eq (tgt := 31) hx hb dX5_begin_16 (by decide) (fun c_4 => ?_) (fun c_4 => ?_)
  · refine lv_iconst (v := 1) hx hb dX5_begin_31 (by decide) ?_
    refine lv_goto (tgt := 36) hx hb dX5_begin_32 (by decide) ?_
    have hP9 := hP.sub (ws' := [(se, .inr (7, [.ref tb, .ref de, .ref df, .ref sn, .ref ss, .ref sv, .ref sy, .int ed, .int ec, .int ef, .int ey])), (sn, .inl (ysn, 14, .inl en)), (tb, .inr (9, [.ref tk, .ref tf, .ref t1, .ref t2, .ref t3, .int 0])), (de, .inr (4, [.ref tb, .ref sm, .ref dfa, .ref den, .int 0, .int 0, .int 0])), (df, .inr (5, [.int 1, .int 0, .int 2, .int 2, .ref da, .ref db, .long dh, .ref dm])), (da, .inl (yda, 240, .inl (upd (upd (fillR (fillR ea 0 1 1000000) 1 2 0) 0 0) 0 0))), (db, .inl (ydb, 450, .inr (.inl (fillR eb 0 2 0)))), (dm, .inl (ydm, 14, .inl em))]) [0, 1, 2, 3, 4, 5, 6, 7] rfl
    have hD9 := hD.sub (ws' := [(se, .inr (7, [.ref tb, .ref de, .ref df, .ref sn, .ref ss, .ref sv, .ref sy, .int ed, .int ec, .int ef, .int ey])), (sn, .inl (ysn, 14, .inl en)), (tb, .inr (9, [.ref tk, .ref tf, .ref t1, .ref t2, .ref t3, .int 0])), (de, .inr (4, [.ref tb, .ref sm, .ref dfa, .ref den, .int 0, .int 0, .int 0])), (df, .inr (5, [.int 1, .int 0, .int 2, .int 2, .ref da, .ref db, .long dh, .ref dm])), (da, .inl (yda, 240, .inl (upd (upd (fillR (fillR ea 0 1 1000000) 1 2 0) 0 0) 0 0))), (db, .inl (ydb, 450, .inr (.inl (fillR eb 0 2 0)))), (dm, .inl (ydm, 14, .inl em))]) [0, 1, 2, 3, 4, 5, 6, 7] (by decide) rfl
    have hK9 := hK.sub (tys' := [(ysn, .int), (yda, .int), (ydb, .long), (ydm, .int)]) [0, 1, 2, 3] rfl
    refine W.widen (k := 0) (n := 0) (by omega) (by omega) ?_
    exact W.zret (v := 1) (ty := .boolean) hx hb hr (by decide +kernel) (fun t ht hW => ⟨⟨1, (), rfl, rfl, by rw [ht]; exact hP9, va_K.moved hW.alike hK9, hD9⟩, hS.F ht⟩) hS.2.2 dX5_begin_36
  · exact absurd c_4 (by decide)

set_option maxHeartbeats 4000000 in
set_option maxRecDepth 100000 in
theorem c_X5_find_F (l : Launch) (dC : Nat → ClassId) (dI : Nat → Nat → Nat) (se tb de df sn ss sv sy tk tf t1 t2 t3 sm dfa den da db dm : Nat) (ysn yda ydb ydm : ClassId) (sz : Nat) (ed : Int32) (ec : Int32) (ef : Int32) (ey : Int32) (en : Nat → Int32) (ea : Nat → Int32) (eb : Nat → Int64) (em : Nat → Int32) (dh : Int64) (dn : Int32) (dz : Int32) (ds : Int32) (dc : Int32) (x : Int32) : Met l yX5_find (.code yX5_find cX5_find 3 (some .boolean) :: wAll) ({ frames := 4, cells := 0, slots := 0, locals := 90 }) (va_Pc [.ref se, .int x, .int (-1)] (fun U => U.heap.size = sz ∧ va_P (dC, dI) vwCl [(se, .inr (7, [.ref tb, .ref de, .ref df, .ref sn, .ref ss, .ref sv, .ref sy, .int ed, .int ec, .int ef, .int ey])), (sn, .inl (ysn, 14, .inl en)), (tb, .inr (9, [.ref tk, .ref tf, .ref t1, .ref t2, .ref t3, .int 0])), (de, .inr (4, [.ref tb, .ref sm, .ref dfa, .ref den, .int 0, .int 0, .int 0])), (df, .inr (5, [.int dn, .int dz, .int ds, .int dc, .ref da, .ref db, .long dh, .ref dm])), (da, .inl (yda, 240, .inl ea)), (db, .inl (ydb, 450, .inr (.inl eb))), (dm, .inl (ydm, 14, .inl em))] U.heap ∧ va_K (dC, dI) vwCl [(ysn, .int), (yda, .int), (ydb, .long), (ydm, .int)] U ∧ va_D (fun _ => True) [(se, .inr (7, [.ref tb, .ref de, .ref df, .ref sn, .ref ss, .ref sv, .ref sy, .int ed, .int ec, .int ef, .int ey])), (sn, .inl (ysn, 14, .inl en)), (tb, .inr (9, [.ref tk, .ref tf, .ref t1, .ref t2, .ref t3, .int 0])), (de, .inr (4, [.ref tb, .ref sm, .ref dfa, .ref den, .int 0, .int 0, .int 0])), (df, .inr (5, [.int dn, .int dz, .int ds, .int dc, .ref da, .ref db, .long dh, .ref dm])), (da, .inl (yda, 240, .inl ea)), (db, .inl (ydb, 450, .inr (.inl eb))), (dm, .inl (ydm, 14, .inl em))])) (va_Qi (fun (r : Int32) (_ : Unit) => r = 1) (fun (_ : Unit) (t : State) => va_P (dC, dI) vwCl [(se, .inr (7, [.ref tb, .ref de, .ref df, .ref sn, .ref ss, .ref sv, .ref sy, .int 0, .int 0, .int 1000, .int ey])), (sn, .inl (ysn, 14, .inl (va_cpy em en 0 0 0))), (tb, .inr (9, [.ref tk, .ref tf, .ref t1, .ref t2, .ref t3, .int 0])), (de, .inr (4, [.ref tb, .ref sm, .ref dfa, .ref den, .int 0, .int 0, .int 0])), (df, .inr (5, [.int 1, .int 0, .int 2, .int 2, .ref da, .ref db, .long dh, .ref dm])), (da, .inl (yda, 240, .inl (upd (upd (fillR (fillR ea 0 1 1000000) 1 2 0) 0 0) 0 0))), (db, .inl (ydb, 450, .inr (.inl (fillR eb 0 2 0)))), (dm, .inl (ydm, 14, .inl em))] t.heap ∧ va_K (dC, dI) vwCl [(ysn, .int), (yda, .int), (ydb, .long), (ydm, .int)] t ∧ va_D (va_A [(se, .inr (7, [.ref tb, .ref de, .ref df, .ref sn, .ref ss, .ref sv, .ref sy, .int ed, .int ec, .int ef, .int ey])), (sn, .inl (ysn, 14, .inl en)), (tb, .inr (9, [.ref tk, .ref tf, .ref t1, .ref t2, .ref t3, .int 0])), (de, .inr (4, [.ref tb, .ref sm, .ref dfa, .ref den, .int 0, .int 0, .int 0])), (df, .inr (5, [.int dn, .int dz, .int ds, .int dc, .ref da, .ref db, .long dh, .ref dm])), (da, .inl (yda, 240, .inl ea)), (db, .inl (ydb, 450, .inr (.inl eb))), (dm, .inl (ydm, 14, .inl em))] sz) [(se, .inr (7, [.ref tb, .ref de, .ref df, .ref sn, .ref ss, .ref sv, .ref sy, .int 0, .int 0, .int 1000, .int ey])), (sn, .inl (ysn, 14, .inl (va_cpy em en 0 0 0))), (tb, .inr (9, [.ref tk, .ref tf, .ref t1, .ref t2, .ref t3, .int 0])), (de, .inr (4, [.ref tb, .ref sm, .ref dfa, .ref den, .int 0, .int 0, .int 0])), (df, .inr (5, [.int 1, .int 0, .int 2, .int 2, .ref da, .ref db, .long dh, .ref dm])), (da, .inl (yda, 240, .inl (upd (upd (fillR (fillR ea 0 1 1000000) 1 2 0) 0 0) 0 0))), (db, .inl (ydb, 450, .inr (.inl (fillR eb 0 2 0)))), (dm, .inl (ydm, 14, .inl em))]) (va_A [(se, .inr (7, [.ref tb, .ref de, .ref df, .ref sn, .ref ss, .ref sv, .ref sy, .int ed, .int ec, .int ef, .int ey])), (sn, .inl (ysn, 14, .inl en)), (tb, .inr (9, [.ref tk, .ref tf, .ref t1, .ref t2, .ref t3, .int 0])), (de, .inr (4, [.ref tb, .ref sm, .ref dfa, .ref den, .int 0, .int 0, .int 0])), (df, .inr (5, [.int dn, .int dz, .int ds, .int dc, .ref da, .ref db, .long dh, .ref dm])), (da, .inl (yda, 240, .inl ea)), (db, .inl (ydb, 450, .inr (.inl eb))), (dm, .inl (ydm, 14, .inl em))] sz)) 0 0 (va_A [(se, .inr (7, [.ref tb, .ref de, .ref df, .ref sn, .ref ss, .ref sv, .ref sy, .int ed, .int ec, .int ef, .int ey])), (sn, .inl (ysn, 14, .inl en)), (tb, .inr (9, [.ref tk, .ref tf, .ref t1, .ref t2, .ref t3, .int 0])), (de, .inr (4, [.ref tb, .ref sm, .ref dfa, .ref den, .int 0, .int 0, .int 0])), (df, .inr (5, [.int dn, .int dz, .int ds, .int dc, .ref da, .ref db, .long dh, .ref dm])), (da, .inl (yda, 240, .inl ea)), (db, .inl (ydb, 450, .inr (.inl eb))), (dm, .inl (ydm, 14, .inl em))] sz) := by
  refine Met.ofW (cc := cX5_find) (maxL := 3) (ret := (some .boolean)) (by decide) rfl ?_
  intro p e s m args below meth c s₁ B hml hv
  obtain ⟨rfl, hsz, hP, hK, hD0⟩ := hv
  have hx := B.exec
  have hb := B.bytes
  have hr := B.returns
  have hts := atoms_spec (ws := .code yX5_find cX5_find 3 (some .boolean) :: wAll) B.pre
  have hwA := fun w (h : w ∈ wAll) => hts w (List.mem_cons_of_mem _ h)
  have hown : s.vm.findClass RX5 = some m.cls := findClass_of_methodNamed B.named
  have hlocks := B.notSynchronized
  subst hsz
  have hD := hD0.self (sz := s.heap.size)
  generalize hAe : va_A [(se, .inr (7, [.ref tb, .ref de, .ref df, .ref sn, .ref ss, .ref sv, .ref sy, .int ed, .int ec, .int ef, .int ey])), (sn, .inl (ysn, 14, .inl en)), (tb, .inr (9, [.ref tk, .ref tf, .ref t1, .ref t2, .ref t3, .int 0])), (de, .inr (4, [.ref tb, .ref sm, .ref dfa, .ref den, .int 0, .int 0, .int 0])), (df, .inr (5, [.int dn, .int dz, .int ds, .int dc, .ref da, .ref db, .long dh, .ref dm])), (da, .inl (yda, 240, .inl ea)), (db, .inl (ydb, 450, .inr (.inl eb))), (dm, .inl (ydm, 14, .inl em))] s.heap.size = A at hD ⊢
  have hA : ∀ q : Nat, s.heap.size ≤ q → A q := fun q h => by rw [← hAe]; exact Or.inr h
  have hS : va_S A s.heap s.heap [] := va_S.rf
  have hP : va_P (dC, dI) vwCl [(se, .inr (7, [.ref tb, .ref de, .ref df, .ref sn, .ref ss, .ref sv, .ref sy, .int ed, .int ec, .int ef, .int ey])), (sn, .inl (ysn, 14, .inl en)), (tb, .inr (9, [.ref tk, .ref tf, .ref t1, .ref t2, .ref t3, .int 0])), (de, .inr (4, [.ref tb, .ref sm, .ref dfa, .ref den, .int 0, .int 0, .int 0])), (df, .inr (5, [.int dn, .int dz, .int ds, .int dc, .ref da, .ref db, .long dh, .ref dm])), (da, .inl (yda, 240, .inl ea)), (db, .inl (ydb, 450, .inr (.inl eb))), (dm, .inl (ydm, 14, .inl em))] s.heap := hP
  have hl := lv_entry ([.ref se, .int x, .int (-1)]) (n := 3) (Nat.le_of_ble_eq_true rfl)
  rw [lg_entry_eq]
  generalize (lg_sl ([.ref se, .int x, .int (-1)]) ++ List.replicate (3 - (lg_sl ([.ref se, .int x, .int (-1)])).length) Slot.unset).toArray = ls at hl ⊢
  have hl : lv_has ls 3 [(0, .ref se), (1, .int x), (2, .int (-1))] := hl
  refine lv_aload_n hx hb dX5_find_0 rfl (lv_at hl 0 rfl) ?_
  refine lv_iload_n hx hb dX5_find_1 rfl (lv_at hl 2 rfl) ?_
  have hPc := hP.sub (ws' := [(se, .inr (7, [.ref tb, .ref de, .ref df, .ref sn, .ref ss, .ref sv, .ref sy, .int ed, .int ec, .int ef, .int ey])), (sn, .inl (ysn, 14, .inl en)), (tb, .inr (9, [.ref tk, .ref tf, .ref t1, .ref t2, .ref t3, .int 0])), (de, .inr (4, [.ref tb, .ref sm, .ref dfa, .ref den, .int 0, .int 0, .int 0])), (df, .inr (5, [.int dn, .int dz, .int ds, .int dc, .ref da, .ref db, .long dh, .ref dm])), (da, .inl (yda, 240, .inl ea)), (db, .inl (ydb, 450, .inr (.inl eb))), (dm, .inl (ydm, 14, .inl em))]) [0, 1, 2, 3, 4, 5, 6, 7] rfl
  have hDc := hD.sub (ws' := [(se, .inr (7, [.ref tb, .ref de, .ref df, .ref sn, .ref ss, .ref sv, .ref sy, .int ed, .int ec, .int ef, .int ey])), (sn, .inl (ysn, 14, .inl en)), (tb, .inr (9, [.ref tk, .ref tf, .ref t1, .ref t2, .ref t3, .int 0])), (de, .inr (4, [.ref tb, .ref sm, .ref dfa, .ref den, .int 0, .int 0, .int 0])), (df, .inr (5, [.int dn, .int dz, .int ds, .int dc, .ref da, .ref db, .long dh, .ref dm])), (da, .inl (yda, 240, .inl ea)), (db, .inl (ydb, 450, .inr (.inl eb))), (dm, .inl (ydm, 14, .inl em))]) [0, 1, 2, 3, 4, 5, 6, 7] (by decide) rfl
  have hKc := hK.sub (tys' := [(ysn, .int), (yda, .int), (ydb, .long), (ydm, .int)]) [0, 1, 2, 3] rfl
  have hFc := va_free (wc := [(se, .inr (7, [.ref tb, .ref de, .ref df, .ref sn, .ref ss, .ref sv, .ref sy, .int ed, .int ec, .int ef, .int ey])), (sn, .inl (ysn, 14, .inl en)), (tb, .inr (9, [.ref tk, .ref tf, .ref t1, .ref t2, .ref t3, .int 0])), (de, .inr (4, [.ref tb, .ref sm, .ref dfa, .ref den, .int 0, .int 0, .int 0])), (df, .inr (5, [.int dn, .int dz, .int ds, .int dc, .ref da, .ref db, .long dh, .ref dm])), (da, .inl (yda, 240, .inl ea)), (db, .inl (ydb, 450, .inr (.inl eb))), (dm, .inl (ydm, 14, .inl em))]) hD hS hA [0, 1, 2, 3, 4, 5, 6, 7] rfl
  refine va_calli (va_runV (As := [.int (-1)]) (rest := []) ⟨hx, hb, hml, hown, hwA⟩ (c_X5_begin_F l dC dI se tb de df sn ss sv sy tk tf t1 t2 t3 sm dfa den da db dm ysn yda ydb ydm s.heap.size ed ec ef ey en ea eb em dh dn dz ds dc ) (cwV 1 hwA (gwV (in_wA_5 _ (List.mem_of_getElem? (i := 11) rfl)) (in_wA_5 _ (List.mem_of_getElem? (i := 12) rfl)) (in_wA_5 _ (List.mem_of_getElem? (i := 13) rfl)) (in_wA_0 _ (List.mem_of_getElem? (i := 41) rfl)) (in_wA_3 _ (List.mem_of_getElem? (i := 39) rfl))) rfl rfl rfl (by decide +kernel) ⟨Nat.le_of_ble_eq_true rfl, Nat.le_of_ble_eq_true rfl⟩) ⟨fun a U g mk q => by obtain ⟨q0, q1, qP, qK, qD⟩ := q; exact ⟨q0, q1, qP, va_K.moved (u := U) (U := U.calling g mk a) (Vm.Alike.refl U.vm) qK, qD⟩, va_recv hKc hPc (ci := 7) (q0 := 0) rfl rfl, fun U hU hW => ⟨rfl, by rw [hU], by rw [hU]; exact hPc, va_K.moved hW.alike hKc, hDc.weaken (fun _ _ _ _ => trivial)⟩⟩ rfl rfl hl.1 rfl (lv_room (Nat.le_of_ble_eq_true rfl)) dX5_find_2 ⟨Nat.le_of_ble_eq_true rfl, Nat.le_of_ble_eq_true rfl⟩) hS (fun q _ h => hFc q h) hFc (fun r_2 u_1 t H1 locs ht hvm hw hB hz1 hk1 hS => ?_)
  obtain ⟨hP1, hK1, hD1⟩ := hB
  rw [ht] at hP1
  have hK1 := va_K.moved hvm.symm hK1
  obtain ⟨hP, hD⟩ := va_join (wr := []) (w1 := [(se, .inr (7, [.ref tb, .ref de, .ref df, .ref sn, .ref ss, .ref sv, .ref sy, .int ed, .int ec, .int ef, .int ey])), (sn, .inl (ysn, 14, .inl en)), (tb, .inr (9, [.ref tk, .ref tf, .ref t1, .ref t2, .ref t3, .int 0])), (de, .inr (4, [.ref tb, .ref sm, .ref dfa, .ref den, .int 0, .int 0, .int 0])), (df, .inr (5, [.int 1, .int 0, .int 2, .int 2, .ref da, .ref db, .long dh, .ref dm])), (da, .inl (yda, 240, .inl (upd (upd (fillR (fillR ea 0 1 1000000) 1 2 0) 0 0) 0 0))), (db, .inl (ydb, 450, .inr (.inl (fillR eb 0 2 0)))), (dm, .inl (ydm, 14, .inl em))]) hP hD [0, 1, 2, 3, 4, 5, 6, 7] [] rfl rfl (by decide) (by decide) hk1 hFc hP1 hD1
  have hK := (hK.sub (tys' := []) [] rfl).app hK1
  generalize H1 = H at hP hS ⊢
  have hP : va_P (dC, dI) vwCl [(se, .inr (7, [.ref tb, .ref de, .ref df, .ref sn, .ref ss, .ref sv, .ref sy, .int ed, .int ec, .int ef, .int ey])), (sn, .inl (ysn, 14, .inl en)), (tb, .inr (9, [.ref tk, .ref tf, .ref t1, .ref t2, .ref t3, .int 0])), (de, .inr (4, [.ref tb, .ref sm, .ref dfa, .ref den, .int 0, .int 0, .int 0])), (df, .inr (5, [.int 1, .int 0, .int 2, .int 2, .ref da, .ref db, .long dh, .ref dm])), (da, .inl (yda, 240, .inl (upd (upd (fillR (fillR ea 0 1 1000000) 1 2 0) 0 0) 0 0))), (db, .inl (ydb, 450, .inr (.inl (fillR eb 0 2 0)))), (dm, .inl (ydm, 14, .inl em))] H := hP
  have hD : va_D A [(se, .inr (7, [.ref tb, .ref de, .ref df, .ref sn, .ref ss, .ref sv, .ref sy, .int ed, .int ec, .int ef, .int ey])), (sn, .inl (ysn, 14, .inl en)), (tb, .inr (9, [.ref tk, .ref tf, .ref t1, .ref t2, .ref t3, .int 0])), (de, .inr (4, [.ref tb, .ref sm, .ref dfa, .ref den, .int 0, .int 0, .int 0])), (df, .inr (5, [.int 1, .int 0, .int 2, .int 2, .ref da, .ref db, .long dh, .ref dm])), (da, .inl (yda, 240, .inl (upd (upd (fillR (fillR ea 0 1 1000000) 1 2 0) 0 0) 0 0))), (db, .inl (ydb, 450, .inr (.inl (fillR eb 0 2 0)))), (dm, .inl (ydm, 14, .inl em))] := hD
  have hK : va_K (dC, dI) vwCl [(ysn, .int), (yda, .int), (ydb, .long), (ydm, .int)] s := hK
  refine W.widen (k := 0) (n := 0) (by omega) (by omega) ?_
  have hw_3 := hw
  obtain rfl : r_2 = 1 := hw_3
  refine lv_if_eq (tgt := 21) hx hb dX5_find_5 (by decide) (fun c_4 => ?_) (fun c_4 => ?_)
  · exact absurd c_4 (by decide)
  · refine lv_aload_n hx hb dX5_find_8 rfl (lv_at hl 0 rfl) ?_
    refine lv_iload_n hx hb dX5_find_9 rfl (lv_at hl 1 rfl) ?_
    refine lv_iconst (v := (-1)) hx hb dX5_find_10 (by decide) ?_
    have hPc := hP.sub (ws' := [(se, .inr (7, [.ref tb, .ref de, .ref df, .ref sn, .ref ss, .ref sv, .ref sy, .int ed, .int ec, .int ef, .int ey])), (sn, .inl (ysn, 14, .inl en)), (tb, .inr (9, [.ref tk, .ref tf, .ref t1, .ref t2, .ref t3, .int 0])), (de, .inr (4, [.ref tb, .ref sm, .ref dfa, .ref den, .int 0, .int 0, .int 0])), (df, .inr (5, [.int 1, .int 0, .int 2, .int 2, .ref da, .ref db, .long dh, .ref dm])), (da, .inl (yda, 240, .inl (upd (upd (fillR (fillR ea 0 1 1000000) 1 2 0) 0 0) 0 0))), (db, .inl (ydb, 450, .inr (.inl (fillR eb 0 2 0)))), (dm, .inl (ydm, 14, .inl em))]) [0, 1, 2, 3, 4, 5, 6, 7] rfl
    have hDc := hD.sub (ws' := [(se, .inr (7, [.ref tb, .ref de, .ref df, .ref sn, .ref ss, .ref sv, .ref sy, .int ed, .int ec, .int ef, .int ey])), (sn, .inl (ysn, 14, .inl en)), (tb, .inr (9, [.ref tk, .ref tf, .ref t1, .ref t2, .ref t3, .int 0])), (de, .inr (4, [.ref tb, .ref sm, .ref dfa, .ref den, .int 0, .int 0, .int 0])), (df, .inr (5, [.int 1, .int 0, .int 2, .int 2, .ref da, .ref db, .long dh, .ref dm])), (da, .inl (yda, 240, .inl (upd (upd (fillR (fillR ea 0 1 1000000) 1 2 0) 0 0) 0 0))), (db, .inl (ydb, 450, .inr (.inl (fillR eb 0 2 0)))), (dm, .inl (ydm, 14, .inl em))]) [0, 1, 2, 3, 4, 5, 6, 7] (by decide) rfl
    have hKc := hK.sub (tys' := [(ysn, .int), (yda, .int), (ydb, .long), (ydm, .int)]) [0, 1, 2, 3] rfl
    have hFc := va_free (wc := [(se, .inr (7, [.ref tb, .ref de, .ref df, .ref sn, .ref ss, .ref sv, .ref sy, .int ed, .int ec, .int ef, .int ey])), (sn, .inl (ysn, 14, .inl en)), (tb, .inr (9, [.ref tk, .ref tf, .ref t1, .ref t2, .ref t3, .int 0])), (de, .inr (4, [.ref tb, .ref sm, .ref dfa, .ref den, .int 0, .int 0, .int 0])), (df, .inr (5, [.int 1, .int 0, .int 2, .int 2, .ref da, .ref db, .long dh, .ref dm])), (da, .inl (yda, 240, .inl (upd (upd (fillR (fillR ea 0 1 1000000) 1 2 0) 0 0) 0 0))), (db, .inl (ydb, 450, .inr (.inl (fillR eb 0 2 0)))), (dm, .inl (ydm, 14, .inl em))]) hD hS hA [0, 1, 2, 3, 4, 5, 6, 7] rfl
    refine va_calli (va_runV (As := [.int x, .int (-1)]) (rest := []) ⟨hx, hb, hml, hown, hwA⟩ (c_X5_run_F l dC dI se tb de df sn ss sv sy tk tf t1 t2 t3 sm dfa den da db dm ysn yda ydb ydm H.size ed ec ef ey en (upd (upd (fillR (fillR ea 0 1 1000000) 1 2 0) 0 0) 0 0) (fillR eb 0 2 0) em dh x (-1) ) (cwV 2 hwA (gwV (in_wA_5 _ (List.mem_of_getElem? (i := 14) rfl)) (in_wA_5 _ (List.mem_of_getElem? (i := 15) rfl)) (in_wA_5 _ (List.mem_of_getElem? (i := 16) rfl)) (in_wA_0 _ (List.mem_of_getElem? (i := 41) rfl)) (in_wA_5 _ (List.mem_of_getElem? (i := 10) rfl))) rfl rfl rfl (by decide +kernel) ⟨Nat.le_of_ble_eq_true rfl, Nat.le_of_ble_eq_true rfl⟩) ⟨fun a U g mk q => by obtain ⟨q0, q1, qP, qK, qD⟩ := q; exact ⟨q0, q1, qP, va_K.moved (u := U) (U := U.calling g mk a) (Vm.Alike.refl U.vm) qK, qD⟩, va_recv hKc hPc (ci := 7) (q0 := 0) rfl rfl, fun U hU hW => ⟨rfl, by rw [hU], by rw [hU]; exact hPc, va_K.moved hW.alike hKc, hDc.weaken (fun _ _ _ _ => trivial)⟩⟩ rfl rfl hl.1 rfl (lv_room (Nat.le_of_ble_eq_true rfl)) dX5_find_11 ⟨Nat.le_of_ble_eq_true rfl, Nat.le_of_ble_eq_true rfl⟩) hS (fun q _ h => hFc q h) hFc (fun r_6 u_5 t H1 locs ht hvm hw hB hz1 hk1 hS => ?_)
    obtain ⟨hP1, hK1, hD1⟩ := hB
    rw [ht] at hP1
    have hK1 := va_K.moved hvm.symm hK1
    obtain ⟨hP, hD⟩ := va_join (wr := []) (w1 := [(se, .inr (7, [.ref tb, .ref de, .ref df, .ref sn, .ref ss, .ref sv, .ref sy, .int 0, .int 0, .int 1000, .int ey])), (sn, .inl (ysn, 14, .inl (va_cpy em en 0 0 0))), (tb, .inr (9, [.ref tk, .ref tf, .ref t1, .ref t2, .ref t3, .int 0])), (de, .inr (4, [.ref tb, .ref sm, .ref dfa, .ref den, .int 0, .int 0, .int 0])), (df, .inr (5, [.int 1, .int 0, .int 2, .int 2, .ref da, .ref db, .long dh, .ref dm])), (da, .inl (yda, 240, .inl (upd (upd (fillR (fillR ea 0 1 1000000) 1 2 0) 0 0) 0 0))), (db, .inl (ydb, 450, .inr (.inl (fillR eb 0 2 0)))), (dm, .inl (ydm, 14, .inl em))]) hP hD [0, 1, 2, 3, 4, 5, 6, 7] [] rfl rfl (by decide) (by decide) hk1 hFc hP1 hD1
    have hK := (hK.sub (tys' := []) [] rfl).app hK1
    generalize H1 = H at hP hS ⊢
    have hP : va_P (dC, dI) vwCl [(se, .inr (7, [.ref tb, .ref de, .ref df, .ref sn, .ref ss, .ref sv, .ref sy, .int 0, .int 0, .int 1000, .int ey])), (sn, .inl (ysn, 14, .inl (va_cpy em en 0 0 0))), (tb, .inr (9, [.ref tk, .ref tf, .ref t1, .ref t2, .ref t3, .int 0])), (de, .inr (4, [.ref tb, .ref sm, .ref dfa, .ref den, .int 0, .int 0, .int 0])), (df, .inr (5, [.int 1, .int 0, .int 2, .int 2, .ref da, .ref db, .long dh, .ref dm])), (da, .inl (yda, 240, .inl (upd (upd (fillR (fillR ea 0 1 1000000) 1 2 0) 0 0) 0 0))), (db, .inl (ydb, 450, .inr (.inl (fillR eb 0 2 0)))), (dm, .inl (ydm, 14, .inl em))] H := hP
    have hD : va_D A [(se, .inr (7, [.ref tb, .ref de, .ref df, .ref sn, .ref ss, .ref sv, .ref sy, .int 0, .int 0, .int 1000, .int ey])), (sn, .inl (ysn, 14, .inl (va_cpy em en 0 0 0))), (tb, .inr (9, [.ref tk, .ref tf, .ref t1, .ref t2, .ref t3, .int 0])), (de, .inr (4, [.ref tb, .ref sm, .ref dfa, .ref den, .int 0, .int 0, .int 0])), (df, .inr (5, [.int 1, .int 0, .int 2, .int 2, .ref da, .ref db, .long dh, .ref dm])), (da, .inl (yda, 240, .inl (upd (upd (fillR (fillR ea 0 1 1000000) 1 2 0) 0 0) 0 0))), (db, .inl (ydb, 450, .inr (.inl (fillR eb 0 2 0)))), (dm, .inl (ydm, 14, .inl em))] := hD
    have hK : va_K (dC, dI) vwCl [(ysn, .int), (yda, .int), (ydb, .long), (ydm, .int)] s := hK
    refine W.widen (k := 0) (n := 0) (by omega) (by omega) ?_
    have hw_7 := hw
    obtain rfl : r_6 = 1 := hw_7
    refine lv_if_eq (tgt := 21) hx hb dX5_find_14 (by decide) (fun c_8 => ?_) (fun c_8 => ?_)
    · exact absurd c_8 (by decide)
    · refine lv_iconst (v := 1) hx hb dX5_find_17 (by decide) ?_
      refine lv_goto (tgt := 22) hx hb dX5_find_18 (by decide) ?_
      have hP9 := hP.sub (ws' := [(se, .inr (7, [.ref tb, .ref de, .ref df, .ref sn, .ref ss, .ref sv, .ref sy, .int 0, .int 0, .int 1000, .int ey])), (sn, .inl (ysn, 14, .inl (va_cpy em en 0 0 0))), (tb, .inr (9, [.ref tk, .ref tf, .ref t1, .ref t2, .ref t3, .int 0])), (de, .inr (4, [.ref tb, .ref sm, .ref dfa, .ref den, .int 0, .int 0, .int 0])), (df, .inr (5, [.int 1, .int 0, .int 2, .int 2, .ref da, .ref db, .long dh, .ref dm])), (da, .inl (yda, 240, .inl (upd (upd (fillR (fillR ea 0 1 1000000) 1 2 0) 0 0) 0 0))), (db, .inl (ydb, 450, .inr (.inl (fillR eb 0 2 0)))), (dm, .inl (ydm, 14, .inl em))]) [0, 1, 2, 3, 4, 5, 6, 7] rfl
      have hD9 := hD.sub (ws' := [(se, .inr (7, [.ref tb, .ref de, .ref df, .ref sn, .ref ss, .ref sv, .ref sy, .int 0, .int 0, .int 1000, .int ey])), (sn, .inl (ysn, 14, .inl (va_cpy em en 0 0 0))), (tb, .inr (9, [.ref tk, .ref tf, .ref t1, .ref t2, .ref t3, .int 0])), (de, .inr (4, [.ref tb, .ref sm, .ref dfa, .ref den, .int 0, .int 0, .int 0])), (df, .inr (5, [.int 1, .int 0, .int 2, .int 2, .ref da, .ref db, .long dh, .ref dm])), (da, .inl (yda, 240, .inl (upd (upd (fillR (fillR ea 0 1 1000000) 1 2 0) 0 0) 0 0))), (db, .inl (ydb, 450, .inr (.inl (fillR eb 0 2 0)))), (dm, .inl (ydm, 14, .inl em))]) [0, 1, 2, 3, 4, 5, 6, 7] (by decide) rfl
      have hK9 := hK.sub (tys' := [(ysn, .int), (yda, .int), (ydb, .long), (ydm, .int)]) [0, 1, 2, 3] rfl
      refine W.widen (k := 0) (n := 0) (by omega) (by omega) ?_
      exact W.zret (v := 1) (ty := .boolean) hx hb hr (by decide +kernel) (fun t ht hW => ⟨⟨1, (), rfl, rfl, by rw [ht]; exact hP9, va_K.moved hW.alike hK9, hD9⟩, hS.F ht⟩) hS.2.2 dX5_find_22
