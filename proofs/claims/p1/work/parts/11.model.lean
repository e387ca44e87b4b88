set_option maxHeartbeats 4000000 in
set_option maxRecDepth 100000 in
theorem c_model_init (l : Launch) (dC : Nat → ClassId) (dI : Nat → Nat → Nat) (sz : Nat) (h0 : Nat)   : Met l yX8_init wsX8_init ({ frames := 1, cells := 15, slots := 140189, locals := 60 }) (va_Pc [.ref h0] (pw (dC, dI) [] [(h0, .inr (8, [.null, .null, .int 0, .null, .null, .null, .int 0, .null, .int 0, .int 0, .int 0, .null, .null, .int 0, .int 0, .int 0, .null, .null, .null, .null, .null, .null, .null]))] sz)) (va_Qv (fun (u : vu) => (∃ (q_1 : Nat) (q_3 : Nat) (q_5 : Nat) (q_7 : Nat) (q_9 : Nat) (q_11 : Nat) (q_13 : Nat) (q_15 : Nat) (q_17 : Nat) (q_19 : Nat) (q_21 : Nat) (q_23 : Nat) (q_25 : Nat) (q_27 : Nat) (q_29 : Nat) (c_2 : ClassId) (c_4 : ClassId) (c_6 : ClassId) (c_8 : ClassId) (c_10 : ClassId) (c_12 : ClassId) (c_14 : ClassId) (c_16 : ClassId) (c_18 : ClassId) (c_20 : ClassId) (c_22 : ClassId) (c_24 : ClassId) (c_26 : ClassId) (c_28 : ClassId) (c_30 : ClassId), u = ([(h0, .inr (8, [.ref q_1, .ref q_3, .int 0, .ref q_5, .ref q_7, .ref q_9, .int 0, .ref q_11, .int 0, .int 0, .int 0, .ref q_13, .ref q_15, .int 0, .int (-1), .int (-1), .ref q_17, .ref q_19, .ref q_21, .ref q_23, .ref q_25, .ref q_27, .ref q_29])), (q_1, .inl (c_2, 2400, .inl (fun _ => 0))), (q_3, .inl (c_4, 300, .inl (fun _ => 0))), (q_5, .inl (c_6, 8, .inl (fun _ => 0))), (q_7, .inl (c_8, 134400, .inl (fun _ => 0))), (q_9, .inl (c_10, 21, .inl (fun _ => 0))), (q_11, .inl (c_12, 3000, .inl (fun _ => 0))), (q_13, .inl (c_14, 8, .inl (fun _ => 0))), (q_15, .inl (c_16, 8, .inl (fun _ => 0))), (q_17, .inl (c_18, 4, .inl (fun _ => 0))), (q_19, .inl (c_20, 4, .inl (fun _ => 0))), (q_21, .inl (c_22, 20, .inl (fun _ => 0))), (q_23, .inl (c_24, 4, .inl (fun _ => 0))), (q_25, .inl (c_26, 4, .inl (fun _ => 0))), (q_27, .inl (c_28, 4, .inl (fun _ => 0))), (q_29, .inl (c_30, 4, .inl (fun _ => 0)))], [(c_2, .int), (c_4, .int), (c_6, .boolean), (c_8, .int), (c_10, .int), (c_12, .boolean), (c_14, .int), (c_16, .int), (c_18, .int), (c_20, .int), (c_22, .int), (c_24, .int), (c_26, .int), (c_28, .int), (c_30, .int)]))) (fun u t => qw (dC, dI) u.2 (va_A [(h0, .inr (8, [.null, .null, .int 0, .null, .null, .null, .int 0, .null, .int 0, .int 0, .int 0, .null, .null, .int 0, .int 0, .int 0, .null, .null, .null, .null, .null, .null, .null]))] sz) u.1 t) (va_A [(h0, .inr (8, [.null, .null, .int 0, .null, .null, .null, .int 0, .null, .int 0, .int 0, .int 0, .null, .null, .int 0, .int 0, .int 0, .null, .null, .null, .null, .null, .null, .null]))] sz)) 15 140189 (va_A [(h0, .inr (8, [.null, .null, .int 0, .null, .null, .null, .int 0, .null, .int 0, .int 0, .int 0, .null, .null, .int 0, .int 0, .int 0, .null, .null, .null, .null, .null, .null, .null]))] sz) := by
  refine Met.ofW (cc := cX8_init) (maxL := 1) (ret := none) (by decide) rfl ?_
  intro p e s m args below meth c s₁ B hml hv
  obtain ⟨rfl, hsz, hP, hK, hD0, hN⟩ := hv
  have hx := B.exec
  have hb := B.bytes
  have hr := B.returns
  have hts := atoms_spec (ws := wsX8_init) B.pre
  have hown : s.vm.findClass RX8 = some m.cls := findClass_of_methodNamed B.named
  have hlocks := B.notSynchronized
  have hin : meth.name = "<init>" := (name_of_methodNamed B.named B.method).1
  have hi8 : ∀ w ∈ u_ws RX8 TX8 23, w ∈ wsX8_init := fun _ h => List.mem_cons_of_mem _ (List.mem_append_right _ h)
  subst hsz
  have hD := hD0.self (sz := s.heap.size)
  generalize hAe : va_A [(h0, .inr (8, [.null, .null, .int 0, .null, .null, .null, .int 0, .null, .int 0, .int 0, .int 0, .null, .null, .int 0, .int 0, .int 0, .null, .null, .null, .null, .null, .null, .null]))] s.heap.size = A at hD ⊢
  have hA : ∀ q : Nat, s.heap.size ≤ q → A q := fun q h => by rw [← hAe]; exact Or.inr h
  have hS : va_S A s.heap s.heap [] := va_S.rf
  have hl := lv_entry ([.ref h0]) (n := 1) (Nat.le_of_ble_eq_true rfl)
  rw [lg_entry_eq]
  generalize (lg_sl ([.ref h0]) ++ List.replicate (1 - (lg_sl ([.ref h0])).length) Slot.unset).toArray = ls at hl ⊢
  have hl : lv_has ls 1 [(0, .ref h0)] := hl
  have hP : va_P (dC, dI) vwCl [(h0, .inr (8, [.null, .null, .int 0, .null, .null, .null, .int 0, .null, .int 0, .int 0, .int 0, .null, .null, .int 0, .int 0, .int 0, .null, .null, .null, .null, .null, .null, .null]))] s.heap := hP
  refine lv_aload_n hx hb dX8_init_0 rfl (lv_at hl 0 rfl) ?_
  refine W.objInit hx hb hown (hts (.methodLink RX8 1 objectInit) (by decide +kernel)) (hts (.instanceMethod objectInit) (by decide +kernel)) (hts _ (List.mem_of_getElem? (i := 3) rfl)) rfl (by rw [hml]; exact hl.1) rfl dX8_init_1 (Nat.le_of_ble_eq_true rfl) (Nat.le_of_ble_eq_true rfl) ?_
  refine W.eq (g2 := F0 m 4 ls []) rfl ?_
  refine lv_aload_n hx hb dX8_init_4 rfl (lv_at hl 0 rfl) ?_
  refine lv_sipush (v := 2400) hx hb dX8_init_5 (by decide) ?_
  refine va_newa (atype := .int) (ty := .int) (N' := 2400) (a0 := (2400, .inl (fun _ => 0))) hx hb (hts (.arrayClass .int) (by decide +kernel)) rfl hK hP hD hS hA (na_I 2400) (by decide +kernel) (by decide +kernel) (by decide +kernel) (Nat.le_of_ble_eq_true rfl) (Nat.le_of_ble_eq_true rfl) dX8_init_8 (fun q_1 c_2 H hK hP hD hS => ?_)
  have hP : va_P (dC, dI) vwCl [(h0, .inr (8, [.null, .null, .int 0, .null, .null, .null, .int 0, .null, .int 0, .int 0, .int 0, .null, .null, .int 0, .int 0, .int 0, .null, .null, .null, .null, .null, .null, .null])), (q_1, .inl (c_2, 2400, .inl (fun _ => 0)))] H := hP
  have hD : va_D A [(h0, .inr (8, [.null, .null, .int 0, .null, .null, .null, .int 0, .null, .int 0, .int 0, .int 0, .null, .null, .int 0, .int 0, .int 0, .null, .null, .null, .null, .null, .null, .null])), (q_1, .inl (c_2, 2400, .inl (fun _ => 0)))] := hD
  have hK : va_K (dC, dI) vwCl [(c_2, .int)] s := hK
  refine W.widen (k := 1) (n := 2400) (Nat.le_of_ble_eq_true rfl) (Nat.le_of_ble_eq_true rfl) ?_
  refine va_putF (D := (dC, dI)) (ci := 8) (v := .ref q_1) (ty := .array .int) (C := RX8) (T := TX8) (N := 23) hx hb hts hi8 tyX8 tyX8_ok nmX8 hown hK hP hD hS 0 rfl rfl 0 (by decide) (hts (.fieldLink RX8 9 "AskTreeModel" "marks" "[I") (by decide +kernel)) (fun _ h9 => h9) rfl hin rfl (by decide +kernel) rfl rfl (Nat.le_of_ble_eq_true rfl) dX8_init_10 (fun H locs hP hD hS => ?_)
  have hP : va_P (dC, dI) vwCl [(h0, .inr (8, [.ref q_1, .null, .int 0, .null, .null, .null, .int 0, .null, .int 0, .int 0, .int 0, .null, .null, .int 0, .int 0, .int 0, .null, .null, .null, .null, .null, .null, .null])), (q_1, .inl (c_2, 2400, .inl (fun _ => 0)))] H := hP
  have hD : va_D A [(h0, .inr (8, [.ref q_1, .null, .int 0, .null, .null, .null, .int 0, .null, .int 0, .int 0, .int 0, .null, .null, .int 0, .int 0, .int 0, .null, .null, .null, .null, .null, .null, .null])), (q_1, .inl (c_2, 2400, .inl (fun _ => 0)))] := hD
  refine lv_aload_n hx hb dX8_init_13 rfl (lv_at hl 0 rfl) ?_
  refine lv_sipush (v := 300) hx hb dX8_init_14 (by decide) ?_
  refine va_newa (atype := .int) (ty := .int) (N' := 300) (a0 := (300, .inl (fun _ => 0))) hx hb (hts (.arrayClass .int) (by decide +kernel)) rfl hK hP hD hS hA (na_I 300) (by decide +kernel) (by decide +kernel) (by decide +kernel) (Nat.le_of_ble_eq_true rfl) (Nat.le_of_ble_eq_true rfl) dX8_init_17 (fun q_3 c_4 H hK hP hD hS => ?_)
  have hP : va_P (dC, dI) vwCl [(h0, .inr (8, [.ref q_1, .null, .int 0, .null, .null, .null, .int 0, .null, .int 0, .int 0, .int 0, .null, .null, .int 0, .int 0, .int 0, .null, .null, .null, .null, .null, .null, .null])), (q_1, .inl (c_2, 2400, .inl (fun _ => 0))), (q_3, .inl (c_4, 300, .inl (fun _ => 0)))] H := hP
  have hD : va_D A [(h0, .inr (8, [.ref q_1, .null, .int 0, .null, .null, .null, .int 0, .null, .int 0, .int 0, .int 0, .null, .null, .int 0, .int 0, .int 0, .null, .null, .null, .null, .null, .null, .null])), (q_1, .inl (c_2, 2400, .inl (fun _ => 0))), (q_3, .inl (c_4, 300, .inl (fun _ => 0)))] := hD
  have hK : va_K (dC, dI) vwCl [(c_2, .int), (c_4, .int)] s := hK
  refine W.widen (k := 2) (n := 2700) (Nat.le_of_ble_eq_true rfl) (Nat.le_of_ble_eq_true rfl) ?_
  refine va_putF (D := (dC, dI)) (ci := 8) (v := .ref q_3) (ty := .array .int) (C := RX8) (T := TX8) (N := 23) hx hb hts hi8 tyX8 tyX8_ok nmX8 hown hK hP hD hS 0 rfl rfl 1 (by decide) (hts (.fieldLink RX8 13 "AskTreeModel" "classes" "[I") (by decide +kernel)) (fun _ h9 => h9) rfl hin rfl (by decide +kernel) rfl rfl (Nat.le_of_ble_eq_true rfl) dX8_init_19 (fun H locs hP hD hS => ?_)
  have hP : va_P (dC, dI) vwCl [(h0, .inr (8, [.ref q_1, .ref q_3, .int 0, .null, .null, .null, .int 0, .null, .int 0, .int 0, .int 0, .null, .null, .int 0, .int 0, .int 0, .null, .null, .null, .null, .null, .null, .null])), (q_1, .inl (c_2, 2400, .inl (fun _ => 0))), (q_3, .inl (c_4, 300, .inl (fun _ => 0)))] H := hP
  have hD : va_D A [(h0, .inr (8, [.ref q_1, .ref q_3, .int 0, .null, .null, .null, .int 0, .null, .int 0, .int 0, .int 0, .null, .null, .int 0, .int 0, .int 0, .null, .null, .null, .null, .null, .null, .null])), (q_1, .inl (c_2, 2400, .inl (fun _ => 0))), (q_3, .inl (c_4, 300, .inl (fun _ => 0)))] := hD
  refine lv_aload_n hx hb dX8_init_22 rfl (lv_at hl 0 rfl) ?_
  refine lv_bipush (v := 8) hx hb dX8_init_23 (by decide) ?_
  refine va_newa (atype := .boolean) (ty := .boolean) (N' := 8) (a0 := (8, .inl (fun _ => 0))) hx hb (hts (.arrayClass .boolean) (by decide +kernel)) rfl hK hP hD hS hA (na_Z 8) (by decide +kernel) (by decide +kernel) (by decide +kernel) (Nat.le_of_ble_eq_true rfl) (Nat.le_of_ble_eq_true rfl) dX8_init_25 (fun q_5 c_6 H hK hP hD hS => ?_)
  have hP : va_P (dC, dI) vwCl [(h0, .inr (8, [.ref q_1, .ref q_3, .int 0, .null, .null, .null, .int 0, .null, .int 0, .int 0, .int 0, .null, .null, .int 0, .int 0, .int 0, .null, .null, .null, .null, .null, .null, .null])), (q_1, .inl (c_2, 2400, .inl (fun _ => 0))), (q_3, .inl (c_4, 300, .inl (fun _ => 0))), (q_5, .inl (c_6, 8, .inl (fun _ => 0)))] H := hP
  have hD : va_D A [(h0, .inr (8, [.ref q_1, .ref q_3, .int 0, .null, .null, .null, .int 0, .null, .int 0, .int 0, .int 0, .null, .null, .int 0, .int 0, .int 0, .null, .null, .null, .null, .null, .null, .null])), (q_1, .inl (c_2, 2400, .inl (fun _ => 0))), (q_3, .inl (c_4, 300, .inl (fun _ => 0))), (q_5, .inl (c_6, 8, .inl (fun _ => 0)))] := hD
  have hK : va_K (dC, dI) vwCl [(c_2, .int), (c_4, .int), (c_6, .boolean)] s := hK
  refine W.widen (k := 3) (n := 2708) (Nat.le_of_ble_eq_true rfl) (Nat.le_of_ble_eq_true rfl) ?_
  refine va_putF (D := (dC, dI)) (ci := 8) (v := .ref q_5) (ty := .array .boolean) (C := RX8) (T := TX8) (N := 23) hx hb hts hi8 tyX8 tyX8_ok nmX8 hown hK hP hD hS 0 rfl rfl 3 (by decide) (hts (.fieldLink RX8 16 "AskTreeModel" "isSort" "[Z") (by decide +kernel)) (fun _ h9 => h9) rfl hin rfl (by decide +kernel) rfl rfl (Nat.le_of_ble_eq_true rfl) dX8_init_27 (fun H locs hP hD hS => ?_)
  have hP : va_P (dC, dI) vwCl [(h0, .inr (8, [.ref q_1, .ref q_3, .int 0, .ref q_5, .null, .null, .int 0, .null, .int 0, .int 0, .int 0, .null, .null, .int 0, .int 0, .int 0, .null, .null, .null, .null, .null, .null, .null])), (q_1, .inl (c_2, 2400, .inl (fun _ => 0))), (q_3, .inl (c_4, 300, .inl (fun _ => 0))), (q_5, .inl (c_6, 8, .inl (fun _ => 0)))] H := hP
  have hD : va_D A [(h0, .inr (8, [.ref q_1, .ref q_3, .int 0, .ref q_5, .null, .null, .int 0, .null, .int 0, .int 0, .int 0, .null, .null, .int 0, .int 0, .int 0, .null, .null, .null, .null, .null, .null, .null])), (q_1, .inl (c_2, 2400, .inl (fun _ => 0))), (q_3, .inl (c_4, 300, .inl (fun _ => 0))), (q_5, .inl (c_6, 8, .inl (fun _ => 0)))] := hD
  refine lv_aload_n hx hb dX8_init_30 rfl (lv_at hl 0 rfl) ?_
  refine lv_ldc (v := 134400) hx hb hown (hts (.constant RX8 20 134400) (by decide +kernel)) dX8_init_31 ?_
  refine va_newa (atype := .int) (ty := .int) (N' := 134400) (a0 := (134400, .inl (fun _ => 0))) hx hb (hts (.arrayClass .int) (by decide +kernel)) rfl hK hP hD hS hA (na_I 134400) (by decide +kernel) (by decide +kernel) (by decide +kernel) (Nat.le_of_ble_eq_true rfl) (Nat.le_of_ble_eq_true rfl) dX8_init_33 (fun q_7 c_8 H hK hP hD hS => ?_)
  have hP : va_P (dC, dI) vwCl [(h0, .inr (8, [.ref q_1, .ref q_3, .int 0, .ref q_5, .null, .null, .int 0, .null, .int 0, .int 0, .int 0, .null, .null, .int 0, .int 0, .int 0, .null, .null, .null, .null, .null, .null, .null])), (q_1, .inl (c_2, 2400, .inl (fun _ => 0))), (q_3, .inl (c_4, 300, .inl (fun _ => 0))), (q_5, .inl (c_6, 8, .inl (fun _ => 0))), (q_7, .inl (c_8, 134400, .inl (fun _ => 0)))] H := hP
  have hD : va_D A [(h0, .inr (8, [.ref q_1, .ref q_3, .int 0, .ref q_5, .null, .null, .int 0, .null, .int 0, .int 0, .int 0, .null, .null, .int 0, .int 0, .int 0, .null, .null, .null, .null, .null, .null, .null])), (q_1, .inl (c_2, 2400, .inl (fun _ => 0))), (q_3, .inl (c_4, 300, .inl (fun _ => 0))), (q_5, .inl (c_6, 8, .inl (fun _ => 0))), (q_7, .inl (c_8, 134400, .inl (fun _ => 0)))] := hD
  have hK : va_K (dC, dI) vwCl [(c_2, .int), (c_4, .int), (c_6, .boolean), (c_8, .int)] s := hK
  refine W.widen (k := 4) (n := 137108) (Nat.le_of_ble_eq_true rfl) (Nat.le_of_ble_eq_true rfl) ?_
  refine va_putF (D := (dC, dI)) (ci := 8) (v := .ref q_7) (ty := .array .int) (C := RX8) (T := TX8) (N := 23) hx hb hts hi8 tyX8 tyX8_ok nmX8 hown hK hP hD hS 0 rfl rfl 4 (by decide) (hts (.fieldLink RX8 21 "AskTreeModel" "nodes" "[I") (by decide +kernel)) (fun _ h9 => h9) rfl hin rfl (by decide +kernel) rfl rfl (Nat.le_of_ble_eq_true rfl) dX8_init_35 (fun H locs hP hD hS => ?_)
  have hP : va_P (dC, dI) vwCl [(h0, .inr (8, [.ref q_1, .ref q_3, .int 0, .ref q_5, .ref q_7, .null, .int 0, .null, .int 0, .int 0, .int 0, .null, .null, .int 0, .int 0, .int 0, .null, .null, .null, .null, .null, .null, .null])), (q_1, .inl (c_2, 2400, .inl (fun _ => 0))), (q_3, .inl (c_4, 300, .inl (fun _ => 0))), (q_5, .inl (c_6, 8, .inl (fun _ => 0))), (q_7, .inl (c_8, 134400, .inl (fun _ => 0)))] H := hP
  have hD : va_D A [(h0, .inr (8, [.ref q_1, .ref q_3, .int 0, .ref q_5, .ref q_7, .null, .int 0, .null, .int 0, .int 0, .int 0, .null, .null, .int 0, .int 0, .int 0, .null, .null, .null, .null, .null, .null, .null])), (q_1, .inl (c_2, 2400, .inl (fun _ => 0))), (q_3, .inl (c_4, 300, .inl (fun _ => 0))), (q_5, .inl (c_6, 8, .inl (fun _ => 0))), (q_7, .inl (c_8, 134400, .inl (fun _ => 0)))] := hD
  refine lv_aload_n hx hb dX8_init_38 rfl (lv_at hl 0 rfl) ?_
  refine lv_bipush (v := 21) hx hb dX8_init_39 (by decide) ?_
  refine va_newa (atype := .int) (ty := .int) (N' := 21) (a0 := (21, .inl (fun _ => 0))) hx hb (hts (.arrayClass .int) (by decide +kernel)) rfl hK hP hD hS hA (na_I 21) (by decide +kernel) (by decide +kernel) (by decide +kernel) (Nat.le_of_ble_eq_true rfl) (Nat.le_of_ble_eq_true rfl) dX8_init_41 (fun q_9 c_10 H hK hP hD hS => ?_)
  have hP : va_P (dC, dI) vwCl [(h0, .inr (8, [.ref q_1, .ref q_3, .int 0, .ref q_5, .ref q_7, .null, .int 0, .null, .int 0, .int 0, .int 0, .null, .null, .int 0, .int 0, .int 0, .null, .null, .null, .null, .null, .null, .null])), (q_1, .inl (c_2, 2400, .inl (fun _ => 0))), (q_3, .inl (c_4, 300, .inl (fun _ => 0))), (q_5, .inl (c_6, 8, .inl (fun _ => 0))), (q_7, .inl (c_8, 134400, .inl (fun _ => 0))), (q_9, .inl (c_10, 21, .inl (fun _ => 0)))] H := hP
  have hD : va_D A [(h0, .inr (8, [.ref q_1, .ref q_3, .int 0, .ref q_5, .ref q_7, .null, .int 0, .null, .int 0, .int 0, .int 0, .null, .null, .int 0, .int 0, .int 0, .null, .null, .null, .null, .null, .null, .null])), (q_1, .inl (c_2, 2400, .inl (fun _ => 0))), (q_3, .inl (c_4, 300, .inl (fun _ => 0))), (q_5, .inl (c_6, 8, .inl (fun _ => 0))), (q_7, .inl (c_8, 134400, .inl (fun _ => 0))), (q_9, .inl (c_10, 21, .inl (fun _ => 0)))] := hD
  have hK : va_K (dC, dI) vwCl [(c_2, .int), (c_4, .int), (c_6, .boolean), (c_8, .int), (c_10, .int)] s := hK
  refine W.widen (k := 5) (n := 137129) (Nat.le_of_ble_eq_true rfl) (Nat.le_of_ble_eq_true rfl) ?_
  refine va_putF (D := (dC, dI)) (ci := 8) (v := .ref q_9) (ty := .array .int) (C := RX8) (T := TX8) (N := 23) hx hb hts hi8 tyX8 tyX8_ok nmX8 hown hK hP hD hS 0 rfl rfl 5 (by decide) (hts (.fieldLink RX8 24 "AskTreeModel" "many" "[I") (by decide +kernel)) (fun _ h9 => h9) rfl hin rfl (by decide +kernel) rfl rfl (Nat.le_of_ble_eq_true rfl) dX8_init_43 (fun H locs hP hD hS => ?_)
  have hP : va_P (dC, dI) vwCl [(h0, .inr (8, [.ref q_1, .ref q_3, .int 0, .ref q_5, .ref q_7, .ref q_9, .int 0, .null, .int 0, .int 0, .int 0, .null, .null, .int 0, .int 0, .int 0, .null, .null, .null, .null, .null, .null, .null])), (q_1, .inl (c_2, 2400, .inl (fun _ => 0))), (q_3, .inl (c_4, 300, .inl (fun _ => 0))), (q_5, .inl (c_6, 8, .inl (fun _ => 0))), (q_7, .inl (c_8, 134400, .inl (fun _ => 0))), (q_9, .inl (c_10, 21, .inl (fun _ => 0)))] H := hP
  have hD : va_D A [(h0, .inr (8, [.ref q_1, .ref q_3, .int 0, .ref q_5, .ref q_7, .ref q_9, .int 0, .null, .int 0, .int 0, .int 0, .null, .null, .int 0, .int 0, .int 0, .null, .null, .null, .null, .null, .null, .null])), (q_1, .inl (c_2, 2400, .inl (fun _ => 0))), (q_3, .inl (c_4, 300, .inl (fun _ => 0))), (q_5, .inl (c_6, 8, .inl (fun _ => 0))), (q_7, .inl (c_8, 134400, .inl (fun _ => 0))), (q_9, .inl (c_10, 21, .inl (fun _ => 0)))] := hD
  refine lv_aload_n hx hb dX8_init_46 rfl (lv_at hl 0 rfl) ?_
  refine lv_sipush (v := 3000) hx hb dX8_init_47 (by decide) ?_
  refine va_newa (atype := .boolean) (ty := .boolean) (N' := 3000) (a0 := (3000, .inl (fun _ => 0))) hx hb (hts (.arrayClass .boolean) (by decide +kernel)) rfl hK hP hD hS hA (na_Z 3000) (by decide +kernel) (by decide +kernel) (by decide +kernel) (Nat.le_of_ble_eq_true rfl) (Nat.le_of_ble_eq_true rfl) dX8_init_50 (fun q_11 c_12 H hK hP hD hS => ?_)
  have hP : va_P (dC, dI) vwCl [(h0, .inr (8, [.ref q_1, .ref q_3, .int 0, .ref q_5, .ref q_7, .ref q_9, .int 0, .null, .int 0, .int 0, .int 0, .null, .null, .int 0, .int 0, .int 0, .null, .null, .null, .null, .null, .null, .null])), (q_1, .inl (c_2, 2400, .inl (fun _ => 0))), (q_3, .inl (c_4, 300, .inl (fun _ => 0))), (q_5, .inl (c_6, 8, .inl (fun _ => 0))), (q_7, .inl (c_8, 134400, .inl (fun _ => 0))), (q_9, .inl (c_10, 21, .inl (fun _ => 0))), (q_11, .inl (c_12, 3000, .inl (fun _ => 0)))] H := hP
  have hD : va_D A [(h0, .inr (8, [.ref q_1, .ref q_3, .int 0, .ref q_5, .ref q_7, .ref q_9, .int 0, .null, .int 0, .int 0, .int 0, .null, .null, .int 0, .int 0, .int 0, .null, .null, .null, .null, .null, .null, .null])), (q_1, .inl (c_2, 2400, .inl (fun _ => 0))), (q_3, .inl (c_4, 300, .inl (fun _ => 0))), (q_5, .inl (c_6, 8, .inl (fun _ => 0))), (q_7, .inl (c_8, 134400, .inl (fun _ => 0))), (q_9, .inl (c_10, 21, .inl (fun _ => 0))), (q_11, .inl (c_12, 3000, .inl (fun _ => 0)))] := hD
  have hK : va_K (dC, dI) vwCl [(c_2, .int), (c_4, .int), (c_6, .boolean), (c_8, .int), (c_10, .int), (c_12, .boolean)] s := hK
  refine W.widen (k := 6) (n := 140129) (Nat.le_of_ble_eq_true rfl) (Nat.le_of_ble_eq_true rfl) ?_
  refine va_putF (D := (dC, dI)) (ci := 8) (v := .ref q_11) (ty := .array .boolean) (C := RX8) (T := TX8) (N := 23) hx hb hts hi8 tyX8 tyX8_ok nmX8 hown hK hP hD hS 0 rfl rfl 7 (by decide) (hts (.fieldLink RX8 27 "AskTreeModel" "in" "[Z") (by decide +kernel)) (fun _ h9 => h9) rfl hin rfl (by decide +kernel) rfl rfl (Nat.le_of_ble_eq_true rfl) dX8_init_52 (fun H locs hP hD hS => ?_)
  have hP : va_P (dC, dI) vwCl [(h0, .inr (8, [.ref q_1, .ref q_3, .int 0, .ref q_5, .ref q_7, .ref q_9, .int 0, .ref q_11, .int 0, .int 0, .int 0, .null, .null, .int 0, .int 0, .int 0, .null, .null, .null, .null, .null, .null, .null])), (q_1, .inl (c_2, 2400, .inl (fun _ => 0))), (q_3, .inl (c_4, 300, .inl (fun _ => 0))), (q_5, .inl (c_6, 8, .inl (fun _ => 0))), (q_7, .inl (c_8, 134400, .inl (fun _ => 0))), (q_9, .inl (c_10, 21, .inl (fun _ => 0))), (q_11, .inl (c_12, 3000, .inl (fun _ => 0)))] H := hP
  have hD : va_D A [(h0, .inr (8, [.ref q_1, .ref q_3, .int 0, .ref q_5, .ref q_7, .ref q_9, .int 0, .ref q_11, .int 0, .int 0, .int 0, .null, .null, .int 0, .int 0, .int 0, .null, .null, .null, .null, .null, .null, .null])), (q_1, .inl (c_2, 2400, .inl (fun _ => 0))), (q_3, .inl (c_4, 300, .inl (fun _ => 0))), (q_5, .inl (c_6, 8, .inl (fun _ => 0))), (q_7, .inl (c_8, 134400, .inl (fun _ => 0))), (q_9, .inl (c_10, 21, .inl (fun _ => 0))), (q_11, .inl (c_12, 3000, .inl (fun _ => 0)))] := hD
  refine lv_aload_n hx hb dX8_init_55 rfl (lv_at hl 0 rfl) ?_
  refine lv_bipush (v := 8) hx hb dX8_init_56 (by decide) ?_
  refine va_newa (atype := .int) (ty := .int) (N' := 8) (a0 := (8, .inl (fun _ => 0))) hx hb (hts (.arrayClass .int) (by decide +kernel)) rfl hK hP hD hS hA (na_I 8) (by decide +kernel) (by decide +kernel) (by decide +kernel) (Nat.le_of_ble_eq_true rfl) (Nat.le_of_ble_eq_true rfl) dX8_init_58 (fun q_13 c_14 H hK hP hD hS => ?_)
  have hP : va_P (dC, dI) vwCl [(h0, .inr (8, [.ref q_1, .ref q_3, .int 0, .ref q_5, .ref q_7, .ref q_9, .int 0, .ref q_11, .int 0, .int 0, .int 0, .null, .null, .int 0, .int 0, .int 0, .null, .null, .null, .null, .null, .null, .null])), (q_1, .inl (c_2, 2400, .inl (fun _ => 0))), (q_3, .inl (c_4, 300, .inl (fun _ => 0))), (q_5, .inl (c_6, 8, .inl (fun _ => 0))), (q_7, .inl (c_8, 134400, .inl (fun _ => 0))), (q_9, .inl (c_10, 21, .inl (fun _ => 0))), (q_11, .inl (c_12, 3000, .inl (fun _ => 0))), (q_13, .inl (c_14, 8, .inl (fun _ => 0)))] H := hP
  have hD : va_D A [(h0, .inr (8, [.ref q_1, .ref q_3, .int 0, .ref q_5, .ref q_7, .ref q_9, .int 0, .ref q_11, .int 0, .int 0, .int 0, .null, .null, .int 0, .int 0, .int 0, .null, .null, .null, .null, .null, .null, .null])), (q_1, .inl (c_2, 2400, .inl (fun _ => 0))), (q_3, .inl (c_4, 300, .inl (fun _ => 0))), (q_5, .inl (c_6, 8, .inl (fun _ => 0))), (q_7, .inl (c_8, 134400, .inl (fun _ => 0))), (q_9, .inl (c_10, 21, .inl (fun _ => 0))), (q_11, .inl (c_12, 3000, .inl (fun _ => 0))), (q_13, .inl (c_14, 8, .inl (fun _ => 0)))] := hD
  have hK : va_K (dC, dI) vwCl [(c_2, .int), (c_4, .int), (c_6, .boolean), (c_8, .int), (c_10, .int), (c_12, .boolean), (c_14, .int)] s := hK
  refine W.widen (k := 7) (n := 140137) (Nat.le_of_ble_eq_true rfl) (Nat.le_of_ble_eq_true rfl) ?_
  refine va_putF (D := (dC, dI)) (ci := 8) (v := .ref q_13) (ty := .array .int) (C := RX8) (T := TX8) (N := 23) hx hb hts hi8 tyX8 tyX8_ok nmX8 hown hK hP hD hS 0 rfl rfl 11 (by decide) (hts (.fieldLink RX8 30 "AskTreeModel" "asked" "[I") (by decide +kernel)) (fun _ h9 => h9) rfl hin rfl (by decide +kernel) rfl rfl (Nat.le_of_ble_eq_true rfl) dX8_init_60 (fun H locs hP hD hS => ?_)
  have hP : va_P (dC, dI) vwCl [(h0, .inr (8, [.ref q_1, .ref q_3, .int 0, .ref q_5, .ref q_7, .ref q_9, .int 0, .ref q_11, .int 0, .int 0, .int 0, .ref q_13, .null, .int 0, .int 0, .int 0, .null, .null, .null, .null, .null, .null, .null])), (q_1, .inl (c_2, 2400, .inl (fun _ => 0))), (q_3, .inl (c_4, 300, .inl (fun _ => 0))), (q_5, .inl (c_6, 8, .inl (fun _ => 0))), (q_7, .inl (c_8, 134400, .inl (fun _ => 0))), (q_9, .inl (c_10, 21, .inl (fun _ => 0))), (q_11, .inl (c_12, 3000, .inl (fun _ => 0))), (q_13, .inl (c_14, 8, .inl (fun _ => 0)))] H := hP
  have hD : va_D A [(h0, .inr (8, [.ref q_1, .ref q_3, .int 0, .ref q_5, .ref q_7, .ref q_9, .int 0, .ref q_11, .int 0, .int 0, .int 0, .ref q_13, .null, .int 0, .int 0, .int 0, .null, .null, .null, .null, .null, .null, .null])), (q_1, .inl (c_2, 2400, .inl (fun _ => 0))), (q_3, .inl (c_4, 300, .inl (fun _ => 0))), (q_5, .inl (c_6, 8, .inl (fun _ => 0))), (q_7, .inl (c_8, 134400, .inl (fun _ => 0))), (q_9, .inl (c_10, 21, .inl (fun _ => 0))), (q_11, .inl (c_12, 3000, .inl (fun _ => 0))), (q_13, .inl (c_14, 8, .inl (fun _ => 0)))] := hD
  refine lv_aload_n hx hb dX8_init_63 rfl (lv_at hl 0 rfl) ?_
  refine lv_bipush (v := 8) hx hb dX8_init_64 (by decide) ?_
  refine va_newa (atype := .int) (ty := .int) (N' := 8) (a0 := (8, .inl (fun _ => 0))) hx hb (hts (.arrayClass .int) (by decide +kernel)) rfl hK hP hD hS hA (na_I 8) (by decide +kernel) (by decide +kernel) (by decide +kernel) (Nat.le_of_ble_eq_true rfl) (Nat.le_of_ble_eq_true rfl) dX8_init_66 (fun q_15 c_16 H hK hP hD hS => ?_)
  have hP : va_P (dC, dI) vwCl [(h0, .inr (8, [.ref q_1, .ref q_3, .int 0, .ref q_5, .ref q_7, .ref q_9, .int 0, .ref q_11, .int 0, .int 0, .int 0, .ref q_13, .null, .int 0, .int 0, .int 0, .null, .null, .null, .null, .null, .null, .null])), (q_1, .inl (c_2, 2400, .inl (fun _ => 0))), (q_3, .inl (c_4, 300, .inl (fun _ => 0))), (q_5, .inl (c_6, 8, .inl (fun _ => 0))), (q_7, .inl (c_8, 134400, .inl (fun _ => 0))), (q_9, .inl (c_10, 21, .inl (fun _ => 0))), (q_11, .inl (c_12, 3000, .inl (fun _ => 0))), (q_13, .inl (c_14, 8, .inl (fun _ => 0))), (q_15, .inl (c_16, 8, .inl (fun _ => 0)))] H := hP
  have hD : va_D A [(h0, .inr (8, [.ref q_1, .ref q_3, .int 0, .ref q_5, .ref q_7, .ref q_9, .int 0, .ref q_11, .int 0, .int 0, .int 0, .ref q_13, .null, .int 0, .int 0, .int 0, .null, .null, .null, .null, .null, .null, .null])), (q_1, .inl (c_2, 2400, .inl (fun _ => 0))), (q_3, .inl (c_4, 300, .inl (fun _ => 0))), (q_5, .inl (c_6, 8, .inl (fun _ => 0))), (q_7, .inl (c_8, 134400, .inl (fun _ => 0))), (q_9, .inl (c_10, 21, .inl (fun _ => 0))), (q_11, .inl (c_12, 3000, .inl (fun _ => 0))), (q_13, .inl (c_14, 8, .inl (fun _ => 0))), (q_15, .inl (c_16, 8, .inl (fun _ => 0)))] := hD
  have hK : va_K (dC, dI) vwCl [(c_2, .int), (c_4, .int), (c_6, .boolean), (c_8, .int), (c_10, .int), (c_12, .boolean), (c_14, .int), (c_16, .int)] s := hK
  refine W.widen (k := 8) (n := 140145) (Nat.le_of_ble_eq_true rfl) (Nat.le_of_ble_eq_true rfl) ?_
  refine va_putF (D := (dC, dI)) (ci := 8) (v := .ref q_15) (ty := .array .int) (C := RX8) (T := TX8) (N := 23) hx hb hts hi8 tyX8 tyX8_ok nmX8 hown hK hP hD hS 0 rfl rfl 12 (by decide) (hts (.fieldLink RX8 33 "AskTreeModel" "turned" "[I") (by decide +kernel)) (fun _ h9 => h9) rfl hin rfl (by decide +kernel) rfl rfl (Nat.le_of_ble_eq_true rfl) dX8_init_68 (fun H locs hP hD hS => ?_)
  have hP : va_P (dC, dI) vwCl [(h0, .inr (8, [.ref q_1, .ref q_3, .int 0, .ref q_5, .ref q_7, .ref q_9, .int 0, .ref q_11, .int 0, .int 0, .int 0, .ref q_13, .ref q_15, .int 0, .int 0, .int 0, .null, .null, .null, .null, .null, .null, .null])), (q_1, .inl (c_2, 2400, .inl (fun _ => 0))), (q_3, .inl (c_4, 300, .inl (fun _ => 0))), (q_5, .inl (c_6, 8, .inl (fun _ => 0))), (q_7, .inl (c_8, 134400, .inl (fun _ => 0))), (q_9, .inl (c_10, 21, .inl (fun _ => 0))), (q_11, .inl (c_12, 3000, .inl (fun _ => 0))), (q_13, .inl (c_14, 8, .inl (fun _ => 0))), (q_15, .inl (c_16, 8, .inl (fun _ => 0)))] H := hP
  have hD : va_D A [(h0, .inr (8, [.ref q_1, .ref q_3, .int 0, .ref q_5, .ref q_7, .ref q_9, .int 0, .ref q_11, .int 0, .int 0, .int 0, .ref q_13, .ref q_15, .int 0, .int 0, .int 0, .null, .null, .null, .null, .null, .null, .null])), (q_1, .inl (c_2, 2400, .inl (fun _ => 0))), (q_3, .inl (c_4, 300, .inl (fun _ => 0))), (q_5, .inl (c_6, 8, .inl (fun _ => 0))), (q_7, .inl (c_8, 134400, .inl (fun _ => 0))), (q_9, .inl (c_10, 21, .inl (fun _ => 0))), (q_11, .inl (c_12, 3000, .inl (fun _ => 0))), (q_13, .inl (c_14, 8, .inl (fun _ => 0))), (q_15, .inl (c_16, 8, .inl (fun _ => 0)))] := hD
  refine lv_aload_n hx hb dX8_init_71 rfl (lv_at hl 0 rfl) ?_
  refine lv_iconst (v := (-1)) hx hb dX8_init_72 (by decide) ?_
  refine va_put (D := (dC, dI)) (ci := 8) (v := .int (-1)) (ty := .int) (C := RX8) (T := TX8) (N := 23) hx hb hts hi8 tyX8 tyX8_ok nmX8 hown hK hP hD hS 0 rfl rfl 14 (by decide) (hts (.fieldLink RX8 36 "AskTreeModel" "saidLeaf" "I") (by decide +kernel)) (fun _ h9 => h9) rfl (by decide +kernel) rfl rfl (Nat.le_of_ble_eq_true rfl) dX8_init_73 (fun H locs hP hD hS => ?_)
  have hP : va_P (dC, dI) vwCl [(h0, .inr (8, [.ref q_1, .ref q_3, .int 0, .ref q_5, .ref q_7, .ref q_9, .int 0, .ref q_11, .int 0, .int 0, .int 0, .ref q_13, .ref q_15, .int 0, .int (-1), .int 0, .null, .null, .null, .null, .null, .null, .null])), (q_1, .inl (c_2, 2400, .inl (fun _ => 0))), (q_3, .inl (c_4, 300, .inl (fun _ => 0))), (q_5, .inl (c_6, 8, .inl (fun _ => 0))), (q_7, .inl (c_8, 134400, .inl (fun _ => 0))), (q_9, .inl (c_10, 21, .inl (fun _ => 0))), (q_11, .inl (c_12, 3000, .inl (fun _ => 0))), (q_13, .inl (c_14, 8, .inl (fun _ => 0))), (q_15, .inl (c_16, 8, .inl (fun _ => 0)))] H := hP
  have hD : va_D A [(h0, .inr (8, [.ref q_1, .ref q_3, .int 0, .ref q_5, .ref q_7, .ref q_9, .int 0, .ref q_11, .int 0, .int 0, .int 0, .ref q_13, .ref q_15, .int 0, .int (-1), .int 0, .null, .null, .null, .null, .null, .null, .null])), (q_1, .inl (c_2, 2400, .inl (fun _ => 0))), (q_3, .inl (c_4, 300, .inl (fun _ => 0))), (q_5, .inl (c_6, 8, .inl (fun _ => 0))), (q_7, .inl (c_8, 134400, .inl (fun _ => 0))), (q_9, .inl (c_10, 21, .inl (fun _ => 0))), (q_11, .inl (c_12, 3000, .inl (fun _ => 0))), (q_13, .inl (c_14, 8, .inl (fun _ => 0))), (q_15, .inl (c_16, 8, .inl (fun _ => 0)))] := hD
  refine lv_aload_n hx hb dX8_init_76 rfl (lv_at hl 0 rfl) ?_
  refine lv_iconst (v := (-1)) hx hb dX8_init_77 (by decide) ?_
  refine va_put (D := (dC, dI)) (ci := 8) (v := .int (-1)) (ty := .int) (C := RX8) (T := TX8) (N := 23) hx hb hts hi8 tyX8 tyX8_ok nmX8 hown hK hP hD hS 0 rfl rfl 15 (by decide) (hts (.fieldLink RX8 40 "AskTreeModel" "voices" "I") (by decide +kernel)) (fun _ h9 => h9) rfl (by decide +kernel) rfl rfl (Nat.le_of_ble_eq_true rfl) dX8_init_78 (fun H locs hP hD hS => ?_)
  have hP : va_P (dC, dI) vwCl [(h0, .inr (8, [.ref q_1, .ref q_3, .int 0, .ref q_5, .ref q_7, .ref q_9, .int 0, .ref q_11, .int 0, .int 0, .int 0, .ref q_13, .ref q_15, .int 0, .int (-1), .int (-1), .null, .null, .null, .null, .null, .null, .null])), (q_1, .inl (c_2, 2400, .inl (fun _ => 0))), (q_3, .inl (c_4, 300, .inl (fun _ => 0))), (q_5, .inl (c_6, 8, .inl (fun _ => 0))), (q_7, .inl (c_8, 134400, .inl (fun _ => 0))), (q_9, .inl (c_10, 21, .inl (fun _ => 0))), (q_11, .inl (c_12, 3000, .inl (fun _ => 0))), (q_13, .inl (c_14, 8, .inl (fun _ => 0))), (q_15, .inl (c_16, 8, .inl (fun _ => 0)))] H := hP
  have hD : va_D A [(h0, .inr (8, [.ref q_1, .ref q_3, .int 0, .ref q_5, .ref q_7, .ref q_9, .int 0, .ref q_11, .int 0, .int 0, .int 0, .ref q_13, .ref q_15, .int 0, .int (-1), .int (-1), .null, .null, .null, .null, .null, .null, .null])), (q_1, .inl (c_2, 2400, .inl (fun _ => 0))), (q_3, .inl (c_4, 300, .inl (fun _ => 0))), (q_5, .inl (c_6, 8, .inl (fun _ => 0))), (q_7, .inl (c_8, 134400, .inl (fun _ => 0))), (q_9, .inl (c_10, 21, .inl (fun _ => 0))), (q_11, .inl (c_12, 3000, .inl (fun _ => 0))), (q_13, .inl (c_14, 8, .inl (fun _ => 0))), (q_15, .inl (c_16, 8, .inl (fun _ => 0)))] := hD
  refine lv_aload_n hx hb dX8_init_81 rfl (lv_at hl 0 rfl) ?_
  refine lv_iconst (v := 4) hx hb dX8_init_82 (by decide) ?_
  refine va_newa (atype := .int) (ty := .int) (N' := 4) (a0 := (4, .inl (fun _ => 0))) hx hb (hts (.arrayClass .int) (by decide +kernel)) rfl hK hP hD hS hA (na_I 4) (by decide +kernel) (by decide +kernel) (by decide +kernel) (Nat.le_of_ble_eq_true rfl) (Nat.le_of_ble_eq_true rfl) dX8_init_83 (fun q_17 c_18 H hK hP hD hS => ?_)
  have hP : va_P (dC, dI) vwCl [(h0, .inr (8, [.ref q_1, .ref q_3, .int 0, .ref q_5, .ref q_7, .ref q_9, .int 0, .ref q_11, .int 0, .int 0, .int 0, .ref q_13, .ref q_15, .int 0, .int (-1), .int (-1), .null, .null, .null, .null, .null, .null, .null])), (q_1, .inl (c_2, 2400, .inl (fun _ => 0))), (q_3, .inl (c_4, 300, .inl (fun _ => 0))), (q_5, .inl (c_6, 8, .inl (fun _ => 0))), (q_7, .inl (c_8, 134400, .inl (fun _ => 0))), (q_9, .inl (c_10, 21, .inl (fun _ => 0))), (q_11, .inl (c_12, 3000, .inl (fun _ => 0))), (q_13, .inl (c_14, 8, .inl (fun _ => 0))), (q_15, .inl (c_16, 8, .inl (fun _ => 0))), (q_17, .inl (c_18, 4, .inl (fun _ => 0)))] H := hP
  have hD : va_D A [(h0, .inr (8, [.ref q_1, .ref q_3, .int 0, .ref q_5, .ref q_7, .ref q_9, .int 0, .ref q_11, .int 0, .int 0, .int 0, .ref q_13, .ref q_15, .int 0, .int (-1), .int (-1), .null, .null, .null, .null, .null, .null, .null])), (q_1, .inl (c_2, 2400, .inl (fun _ => 0))), (q_3, .inl (c_4, 300, .inl (fun _ => 0))), (q_5, .inl (c_6, 8, .inl (fun _ => 0))), (q_7, .inl (c_8, 134400, .inl (fun _ => 0))), (q_9, .inl (c_10, 21, .inl (fun _ => 0))), (q_11, .inl (c_12, 3000, .inl (fun _ => 0))), (q_13, .inl (c_14, 8, .inl (fun _ => 0))), (q_15, .inl (c_16, 8, .inl (fun _ => 0))), (q_17, .inl (c_18, 4, .inl (fun _ => 0)))] := hD
  have hK : va_K (dC, dI) vwCl [(c_2, .int), (c_4, .int), (c_6, .boolean), (c_8, .int), (c_10, .int), (c_12, .boolean), (c_14, .int), (c_16, .int), (c_18, .int)] s := hK
  refine W.widen (k := 9) (n := 140149) (Nat.le_of_ble_eq_true rfl) (Nat.le_of_ble_eq_true rfl) ?_
  refine va_putF (D := (dC, dI)) (ci := 8) (v := .ref q_17) (ty := .array .int) (C := RX8) (T := TX8) (N := 23) hx hb hts hi8 tyX8 tyX8_ok nmX8 hown hK hP hD hS 0 rfl rfl 16 (by decide) (hts (.fieldLink RX8 43 "AskTreeModel" "heap" "[I") (by decide +kernel)) (fun _ h9 => h9) rfl hin rfl (by decide +kernel) rfl rfl (Nat.le_of_ble_eq_true rfl) dX8_init_85 (fun H locs hP hD hS => ?_)
  have hP : va_P (dC, dI) vwCl [(h0, .inr (8, [.ref q_1, .ref q_3, .int 0, .ref q_5, .ref q_7, .ref q_9, .int 0, .ref q_11, .int 0, .int 0, .int 0, .ref q_13, .ref q_15, .int 0, .int (-1), .int (-1), .ref q_17, .null, .null, .null, .null, .null, .null])), (q_1, .inl (c_2, 2400, .inl (fun _ => 0))), (q_3, .inl (c_4, 300, .inl (fun _ => 0))), (q_5, .inl (c_6, 8, .inl (fun _ => 0))), (q_7, .inl (c_8, 134400, .inl (fun _ => 0))), (q_9, .inl (c_10, 21, .inl (fun _ => 0))), (q_11, .inl (c_12, 3000, .inl (fun _ => 0))), (q_13, .inl (c_14, 8, .inl (fun _ => 0))), (q_15, .inl (c_16, 8, .inl (fun _ => 0))), (q_17, .inl (c_18, 4, .inl (fun _ => 0)))] H := hP
  have hD : va_D A [(h0, .inr (8, [.ref q_1, .ref q_3, .int 0, .ref q_5, .ref q_7, .ref q_9, .int 0, .ref q_11, .int 0, .int 0, .int 0, .ref q_13, .ref q_15, .int 0, .int (-1), .int (-1), .ref q_17, .null, .null, .null, .null, .null, .null])), (q_1, .inl (c_2, 2400, .inl (fun _ => 0))), (q_3, .inl (c_4, 300, .inl (fun _ => 0))), (q_5, .inl (c_6, 8, .inl (fun _ => 0))), (q_7, .inl (c_8, 134400, .inl (fun _ => 0))), (q_9, .inl (c_10, 21, .inl (fun _ => 0))), (q_11, .inl (c_12, 3000, .inl (fun _ => 0))), (q_13, .inl (c_14, 8, .inl (fun _ => 0))), (q_15, .inl (c_16, 8, .inl (fun _ => 0))), (q_17, .inl (c_18, 4, .inl (fun _ => 0)))] := hD
  refine lv_aload_n hx hb dX8_init_88 rfl (lv_at hl 0 rfl) ?_
  refine lv_iconst (v := 4) hx hb dX8_init_89 (by decide) ?_
  refine va_newa (atype := .int) (ty := .int) (N' := 4) (a0 := (4, .inl (fun _ => 0))) hx hb (hts (.arrayClass .int) (by decide +kernel)) rfl hK hP hD hS hA (na_I 4) (by decide +kernel) (by decide +kernel) (by decide +kernel) (Nat.le_of_ble_eq_true rfl) (Nat.le_of_ble_eq_true rfl) dX8_init_90 (fun q_19 c_20 H hK hP hD hS => ?_)
  have hP : va_P (dC, dI) vwCl [(h0, .inr (8, [.ref q_1, .ref q_3, .int 0, .ref q_5, .ref q_7, .ref q_9, .int 0, .ref q_11, .int 0, .int 0, .int 0, .ref q_13, .ref q_15, .int 0, .int (-1), .int (-1), .ref q_17, .null, .null, .null, .null, .null, .null])), (q_1, .inl (c_2, 2400, .inl (fun _ => 0))), (q_3, .inl (c_4, 300, .inl (fun _ => 0))), (q_5, .inl (c_6, 8, .inl (fun _ => 0))), (q_7, .inl (c_8, 134400, .inl (fun _ => 0))), (q_9, .inl (c_10, 21, .inl (fun _ => 0))), (q_11, .inl (c_12, 3000, .inl (fun _ => 0))), (q_13, .inl (c_14, 8, .inl (fun _ => 0))), (q_15, .inl (c_16, 8, .inl (fun _ => 0))), (q_17, .inl (c_18, 4, .inl (fun _ => 0))), (q_19, .inl (c_20, 4, .inl (fun _ => 0)))] H := hP
  have hD : va_D A [(h0, .inr (8, [.ref q_1, .ref q_3, .int 0, .ref q_5, .ref q_7, .ref q_9, .int 0, .ref q_11, .int 0, .int 0, .int 0, .ref q_13, .ref q_15, .int 0, .int (-1), .int (-1), .ref q_17, .null, .null, .null, .null, .null, .null])), (q_1, .inl (c_2, 2400, .inl (fun _ => 0))), (q_3, .inl (c_4, 300, .inl (fun _ => 0))), (q_5, .inl (c_6, 8, .inl (fun _ => 0))), (q_7, .inl (c_8, 134400, .inl (fun _ => 0))), (q_9, .inl (c_10, 21, .inl (fun _ => 0))), (q_11, .inl (c_12, 3000, .inl (fun _ => 0))), (q_13, .inl (c_14, 8, .inl (fun _ => 0))), (q_15, .inl (c_16, 8, .inl (fun _ => 0))), (q_17, .inl (c_18, 4, .inl (fun _ => 0))), (q_19, .inl (c_20, 4, .inl (fun _ => 0)))] := hD
  have hK : va_K (dC, dI) vwCl [(c_2, .int), (c_4, .int), (c_6, .boolean), (c_8, .int), (c_10, .int), (c_12, .boolean), (c_14, .int), (c_16, .int), (c_18, .int), (c_20, .int)] s := hK
  refine W.widen (k := 10) (n := 140153) (Nat.le_of_ble_eq_true rfl) (Nat.le_of_ble_eq_true rfl) ?_
  refine va_putF (D := (dC, dI)) (ci := 8) (v := .ref q_19) (ty := .array .int) (C := RX8) (T := TX8) (N := 23) hx hb hts hi8 tyX8 tyX8_ok nmX8 hown hK hP hD hS 0 rfl rfl 17 (by decide) (hts (.fieldLink RX8 46 "AskTreeModel" "heapYes" "[I") (by decide +kernel)) (fun _ h9 => h9) rfl hin rfl (by decide +kernel) rfl rfl (Nat.le_of_ble_eq_true rfl) dX8_init_92 (fun H locs hP hD hS => ?_)
  have hP : va_P (dC, dI) vwCl [(h0, .inr (8, [.ref q_1, .ref q_3, .int 0, .ref q_5, .ref q_7, .ref q_9, .int 0, .ref q_11, .int 0, .int 0, .int 0, .ref q_13, .ref q_15, .int 0, .int (-1), .int (-1), .ref q_17, .ref q_19, .null, .null, .null, .null, .null])), (q_1, .inl (c_2, 2400, .inl (fun _ => 0))), (q_3, .inl (c_4, 300, .inl (fun _ => 0))), (q_5, .inl (c_6, 8, .inl (fun _ => 0))), (q_7, .inl (c_8, 134400, .inl (fun _ => 0))), (q_9, .inl (c_10, 21, .inl (fun _ => 0))), (q_11, .inl (c_12, 3000, .inl (fun _ => 0))), (q_13, .inl (c_14, 8, .inl (fun _ => 0))), (q_15, .inl (c_16, 8, .inl (fun _ => 0))), (q_17, .inl (c_18, 4, .inl (fun _ => 0))), (q_19, .inl (c_20, 4, .inl (fun _ => 0)))] H := hP
  have hD : va_D A [(h0, .inr (8, [.ref q_1, .ref q_3, .int 0, .ref q_5, .ref q_7, .ref q_9, .int 0, .ref q_11, .int 0, .int 0, .int 0, .ref q_13, .ref q_15, .int 0, .int (-1), .int (-1), .ref q_17, .ref q_19, .null, .null, .null, .null, .null])), (q_1, .inl (c_2, 2400, .inl (fun _ => 0))), (q_3, .inl (c_4, 300, .inl (fun _ => 0))), (q_5, .inl (c_6, 8, .inl (fun _ => 0))), (q_7, .inl (c_8, 134400, .inl (fun _ => 0))), (q_9, .inl (c_10, 21, .inl (fun _ => 0))), (q_11, .inl (c_12, 3000, .inl (fun _ => 0))), (q_13, .inl (c_14, 8, .inl (fun _ => 0))), (q_15, .inl (c_16, 8, .inl (fun _ => 0))), (q_17, .inl (c_18, 4, .inl (fun _ => 0))), (q_19, .inl (c_20, 4, .inl (fun _ => 0)))] := hD
  refine lv_aload_n hx hb dX8_init_95 rfl (lv_at hl 0 rfl) ?_
  refine lv_bipush (v := 20) hx hb dX8_init_96 (by decide) ?_
  refine va_newa (atype := .int) (ty := .int) (N' := 20) (a0 := (20, .inl (fun _ => 0))) hx hb (hts (.arrayClass .int) (by decide +kernel)) rfl hK hP hD hS hA (na_I 20) (by decide +kernel) (by decide +kernel) (by decide +kernel) (Nat.le_of_ble_eq_true rfl) (Nat.le_of_ble_eq_true rfl) dX8_init_98 (fun q_21 c_22 H hK hP hD hS => ?_)
  have hP : va_P (dC, dI) vwCl [(h0, .inr (8, [.ref q_1, .ref q_3, .int 0, .ref q_5, .ref q_7, .ref q_9, .int 0, .ref q_11, .int 0, .int 0, .int 0, .ref q_13, .ref q_15, .int 0, .int (-1), .int (-1), .ref q_17, .ref q_19, .null, .null, .null, .null, .null])), (q_1, .inl (c_2, 2400, .inl (fun _ => 0))), (q_3, .inl (c_4, 300, .inl (fun _ => 0))), (q_5, .inl (c_6, 8, .inl (fun _ => 0))), (q_7, .inl (c_8, 134400, .inl (fun _ => 0))), (q_9, .inl (c_10, 21, .inl (fun _ => 0))), (q_11, .inl (c_12, 3000, .inl (fun _ => 0))), (q_13, .inl (c_14, 8, .inl (fun _ => 0))), (q_15, .inl (c_16, 8, .inl (fun _ => 0))), (q_17, .inl (c_18, 4, .inl (fun _ => 0))), (q_19, .inl (c_20, 4, .inl (fun _ => 0))), (q_21, .inl (c_22, 20, .inl (fun _ => 0)))] H := hP
  have hD : va_D A [(h0, .inr (8, [.ref q_1, .ref q_3, .int 0, .ref q_5, .ref q_7, .ref q_9, .int 0, .ref q_11, .int 0, .int 0, .int 0, .ref q_13, .ref q_15, .int 0, .int (-1), .int (-1), .ref q_17, .ref q_19, .null, .null, .null, .null, .null])), (q_1, .inl (c_2, 2400, .inl (fun _ => 0))), (q_3, .inl (c_4, 300, .inl (fun _ => 0))), (q_5, .inl (c_6, 8, .inl (fun _ => 0))), (q_7, .inl (c_8, 134400, .inl (fun _ => 0))), (q_9, .inl (c_10, 21, .inl (fun _ => 0))), (q_11, .inl (c_12, 3000, .inl (fun _ => 0))), (q_13, .inl (c_14, 8, .inl (fun _ => 0))), (q_15, .inl (c_16, 8, .inl (fun _ => 0))), (q_17, .inl (c_18, 4, .inl (fun _ => 0))), (q_19, .inl (c_20, 4, .inl (fun _ => 0))), (q_21, .inl (c_22, 20, .inl (fun _ => 0)))] := hD
  have hK : va_K (dC, dI) vwCl [(c_2, .int), (c_4, .int), (c_6, .boolean), (c_8, .int), (c_10, .int), (c_12, .boolean), (c_14, .int), (c_16, .int), (c_18, .int), (c_20, .int), (c_22, .int)] s := hK
  refine W.widen (k := 11) (n := 140173) (Nat.le_of_ble_eq_true rfl) (Nat.le_of_ble_eq_true rfl) ?_
  refine va_putF (D := (dC, dI)) (ci := 8) (v := .ref q_21) (ty := .array .int) (C := RX8) (T := TX8) (N := 23) hx hb hts hi8 tyX8 tyX8_ok nmX8 hown hK hP hD hS 0 rfl rfl 18 (by decide) (hts (.fieldLink RX8 49 "AskTreeModel" "path" "[I") (by decide +kernel)) (fun _ h9 => h9) rfl hin rfl (by decide +kernel) rfl rfl (Nat.le_of_ble_eq_true rfl) dX8_init_100 (fun H locs hP hD hS => ?_)
  have hP : va_P (dC, dI) vwCl [(h0, .inr (8, [.ref q_1, .ref q_3, .int 0, .ref q_5, .ref q_7, .ref q_9, .int 0, .ref q_11, .int 0, .int 0, .int 0, .ref q_13, .ref q_15, .int 0, .int (-1), .int (-1), .ref q_17, .ref q_19, .ref q_21, .null, .null, .null, .null])), (q_1, .inl (c_2, 2400, .inl (fun _ => 0))), (q_3, .inl (c_4, 300, .inl (fun _ => 0))), (q_5, .inl (c_6, 8, .inl (fun _ => 0))), (q_7, .inl (c_8, 134400, .inl (fun _ => 0))), (q_9, .inl (c_10, 21, .inl (fun _ => 0))), (q_11, .inl (c_12, 3000, .inl (fun _ => 0))), (q_13, .inl (c_14, 8, .inl (fun _ => 0))), (q_15, .inl (c_16, 8, .inl (fun _ => 0))), (q_17, .inl (c_18, 4, .inl (fun _ => 0))), (q_19, .inl (c_20, 4, .inl (fun _ => 0))), (q_21, .inl (c_22, 20, .inl (fun _ => 0)))] H := hP
  have hD : va_D A [(h0, .inr (8, [.ref q_1, .ref q_3, .int 0, .ref q_5, .ref q_7, .ref q_9, .int 0, .ref q_11, .int 0, .int 0, .int 0, .ref q_13, .ref q_15, .int 0, .int (-1), .int (-1), .ref q_17, .ref q_19, .ref q_21, .null, .null, .null, .null])), (q_1, .inl (c_2, 2400, .inl (fun _ => 0))), (q_3, .inl (c_4, 300, .inl (fun _ => 0))), (q_5, .inl (c_6, 8, .inl (fun _ => 0))), (q_7, .inl (c_8, 134400, .inl (fun _ => 0))), (q_9, .inl (c_10, 21, .inl (fun _ => 0))), (q_11, .inl (c_12, 3000, .inl (fun _ => 0))), (q_13, .inl (c_14, 8, .inl (fun _ => 0))), (q_15, .inl (c_16, 8, .inl (fun _ => 0))), (q_17, .inl (c_18, 4, .inl (fun _ => 0))), (q_19, .inl (c_20, 4, .inl (fun _ => 0))), (q_21, .inl (c_22, 20, .inl (fun _ => 0)))] := hD
  refine lv_aload_n hx hb dX8_init_103 rfl (lv_at hl 0 rfl) ?_
  refine lv_iconst (v := 4) hx hb dX8_init_104 (by decide) ?_
  refine va_newa (atype := .int) (ty := .int) (N' := 4) (a0 := (4, .inl (fun _ => 0))) hx hb (hts (.arrayClass .int) (by decide +kernel)) rfl hK hP hD hS hA (na_I 4) (by decide +kernel) (by decide +kernel) (by decide +kernel) (Nat.le_of_ble_eq_true rfl) (Nat.le_of_ble_eq_true rfl) dX8_init_105 (fun q_23 c_24 H hK hP hD hS => ?_)
  have hP : va_P (dC, dI) vwCl [(h0, .inr (8, [.ref q_1, .ref q_3, .int 0, .ref q_5, .ref q_7, .ref q_9, .int 0, .ref q_11, .int 0, .int 0, .int 0, .ref q_13, .ref q_15, .int 0, .int (-1), .int (-1), .ref q_17, .ref q_19, .ref q_21, .null, .null, .null, .null])), (q_1, .inl (c_2, 2400, .inl (fun _ => 0))), (q_3, .inl (c_4, 300, .inl (fun _ => 0))), (q_5, .inl (c_6, 8, .inl (fun _ => 0))), (q_7, .inl (c_8, 134400, .inl (fun _ => 0))), (q_9, .inl (c_10, 21, .inl (fun _ => 0))), (q_11, .inl (c_12, 3000, .inl (fun _ => 0))), (q_13, .inl (c_14, 8, .inl (fun _ => 0))), (q_15, .inl (c_16, 8, .inl (fun _ => 0))), (q_17, .inl (c_18, 4, .inl (fun _ => 0))), (q_19, .inl (c_20, 4, .inl (fun _ => 0))), (q_21, .inl (c_22, 20, .inl (fun _ => 0))), (q_23, .inl (c_24, 4, .inl (fun _ => 0)))] H := hP
  have hD : va_D A [(h0, .inr (8, [.ref q_1, .ref q_3, .int 0, .ref q_5, .ref q_7, .ref q_9, .int 0, .ref q_11, .int 0, .int 0, .int 0, .ref q_13, .ref q_15, .int 0, .int (-1), .int (-1), .ref q_17, .ref q_19, .ref q_21, .null, .null, .null, .null])), (q_1, .inl (c_2, 2400, .inl (fun _ => 0))), (q_3, .inl (c_4, 300, .inl (fun _ => 0))), (q_5, .inl (c_6, 8, .inl (fun _ => 0))), (q_7, .inl (c_8, 134400, .inl (fun _ => 0))), (q_9, .inl (c_10, 21, .inl (fun _ => 0))), (q_11, .inl (c_12, 3000, .inl (fun _ => 0))), (q_13, .inl (c_14, 8, .inl (fun _ => 0))), (q_15, .inl (c_16, 8, .inl (fun _ => 0))), (q_17, .inl (c_18, 4, .inl (fun _ => 0))), (q_19, .inl (c_20, 4, .inl (fun _ => 0))), (q_21, .inl (c_22, 20, .inl (fun _ => 0))), (q_23, .inl (c_24, 4, .inl (fun _ => 0)))] := hD
  have hK : va_K (dC, dI) vwCl [(c_2, .int), (c_4, .int), (c_6, .boolean), (c_8, .int), (c_10, .int), (c_12, .boolean), (c_14, .int), (c_16, .int), (c_18, .int), (c_20, .int), (c_22, .int), (c_24, .int)] s := hK
  refine W.widen (k := 12) (n := 140177) (Nat.le_of_ble_eq_true rfl) (Nat.le_of_ble_eq_true rfl) ?_
  refine va_putF (D := (dC, dI)) (ci := 8) (v := .ref q_23) (ty := .array .int) (C := RX8) (T := TX8) (N := 23) hx hb hts hi8 tyX8 tyX8_ok nmX8 hown hK hP hD hS 0 rfl rfl 19 (by decide) (hts (.fieldLink RX8 52 "AskTreeModel" "bestWrong" "[I") (by decide +kernel)) (fun _ h9 => h9) rfl hin rfl (by decide +kernel) rfl rfl (Nat.le_of_ble_eq_true rfl) dX8_init_107 (fun H locs hP hD hS => ?_)
  have hP : va_P (dC, dI) vwCl [(h0, .inr (8, [.ref q_1, .ref q_3, .int 0, .ref q_5, .ref q_7, .ref q_9, .int 0, .ref q_11, .int 0, .int 0, .int 0, .ref q_13, .ref q_15, .int 0, .int (-1), .int (-1), .ref q_17, .ref q_19, .ref q_21, .ref q_23, .null, .null, .null])), (q_1, .inl (c_2, 2400, .inl (fun _ => 0))), (q_3, .inl (c_4, 300, .inl (fun _ => 0))), (q_5, .inl (c_6, 8, .inl (fun _ => 0))), (q_7, .inl (c_8, 134400, .inl (fun _ => 0))), (q_9, .inl (c_10, 21, .inl (fun _ => 0))), (q_11, .inl (c_12, 3000, .inl (fun _ => 0))), (q_13, .inl (c_14, 8, .inl (fun _ => 0))), (q_15, .inl (c_16, 8, .inl (fun _ => 0))), (q_17, .inl (c_18, 4, .inl (fun _ => 0))), (q_19, .inl (c_20, 4, .inl (fun _ => 0))), (q_21, .inl (c_22, 20, .inl (fun _ => 0))), (q_23, .inl (c_24, 4, .inl (fun _ => 0)))] H := hP
  have hD : va_D A [(h0, .inr (8, [.ref q_1, .ref q_3, .int 0, .ref q_5, .ref q_7, .ref q_9, .int 0, .ref q_11, .int 0, .int 0, .int 0, .ref q_13, .ref q_15, .int 0, .int (-1), .int (-1), .ref q_17, .ref q_19, .ref q_21, .ref q_23, .null, .null, .null])), (q_1, .inl (c_2, 2400, .inl (fun _ => 0))), (q_3, .inl (c_4, 300, .inl (fun _ => 0))), (q_5, .inl (c_6, 8, .inl (fun _ => 0))), (q_7, .inl (c_8, 134400, .inl (fun _ => 0))), (q_9, .inl (c_10, 21, .inl (fun _ => 0))), (q_11, .inl (c_12, 3000, .inl (fun _ => 0))), (q_13, .inl (c_14, 8, .inl (fun _ => 0))), (q_15, .inl (c_16, 8, .inl (fun _ => 0))), (q_17, .inl (c_18, 4, .inl (fun _ => 0))), (q_19, .inl (c_20, 4, .inl (fun _ => 0))), (q_21, .inl (c_22, 20, .inl (fun _ => 0))), (q_23, .inl (c_24, 4, .inl (fun _ => 0)))] := hD
  refine lv_aload_n hx hb dX8_init_110 rfl (lv_at hl 0 rfl) ?_
  refine lv_iconst (v := 4) hx hb dX8_init_111 (by decide) ?_
  refine va_newa (atype := .int) (ty := .int) (N' := 4) (a0 := (4, .inl (fun _ => 0))) hx hb (hts (.arrayClass .int) (by decide +kernel)) rfl hK hP hD hS hA (na_I 4) (by decide +kernel) (by decide +kernel) (by decide +kernel) (Nat.le_of_ble_eq_true rfl) (Nat.le_of_ble_eq_true rfl) dX8_init_112 (fun q_25 c_26 H hK hP hD hS => ?_)
  have hP : va_P (dC, dI) vwCl [(h0, .inr (8, [.ref q_1, .ref q_3, .int 0, .ref q_5, .ref q_7, .ref q_9, .int 0, .ref q_11, .int 0, .int 0, .int 0, .ref q_13, .ref q_15, .int 0, .int (-1), .int (-1), .ref q_17, .ref q_19, .ref q_21, .ref q_23, .null, .null, .null])), (q_1, .inl (c_2, 2400, .inl (fun _ => 0))), (q_3, .inl (c_4, 300, .inl (fun _ => 0))), (q_5, .inl (c_6, 8, .inl (fun _ => 0))), (q_7, .inl (c_8, 134400, .inl (fun _ => 0))), (q_9, .inl (c_10, 21, .inl (fun _ => 0))), (q_11, .inl (c_12, 3000, .inl (fun _ => 0))), (q_13, .inl (c_14, 8, .inl (fun _ => 0))), (q_15, .inl (c_16, 8, .inl (fun _ => 0))), (q_17, .inl (c_18, 4, .inl (fun _ => 0))), (q_19, .inl (c_20, 4, .inl (fun _ => 0))), (q_21, .inl (c_22, 20, .inl (fun _ => 0))), (q_23, .inl (c_24, 4, .inl (fun _ => 0))), (q_25, .inl (c_26, 4, .inl (fun _ => 0)))] H := hP
  have hD : va_D A [(h0, .inr (8, [.ref q_1, .ref q_3, .int 0, .ref q_5, .ref q_7, .ref q_9, .int 0, .ref q_11, .int 0, .int 0, .int 0, .ref q_13, .ref q_15, .int 0, .int (-1), .int (-1), .ref q_17, .ref q_19, .ref q_21, .ref q_23, .null, .null, .null])), (q_1, .inl (c_2, 2400, .inl (fun _ => 0))), (q_3, .inl (c_4, 300, .inl (fun _ => 0))), (q_5, .inl (c_6, 8, .inl (fun _ => 0))), (q_7, .inl (c_8, 134400, .inl (fun _ => 0))), (q_9, .inl (c_10, 21, .inl (fun _ => 0))), (q_11, .inl (c_12, 3000, .inl (fun _ => 0))), (q_13, .inl (c_14, 8, .inl (fun _ => 0))), (q_15, .inl (c_16, 8, .inl (fun _ => 0))), (q_17, .inl (c_18, 4, .inl (fun _ => 0))), (q_19, .inl (c_20, 4, .inl (fun _ => 0))), (q_21, .inl (c_22, 20, .inl (fun _ => 0))), (q_23, .inl (c_24, 4, .inl (fun _ => 0))), (q_25, .inl (c_26, 4, .inl (fun _ => 0)))] := hD
  have hK : va_K (dC, dI) vwCl [(c_2, .int), (c_4, .int), (c_6, .boolean), (c_8, .int), (c_10, .int), (c_12, .boolean), (c_14, .int), (c_16, .int), (c_18, .int), (c_20, .int), (c_22, .int), (c_24, .int), (c_26, .int)] s := hK
  refine W.widen (k := 13) (n := 140181) (Nat.le_of_ble_eq_true rfl) (Nat.le_of_ble_eq_true rfl) ?_
  refine va_putF (D := (dC, dI)) (ci := 8) (v := .ref q_25) (ty := .array .int) (C := RX8) (T := TX8) (N := 23) hx hb hts hi8 tyX8 tyX8_ok nmX8 hown hK hP hD hS 0 rfl rfl 20 (by decide) (hts (.fieldLink RX8 55 "AskTreeModel" "bestAsked" "[I") (by decide +kernel)) (fun _ h9 => h9) rfl hin rfl (by decide +kernel) rfl rfl (Nat.le_of_ble_eq_true rfl) dX8_init_114 (fun H locs hP hD hS => ?_)
  have hP : va_P (dC, dI) vwCl [(h0, .inr (8, [.ref q_1, .ref q_3, .int 0, .ref q_5, .ref q_7, .ref q_9, .int 0, .ref q_11, .int 0, .int 0, .int 0, .ref q_13, .ref q_15, .int 0, .int (-1), .int (-1), .ref q_17, .ref q_19, .ref q_21, .ref q_23, .ref q_25, .null, .null])), (q_1, .inl (c_2, 2400, .inl (fun _ => 0))), (q_3, .inl (c_4, 300, .inl (fun _ => 0))), (q_5, .inl (c_6, 8, .inl (fun _ => 0))), (q_7, .inl (c_8, 134400, .inl (fun _ => 0))), (q_9, .inl (c_10, 21, .inl (fun _ => 0))), (q_11, .inl (c_12, 3000, .inl (fun _ => 0))), (q_13, .inl (c_14, 8, .inl (fun _ => 0))), (q_15, .inl (c_16, 8, .inl (fun _ => 0))), (q_17, .inl (c_18, 4, .inl (fun _ => 0))), (q_19, .inl (c_20, 4, .inl (fun _ => 0))), (q_21, .inl (c_22, 20, .inl (fun _ => 0))), (q_23, .inl (c_24, 4, .inl (fun _ => 0))), (q_25, .inl (c_26, 4, .inl (fun _ => 0)))] H := hP
  have hD : va_D A [(h0, .inr (8, [.ref q_1, .ref q_3, .int 0, .ref q_5, .ref q_7, .ref q_9, .int 0, .ref q_11, .int 0, .int 0, .int 0, .ref q_13, .ref q_15, .int 0, .int (-1), .int (-1), .ref q_17, .ref q_19, .ref q_21, .ref q_23, .ref q_25, .null, .null])), (q_1, .inl (c_2, 2400, .inl (fun _ => 0))), (q_3, .inl (c_4, 300, .inl (fun _ => 0))), (q_5, .inl (c_6, 8, .inl (fun _ => 0))), (q_7, .inl (c_8, 134400, .inl (fun _ => 0))), (q_9, .inl (c_10, 21, .inl (fun _ => 0))), (q_11, .inl (c_12, 3000, .inl (fun _ => 0))), (q_13, .inl (c_14, 8, .inl (fun _ => 0))), (q_15, .inl (c_16, 8, .inl (fun _ => 0))), (q_17, .inl (c_18, 4, .inl (fun _ => 0))), (q_19, .inl (c_20, 4, .inl (fun _ => 0))), (q_21, .inl (c_22, 20, .inl (fun _ => 0))), (q_23, .inl (c_24, 4, .inl (fun _ => 0))), (q_25, .inl (c_26, 4, .inl (fun _ => 0)))] := hD
  refine lv_aload_n hx hb dX8_init_117 rfl (lv_at hl 0 rfl) ?_
  refine lv_iconst (v := 4) hx hb dX8_init_118 (by decide) ?_
  refine va_newa (atype := .int) (ty := .int) (N' := 4) (a0 := (4, .inl (fun _ => 0))) hx hb (hts (.arrayClass .int) (by decide +kernel)) rfl hK hP hD hS hA (na_I 4) (by decide +kernel) (by decide +kernel) (by decide +kernel) (Nat.le_of_ble_eq_true rfl) (Nat.le_of_ble_eq_true rfl) dX8_init_119 (fun q_27 c_28 H hK hP hD hS => ?_)
  have hP : va_P (dC, dI) vwCl [(h0, .inr (8, [.ref q_1, .ref q_3, .int 0, .ref q_5, .ref q_7, .ref q_9, .int 0, .ref q_11, .int 0, .int 0, .int 0, .ref q_13, .ref q_15, .int 0, .int (-1), .int (-1), .ref q_17, .ref q_19, .ref q_21, .ref q_23, .ref q_25, .null, .null])), (q_1, .inl (c_2, 2400, .inl (fun _ => 0))), (q_3, .inl (c_4, 300, .inl (fun _ => 0))), (q_5, .inl (c_6, 8, .inl (fun _ => 0))), (q_7, .inl (c_8, 134400, .inl (fun _ => 0))), (q_9, .inl (c_10, 21, .inl (fun _ => 0))), (q_11, .inl (c_12, 3000, .inl (fun _ => 0))), (q_13, .inl (c_14, 8, .inl (fun _ => 0))), (q_15, .inl (c_16, 8, .inl (fun _ => 0))), (q_17, .inl (c_18, 4, .inl (fun _ => 0))), (q_19, .inl (c_20, 4, .inl (fun _ => 0))), (q_21, .inl (c_22, 20, .inl (fun _ => 0))), (q_23, .inl (c_24, 4, .inl (fun _ => 0))), (q_25, .inl (c_26, 4, .inl (fun _ => 0))), (q_27, .inl (c_28, 4, .inl (fun _ => 0)))] H := hP
  have hD : va_D A [(h0, .inr (8, [.ref q_1, .ref q_3, .int 0, .ref q_5, .ref q_7, .ref q_9, .int 0, .ref q_11, .int 0, .int 0, .int 0, .ref q_13, .ref q_15, .int 0, .int (-1), .int (-1), .ref q_17, .ref q_19, .ref q_21, .ref q_23, .ref q_25, .null, .null])), (q_1, .inl (c_2, 2400, .inl (fun _ => 0))), (q_3, .inl (c_4, 300, .inl (fun _ => 0))), (q_5, .inl (c_6, 8, .inl (fun _ => 0))), (q_7, .inl (c_8, 134400, .inl (fun _ => 0))), (q_9, .inl (c_10, 21, .inl (fun _ => 0))), (q_11, .inl (c_12, 3000, .inl (fun _ => 0))), (q_13, .inl (c_14, 8, .inl (fun _ => 0))), (q_15, .inl (c_16, 8, .inl (fun _ => 0))), (q_17, .inl (c_18, 4, .inl (fun _ => 0))), (q_19, .inl (c_20, 4, .inl (fun _ => 0))), (q_21, .inl (c_22, 20, .inl (fun _ => 0))), (q_23, .inl (c_24, 4, .inl (fun _ => 0))), (q_25, .inl (c_26, 4, .inl (fun _ => 0))), (q_27, .inl (c_28, 4, .inl (fun _ => 0)))] := hD
  have hK : va_K (dC, dI) vwCl [(c_2, .int), (c_4, .int), (c_6, .boolean), (c_8, .int), (c_10, .int), (c_12, .boolean), (c_14, .int), (c_16, .int), (c_18, .int), (c_20, .int), (c_22, .int), (c_24, .int), (c_26, .int), (c_28, .int)] s := hK
  refine W.widen (k := 14) (n := 140185) (Nat.le_of_ble_eq_true rfl) (Nat.le_of_ble_eq_true rfl) ?_
  refine va_putF (D := (dC, dI)) (ci := 8) (v := .ref q_27) (ty := .array .int) (C := RX8) (T := TX8) (N := 23) hx hb hts hi8 tyX8 tyX8_ok nmX8 hown hK hP hD hS 0 rfl rfl 21 (by decide) (hts (.fieldLink RX8 58 "AskTreeModel" "bestMark" "[I") (by decide +kernel)) (fun _ h9 => h9) rfl hin rfl (by decide +kernel) rfl rfl (Nat.le_of_ble_eq_true rfl) dX8_init_121 (fun H locs hP hD hS => ?_)
  have hP : va_P (dC, dI) vwCl [(h0, .inr (8, [.ref q_1, .ref q_3, .int 0, .ref q_5, .ref q_7, .ref q_9, .int 0, .ref q_11, .int 0, .int 0, .int 0, .ref q_13, .ref q_15, .int 0, .int (-1), .int (-1), .ref q_17, .ref q_19, .ref q_21, .ref q_23, .ref q_25, .ref q_27, .null])), (q_1, .inl (c_2, 2400, .inl (fun _ => 0))), (q_3, .inl (c_4, 300, .inl (fun _ => 0))), (q_5, .inl (c_6, 8, .inl (fun _ => 0))), (q_7, .inl (c_8, 134400, .inl (fun _ => 0))), (q_9, .inl (c_10, 21, .inl (fun _ => 0))), (q_11, .inl (c_12, 3000, .inl (fun _ => 0))), (q_13, .inl (c_14, 8, .inl (fun _ => 0))), (q_15, .inl (c_16, 8, .inl (fun _ => 0))), (q_17, .inl (c_18, 4, .inl (fun _ => 0))), (q_19, .inl (c_20, 4, .inl (fun _ => 0))), (q_21, .inl (c_22, 20, .inl (fun _ => 0))), (q_23, .inl (c_24, 4, .inl (fun _ => 0))), (q_25, .inl (c_26, 4, .inl (fun _ => 0))), (q_27, .inl (c_28, 4, .inl (fun _ => 0)))] H := hP
  have hD : va_D A [(h0, .inr (8, [.ref q_1, .ref q_3, .int 0, .ref q_5, .ref q_7, .ref q_9, .int 0, .ref q_11, .int 0, .int 0, .int 0, .ref q_13, .ref q_15, .int 0, .int (-1), .int (-1), .ref q_17, .ref q_19, .ref q_21, .ref q_23, .ref q_25, .ref q_27, .null])), (q_1, .inl (c_2, 2400, .inl (fun _ => 0))), (q_3, .inl (c_4, 300, .inl (fun _ => 0))), (q_5, .inl (c_6, 8, .inl (fun _ => 0))), (q_7, .inl (c_8, 134400, .inl (fun _ => 0))), (q_9, .inl (c_10, 21, .inl (fun _ => 0))), (q_11, .inl (c_12, 3000, .inl (fun _ => 0))), (q_13, .inl (c_14, 8, .inl (fun _ => 0))), (q_15, .inl (c_16, 8, .inl (fun _ => 0))), (q_17, .inl (c_18, 4, .inl (fun _ => 0))), (q_19, .inl (c_20, 4, .inl (fun _ => 0))), (q_21, .inl (c_22, 20, .inl (fun _ => 0))), (q_23, .inl (c_24, 4, .inl (fun _ => 0))), (q_25, .inl (c_26, 4, .inl (fun _ => 0))), (q_27, .inl (c_28, 4, .inl (fun _ => 0)))] := hD
  refine lv_aload_n hx hb dX8_init_124 rfl (lv_at hl 0 rfl) ?_
  refine lv_iconst (v := 4) hx hb dX8_init_125 (by decide) ?_
  refine va_newa (atype := .int) (ty := .int) (N' := 4) (a0 := (4, .inl (fun _ => 0))) hx hb (hts (.arrayClass .int) (by decide +kernel)) rfl hK hP hD hS hA (na_I 4) (by decide +kernel) (by decide +kernel) (by decide +kernel) (Nat.le_of_ble_eq_true rfl) (Nat.le_of_ble_eq_true rfl) dX8_init_126 (fun q_29 c_30 H hK hP hD hS => ?_)
  have hP : va_P (dC, dI) vwCl [(h0, .inr (8, [.ref q_1, .ref q_3, .int 0, .ref q_5, .ref q_7, .ref q_9, .int 0, .ref q_11, .int 0, .int 0, .int 0, .ref q_13, .ref q_15, .int 0, .int (-1), .int (-1), .ref q_17, .ref q_19, .ref q_21, .ref q_23, .ref q_25, .ref q_27, .null])), (q_1, .inl (c_2, 2400, .inl (fun _ => 0))), (q_3, .inl (c_4, 300, .inl (fun _ => 0))), (q_5, .inl (c_6, 8, .inl (fun _ => 0))), (q_7, .inl (c_8, 134400, .inl (fun _ => 0))), (q_9, .inl (c_10, 21, .inl (fun _ => 0))), (q_11, .inl (c_12, 3000, .inl (fun _ => 0))), (q_13, .inl (c_14, 8, .inl (fun _ => 0))), (q_15, .inl (c_16, 8, .inl (fun _ => 0))), (q_17, .inl (c_18, 4, .inl (fun _ => 0))), (q_19, .inl (c_20, 4, .inl (fun _ => 0))), (q_21, .inl (c_22, 20, .inl (fun _ => 0))), (q_23, .inl (c_24, 4, .inl (fun _ => 0))), (q_25, .inl (c_26, 4, .inl (fun _ => 0))), (q_27, .inl (c_28, 4, .inl (fun _ => 0))), (q_29, .inl (c_30, 4, .inl (fun _ => 0)))] H := hP
  have hD : va_D A [(h0, .inr (8, [.ref q_1, .ref q_3, .int 0, .ref q_5, .ref q_7, .ref q_9, .int 0, .ref q_11, .int 0, .int 0, .int 0, .ref q_13, .ref q_15, .int 0, .int (-1), .int (-1), .ref q_17, .ref q_19, .ref q_21, .ref q_23, .ref q_25, .ref q_27, .null])), (q_1, .inl (c_2, 2400, .inl (fun _ => 0))), (q_3, .inl (c_4, 300, .inl (fun _ => 0))), (q_5, .inl (c_6, 8, .inl (fun _ => 0))), (q_7, .inl (c_8, 134400, .inl (fun _ => 0))), (q_9, .inl (c_10, 21, .inl (fun _ => 0))), (q_11, .inl (c_12, 3000, .inl (fun _ => 0))), (q_13, .inl (c_14, 8, .inl (fun _ => 0))), (q_15, .inl (c_16, 8, .inl (fun _ => 0))), (q_17, .inl (c_18, 4, .inl (fun _ => 0))), (q_19, .inl (c_20, 4, .inl (fun _ => 0))), (q_21, .inl (c_22, 20, .inl (fun _ => 0))), (q_23, .inl (c_24, 4, .inl (fun _ => 0))), (q_25, .inl (c_26, 4, .inl (fun _ => 0))), (q_27, .inl (c_28, 4, .inl (fun _ => 0))), (q_29, .inl (c_30, 4, .inl (fun _ => 0)))] := hD
  have hK : va_K (dC, dI) vwCl [(c_2, .int), (c_4, .int), (c_6, .boolean), (c_8, .int), (c_10, .int), (c_12, .boolean), (c_14, .int), (c_16, .int), (c_18, .int), (c_20, .int), (c_22, .int), (c_24, .int), (c_26, .int), (c_28, .int), (c_30, .int)] s := hK
  refine W.widen (k := 15) (n := 140189) (Nat.le_of_ble_eq_true rfl) (Nat.le_of_ble_eq_true rfl) ?_
  refine va_putF (D := (dC, dI)) (ci := 8) (v := .ref q_29) (ty := .array .int) (C := RX8) (T := TX8) (N := 23) hx hb hts hi8 tyX8 tyX8_ok nmX8 hown hK hP hD hS 0 rfl rfl 22 (by decide) (hts (.fieldLink RX8 61 "AskTreeModel" "bestV" "[I") (by decide +kernel)) (fun _ h9 => h9) rfl hin rfl (by decide +kernel) rfl rfl (Nat.le_of_ble_eq_true rfl) dX8_init_128 (fun H locs hP hD hS => ?_)
  have hP : va_P (dC, dI) vwCl [(h0, .inr (8, [.ref q_1, .ref q_3, .int 0, .ref q_5, .ref q_7, .ref q_9, .int 0, .ref q_11, .int 0, .int 0, .int 0, .ref q_13, .ref q_15, .int 0, .int (-1), .int (-1), .ref q_17, .ref q_19, .ref q_21, .ref q_23, .ref q_25, .ref q_27, .ref q_29])), (q_1, .inl (c_2, 2400, .inl (fun _ => 0))), (q_3, .inl (c_4, 300, .inl (fun _ => 0))), (q_5, .inl (c_6, 8, .inl (fun _ => 0))), (q_7, .inl (c_8, 134400, .inl (fun _ => 0))), (q_9, .inl (c_10, 21, .inl (fun _ => 0))), (q_11, .inl (c_12, 3000, .inl (fun _ => 0))), (q_13, .inl (c_14, 8, .inl (fun _ => 0))), (q_15, .inl (c_16, 8, .inl (fun _ => 0))), (q_17, .inl (c_18, 4, .inl (fun _ => 0))), (q_19, .inl (c_20, 4, .inl (fun _ => 0))), (q_21, .inl (c_22, 20, .inl (fun _ => 0))), (q_23, .inl (c_24, 4, .inl (fun _ => 0))), (q_25, .inl (c_26, 4, .inl (fun _ => 0))), (q_27, .inl (c_28, 4, .inl (fun _ => 0))), (q_29, .inl (c_30, 4, .inl (fun _ => 0)))] H := hP
  have hD : va_D A [(h0, .inr (8, [.ref q_1, .ref q_3, .int 0, .ref q_5, .ref q_7, .ref q_9, .int 0, .ref q_11, .int 0, .int 0, .int 0, .ref q_13, .ref q_15, .int 0, .int (-1), .int (-1), .ref q_17, .ref q_19, .ref q_21, .ref q_23, .ref q_25, .ref q_27, .ref q_29])), (q_1, .inl (c_2, 2400, .inl (fun _ => 0))), (q_3, .inl (c_4, 300, .inl (fun _ => 0))), (q_5, .inl (c_6, 8, .inl (fun _ => 0))), (q_7, .inl (c_8, 134400, .inl (fun _ => 0))), (q_9, .inl (c_10, 21, .inl (fun _ => 0))), (q_11, .inl (c_12, 3000, .inl (fun _ => 0))), (q_13, .inl (c_14, 8, .inl (fun _ => 0))), (q_15, .inl (c_16, 8, .inl (fun _ => 0))), (q_17, .inl (c_18, 4, .inl (fun _ => 0))), (q_19, .inl (c_20, 4, .inl (fun _ => 0))), (q_21, .inl (c_22, 20, .inl (fun _ => 0))), (q_23, .inl (c_24, 4, .inl (fun _ => 0))), (q_25, .inl (c_26, 4, .inl (fun _ => 0))), (q_27, .inl (c_28, 4, .inl (fun _ => 0))), (q_29, .inl (c_30, 4, .inl (fun _ => 0)))] := hD
  have hP9 := hP.sub (ws' := [(h0, .inr (8, [.ref q_1, .ref q_3, .int 0, .ref q_5, .ref q_7, .ref q_9, .int 0, .ref q_11, .int 0, .int 0, .int 0, .ref q_13, .ref q_15, .int 0, .int (-1), .int (-1), .ref q_17, .ref q_19, .ref q_21, .ref q_23, .ref q_25, .ref q_27, .ref q_29])), (q_1, .inl (c_2, 2400, .inl (fun _ => 0))), (q_3, .inl (c_4, 300, .inl (fun _ => 0))), (q_5, .inl (c_6, 8, .inl (fun _ => 0))), (q_7, .inl (c_8, 134400, .inl (fun _ => 0))), (q_9, .inl (c_10, 21, .inl (fun _ => 0))), (q_11, .inl (c_12, 3000, .inl (fun _ => 0))), (q_13, .inl (c_14, 8, .inl (fun _ => 0))), (q_15, .inl (c_16, 8, .inl (fun _ => 0))), (q_17, .inl (c_18, 4, .inl (fun _ => 0))), (q_19, .inl (c_20, 4, .inl (fun _ => 0))), (q_21, .inl (c_22, 20, .inl (fun _ => 0))), (q_23, .inl (c_24, 4, .inl (fun _ => 0))), (q_25, .inl (c_26, 4, .inl (fun _ => 0))), (q_27, .inl (c_28, 4, .inl (fun _ => 0))), (q_29, .inl (c_30, 4, .inl (fun _ => 0)))]) [0, 1, 2, 3, 4, 5, 6, 7, 8, 9, 10, 11, 12, 13, 14, 15] rfl
  have hD9 := hD.sub (ws' := [(h0, .inr (8, [.ref q_1, .ref q_3, .int 0, .ref q_5, .ref q_7, .ref q_9, .int 0, .ref q_11, .int 0, .int 0, .int 0, .ref q_13, .ref q_15, .int 0, .int (-1), .int (-1), .ref q_17, .ref q_19, .ref q_21, .ref q_23, .ref q_25, .ref q_27, .ref q_29])), (q_1, .inl (c_2, 2400, .inl (fun _ => 0))), (q_3, .inl (c_4, 300, .inl (fun _ => 0))), (q_5, .inl (c_6, 8, .inl (fun _ => 0))), (q_7, .inl (c_8, 134400, .inl (fun _ => 0))), (q_9, .inl (c_10, 21, .inl (fun _ => 0))), (q_11, .inl (c_12, 3000, .inl (fun _ => 0))), (q_13, .inl (c_14, 8, .inl (fun _ => 0))), (q_15, .inl (c_16, 8, .inl (fun _ => 0))), (q_17, .inl (c_18, 4, .inl (fun _ => 0))), (q_19, .inl (c_20, 4, .inl (fun _ => 0))), (q_21, .inl (c_22, 20, .inl (fun _ => 0))), (q_23, .inl (c_24, 4, .inl (fun _ => 0))), (q_25, .inl (c_26, 4, .inl (fun _ => 0))), (q_27, .inl (c_28, 4, .inl (fun _ => 0))), (q_29, .inl (c_30, 4, .inl (fun _ => 0)))]) [0, 1, 2, 3, 4, 5, 6, 7, 8, 9, 10, 11, 12, 13, 14, 15] (by decide) rfl
  have hK9 := hK.sub (tys' := [(c_2, .int), (c_4, .int), (c_6, .boolean), (c_8, .int), (c_10, .int), (c_12, .boolean), (c_14, .int), (c_16, .int), (c_18, .int), (c_20, .int), (c_22, .int), (c_24, .int), (c_26, .int), (c_28, .int), (c_30, .int)]) [0, 1, 2, 3, 4, 5, 6, 7, 8, 9, 10, 11, 12, 13, 14] rfl
  refine W.widen (k := 15) (n := 140189) (Nat.le_of_ble_eq_true rfl) (Nat.le_of_ble_eq_true rfl) ?_
  exact W.vret hx hb hr (fun t ht hW => ⟨⟨([(h0, .inr (8, [.ref q_1, .ref q_3, .int 0, .ref q_5, .ref q_7, .ref q_9, .int 0, .ref q_11, .int 0, .int 0, .int 0, .ref q_13, .ref q_15, .int 0, .int (-1), .int (-1), .ref q_17, .ref q_19, .ref q_21, .ref q_23, .ref q_25, .ref q_27, .ref q_29])), (q_1, .inl (c_2, 2400, .inl (fun _ => 0))), (q_3, .inl (c_4, 300, .inl (fun _ => 0))), (q_5, .inl (c_6, 8, .inl (fun _ => 0))), (q_7, .inl (c_8, 134400, .inl (fun _ => 0))), (q_9, .inl (c_10, 21, .inl (fun _ => 0))), (q_11, .inl (c_12, 3000, .inl (fun _ => 0))), (q_13, .inl (c_14, 8, .inl (fun _ => 0))), (q_15, .inl (c_16, 8, .inl (fun _ => 0))), (q_17, .inl (c_18, 4, .inl (fun _ => 0))), (q_19, .inl (c_20, 4, .inl (fun _ => 0))), (q_21, .inl (c_22, 20, .inl (fun _ => 0))), (q_23, .inl (c_24, 4, .inl (fun _ => 0))), (q_25, .inl (c_26, 4, .inl (fun _ => 0))), (q_27, .inl (c_28, 4, .inl (fun _ => 0))), (q_29, .inl (c_30, 4, .inl (fun _ => 0)))], [(c_2, .int), (c_4, .int), (c_6, .boolean), (c_8, .int), (c_10, .int), (c_12, .boolean), (c_14, .int), (c_16, .int), (c_18, .int), (c_20, .int), (c_22, .int), (c_24, .int), (c_26, .int), (c_28, .int), (c_30, .int)]), rfl, ⟨q_1, q_3, q_5, q_7, q_9, q_11, q_13, q_15, q_17, q_19, q_21, q_23, q_25, q_27, q_29, c_2, c_4, c_6, c_8, c_10, c_12, c_14, c_16, c_18, c_20, c_22, c_24, c_26, c_28, c_30, rfl⟩, (by rw [ht]; exact hP9), va_K.moved hW.alike hK9, hD9⟩, hS.F ht⟩) hS.2.2 dX8_init_131

set_option maxHeartbeats 4000000 in
set_option maxRecDepth 100000 in
theorem c_take (l : Launch) (dC : Nat → ClassId) (dI : Nat → Nat → Nat) (sz : Nat) (h0 : Nat) (p1 : Int32) (p2 : Int32) (p3 : Int32) (p4 : Int32) (h0_asked : Nat) (a0_marks : Nat) (a0_classes : Nat) (a0_isSort : Nat) (a0_nodes : Nat) (a0_many : Nat) (a0_in : Nat) (a0_turned : Nat) (a0_heap : Nat) (a0_heapYes : Nat) (a0_path : Nat) (a0_bestWrong : Nat) (a0_bestAsked : Nat) (a0_bestMark : Nat) (a0_bestV : Nat) (k0_asked : ClassId) (f0_asked : Nat → Int32)   : Met l yX8_take wsX8_take ({ frames := 1, cells := 0, slots := 0, locals := 60 }) (va_Pc [.ref h0, .int p1, .int p2, .int p3, .int p4, .int 1] (pw (dC, dI) [(k0_asked, .int)] [(h0, .inr (8, [.ref a0_marks, .ref a0_classes, .int 0, .ref a0_isSort, .ref a0_nodes, .ref a0_many, .int 0, .ref a0_in, .int 0, .int 0, .int 0, .ref h0_asked, .ref a0_turned, .int 0, .int (-1), .int (-1), .ref a0_heap, .ref a0_heapYes, .ref a0_path, .ref a0_bestWrong, .ref a0_bestAsked, .ref a0_bestMark, .ref a0_bestV])), (h0_asked, .inl (k0_asked, 8, .inl f0_asked))] sz)) (va_Qi (fun (r : Int32) (u : vu) => (∃ (f_1 : Nat → Int32), u = ([(h0, .inr (8, [.ref a0_marks, .ref a0_classes, .int 0, .ref a0_isSort, .ref a0_nodes, .ref a0_many, .int 0, .ref a0_in, .int 0, .int 0, .int 0, .ref h0_asked, .ref a0_turned, .int 0, .int (-1), .int (-1), .ref a0_heap, .ref a0_heapYes, .ref a0_path, .ref a0_bestWrong, .ref a0_bestAsked, .ref a0_bestMark, .ref a0_bestV])), (h0_asked, .inl (k0_asked, 8, .inl f_1))], []) ∧ tok p1 p2 p3 p4 ∧ r = 1) ∨ (∃ (f_1 : Nat → Int32), u = ([(h0, .inr (8, [.ref a0_marks, .ref a0_classes, .int 0, .ref a0_isSort, .ref a0_nodes, .ref a0_many, .int 0, .ref a0_in, .int 0, .int 0, .int 0, .ref h0_asked, .ref a0_turned, .int 0, .int (-1), .int (-1), .ref a0_heap, .ref a0_heapYes, .ref a0_path, .ref a0_bestWrong, .ref a0_bestAsked, .ref a0_bestMark, .ref a0_bestV])), (h0_asked, .inl (k0_asked, 8, .inl f_1))], []) ∧ ¬ tok p1 p2 p3 p4 ∧ r = 0)) (fun u t => qw (dC, dI) u.2 (va_A [(h0, .inr (8, [.ref a0_marks, .ref a0_classes, .int 0, .ref a0_isSort, .ref a0_nodes, .ref a0_many, .int 0, .ref a0_in, .int 0, .int 0, .int 0, .ref h0_asked, .ref a0_turned, .int 0, .int (-1), .int (-1), .ref a0_heap, .ref a0_heapYes, .ref a0_path, .ref a0_bestWrong, .ref a0_bestAsked, .ref a0_bestMark, .ref a0_bestV])), (h0_asked, .inl (k0_asked, 8, .inl f0_asked))] sz) u.1 t) (va_A [(h0, .inr (8, [.ref a0_marks, .ref a0_classes, .int 0, .ref a0_isSort, .ref a0_nodes, .ref a0_many, .int 0, .ref a0_in, .int 0, .int 0, .int 0, .ref h0_asked, .ref a0_turned, .int 0, .int (-1), .int (-1), .ref a0_heap, .ref a0_heapYes, .ref a0_path, .ref a0_bestWrong, .ref a0_bestAsked, .ref a0_bestMark, .ref a0_bestV])), (h0_asked, .inl (k0_asked, 8, .inl f0_asked))] sz)) 0 0 (va_A [(h0, .inr (8, [.ref a0_marks, .ref a0_classes, .int 0, .ref a0_isSort, .ref a0_nodes, .ref a0_many, .int 0, .ref a0_in, .int 0, .int 0, .int 0, .ref h0_asked, .ref a0_turned, .int 0, .int (-1), .int (-1), .ref a0_heap, .ref a0_heapYes, .ref a0_path, .ref a0_bestWrong, .ref a0_bestAsked, .ref a0_bestMark, .ref a0_bestV])), (h0_asked, .inl (k0_asked, 8, .inl f0_asked))] sz) := by
  refine Met.ofW (cc := cX8_take) (maxL := 10) (ret := (some .boolean)) (by decide) rfl ?_
  intro p e s m args below meth c s₁ B hml hv
  obtain ⟨rfl, hsz, hP, hK, hD0, hN⟩ := hv
  have hx := B.exec
  have hb := B.bytes
  have hr := B.returns
  have hts := atoms_spec (ws := wsX8_take) B.pre
  have hown : s.vm.findClass RX8 = some m.cls := findClass_of_methodNamed B.named
  have hlocks := B.notSynchronized
  have hi8 : ∀ w ∈ u_ws RX8 TX8 23, w ∈ wsX8_take := fun _ h => List.mem_cons_of_mem _ (List.mem_append_right _ h)
  subst hsz
  have hD := hD0.self (sz := s.heap.size)
  generalize hAe : va_A [(h0, .inr (8, [.ref a0_marks, .ref a0_classes, .int 0, .ref a0_isSort, .ref a0_nodes, .ref a0_many, .int 0, .ref a0_in, .int 0, .int 0, .int 0, .ref h0_asked, .ref a0_turned, .int 0, .int (-1), .int (-1), .ref a0_heap, .ref a0_heapYes, .ref a0_path, .ref a0_bestWrong, .ref a0_bestAsked, .ref a0_bestMark, .ref a0_bestV])), (h0_asked, .inl (k0_asked, 8, .inl f0_asked))] s.heap.size = A at hD ⊢
  have hA : ∀ q : Nat, s.heap.size ≤ q → A q := fun q h => by rw [← hAe]; exact Or.inr h
  have hS : va_S A s.heap s.heap [] := va_S.rf
  have hl := lv_entry ([.ref h0, .int p1, .int p2, .int p3, .int p4, .int 1]) (n := 10) (Nat.le_of_ble_eq_true rfl)
  rw [lg_entry_eq]
  generalize (lg_sl ([.ref h0, .int p1, .int p2, .int p3, .int p4, .int 1]) ++ List.replicate (10 - (lg_sl ([.ref h0, .int p1, .int p2, .int p3, .int p4, .int 1])).length) Slot.unset).toArray = ls at hl ⊢
  have hl : lv_has ls 10 [(0, .ref h0), (1, .int p1), (2, .int p2), (3, .int p3), (4, .int p4), (5, .int 1)] := hl
  have hP : va_P (dC, dI) vwCl [(h0, .inr (8, [.ref a0_marks, .ref a0_classes, .int 0, .ref a0_isSort, .ref a0_nodes, .ref a0_many, .int 0, .ref a0_in, .int 0, .int 0, .int 0, .ref h0_asked, .ref a0_turned, .int 0, .int (-1), .int (-1), .ref a0_heap, .ref a0_heapYes, .ref a0_path, .ref a0_bestWrong, .ref a0_bestAsked, .ref a0_bestMark, .ref a0_bestV])), (h0_asked, .inl (k0_asked, 8, .inl f0_asked))] s.heap := hP
  refine lv_iconst (v := 1) hx hb dX8_take_0 (by decide) ?_
  refine lv_istore (lv' := [(6, .int 1), (0, .ref h0), (1, .int p1), (2, .int p2), (3, .int p3), (4, .int p4), (5, .int 1)]) hx hb dX8_take_1 hl (by decide) rfl (fun ls hl => ?_)
  refine lv_iconst (v := 0) hx hb dX8_take_3 (by decide) ?_
  refine lv_istore (lv' := [(7, .int 0), (6, .int 1), (0, .ref h0), (1, .int p1), (2, .int p2), (3, .int p3), (4, .int p4), (5, .int 1)]) hx hb dX8_take_4 hl (by decide) rfl (fun ls hl => ?_)
  have key : ∀ (n k : Nat) (y : Int32) (f_1 : Nat → Int32) (H : Heap) (locs : List Loc) (ls : Array Slot), k + n = 8 → ((y = 1 ∧ tk p1 p2 p3 p4 k) ∨ (y = 0 ∧ ¬ tk p1 p2 p3 p4 k)) → va_P (dC, dI) vwCl [(h0, .inr (8, [.ref a0_marks, .ref a0_classes, .int 0, .ref a0_isSort, .ref a0_nodes, .ref a0_many, .int 0, .ref a0_in, .int 0, .int 0, .int 0, .ref h0_asked, .ref a0_turned, .int 0, .int (-1), .int (-1), .ref a0_heap, .ref a0_heapYes, .ref a0_path, .ref a0_bestWrong, .ref a0_bestAsked, .ref a0_bestMark, .ref a0_bestV])), (h0_asked, .inl (k0_asked, 8, .inl f_1))] H → va_D A [(h0, .inr (8, [.ref a0_marks, .ref a0_classes, .int 0, .ref a0_isSort, .ref a0_nodes, .ref a0_many, .int 0, .ref a0_in, .int 0, .int 0, .int 0, .ref h0_asked, .ref a0_turned, .int 0, .int (-1), .int (-1), .ref a0_heap, .ref a0_heapYes, .ref a0_path, .ref a0_bestWrong, .ref a0_bestAsked, .ref a0_bestMark, .ref a0_bestV])), (h0_asked, .inl (k0_asked, 8, .inl f_1))] → va_S A s.heap H locs → lv_has ls 10 [(0, .ref h0), (1, .int p1), (2, .int p2), (3, .int p3), (4, .int p4), (5, .int 1), (6, .int y), (7, .int (nI k))] → W p l e (headSpec wsX8_take ({ frames := 1, cells := 0, slots := 0, locals := 60 } : Room)).room s m [Value.ref h0, Value.int p1, Value.int p2, Value.int p3, Value.int p4, Value.int 1].toArray below meth c H locs 0 0 (MQ below (va_Qi (fun (r : Int32) (u : vu) => (∃ (f_1 : Nat → Int32), u = ([(h0, .inr (8, [.ref a0_marks, .ref a0_classes, .int 0, .ref a0_isSort, .ref a0_nodes, .ref a0_many, .int 0, .ref a0_in, .int 0, .int 0, .int 0, .ref h0_asked, .ref a0_turned, .int 0, .int (-1), .int (-1), .ref a0_heap, .ref a0_heapYes, .ref a0_path, .ref a0_bestWrong, .ref a0_bestAsked, .ref a0_bestMark, .ref a0_bestV])), (h0_asked, .inl (k0_asked, 8, .inl f_1))], []) ∧ tok p1 p2 p3 p4 ∧ r = 1) ∨ (∃ (f_1 : Nat → Int32), u = ([(h0, .inr (8, [.ref a0_marks, .ref a0_classes, .int 0, .ref a0_isSort, .ref a0_nodes, .ref a0_many, .int 0, .ref a0_in, .int 0, .int 0, .int 0, .ref h0_asked, .ref a0_turned, .int 0, .int (-1), .int (-1), .ref a0_heap, .ref a0_heapYes, .ref a0_path, .ref a0_bestWrong, .ref a0_bestAsked, .ref a0_bestMark, .ref a0_bestV])), (h0_asked, .inl (k0_asked, 8, .inl f_1))], []) ∧ ¬ tok p1 p2 p3 p4 ∧ r = 0)) (fun u t => qw (dC, dI) u.2 A u.1 t) A) [Value.ref h0, Value.int p1, Value.int p2, Value.int p3, Value.int p4, Value.int 1].toArray s 0 0 A) (F0 m 6 ls []) := by
    intro n
    induction n with
    | zero =>
      intro k y f_1 H locs ls hn hI hP hD hS hl
      obtain rfl : k = 8 := by omega
      rcases hI with ⟨rfl, hI⟩ | ⟨rfl, hI⟩
      · skip
        have hl : lv_has ls 10 [(0, .ref h0), (1, .int p1), (2, .int p2), (3, .int p3), (4, .int p4), (5, .int 1), (6, .int 1), (7, .int 8)] := hl
        refine lv_iload hx hb dX8_take_6 (lv_at hl 7 rfl) ?_
        refine lv_bipush (v := 8) hx hb dX8_take_8 (by decide) ?_
        refine lv_icmp_ge (tgt := 127) hx hb dX8_take_10 (by decide) (fun c_2 => ?_) (fun c_2 => ?_)
        rotate_left
        · exact absurd c_2 (by decide)
        refine lv_iload hx hb dX8_take_127 (lv_at hl 6 rfl) ?_
        have ht_3 : tok p1 p2 p3 p4 := hI
        have hP9 := hP.sub (ws' := [(h0, .inr (8, [.ref a0_marks, .ref a0_classes, .int 0, .ref a0_isSort, .ref a0_nodes, .ref a0_many, .int 0, .ref a0_in, .int 0, .int 0, .int 0, .ref h0_asked, .ref a0_turned, .int 0, .int (-1), .int (-1), .ref a0_heap, .ref a0_heapYes, .ref a0_path, .ref a0_bestWrong, .ref a0_bestAsked, .ref a0_bestMark, .ref a0_bestV])), (h0_asked, .inl (k0_asked, 8, .inl f_1))]) [0, 1] rfl
        have hD9 := hD.sub (ws' := [(h0, .inr (8, [.ref a0_marks, .ref a0_classes, .int 0, .ref a0_isSort, .ref a0_nodes, .ref a0_many, .int 0, .ref a0_in, .int 0, .int 0, .int 0, .ref h0_asked, .ref a0_turned, .int 0, .int (-1), .int (-1), .ref a0_heap, .ref a0_heapYes, .ref a0_path, .ref a0_bestWrong, .ref a0_bestAsked, .ref a0_bestMark, .ref a0_bestV])), (h0_asked, .inl (k0_asked, 8, .inl f_1))]) [0, 1] (by decide) rfl
        have hK9 := hK.sub (tys' := []) [] rfl
        exact W.zret (v := 1) hx hb hr rfl (fun t ht hW => ⟨⟨1, ([(h0, .inr (8, [.ref a0_marks, .ref a0_classes, .int 0, .ref a0_isSort, .ref a0_nodes, .ref a0_many, .int 0, .ref a0_in, .int 0, .int 0, .int 0, .ref h0_asked, .ref a0_turned, .int 0, .int (-1), .int (-1), .ref a0_heap, .ref a0_heapYes, .ref a0_path, .ref a0_bestWrong, .ref a0_bestAsked, .ref a0_bestMark, .ref a0_bestV])), (h0_asked, .inl (k0_asked, 8, .inl f_1))], []), rfl, (Or.inl ⟨f_1, rfl, ht_3, rfl⟩), (by rw [ht]; exact hP9), va_K.moved hW.alike hK9, hD9⟩, hS.F ht⟩) hS.2.2 dX8_take_129
      · skip
        have hl : lv_has ls 10 [(0, .ref h0), (1, .int p1), (2, .int p2), (3, .int p3), (4, .int p4), (5, .int 1), (6, .int 0), (7, .int 8)] := hl
        refine lv_iload hx hb dX8_take_6 (lv_at hl 7 rfl) ?_
        refine lv_bipush (v := 8) hx hb dX8_take_8 (by decide) ?_
        refine lv_icmp_ge (tgt := 127) hx hb dX8_take_10 (by decide) (fun c_4 => ?_) (fun c_4 => ?_)
        rotate_left
        · exact absurd c_4 (by decide)
        refine lv_iload hx hb dX8_take_127 (lv_at hl 6 rfl) ?_
        have ht_5 : ¬ tok p1 p2 p3 p4 := hI
        have hP9 := hP.sub (ws' := [(h0, .inr (8, [.ref a0_marks, .ref a0_classes, .int 0, .ref a0_isSort, .ref a0_nodes, .ref a0_many, .int 0, .ref a0_in, .int 0, .int 0, .int 0, .ref h0_asked, .ref a0_turned, .int 0, .int (-1), .int (-1), .ref a0_heap, .ref a0_heapYes, .ref a0_path, .ref a0_bestWrong, .ref a0_bestAsked, .ref a0_bestMark, .ref a0_bestV])), (h0_asked, .inl (k0_asked, 8, .inl f_1))]) [0, 1] rfl
        have hD9 := hD.sub (ws' := [(h0, .inr (8, [.ref a0_marks, .ref a0_classes, .int 0, .ref a0_isSort, .ref a0_nodes, .ref a0_many, .int 0, .ref a0_in, .int 0, .int 0, .int 0, .ref h0_asked, .ref a0_turned, .int 0, .int (-1), .int (-1), .ref a0_heap, .ref a0_heapYes, .ref a0_path, .ref a0_bestWrong, .ref a0_bestAsked, .ref a0_bestMark, .ref a0_bestV])), (h0_asked, .inl (k0_asked, 8, .inl f_1))]) [0, 1] (by decide) rfl
        have hK9 := hK.sub (tys' := []) [] rfl
        exact W.zret (v := 0) hx hb hr rfl (fun t ht hW => ⟨⟨0, ([(h0, .inr (8, [.ref a0_marks, .ref a0_classes, .int 0, .ref a0_isSort, .ref a0_nodes, .ref a0_many, .int 0, .ref a0_in, .int 0, .int 0, .int 0, .ref h0_asked, .ref a0_turned, .int 0, .int (-1), .int (-1), .ref a0_heap, .ref a0_heapYes, .ref a0_path, .ref a0_bestWrong, .ref a0_bestAsked, .ref a0_bestMark, .ref a0_bestV])), (h0_asked, .inl (k0_asked, 8, .inl f_1))], []), rfl, (Or.inr ⟨f_1, rfl, ht_5, rfl⟩), (by rw [ht]; exact hP9), va_K.moved hW.alike hK9, hD9⟩, hS.F ht⟩) hS.2.2 dX8_take_129
    | succ n ih =>
      intro k y f_1 H locs ls hn hI hP hD hS hl
      rcases (show k = 0 ∨ k = 1 ∨ k = 2 ∨ k = 3 ∨ k = 4 ∨ k = 5 ∨ k = 6 ∨ k = 7 by omega) with rfl | rfl | rfl | rfl | rfl | rfl | rfl | rfl
      · skip
        rcases hI with ⟨rfl, hI⟩ | ⟨rfl, hI⟩
        · skip
          have hl : lv_has ls 10 [(0, .ref h0), (1, .int p1), (2, .int p2), (3, .int p3), (4, .int p4), (5, .int 1), (6, .int 1), (7, .int 0)] := hl
          refine lv_iload hx hb dX8_take_6 (lv_at hl 7 rfl) ?_
          refine lv_bipush (v := 8) hx hb dX8_take_8 (by decide) ?_
          refine lv_icmp_ge (tgt := 127) hx hb dX8_take_10 (by decide) (fun c_6 => ?_) (fun c_6 => ?_)
          · exact absurd c_6 (by decide)
          refine lv_iload hx hb dX8_take_13 (lv_at hl 7 rfl) ?_
          refine lv_iconst (v := 2) hx hb dX8_take_15 (by decide) ?_
          refine lv_icmp_ge (tgt := 23) hx hb dX8_take_16 (by decide) (fun c_7 => ?_) (fun c_7 => ?_)
          · exact absurd c_7 (by decide)
          refine lv_iload_n hx hb dX8_take_19 rfl (lv_at hl 1 rfl) ?_
          refine lv_goto (tgt := 46) hx hb dX8_take_20 (by decide) ?_
          refine lv_istore (lv' := [(8, .int p1), (0, .ref h0), (1, .int p1), (2, .int p2), (3, .int p3), (4, .int p4), (5, .int 1), (6, .int 1), (7, .int 0)]) hx hb dX8_take_46 hl (by decide) rfl (fun ls hl => ?_)
          refine lv_iload hx hb dX8_take_48 (lv_at hl 8 rfl) ?_
          refine lv_iconst (v := 2) hx hb dX8_take_50 (by decide) ?_
          refine lv_irem hx hb dX8_take_51 (by decide) ?_
          refine tvv (v := .int 0) (congrArg Value.int (by decide)) ?_
          refine lv_if_ne (tgt := 63) hx hb dX8_take_52 (by decide) (fun c_8 => ?_) (fun c_8 => ?_)
          · exact absurd c_8 (by decide)
          refine lv_iload hx hb dX8_take_55 (lv_at hl 0 rfl) ?_
          refine lv_bipush (v := 16) hx hb dX8_take_57 (by decide) ?_
          refine lv_ishr hx hb dX8_take_59 ?_
          refine lv_goto (tgt := 66) hx hb dX8_take_60 (by decide) ?_
          refine tvv (v := .int (tm p1 p2 p3 p4 0)) rfl ?_
          refine lv_istore (lv' := [(9, .int (tm p1 p2 p3 p4 0)), (8, .int p1), (0, .ref h0), (1, .int p1), (2, .int p2), (3, .int p3), (4, .int p4), (5, .int 1), (6, .int 1), (7, .int 0)]) hx hb dX8_take_66 hl (by decide) rfl (fun ls hl => ?_)
          refine lv_aload_n hx hb dX8_take_68 rfl (lv_at hl 2 rfl) ?_
          refine va_get (D := (dC, dI)) (ci := 8) (v := .ref h0_asked) (C := RX8) (T := TX8) (N := 23) hx hb hts hi8 hown hK hP 0 rfl rfl 11 (by decide) (hts (.fieldLink RX8 30 "AskTreeModel" "asked" "[I") (by decide +kernel)) (fun _ h9 => h9) rfl dX8_take_69 ?_
          refine lv_iload hx hb dX8_take_72 (lv_at hl 9 rfl) ?_
          refine lv_iload hx hb dX8_take_74 (lv_at hl 0 rfl) ?_
          refine va_iast hx hb hK hP hD hS 1 0 rfl rfl (vi _ _ (by decide)) dX8_take_76 (fun H locs hP hD hS => ?_)
          have hP : va_P (dC, dI) vwCl [(h0, .inr (8, [.ref a0_marks, .ref a0_classes, .int 0, .ref a0_isSort, .ref a0_nodes, .ref a0_many, .int 0, .ref a0_in, .int 0, .int 0, .int 0, .ref h0_asked, .ref a0_turned, .int 0, .int (-1), .int (-1), .ref a0_heap, .ref a0_heapYes, .ref a0_path, .ref a0_bestWrong, .ref a0_bestAsked, .ref a0_bestMark, .ref a0_bestV])), (h0_asked, .inl (k0_asked, 8, .inl (upd f_1 (Int32.toNatClampNeg 0) (tm p1 p2 p3 p4 0))))] H := hP
          have hD : va_D A [(h0, .inr (8, [.ref a0_marks, .ref a0_classes, .int 0, .ref a0_isSort, .ref a0_nodes, .ref a0_many, .int 0, .ref a0_in, .int 0, .int 0, .int 0, .ref h0_asked, .ref a0_turned, .int 0, .int (-1), .int (-1), .ref a0_heap, .ref a0_heapYes, .ref a0_path, .ref a0_bestWrong, .ref a0_bestAsked, .ref a0_bestMark, .ref a0_bestV])), (h0_asked, .inl (k0_asked, 8, .inl (upd f_1 (Int32.toNatClampNeg 0) (tm p1 p2 p3 p4 0))))] := hD
          generalize hf_10 : upd f_1 (Int32.toNatClampNeg 0) (tm p1 p2 p3 p4 0) = f_9 at hP hD
          have hk_11 : f_9 0 = (tm p1 p2 p3 p4 0) := by rw [← hf_10]; exact up_s (by decide)
          clear hf_10
          refine lv_iload hx hb dX8_take_77 (lv_at hl 8 rfl) ?_
          refine lv_if_eq (tgt := 118) hx hb dX8_take_79 (by decide) (fun c_12 => ?_) (fun c_12 => ?_)
          · exact absurd c_12 (by decide)
          refine lv_iload hx hb dX8_take_82 (lv_at hl 0 rfl) ?_
          refine lv_sipush (v := (-32768)) hx hb dX8_take_84 (by decide) ?_
          refine lv_icmp_ne (tgt := 98) hx hb dX8_take_87 (by decide) (fun c_13 => ?_) (fun c_13 => ?_)
          · skip
            refine lv_iload hx hb dX8_take_98 (lv_at hl 0 rfl) ?_
            refine lv_sipush (v := (-1000)) hx hb dX8_take_100 (by decide) ?_
            refine lv_icmp_lt (tgt := 118) hx hb dX8_take_103 (by decide) (fun c_14 => ?_) (fun c_14 => ?_)
            · skip
              refine lv_iconst (v := 0) hx hb dX8_take_118 (by decide) ?_
              refine lv_istore (lv' := [(6, .int 0), (9, .int (tm p1 p2 p3 p4 0)), (8, .int p1), (0, .ref h0), (1, .int p1), (2, .int p2), (3, .int p3), (4, .int p4), (5, .int 1), (7, .int 0)]) hx hb dX8_take_119 hl (by decide) rfl (fun ls hl => ?_)
              refine lv_iinc (v := 1) (lv' := [(7, .int 1), (6, .int 0), (9, .int (tm p1 p2 p3 p4 0)), (8, .int p1), (0, .ref h0), (1, .int p1), (2, .int p2), (3, .int p3), (4, .int p4), (5, .int 1)]) hx hb dX8_take_121 hl (k := 9) rfl (by decide) (by decide) rfl (fun ls hl => ?_)
              refine lv_goto (tgt := 6) hx hb dX8_take_124 (by decide) ?_
              exact ih 1 0 f_9 H locs ls (by omega) (Or.inr ⟨rfl, tk_b (no_l c_14 c_13)⟩) hP hD hS (lv_sub hl [4, 5, 6, 7, 8, 9, 1, 0] rfl)
            · skip
              refine lv_iload hx hb dX8_take_106 (lv_at hl 0 rfl) ?_
              refine lv_sipush (v := 1000) hx hb dX8_take_108 (by decide) ?_
              refine lv_icmp_gt (tgt := 118) hx hb dX8_take_111 (by decide) (fun c_15 => ?_) (fun c_15 => ?_)
              · skip
                refine lv_iconst (v := 0) hx hb dX8_take_118 (by decide) ?_
                refine lv_istore (lv' := [(6, .int 0), (9, .int (tm p1 p2 p3 p4 0)), (8, .int p1), (0, .ref h0), (1, .int p1), (2, .int p2), (3, .int p3), (4, .int p4), (5, .int 1), (7, .int 0)]) hx hb dX8_take_119 hl (by decide) rfl (fun ls hl => ?_)
                refine lv_iinc (v := 1) (lv' := [(7, .int 1), (6, .int 0), (9, .int (tm p1 p2 p3 p4 0)), (8, .int p1), (0, .ref h0), (1, .int p1), (2, .int p2), (3, .int p3), (4, .int p4), (5, .int 1)]) hx hb dX8_take_121 hl (k := 9) rfl (by decide) (by decide) rfl (fun ls hl => ?_)
                refine lv_goto (tgt := 6) hx hb dX8_take_124 (by decide) ?_
                exact ih 1 0 f_9 H locs ls (by omega) (Or.inr ⟨rfl, tk_b (no_H c_15)⟩) hP hD hS (lv_sub hl [4, 5, 6, 7, 8, 9, 1, 0] rfl)
              · skip
                refine lv_iconst (v := 1) hx hb dX8_take_114 (by decide) ?_
                refine lv_goto (tgt := 119) hx hb dX8_take_115 (by decide) ?_
                refine lv_istore (lv' := [(6, .int 1), (9, .int (tm p1 p2 p3 p4 0)), (8, .int p1), (0, .ref h0), (1, .int p1), (2, .int p2), (3, .int p3), (4, .int p4), (5, .int 1), (7, .int 0)]) hx hb dX8_take_119 hl (by decide) rfl (fun ls hl => ?_)
                refine lv_iinc (v := 1) (lv' := [(7, .int 1), (6, .int 1), (9, .int (tm p1 p2 p3 p4 0)), (8, .int p1), (0, .ref h0), (1, .int p1), (2, .int p2), (3, .int p3), (4, .int p4), (5, .int 1)]) hx hb dX8_take_121 hl (k := 9) rfl (by decide) (by decide) rfl (fun ls hl => ?_)
                refine lv_goto (tgt := 6) hx hb dX8_take_124 (by decide) ?_
                exact ih 1 1 f_9 H locs ls (by omega) (Or.inl ⟨rfl, tk_s hI (ok_n c_14 c_15)⟩) hP hD hS (lv_sub hl [4, 5, 6, 7, 8, 9, 1, 0] rfl)
          · skip
            refine lv_iload hx hb dX8_take_90 (lv_at hl 7 rfl) ?_
            refine lv_if_eq (tgt := 118) hx hb dX8_take_92 (by decide) (fun c_16 => ?_) (fun c_16 => ?_)
            · exact absurd c_16 (by decide)
            refine lv_goto (tgt := 114) hx hb dX8_take_95 (by decide) ?_
            refine lv_iconst (v := 1) hx hb dX8_take_114 (by decide) ?_
            refine lv_goto (tgt := 119) hx hb dX8_take_115 (by decide) ?_
            refine lv_istore (lv' := [(6, .int 1), (9, .int (tm p1 p2 p3 p4 0)), (8, .int p1), (0, .ref h0), (1, .int p1), (2, .int p2), (3, .int p3), (4, .int p4), (5, .int 1), (7, .int 0)]) hx hb dX8_take_119 hl (by decide) rfl (fun ls hl => ?_)
            refine lv_iinc (v := 1) (lv' := [(7, .int 1), (6, .int 1), (9, .int (tm p1 p2 p3 p4 0)), (8, .int p1), (0, .ref h0), (1, .int p1), (2, .int p2), (3, .int p3), (4, .int p4), (5, .int 1)]) hx hb dX8_take_121 hl (k := 9) rfl (by decide) (by decide) rfl (fun ls hl => ?_)
            refine lv_goto (tgt := 6) hx hb dX8_take_124 (by decide) ?_
            exact ih 1 1 f_9 H locs ls (by omega) (Or.inl ⟨rfl, tk_s hI (ok_g c_13)⟩) hP hD hS (lv_sub hl [4, 5, 6, 7, 8, 9, 1, 0] rfl)
        · skip
          have hl : lv_has ls 10 [(0, .ref h0), (1, .int p1), (2, .int p2), (3, .int p3), (4, .int p4), (5, .int 1), (6, .int 0), (7, .int 0)] := hl
          refine lv_iload hx hb dX8_take_6 (lv_at hl 7 rfl) ?_
          refine lv_bipush (v := 8) hx hb dX8_take_8 (by decide) ?_
          refine lv_icmp_ge (tgt := 127) hx hb dX8_take_10 (by decide) (fun c_17 => ?_) (fun c_17 => ?_)
          · exact absurd c_17 (by decide)
          refine lv_iload hx hb dX8_take_13 (lv_at hl 7 rfl) ?_
          refine lv_iconst (v := 2) hx hb dX8_take_15 (by decide) ?_
          refine lv_icmp_ge (tgt := 23) hx hb dX8_take_16 (by decide) (fun c_18 => ?_) (fun c_18 => ?_)
          · exact absurd c_18 (by decide)
          refine lv_iload_n hx hb dX8_take_19 rfl (lv_at hl 1 rfl) ?_
          refine lv_goto (tgt := 46) hx hb dX8_take_20 (by decide) ?_
          refine lv_istore (lv' := [(8, .int p1), (0, .ref h0), (1, .int p1), (2, .int p2), (3, .int p3), (4, .int p4), (5, .int 1), (6, .int 0), (7, .int 0)]) hx hb dX8_take_46 hl (by decide) rfl (fun ls hl => ?_)
          refine lv_iload hx hb dX8_take_48 (lv_at hl 8 rfl) ?_
          refine lv_iconst (v := 2) hx hb dX8_take_50 (by decide) ?_
          refine lv_irem hx hb dX8_take_51 (by decide) ?_
          refine tvv (v := .int 0) (congrArg Value.int (by decide)) ?_
          refine lv_if_ne (tgt := 63) hx hb dX8_take_52 (by decide) (fun c_19 => ?_) (fun c_19 => ?_)
          · exact absurd c_19 (by decide)
          refine lv_iload hx hb dX8_take_55 (lv_at hl 0 rfl) ?_
          refine lv_bipush (v := 16) hx hb dX8_take_57 (by decide) ?_
          refine lv_ishr hx hb dX8_take_59 ?_
          refine lv_goto (tgt := 66) hx hb dX8_take_60 (by decide) ?_
          refine tvv (v := .int (tm p1 p2 p3 p4 0)) rfl ?_
          refine lv_istore (lv' := [(9, .int (tm p1 p2 p3 p4 0)), (8, .int p1), (0, .ref h0), (1, .int p1), (2, .int p2), (3, .int p3), (4, .int p4), (5, .int 1), (6, .int 0), (7, .int 0)]) hx hb dX8_take_66 hl (by decide) rfl (fun ls hl => ?_)
          refine lv_aload_n hx hb dX8_take_68 rfl (lv_at hl 2 rfl) ?_
          refine va_get (D := (dC, dI)) (ci := 8) (v := .ref h0_asked) (C := RX8) (T := TX8) (N := 23) hx hb hts hi8 hown hK hP 0 rfl rfl 11 (by decide) (hts (.fieldLink RX8 30 "AskTreeModel" "asked" "[I") (by decide +kernel)) (fun _ h9 => h9) rfl dX8_take_69 ?_
          refine lv_iload hx hb dX8_take_72 (lv_at hl 9 rfl) ?_
          refine lv_iload hx hb dX8_take_74 (lv_at hl 0 rfl) ?_
          refine va_iast hx hb hK hP hD hS 1 0 rfl rfl (vi _ _ (by decide)) dX8_take_76 (fun H locs hP hD hS => ?_)
          have hP : va_P (dC, dI) vwCl [(h0, .inr (8, [.ref a0_marks, .ref a0_classes, .int 0, .ref a0_isSort, .ref a0_nodes, .ref a0_many, .int 0, .ref a0_in, .int 0, .int 0, .int 0, .ref h0_asked, .ref a0_turned, .int 0, .int (-1), .int (-1), .ref a0_heap, .ref a0_heapYes, .ref a0_path, .ref a0_bestWrong, .ref a0_bestAsked, .ref a0_bestMark, .ref a0_bestV])), (h0_asked, .inl (k0_asked, 8, .inl (upd f_1 (Int32.toNatClampNeg 0) (tm p1 p2 p3 p4 0))))] H := hP
          have hD : va_D A [(h0, .inr (8, [.ref a0_marks, .ref a0_classes, .int 0, .ref a0_isSort, .ref a0_nodes, .ref a0_many, .int 0, .ref a0_in, .int 0, .int 0, .int 0, .ref h0_asked, .ref a0_turned, .int 0, .int (-1), .int (-1), .ref a0_heap, .ref a0_heapYes, .ref a0_path, .ref a0_bestWrong, .ref a0_bestAsked, .ref a0_bestMark, .ref a0_bestV])), (h0_asked, .inl (k0_asked, 8, .inl (upd f_1 (Int32.toNatClampNeg 0) (tm p1 p2 p3 p4 0))))] := hD
          generalize hf_21 : upd f_1 (Int32.toNatClampNeg 0) (tm p1 p2 p3 p4 0) = f_20 at hP hD
          have hk_22 : f_20 0 = (tm p1 p2 p3 p4 0) := by rw [← hf_21]; exact up_s (by decide)
          clear hf_21
          refine lv_iload hx hb dX8_take_77 (lv_at hl 8 rfl) ?_
          refine lv_if_eq (tgt := 118) hx hb dX8_take_79 (by decide) (fun c_23 => ?_) (fun c_23 => ?_)
          rotate_left
          · exact absurd c_23 (by decide)
          refine lv_iconst (v := 0) hx hb dX8_take_118 (by decide) ?_
          refine lv_istore (lv' := [(6, .int 0), (9, .int (tm p1 p2 p3 p4 0)), (8, .int p1), (0, .ref h0), (1, .int p1), (2, .int p2), (3, .int p3), (4, .int p4), (5, .int 1), (7, .int 0)]) hx hb dX8_take_119 hl (by decide) rfl (fun ls hl => ?_)
          refine lv_iinc (v := 1) (lv' := [(7, .int 1), (6, .int 0), (9, .int (tm p1 p2 p3 p4 0)), (8, .int p1), (0, .ref h0), (1, .int p1), (2, .int p2), (3, .int p3), (4, .int p4), (5, .int 1)]) hx hb dX8_take_121 hl (k := 9) rfl (by decide) (by decide) rfl (fun ls hl => ?_)
          refine lv_goto (tgt := 6) hx hb dX8_take_124 (by decide) ?_
          exact ih 1 0 f_20 H locs ls (by omega) (Or.inr ⟨rfl, tk_n hI⟩) hP hD hS (lv_sub hl [4, 5, 6, 7, 8, 9, 1, 0] rfl)
      · skip
        rcases hI with ⟨rfl, hI⟩ | ⟨rfl, hI⟩
        · skip
          have hl : lv_has ls 10 [(0, .ref h0), (1, .int p1), (2, .int p2), (3, .int p3), (4, .int p4), (5, .int 1), (6, .int 1), (7, .int 1)] := hl
          refine lv_iload hx hb dX8_take_6 (lv_at hl 7 rfl) ?_
          refine lv_bipush (v := 8) hx hb dX8_take_8 (by decide) ?_
          refine lv_icmp_ge (tgt := 127) hx hb dX8_take_10 (by decide) (fun c_24 => ?_) (fun c_24 => ?_)
          · exact absurd c_24 (by decide)
          refine lv_iload hx hb dX8_take_13 (lv_at hl 7 rfl) ?_
          refine lv_iconst (v := 2) hx hb dX8_take_15 (by decide) ?_
          refine lv_icmp_ge (tgt := 23) hx hb dX8_take_16 (by decide) (fun c_25 => ?_) (fun c_25 => ?_)
          · exact absurd c_25 (by decide)
          refine lv_iload_n hx hb dX8_take_19 rfl (lv_at hl 1 rfl) ?_
          refine lv_goto (tgt := 46) hx hb dX8_take_20 (by decide) ?_
          refine lv_istore (lv' := [(8, .int p1), (0, .ref h0), (1, .int p1), (2, .int p2), (3, .int p3), (4, .int p4), (5, .int 1), (6, .int 1), (7, .int 1)]) hx hb dX8_take_46 hl (by decide) rfl (fun ls hl => ?_)
          refine lv_iload hx hb dX8_take_48 (lv_at hl 8 rfl) ?_
          refine lv_iconst (v := 2) hx hb dX8_take_50 (by decide) ?_
          refine lv_irem hx hb dX8_take_51 (by decide) ?_
          refine tvv (v := .int 1) (congrArg Value.int (by decide)) ?_
          refine lv_if_ne (tgt := 63) hx hb dX8_take_52 (by decide) (fun c_26 => ?_) (fun c_26 => ?_)
          rotate_left
          · exact absurd c_26 (by decide)
          refine lv_iload hx hb dX8_take_63 (lv_at hl 0 rfl) ?_
          refine lv_i2s (v := (p1).toInt16.toInt32) hx hb dX8_take_65 rfl ?_
          refine tvv (v := .int (tm p1 p2 p3 p4 1)) rfl ?_
          refine lv_istore (lv' := [(9, .int (tm p1 p2 p3 p4 1)), (8, .int p1), (0, .ref h0), (1, .int p1), (2, .int p2), (3, .int p3), (4, .int p4), (5, .int 1), (6, .int 1), (7, .int 1)]) hx hb dX8_take_66 hl (by decide) rfl (fun ls hl => ?_)
          refine lv_aload_n hx hb dX8_take_68 rfl (lv_at hl 2 rfl) ?_
          refine va_get (D := (dC, dI)) (ci := 8) (v := .ref h0_asked) (C := RX8) (T := TX8) (N := 23) hx hb hts hi8 hown hK hP 0 rfl rfl 11 (by decide) (hts (.fieldLink RX8 30 "AskTreeModel" "asked" "[I") (by decide +kernel)) (fun _ h9 => h9) rfl dX8_take_69 ?_
          refine lv_iload hx hb dX8_take_72 (lv_at hl 9 rfl) ?_
          refine lv_iload hx hb dX8_take_74 (lv_at hl 0 rfl) ?_
          refine va_iast hx hb hK hP hD hS 1 0 rfl rfl (vi _ _ (by decide)) dX8_take_76 (fun H locs hP hD hS => ?_)
          have hP : va_P (dC, dI) vwCl [(h0, .inr (8, [.ref a0_marks, .ref a0_classes, .int 0, .ref a0_isSort, .ref a0_nodes, .ref a0_many, .int 0, .ref a0_in, .int 0, .int 0, .int 0, .ref h0_asked, .ref a0_turned, .int 0, .int (-1), .int (-1), .ref a0_heap, .ref a0_heapYes, .ref a0_path, .ref a0_bestWrong, .ref a0_bestAsked, .ref a0_bestMark, .ref a0_bestV])), (h0_asked, .inl (k0_asked, 8, .inl (upd f_1 (Int32.toNatClampNeg 1) (tm p1 p2 p3 p4 1))))] H := hP
          have hD : va_D A [(h0, .inr (8, [.ref a0_marks, .ref a0_classes, .int 0, .ref a0_isSort, .ref a0_nodes, .ref a0_many, .int 0, .ref a0_in, .int 0, .int 0, .int 0, .ref h0_asked, .ref a0_turned, .int 0, .int (-1), .int (-1), .ref a0_heap, .ref a0_heapYes, .ref a0_path, .ref a0_bestWrong, .ref a0_bestAsked, .ref a0_bestMark, .ref a0_bestV])), (h0_asked, .inl (k0_asked, 8, .inl (upd f_1 (Int32.toNatClampNeg 1) (tm p1 p2 p3 p4 1))))] := hD
          generalize hf_28 : upd f_1 (Int32.toNatClampNeg 1) (tm p1 p2 p3 p4 1) = f_27 at hP hD
          have hk_29 : f_27 1 = (tm p1 p2 p3 p4 1) := by rw [← hf_28]; exact up_s (by decide)
          clear hf_28
          refine lv_iload hx hb dX8_take_77 (lv_at hl 8 rfl) ?_
          refine lv_if_eq (tgt := 118) hx hb dX8_take_79 (by decide) (fun c_30 => ?_) (fun c_30 => ?_)
          · exact absurd c_30 (by decide)
          refine lv_iload hx hb dX8_take_82 (lv_at hl 0 rfl) ?_
          refine lv_sipush (v := (-32768)) hx hb dX8_take_84 (by decide) ?_
          refine lv_icmp_ne (tgt := 98) hx hb dX8_take_87 (by decide) (fun c_31 => ?_) (fun c_31 => ?_)
          · skip
            refine lv_iload hx hb dX8_take_98 (lv_at hl 0 rfl) ?_
            refine lv_sipush (v := (-1000)) hx hb dX8_take_100 (by decide) ?_
            refine lv_icmp_lt (tgt := 118) hx hb dX8_take_103 (by decide) (fun c_32 => ?_) (fun c_32 => ?_)
            · skip
              refine lv_iconst (v := 0) hx hb dX8_take_118 (by decide) ?_
              refine lv_istore (lv' := [(6, .int 0), (9, .int (tm p1 p2 p3 p4 1)), (8, .int p1), (0, .ref h0), (1, .int p1), (2, .int p2), (3, .int p3), (4, .int p4), (5, .int 1), (7, .int 1)]) hx hb dX8_take_119 hl (by decide) rfl (fun ls hl => ?_)
              refine lv_iinc (v := 2) (lv' := [(7, .int 2), (6, .int 0), (9, .int (tm p1 p2 p3 p4 1)), (8, .int p1), (0, .ref h0), (1, .int p1), (2, .int p2), (3, .int p3), (4, .int p4), (5, .int 1)]) hx hb dX8_take_121 hl (k := 9) rfl (by decide) (by decide) rfl (fun ls hl => ?_)
              refine lv_goto (tgt := 6) hx hb dX8_take_124 (by decide) ?_
              exact ih 2 0 f_27 H locs ls (by omega) (Or.inr ⟨rfl, tk_b (no_l c_32 c_31)⟩) hP hD hS (lv_sub hl [4, 5, 6, 7, 8, 9, 1, 0] rfl)
            · skip
              refine lv_iload hx hb dX8_take_106 (lv_at hl 0 rfl) ?_
              refine lv_sipush (v := 1000) hx hb dX8_take_108 (by decide) ?_
              refine lv_icmp_gt (tgt := 118) hx hb dX8_take_111 (by decide) (fun c_33 => ?_) (fun c_33 => ?_)
              · skip
                refine lv_iconst (v := 0) hx hb dX8_take_118 (by decide) ?_
                refine lv_istore (lv' := [(6, .int 0), (9, .int (tm p1 p2 p3 p4 1)), (8, .int p1), (0, .ref h0), (1, .int p1), (2, .int p2), (3, .int p3), (4, .int p4), (5, .int 1), (7, .int 1)]) hx hb dX8_take_119 hl (by decide) rfl (fun ls hl => ?_)
                refine lv_iinc (v := 2) (lv' := [(7, .int 2), (6, .int 0), (9, .int (tm p1 p2 p3 p4 1)), (8, .int p1), (0, .ref h0), (1, .int p1), (2, .int p2), (3, .int p3), (4, .int p4), (5, .int 1)]) hx hb dX8_take_121 hl (k := 9) rfl (by decide) (by decide) rfl (fun ls hl => ?_)
                refine lv_goto (tgt := 6) hx hb dX8_take_124 (by decide) ?_
                exact ih 2 0 f_27 H locs ls (by omega) (Or.inr ⟨rfl, tk_b (no_H c_33)⟩) hP hD hS (lv_sub hl [4, 5, 6, 7, 8, 9, 1, 0] rfl)
              · skip
                refine lv_iconst (v := 1) hx hb dX8_take_114 (by decide) ?_
                refine lv_goto (tgt := 119) hx hb dX8_take_115 (by decide) ?_
                refine lv_istore (lv' := [(6, .int 1), (9, .int (tm p1 p2 p3 p4 1)), (8, .int p1), (0, .ref h0), (1, .int p1), (2, .int p2), (3, .int p3), (4, .int p4), (5, .int 1), (7, .int 1)]) hx hb dX8_take_119 hl (by decide) rfl (fun ls hl => ?_)
                refine lv_iinc (v := 2) (lv' := [(7, .int 2), (6, .int 1), (9, .int (tm p1 p2 p3 p4 1)), (8, .int p1), (0, .ref h0), (1, .int p1), (2, .int p2), (3, .int p3), (4, .int p4), (5, .int 1)]) hx hb dX8_take_121 hl (k := 9) rfl (by decide) (by decide) rfl (fun ls hl => ?_)
                refine lv_goto (tgt := 6) hx hb dX8_take_124 (by decide) ?_
                exact ih 2 1 f_27 H locs ls (by omega) (Or.inl ⟨rfl, tk_s hI (ok_n c_32 c_33)⟩) hP hD hS (lv_sub hl [4, 5, 6, 7, 8, 9, 1, 0] rfl)
          · skip
            refine lv_iload hx hb dX8_take_90 (lv_at hl 7 rfl) ?_
            refine lv_if_eq (tgt := 118) hx hb dX8_take_92 (by decide) (fun c_34 => ?_) (fun c_34 => ?_)
            · exact absurd c_34 (by decide)
            refine lv_goto (tgt := 114) hx hb dX8_take_95 (by decide) ?_
            refine lv_iconst (v := 1) hx hb dX8_take_114 (by decide) ?_
            refine lv_goto (tgt := 119) hx hb dX8_take_115 (by decide) ?_
            refine lv_istore (lv' := [(6, .int 1), (9, .int (tm p1 p2 p3 p4 1)), (8, .int p1), (0, .ref h0), (1, .int p1), (2, .int p2), (3, .int p3), (4, .int p4), (5, .int 1), (7, .int 1)]) hx hb dX8_take_119 hl (by decide) rfl (fun ls hl => ?_)
            refine lv_iinc (v := 2) (lv' := [(7, .int 2), (6, .int 1), (9, .int (tm p1 p2 p3 p4 1)), (8, .int p1), (0, .ref h0), (1, .int p1), (2, .int p2), (3, .int p3), (4, .int p4), (5, .int 1)]) hx hb dX8_take_121 hl (k := 9) rfl (by decide) (by decide) rfl (fun ls hl => ?_)
            refine lv_goto (tgt := 6) hx hb dX8_take_124 (by decide) ?_
            exact ih 2 1 f_27 H locs ls (by omega) (Or.inl ⟨rfl, tk_s hI (ok_g c_31)⟩) hP hD hS (lv_sub hl [4, 5, 6, 7, 8, 9, 1, 0] rfl)
        · skip
          have hl : lv_has ls 10 [(0, .ref h0), (1, .int p1), (2, .int p2), (3, .int p3), (4, .int p4), (5, .int 1), (6, .int 0), (7, .int 1)] := hl
          refine lv_iload hx hb dX8_take_6 (lv_at hl 7 rfl) ?_
          refine lv_bipush (v := 8) hx hb dX8_take_8 (by decide) ?_
          refine lv_icmp_ge (tgt := 127) hx hb dX8_take_10 (by decide) (fun c_35 => ?_) (fun c_35 => ?_)
          · exact absurd c_35 (by decide)
          refine lv_iload hx hb dX8_take_13 (lv_at hl 7 rfl) ?_
          refine lv_iconst (v := 2) hx hb dX8_take_15 (by decide) ?_
          refine lv_icmp_ge (tgt := 23) hx hb dX8_take_16 (by decide) (fun c_36 => ?_) (fun c_36 => ?_)
          · exact absurd c_36 (by decide)
          refine lv_iload_n hx hb dX8_take_19 rfl (lv_at hl 1 rfl) ?_
          refine lv_goto (tgt := 46) hx hb dX8_take_20 (by decide) ?_
          refine lv_istore (lv' := [(8, .int p1), (0, .ref h0), (1, .int p1), (2, .int p2), (3, .int p3), (4, .int p4), (5, .int 1), (6, .int 0), (7, .int 1)]) hx hb dX8_take_46 hl (by decide) rfl (fun ls hl => ?_)
          refine lv_iload hx hb dX8_take_48 (lv_at hl 8 rfl) ?_
          refine lv_iconst (v := 2) hx hb dX8_take_50 (by decide) ?_
          refine lv_irem hx hb dX8_take_51 (by decide) ?_
          refine tvv (v := .int 1) (congrArg Value.int (by decide)) ?_
          refine lv_if_ne (tgt := 63) hx hb dX8_take_52 (by decide) (fun c_37 => ?_) (fun c_37 => ?_)
          rotate_left
          · exact absurd c_37 (by decide)
          refine lv_iload hx hb dX8_take_63 (lv_at hl 0 rfl) ?_
          refine lv_i2s (v := (p1).toInt16.toInt32) hx hb dX8_take_65 rfl ?_
          refine tvv (v := .int (tm p1 p2 p3 p4 1)) rfl ?_
          refine lv_istore (lv' := [(9, .int (tm p1 p2 p3 p4 1)), (8, .int p1), (0, .ref h0), (1, .int p1), (2, .int p2), (3, .int p3), (4, .int p4), (5, .int 1), (6, .int 0), (7, .int 1)]) hx hb dX8_take_66 hl (by decide) rfl (fun ls hl => ?_)
          refine lv_aload_n hx hb dX8_take_68 rfl (lv_at hl 2 rfl) ?_
          refine va_get (D := (dC, dI)) (ci := 8) (v := .ref h0_asked) (C := RX8) (T := TX8) (N := 23) hx hb hts hi8 hown hK hP 0 rfl rfl 11 (by decide) (hts (.fieldLink RX8 30 "AskTreeModel" "asked" "[I") (by decide +kernel)) (fun _ h9 => h9) rfl dX8_take_69 ?_
          refine lv_iload hx hb dX8_take_72 (lv_at hl 9 rfl) ?_
          refine lv_iload hx hb dX8_take_74 (lv_at hl 0 rfl) ?_
          refine va_iast hx hb hK hP hD hS 1 0 rfl rfl (vi _ _ (by decide)) dX8_take_76 (fun H locs hP hD hS => ?_)
          have hP : va_P (dC, dI) vwCl [(h0, .inr (8, [.ref a0_marks, .ref a0_classes, .int 0, .ref a0_isSort, .ref a0_nodes, .ref a0_many, .int 0, .ref a0_in, .int 0, .int 0, .int 0, .ref h0_asked, .ref a0_turned, .int 0, .int (-1), .int (-1), .ref a0_heap, .ref a0_heapYes, .ref a0_path, .ref a0_bestWrong, .ref a0_bestAsked, .ref a0_bestMark, .ref a0_bestV])), (h0_asked, .inl (k0_asked, 8, .inl (upd f_1 (Int32.toNatClampNeg 1) (tm p1 p2 p3 p4 1))))] H := hP
          have hD : va_D A [(h0, .inr (8, [.ref a0_marks, .ref a0_classes, .int 0, .ref a0_isSort, .ref a0_nodes, .ref a0_many, .int 0, .ref a0_in, .int 0, .int 0, .int 0, .ref h0_asked, .ref a0_turned, .int 0, .int (-1), .int (-1), .ref a0_heap, .ref a0_heapYes, .ref a0_path, .ref a0_bestWrong, .ref a0_bestAsked, .ref a0_bestMark, .ref a0_bestV])), (h0_asked, .inl (k0_asked, 8, .inl (upd f_1 (Int32.toNatClampNeg 1) (tm p1 p2 p3 p4 1))))] := hD
          generalize hf_39 : upd f_1 (Int32.toNatClampNeg 1) (tm p1 p2 p3 p4 1) = f_38 at hP hD
          have hk_40 : f_38 1 = (tm p1 p2 p3 p4 1) := by rw [← hf_39]; exact up_s (by decide)
          clear hf_39
          refine lv_iload hx hb dX8_take_77 (lv_at hl 8 rfl) ?_
          refine lv_if_eq (tgt := 118) hx hb dX8_take_79 (by decide) (fun c_41 => ?_) (fun c_41 => ?_)
          rotate_left
          · exact absurd c_41 (by decide)
          refine lv_iconst (v := 0) hx hb dX8_take_118 (by decide) ?_
          refine lv_istore (lv' := [(6, .int 0), (9, .int (tm p1 p2 p3 p4 1)), (8, .int p1), (0, .ref h0), (1, .int p1), (2, .int p2), (3, .int p3), (4, .int p4), (5, .int 1), (7, .int 1)]) hx hb dX8_take_119 hl (by decide) rfl (fun ls hl => ?_)
          refine lv_iinc (v := 2) (lv' := [(7, .int 2), (6, .int 0), (9, .int (tm p1 p2 p3 p4 1)), (8, .int p1), (0, .ref h0), (1, .int p1), (2, .int p2), (3, .int p3), (4, .int p4), (5, .int 1)]) hx hb dX8_take_121 hl (k := 9) rfl (by decide) (by decide) rfl (fun ls hl => ?_)
          refine lv_goto (tgt := 6) hx hb dX8_take_124 (by decide) ?_
          exact ih 2 0 f_38 H locs ls (by omega) (Or.inr ⟨rfl, tk_n hI⟩) hP hD hS (lv_sub hl [4, 5, 6, 7, 8, 9, 1, 0] rfl)
      · skip
        rcases hI with ⟨rfl, hI⟩ | ⟨rfl, hI⟩
        · skip
          have hl : lv_has ls 10 [(0, .ref h0), (1, .int p1), (2, .int p2), (3, .int p3), (4, .int p4), (5, .int 1), (6, .int 1), (7, .int 2)] := hl
          refine lv_iload hx hb dX8_take_6 (lv_at hl 7 rfl) ?_
          refine lv_bipush (v := 8) hx hb dX8_take_8 (by decide) ?_
          refine lv_icmp_ge (tgt := 127) hx hb dX8_take_10 (by decide) (fun c_42 => ?_) (fun c_42 => ?_)
          · exact absurd c_42 (by decide)
          refine lv_iload hx hb dX8_take_13 (lv_at hl 7 rfl) ?_
          refine lv_iconst (v := 2) hx hb dX8_take_15 (by decide) ?_
          refine lv_icmp_ge (tgt := 23) hx hb dX8_take_16 (by decide) (fun c_43 => ?_) (fun c_43 => ?_)
          rotate_left
          · exact absurd c_43 (by decide)
          refine lv_iload hx hb dX8_take_23 (lv_at hl 7 rfl) ?_
          refine lv_iconst (v := 4) hx hb dX8_take_25 (by decide) ?_
          refine lv_icmp_ge (tgt := 33) hx hb dX8_take_26 (by decide) (fun c_44 => ?_) (fun c_44 => ?_)
          · exact absurd c_44 (by decide)
          refine lv_iload_n hx hb dX8_take_29 rfl (lv_at hl 2 rfl) ?_
          refine lv_goto (tgt := 46) hx hb dX8_take_30 (by decide) ?_
          refine lv_istore (lv' := [(8, .int p2), (0, .ref h0), (1, .int p1), (2, .int p2), (3, .int p3), (4, .int p4), (5, .int 1), (6, .int 1), (7, .int 2)]) hx hb dX8_take_46 hl (by decide) rfl (fun ls hl => ?_)
          refine lv_iload hx hb dX8_take_48 (lv_at hl 8 rfl) ?_
          refine lv_iconst (v := 2) hx hb dX8_take_50 (by decide) ?_
          refine lv_irem hx hb dX8_take_51 (by decide) ?_
          refine tvv (v := .int 0) (congrArg Value.int (by decide)) ?_
          refine lv_if_ne (tgt := 63) hx hb dX8_take_52 (by decide) (fun c_45 => ?_) (fun c_45 => ?_)
          · exact absurd c_45 (by decide)
          refine lv_iload hx hb dX8_take_55 (lv_at hl 0 rfl) ?_
          refine lv_bipush (v := 16) hx hb dX8_take_57 (by decide) ?_
          refine lv_ishr hx hb dX8_take_59 ?_
          refine lv_goto (tgt := 66) hx hb dX8_take_60 (by decide) ?_
          refine tvv (v := .int (tm p1 p2 p3 p4 2)) rfl ?_
          refine lv_istore (lv' := [(9, .int (tm p1 p2 p3 p4 2)), (8, .int p2), (0, .ref h0), (1, .int p1), (2, .int p2), (3, .int p3), (4, .int p4), (5, .int 1), (6, .int 1), (7, .int 2)]) hx hb dX8_take_66 hl (by decide) rfl (fun ls hl => ?_)
          refine lv_aload_n hx hb dX8_take_68 rfl (lv_at hl 2 rfl) ?_
          refine va_get (D := (dC, dI)) (ci := 8) (v := .ref h0_asked) (C := RX8) (T := TX8) (N := 23) hx hb hts hi8 hown hK hP 0 rfl rfl 11 (by decide) (hts (.fieldLink RX8 30 "AskTreeModel" "asked" "[I") (by decide +kernel)) (fun _ h9 => h9) rfl dX8_take_69 ?_
          refine lv_iload hx hb dX8_take_72 (lv_at hl 9 rfl) ?_
          refine lv_iload hx hb dX8_take_74 (lv_at hl 0 rfl) ?_
          refine va_iast hx hb hK hP hD hS 1 0 rfl rfl (vi _ _ (by decide)) dX8_take_76 (fun H locs hP hD hS => ?_)
          have hP : va_P (dC, dI) vwCl [(h0, .inr (8, [.ref a0_marks, .ref a0_classes, .int 0, .ref a0_isSort, .ref a0_nodes, .ref a0_many, .int 0, .ref a0_in, .int 0, .int 0, .int 0, .ref h0_asked, .ref a0_turned, .int 0, .int (-1), .int (-1), .ref a0_heap, .ref a0_heapYes, .ref a0_path, .ref a0_bestWrong, .ref a0_bestAsked, .ref a0_bestMark, .ref a0_bestV])), (h0_asked, .inl (k0_asked, 8, .inl (upd f_1 (Int32.toNatClampNeg 2) (tm p1 p2 p3 p4 2))))] H := hP
          have hD : va_D A [(h0, .inr (8, [.ref a0_marks, .ref a0_classes, .int 0, .ref a0_isSort, .ref a0_nodes, .ref a0_many, .int 0, .ref a0_in, .int 0, .int 0, .int 0, .ref h0_asked, .ref a0_turned, .int 0, .int (-1), .int (-1), .ref a0_heap, .ref a0_heapYes, .ref a0_path, .ref a0_bestWrong, .ref a0_bestAsked, .ref a0_bestMark, .ref a0_bestV])), (h0_asked, .inl (k0_asked, 8, .inl (upd f_1 (Int32.toNatClampNeg 2) (tm p1 p2 p3 p4 2))))] := hD
          generalize hf_47 : upd f_1 (Int32.toNatClampNeg 2) (tm p1 p2 p3 p4 2) = f_46 at hP hD
          have hk_48 : f_46 2 = (tm p1 p2 p3 p4 2) := by rw [← hf_47]; exact up_s (by decide)
          clear hf_47
          refine lv_iload hx hb dX8_take_77 (lv_at hl 8 rfl) ?_
          refine lv_if_eq (tgt := 118) hx hb dX8_take_79 (by decide) (fun c_49 => ?_) (fun c_49 => ?_)
          · exact absurd c_49 (by decide)
          refine lv_iload hx hb dX8_take_82 (lv_at hl 0 rfl) ?_
          refine lv_sipush (v := (-32768)) hx hb dX8_take_84 (by decide) ?_
          refine lv_icmp_ne (tgt := 98) hx hb dX8_take_87 (by decide) (fun c_50 => ?_) (fun c_50 => ?_)
          · skip
            refine lv_iload hx hb dX8_take_98 (lv_at hl 0 rfl) ?_
            refine lv_sipush (v := (-1000)) hx hb dX8_take_100 (by decide) ?_
            refine lv_icmp_lt (tgt := 118) hx hb dX8_take_103 (by decide) (fun c_51 => ?_) (fun c_51 => ?_)
            · skip
              refine lv_iconst (v := 0) hx hb dX8_take_118 (by decide) ?_
              refine lv_istore (lv' := [(6, .int 0), (9, .int (tm p1 p2 p3 p4 2)), (8, .int p2), (0, .ref h0), (1, .int p1), (2, .int p2), (3, .int p3), (4, .int p4), (5, .int 1), (7, .int 2)]) hx hb dX8_take_119 hl (by decide) rfl (fun ls hl => ?_)
              refine lv_iinc (v := 3) (lv' := [(7, .int 3), (6, .int 0), (9, .int (tm p1 p2 p3 p4 2)), (8, .int p2), (0, .ref h0), (1, .int p1), (2, .int p2), (3, .int p3), (4, .int p4), (5, .int 1)]) hx hb dX8_take_121 hl (k := 9) rfl (by decide) (by decide) rfl (fun ls hl => ?_)
              refine lv_goto (tgt := 6) hx hb dX8_take_124 (by decide) ?_
              exact ih 3 0 f_46 H locs ls (by omega) (Or.inr ⟨rfl, tk_b (no_l c_51 c_50)⟩) hP hD hS (lv_sub hl [4, 5, 6, 7, 8, 9, 1, 0] rfl)
            · skip
              refine lv_iload hx hb dX8_take_106 (lv_at hl 0 rfl) ?_
              refine lv_sipush (v := 1000) hx hb dX8_take_108 (by decide) ?_
              refine lv_icmp_gt (tgt := 118) hx hb dX8_take_111 (by decide) (fun c_52 => ?_) (fun c_52 => ?_)
              · skip
                refine lv_iconst (v := 0) hx hb dX8_take_118 (by decide) ?_
                refine lv_istore (lv' := [(6, .int 0), (9, .int (tm p1 p2 p3 p4 2)), (8, .int p2), (0, .ref h0), (1, .int p1), (2, .int p2), (3, .int p3), (4, .int p4), (5, .int 1), (7, .int 2)]) hx hb dX8_take_119 hl (by decide) rfl (fun ls hl => ?_)
                refine lv_iinc (v := 3) (lv' := [(7, .int 3), (6, .int 0), (9, .int (tm p1 p2 p3 p4 2)), (8, .int p2), (0, .ref h0), (1, .int p1), (2, .int p2), (3, .int p3), (4, .int p4), (5, .int 1)]) hx hb dX8_take_121 hl (k := 9) rfl (by decide) (by decide) rfl (fun ls hl => ?_)
                refine lv_goto (tgt := 6) hx hb dX8_take_124 (by decide) ?_
                exact ih 3 0 f_46 H locs ls (by omega) (Or.inr ⟨rfl, tk_b (no_H c_52)⟩) hP hD hS (lv_sub hl [4, 5, 6, 7, 8, 9, 1, 0] rfl)
              · skip
                refine lv_iconst (v := 1) hx hb dX8_take_114 (by decide) ?_
                refine lv_goto (tgt := 119) hx hb dX8_take_115 (by decide) ?_
                refine lv_istore (lv' := [(6, .int 1), (9, .int (tm p1 p2 p3 p4 2)), (8, .int p2), (0, .ref h0), (1, .int p1), (2, .int p2), (3, .int p3), (4, .int p4), (5, .int 1), (7, .int 2)]) hx hb dX8_take_119 hl (by decide) rfl (fun ls hl => ?_)
                refine lv_iinc (v := 3) (lv' := [(7, .int 3), (6, .int 1), (9, .int (tm p1 p2 p3 p4 2)), (8, .int p2), (0, .ref h0), (1, .int p1), (2, .int p2), (3, .int p3), (4, .int p4), (5, .int 1)]) hx hb dX8_take_121 hl (k := 9) rfl (by decide) (by decide) rfl (fun ls hl => ?_)
                refine lv_goto (tgt := 6) hx hb dX8_take_124 (by decide) ?_
                exact ih 3 1 f_46 H locs ls (by omega) (Or.inl ⟨rfl, tk_s hI (ok_n c_51 c_52)⟩) hP hD hS (lv_sub hl [4, 5, 6, 7, 8, 9, 1, 0] rfl)
          · skip
            refine lv_iload hx hb dX8_take_90 (lv_at hl 7 rfl) ?_
            refine lv_if_eq (tgt := 118) hx hb dX8_take_92 (by decide) (fun c_53 => ?_) (fun c_53 => ?_)
            · exact absurd c_53 (by decide)
            refine lv_goto (tgt := 114) hx hb dX8_take_95 (by decide) ?_
            refine lv_iconst (v := 1) hx hb dX8_take_114 (by decide) ?_
            refine lv_goto (tgt := 119) hx hb dX8_take_115 (by decide) ?_
            refine lv_istore (lv' := [(6, .int 1), (9, .int (tm p1 p2 p3 p4 2)), (8, .int p2), (0, .ref h0), (1, .int p1), (2, .int p2), (3, .int p3), (4, .int p4), (5, .int 1), (7, .int 2)]) hx hb dX8_take_119 hl (by decide) rfl (fun ls hl => ?_)
            refine lv_iinc (v := 3) (lv' := [(7, .int 3), (6, .int 1), (9, .int (tm p1 p2 p3 p4 2)), (8, .int p2), (0, .ref h0), (1, .int p1), (2, .int p2), (3, .int p3), (4, .int p4), (5, .int 1)]) hx hb dX8_take_121 hl (k := 9) rfl (by decide) (by decide) rfl (fun ls hl => ?_)
            refine lv_goto (tgt := 6) hx hb dX8_take_124 (by decide) ?_
            exact ih 3 1 f_46 H locs ls (by omega) (Or.inl ⟨rfl, tk_s hI (ok_g c_50)⟩) hP hD hS (lv_sub hl [4, 5, 6, 7, 8, 9, 1, 0] rfl)
        · skip
          have hl : lv_has ls 10 [(0, .ref h0), (1, .int p1), (2, .int p2), (3, .int p3), (4, .int p4), (5, .int 1), (6, .int 0), (7, .int 2)] := hl
          refine lv_iload hx hb dX8_take_6 (lv_at hl 7 rfl) ?_
          refine lv_bipush (v := 8) hx hb dX8_take_8 (by decide) ?_
          refine lv_icmp_ge (tgt := 127) hx hb dX8_take_10 (by decide) (fun c_54 => ?_) (fun c_54 => ?_)
          · exact absurd c_54 (by decide)
          refine lv_iload hx hb dX8_take_13 (lv_at hl 7 rfl) ?_
          refine lv_iconst (v := 2) hx hb dX8_take_15 (by decide) ?_
          refine lv_icmp_ge (tgt := 23) hx hb dX8_take_16 (by decide) (fun c_55 => ?_) (fun c_55 => ?_)
          rotate_left
          · exact absurd c_55 (by decide)
          refine lv_iload hx hb dX8_take_23 (lv_at hl 7 rfl) ?_
          refine lv_iconst (v := 4) hx hb dX8_take_25 (by decide) ?_
          refine lv_icmp_ge (tgt := 33) hx hb dX8_take_26 (by decide) (fun c_56 => ?_) (fun c_56 => ?_)
          · exact absurd c_56 (by decide)
          refine lv_iload_n hx hb dX8_take_29 rfl (lv_at hl 2 rfl) ?_
          refine lv_goto (tgt := 46) hx hb dX8_take_30 (by decide) ?_
          refine lv_istore (lv' := [(8, .int p2), (0, .ref h0), (1, .int p1), (2, .int p2), (3, .int p3), (4, .int p4), (5, .int 1), (6, .int 0), (7, .int 2)]) hx hb dX8_take_46 hl (by decide) rfl (fun ls hl => ?_)
          refine lv_iload hx hb dX8_take_48 (lv_at hl 8 rfl) ?_
          refine lv_iconst (v := 2) hx hb dX8_take_50 (by decide) ?_
          refine lv_irem hx hb dX8_take_51 (by decide) ?_
          refine tvv (v := .int 0) (congrArg Value.int (by decide)) ?_
          refine lv_if_ne (tgt := 63) hx hb dX8_take_52 (by decide) (fun c_57 => ?_) (fun c_57 => ?_)
          · exact absurd c_57 (by decide)
          refine lv_iload hx hb dX8_take_55 (lv_at hl 0 rfl) ?_
          refine lv_bipush (v := 16) hx hb dX8_take_57 (by decide) ?_
          refine lv_ishr hx hb dX8_take_59 ?_
          refine lv_goto (tgt := 66) hx hb dX8_take_60 (by decide) ?_
          refine tvv (v := .int (tm p1 p2 p3 p4 2)) rfl ?_
          refine lv_istore (lv' := [(9, .int (tm p1 p2 p3 p4 2)), (8, .int p2), (0, .ref h0), (1, .int p1), (2, .int p2), (3, .int p3), (4, .int p4), (5, .int 1), (6, .int 0), (7, .int 2)]) hx hb dX8_take_66 hl (by decide) rfl (fun ls hl => ?_)
          refine lv_aload_n hx hb dX8_take_68 rfl (lv_at hl 2 rfl) ?_
          refine va_get (D := (dC, dI)) (ci := 8) (v := .ref h0_asked) (C := RX8) (T := TX8) (N := 23) hx hb hts hi8 hown hK hP 0 rfl rfl 11 (by decide) (hts (.fieldLink RX8 30 "AskTreeModel" "asked" "[I") (by decide +kernel)) (fun _ h9 => h9) rfl dX8_take_69 ?_
          refine lv_iload hx hb dX8_take_72 (lv_at hl 9 rfl) ?_
          refine lv_iload hx hb dX8_take_74 (lv_at hl 0 rfl) ?_
          refine va_iast hx hb hK hP hD hS 1 0 rfl rfl (vi _ _ (by decide)) dX8_take_76 (fun H locs hP hD hS => ?_)
          have hP : va_P (dC, dI) vwCl [(h0, .inr (8, [.ref a0_marks, .ref a0_classes, .int 0, .ref a0_isSort, .ref a0_nodes, .ref a0_many, .int 0, .ref a0_in, .int 0, .int 0, .int 0, .ref h0_asked, .ref a0_turned, .int 0, .int (-1), .int (-1), .ref a0_heap, .ref a0_heapYes, .ref a0_path, .ref a0_bestWrong, .ref a0_bestAsked, .ref a0_bestMark, .ref a0_bestV])), (h0_asked, .inl (k0_asked, 8, .inl (upd f_1 (Int32.toNatClampNeg 2) (tm p1 p2 p3 p4 2))))] H := hP
          have hD : va_D A [(h0, .inr (8, [.ref a0_marks, .ref a0_classes, .int 0, .ref a0_isSort, .ref a0_nodes, .ref a0_many, .int 0, .ref a0_in, .int 0, .int 0, .int 0, .ref h0_asked, .ref a0_turned, .int 0, .int (-1), .int (-1), .ref a0_heap, .ref a0_heapYes, .ref a0_path, .ref a0_bestWrong, .ref a0_bestAsked, .ref a0_bestMark, .ref a0_bestV])), (h0_asked, .inl (k0_asked, 8, .inl (upd f_1 (Int32.toNatClampNeg 2) (tm p1 p2 p3 p4 2))))] := hD
          generalize hf_59 : upd f_1 (Int32.toNatClampNeg 2) (tm p1 p2 p3 p4 2) = f_58 at hP hD
          have hk_60 : f_58 2 = (tm p1 p2 p3 p4 2) := by rw [← hf_59]; exact up_s (by decide)
          clear hf_59
          refine lv_iload hx hb dX8_take_77 (lv_at hl 8 rfl) ?_
          refine lv_if_eq (tgt := 118) hx hb dX8_take_79 (by decide) (fun c_61 => ?_) (fun c_61 => ?_)
          rotate_left
          · exact absurd c_61 (by decide)
          refine lv_iconst (v := 0) hx hb dX8_take_118 (by decide) ?_
          refine lv_istore (lv' := [(6, .int 0), (9, .int (tm p1 p2 p3 p4 2)), (8, .int p2), (0, .ref h0), (1, .int p1), (2, .int p2), (3, .int p3), (4, .int p4), (5, .int 1), (7, .int 2)]) hx hb dX8_take_119 hl (by decide) rfl (fun ls hl => ?_)
          refine lv_iinc (v := 3) (lv' := [(7, .int 3), (6, .int 0), (9, .int (tm p1 p2 p3 p4 2)), (8, .int p2), (0, .ref h0), (1, .int p1), (2, .int p2), (3, .int p3), (4, .int p4), (5, .int 1)]) hx hb dX8_take_121 hl (k := 9) rfl (by decide) (by decide) rfl (fun ls hl => ?_)
          refine lv_goto (tgt := 6) hx hb dX8_take_124 (by decide) ?_
          exact ih 3 0 f_58 H locs ls (by omega) (Or.inr ⟨rfl, tk_n hI⟩) hP hD hS (lv_sub hl [4, 5, 6, 7, 8, 9, 1, 0] rfl)
      · skip
        rcases hI with ⟨rfl, hI⟩ | ⟨rfl, hI⟩
        · skip
          have hl : lv_has ls 10 [(0, .ref h0), (1, .int p1), (2, .int p2), (3, .int p3), (4, .int p4), (5, .int 1), (6, .int 1), (7, .int 3)] := hl
          refine lv_iload hx hb dX8_take_6 (lv_at hl 7 rfl) ?_
          refine lv_bipush (v := 8) hx hb dX8_take_8 (by decide) ?_
          refine lv_icmp_ge (tgt := 127) hx hb dX8_take_10 (by decide) (fun c_62 => ?_) (fun c_62 => ?_)
          · exact absurd c_62 (by decide)
          refine lv_iload hx hb dX8_take_13 (lv_at hl 7 rfl) ?_
          refine lv_iconst (v := 2) hx hb dX8_take_15 (by decide) ?_
          refine lv_icmp_ge (tgt := 23) hx hb dX8_take_16 (by decide) (fun c_63 => ?_) (fun c_63 => ?_)
          rotate_left
          · exact absurd c_63 (by decide)
          refine lv_iload hx hb dX8_take_23 (lv_at hl 7 rfl) ?_
          refine lv_iconst (v := 4) hx hb dX8_take_25 (by decide) ?_
          refine lv_icmp_ge (tgt := 33) hx hb dX8_take_26 (by decide) (fun c_64 => ?_) (fun c_64 => ?_)
          · exact absurd c_64 (by decide)
          refine lv_iload_n hx hb dX8_take_29 rfl (lv_at hl 2 rfl) ?_
          refine lv_goto (tgt := 46) hx hb dX8_take_30 (by decide) ?_
          refine lv_istore (lv' := [(8, .int p2), (0, .ref h0), (1, .int p1), (2, .int p2), (3, .int p3), (4, .int p4), (5, .int 1), (6, .int 1), (7, .int 3)]) hx hb dX8_take_46 hl (by decide) rfl (fun ls hl => ?_)
          refine lv_iload hx hb dX8_take_48 (lv_at hl 8 rfl) ?_
          refine lv_iconst (v := 2) hx hb dX8_take_50 (by decide) ?_
          refine lv_irem hx hb dX8_take_51 (by decide) ?_
          refine tvv (v := .int 1) (congrArg Value.int (by decide)) ?_
          refine lv_if_ne (tgt := 63) hx hb dX8_take_52 (by decide) (fun c_65 => ?_) (fun c_65 => ?_)
          rotate_left
          · exact absurd c_65 (by decide)
          refine lv_iload hx hb dX8_take_63 (lv_at hl 0 rfl) ?_
          refine lv_i2s (v := (p2).toInt16.toInt32) hx hb dX8_take_65 rfl ?_
          refine tvv (v := .int (tm p1 p2 p3 p4 3)) rfl ?_
          refine lv_istore (lv' := [(9, .int (tm p1 p2 p3 p4 3)), (8, .int p2), (0, .ref h0), (1, .int p1), (2, .int p2), (3, .int p3), (4, .int p4), (5, .int 1), (6, .int 1), (7, .int 3)]) hx hb dX8_take_66 hl (by decide) rfl (fun ls hl => ?_)
          refine lv_aload_n hx hb dX8_take_68 rfl (lv_at hl 2 rfl) ?_
          refine va_get (D := (dC, dI)) (ci := 8) (v := .ref h0_asked) (C := RX8) (T := TX8) (N := 23) hx hb hts hi8 hown hK hP 0 rfl rfl 11 (by decide) (hts (.fieldLink RX8 30 "AskTreeModel" "asked" "[I") (by decide +kernel)) (fun _ h9 => h9) rfl dX8_take_69 ?_
          refine lv_iload hx hb dX8_take_72 (lv_at hl 9 rfl) ?_
          refine lv_iload hx hb dX8_take_74 (lv_at hl 0 rfl) ?_
          refine va_iast hx hb hK hP hD hS 1 0 rfl rfl (vi _ _ (by decide)) dX8_take_76 (fun H locs hP hD hS => ?_)
          have hP : va_P (dC, dI) vwCl [(h0, .inr (8, [.ref a0_marks, .ref a0_classes, .int 0, .ref a0_isSort, .ref a0_nodes, .ref a0_many, .int 0, .ref a0_in, .int 0, .int 0, .int 0, .ref h0_asked, .ref a0_turned, .int 0, .int (-1), .int (-1), .ref a0_heap, .ref a0_heapYes, .ref a0_path, .ref a0_bestWrong, .ref a0_bestAsked, .ref a0_bestMark, .ref a0_bestV])), (h0_asked, .inl (k0_asked, 8, .inl (upd f_1 (Int32.toNatClampNeg 3) (tm p1 p2 p3 p4 3))))] H := hP
          have hD : va_D A [(h0, .inr (8, [.ref a0_marks, .ref a0_classes, .int 0, .ref a0_isSort, .ref a0_nodes, .ref a0_many, .int 0, .ref a0_in, .int 0, .int 0, .int 0, .ref h0_asked, .ref a0_turned, .int 0, .int (-1), .int (-1), .ref a0_heap, .ref a0_heapYes, .ref a0_path, .ref a0_bestWrong, .ref a0_bestAsked, .ref a0_bestMark, .ref a0_bestV])), (h0_asked, .inl (k0_asked, 8, .inl (upd f_1 (Int32.toNatClampNeg 3) (tm p1 p2 p3 p4 3))))] := hD
          generalize hf_67 : upd f_1 (Int32.toNatClampNeg 3) (tm p1 p2 p3 p4 3) = f_66 at hP hD
          have hk_68 : f_66 3 = (tm p1 p2 p3 p4 3) := by rw [← hf_67]; exact up_s (by decide)
          clear hf_67
          refine lv_iload hx hb dX8_take_77 (lv_at hl 8 rfl) ?_
          refine lv_if_eq (tgt := 118) hx hb dX8_take_79 (by decide) (fun c_69 => ?_) (fun c_69 => ?_)
          · exact absurd c_69 (by decide)
          refine lv_iload hx hb dX8_take_82 (lv_at hl 0 rfl) ?_
          refine lv_sipush (v := (-32768)) hx hb dX8_take_84 (by decide) ?_
          refine lv_icmp_ne (tgt := 98) hx hb dX8_take_87 (by decide) (fun c_70 => ?_) (fun c_70 => ?_)
          · skip
            refine lv_iload hx hb dX8_take_98 (lv_at hl 0 rfl) ?_
            refine lv_sipush (v := (-1000)) hx hb dX8_take_100 (by decide) ?_
            refine lv_icmp_lt (tgt := 118) hx hb dX8_take_103 (by decide) (fun c_71 => ?_) (fun c_71 => ?_)
            · skip
              refine lv_iconst (v := 0) hx hb dX8_take_118 (by decide) ?_
              refine lv_istore (lv' := [(6, .int 0), (9, .int (tm p1 p2 p3 p4 3)), (8, .int p2), (0, .ref h0), (1, .int p1), (2, .int p2), (3, .int p3), (4, .int p4), (5, .int 1), (7, .int 3)]) hx hb dX8_take_119 hl (by decide) rfl (fun ls hl => ?_)
              refine lv_iinc (v := 4) (lv' := [(7, .int 4), (6, .int 0), (9, .int (tm p1 p2 p3 p4 3)), (8, .int p2), (0, .ref h0), (1, .int p1), (2, .int p2), (3, .int p3), (4, .int p4), (5, .int 1)]) hx hb dX8_take_121 hl (k := 9) rfl (by decide) (by decide) rfl (fun ls hl => ?_)
              refine lv_goto (tgt := 6) hx hb dX8_take_124 (by decide) ?_
              exact ih 4 0 f_66 H locs ls (by omega) (Or.inr ⟨rfl, tk_b (no_l c_71 c_70)⟩) hP hD hS (lv_sub hl [4, 5, 6, 7, 8, 9, 1, 0] rfl)
            · skip
              refine lv_iload hx hb dX8_take_106 (lv_at hl 0 rfl) ?_
              refine lv_sipush (v := 1000) hx hb dX8_take_108 (by decide) ?_
              refine lv_icmp_gt (tgt := 118) hx hb dX8_take_111 (by decide) (fun c_72 => ?_) (fun c_72 => ?_)
              · skip
                refine lv_iconst (v := 0) hx hb dX8_take_118 (by decide) ?_
                refine lv_istore (lv' := [(6, .int 0), (9, .int (tm p1 p2 p3 p4 3)), (8, .int p2), (0, .ref h0), (1, .int p1), (2, .int p2), (3, .int p3), (4, .int p4), (5, .int 1), (7, .int 3)]) hx hb dX8_take_119 hl (by decide) rfl (fun ls hl => ?_)
                refine lv_iinc (v := 4) (lv' := [(7, .int 4), (6, .int 0), (9, .int (tm p1 p2 p3 p4 3)), (8, .int p2), (0, .ref h0), (1, .int p1), (2, .int p2), (3, .int p3), (4, .int p4), (5, .int 1)]) hx hb dX8_take_121 hl (k := 9) rfl (by decide) (by decide) rfl (fun ls hl => ?_)
                refine lv_goto (tgt := 6) hx hb dX8_take_124 (by decide) ?_
                exact ih 4 0 f_66 H locs ls (by omega) (Or.inr ⟨rfl, tk_b (no_H c_72)⟩) hP hD hS (lv_sub hl [4, 5, 6, 7, 8, 9, 1, 0] rfl)
              · skip
                refine lv_iconst (v := 1) hx hb dX8_take_114 (by decide) ?_
                refine lv_goto (tgt := 119) hx hb dX8_take_115 (by decide) ?_
                refine lv_istore (lv' := [(6, .int 1), (9, .int (tm p1 p2 p3 p4 3)), (8, .int p2), (0, .ref h0), (1, .int p1), (2, .int p2), (3, .int p3), (4, .int p4), (5, .int 1), (7, .int 3)]) hx hb dX8_take_119 hl (by decide) rfl (fun ls hl => ?_)
                refine lv_iinc (v := 4) (lv' := [(7, .int 4), (6, .int 1), (9, .int (tm p1 p2 p3 p4 3)), (8, .int p2), (0, .ref h0), (1, .int p1), (2, .int p2), (3, .int p3), (4, .int p4), (5, .int 1)]) hx hb dX8_take_121 hl (k := 9) rfl (by decide) (by decide) rfl (fun ls hl => ?_)
                refine lv_goto (tgt := 6) hx hb dX8_take_124 (by decide) ?_
                exact ih 4 1 f_66 H locs ls (by omega) (Or.inl ⟨rfl, tk_s hI (ok_n c_71 c_72)⟩) hP hD hS (lv_sub hl [4, 5, 6, 7, 8, 9, 1, 0] rfl)
          · skip
            refine lv_iload hx hb dX8_take_90 (lv_at hl 7 rfl) ?_
            refine lv_if_eq (tgt := 118) hx hb dX8_take_92 (by decide) (fun c_73 => ?_) (fun c_73 => ?_)
            · exact absurd c_73 (by decide)
            refine lv_goto (tgt := 114) hx hb dX8_take_95 (by decide) ?_
            refine lv_iconst (v := 1) hx hb dX8_take_114 (by decide) ?_
            refine lv_goto (tgt := 119) hx hb dX8_take_115 (by decide) ?_
            refine lv_istore (lv' := [(6, .int 1), (9, .int (tm p1 p2 p3 p4 3)), (8, .int p2), (0, .ref h0), (1, .int p1), (2, .int p2), (3, .int p3), (4, .int p4), (5, .int 1), (7, .int 3)]) hx hb dX8_take_119 hl (by decide) rfl (fun ls hl => ?_)
            refine lv_iinc (v := 4) (lv' := [(7, .int 4), (6, .int 1), (9, .int (tm p1 p2 p3 p4 3)), (8, .int p2), (0, .ref h0), (1, .int p1), (2, .int p2), (3, .int p3), (4, .int p4), (5, .int 1)]) hx hb dX8_take_121 hl (k := 9) rfl (by decide) (by decide) rfl (fun ls hl => ?_)
            refine lv_goto (tgt := 6) hx hb dX8_take_124 (by decide) ?_
            exact ih 4 1 f_66 H locs ls (by omega) (Or.inl ⟨rfl, tk_s hI (ok_g c_70)⟩) hP hD hS (lv_sub hl [4, 5, 6, 7, 8, 9, 1, 0] rfl)
        · skip
          have hl : lv_has ls 10 [(0, .ref h0), (1, .int p1), (2, .int p2), (3, .int p3), (4, .int p4), (5, .int 1), (6, .int 0), (7, .int 3)] := hl
          refine lv_iload hx hb dX8_take_6 (lv_at hl 7 rfl) ?_
          refine lv_bipush (v := 8) hx hb dX8_take_8 (by decide) ?_
          refine lv_icmp_ge (tgt := 127) hx hb dX8_take_10 (by decide) (fun c_74 => ?_) (fun c_74 => ?_)
          · exact absurd c_74 (by decide)
          refine lv_iload hx hb dX8_take_13 (lv_at hl 7 rfl) ?_
          refine lv_iconst (v := 2) hx hb dX8_take_15 (by decide) ?_
          refine lv_icmp_ge (tgt := 23) hx hb dX8_take_16 (by decide) (fun c_75 => ?_) (fun c_75 => ?_)
          rotate_left
          · exact absurd c_75 (by decide)
          refine lv_iload hx hb dX8_take_23 (lv_at hl 7 rfl) ?_
          refine lv_iconst (v := 4) hx hb dX8_take_25 (by decide) ?_
          refine lv_icmp_ge (tgt := 33) hx hb dX8_take_26 (by decide) (fun c_76 => ?_) (fun c_76 => ?_)
          · exact absurd c_76 (by decide)
          refine lv_iload_n hx hb dX8_take_29 rfl (lv_at hl 2 rfl) ?_
          refine lv_goto (tgt := 46) hx hb dX8_take_30 (by decide) ?_
          refine lv_istore (lv' := [(8, .int p2), (0, .ref h0), (1, .int p1), (2, .int p2), (3, .int p3), (4, .int p4), (5, .int 1), (6, .int 0), (7, .int 3)]) hx hb dX8_take_46 hl (by decide) rfl (fun ls hl => ?_)
          refine lv_iload hx hb dX8_take_48 (lv_at hl 8 rfl) ?_
          refine lv_iconst (v := 2) hx hb dX8_take_50 (by decide) ?_
          refine lv_irem hx hb dX8_take_51 (by decide) ?_
          refine tvv (v := .int 1) (congrArg Value.int (by decide)) ?_
          refine lv_if_ne (tgt := 63) hx hb dX8_take_52 (by decide) (fun c_77 => ?_) (fun c_77 => ?_)
          rotate_left
          · exact absurd c_77 (by decide)
          refine lv_iload hx hb dX8_take_63 (lv_at hl 0 rfl) ?_
          refine lv_i2s (v := (p2).toInt16.toInt32) hx hb dX8_take_65 rfl ?_
          refine tvv (v := .int (tm p1 p2 p3 p4 3)) rfl ?_
          refine lv_istore (lv' := [(9, .int (tm p1 p2 p3 p4 3)), (8, .int p2), (0, .ref h0), (1, .int p1), (2, .int p2), (3, .int p3), (4, .int p4), (5, .int 1), (6, .int 0), (7, .int 3)]) hx hb dX8_take_66 hl (by decide) rfl (fun ls hl => ?_)
          refine lv_aload_n hx hb dX8_take_68 rfl (lv_at hl 2 rfl) ?_
          refine va_get (D := (dC, dI)) (ci := 8) (v := .ref h0_asked) (C := RX8) (T := TX8) (N := 23) hx hb hts hi8 hown hK hP 0 rfl rfl 11 (by decide) (hts (.fieldLink RX8 30 "AskTreeModel" "asked" "[I") (by decide +kernel)) (fun _ h9 => h9) rfl dX8_take_69 ?_
          refine lv_iload hx hb dX8_take_72 (lv_at hl 9 rfl) ?_
          refine lv_iload hx hb dX8_take_74 (lv_at hl 0 rfl) ?_
          refine va_iast hx hb hK hP hD hS 1 0 rfl rfl (vi _ _ (by decide)) dX8_take_76 (fun H locs hP hD hS => ?_)
          have hP : va_P (dC, dI) vwCl [(h0, .inr (8, [.ref a0_marks, .ref a0_classes, .int 0, .ref a0_isSort, .ref a0_nodes, .ref a0_many, .int 0, .ref a0_in, .int 0, .int 0, .int 0, .ref h0_asked, .ref a0_turned, .int 0, .int (-1), .int (-1), .ref a0_heap, .ref a0_heapYes, .ref a0_path, .ref a0_bestWrong, .ref a0_bestAsked, .ref a0_bestMark, .ref a0_bestV])), (h0_asked, .inl (k0_asked, 8, .inl (upd f_1 (Int32.toNatClampNeg 3) (tm p1 p2 p3 p4 3))))] H := hP
          have hD : va_D A [(h0, .inr (8, [.ref a0_marks, .ref a0_classes, .int 0, .ref a0_isSort, .ref a0_nodes, .ref a0_many, .int 0, .ref a0_in, .int 0, .int 0, .int 0, .ref h0_asked, .ref a0_turned, .int 0, .int (-1), .int (-1), .ref a0_heap, .ref a0_heapYes, .ref a0_path, .ref a0_bestWrong, .ref a0_bestAsked, .ref a0_bestMark, .ref a0_bestV])), (h0_asked, .inl (k0_asked, 8, .inl (upd f_1 (Int32.toNatClampNeg 3) (tm p1 p2 p3 p4 3))))] := hD
          generalize hf_79 : upd f_1 (Int32.toNatClampNeg 3) (tm p1 p2 p3 p4 3) = f_78 at hP hD
          have hk_80 : f_78 3 = (tm p1 p2 p3 p4 3) := by rw [← hf_79]; exact up_s (by decide)
          clear hf_79
          refine lv_iload hx hb dX8_take_77 (lv_at hl 8 rfl) ?_
          refine lv_if_eq (tgt := 118) hx hb dX8_take_79 (by decide) (fun c_81 => ?_) (fun c_81 => ?_)
          rotate_left
          · exact absurd c_81 (by decide)
          refine lv_iconst (v := 0) hx hb dX8_take_118 (by decide) ?_
          refine lv_istore (lv' := [(6, .int 0), (9, .int (tm p1 p2 p3 p4 3)), (8, .int p2), (0, .ref h0), (1, .int p1), (2, .int p2), (3, .int p3), (4, .int p4), (5, .int 1), (7, .int 3)]) hx hb dX8_take_119 hl (by decide) rfl (fun ls hl => ?_)
          refine lv_iinc (v := 4) (lv' := [(7, .int 4), (6, .int 0), (9, .int (tm p1 p2 p3 p4 3)), (8, .int p2), (0, .ref h0), (1, .int p1), (2, .int p2), (3, .int p3), (4, .int p4), (5, .int 1)]) hx hb dX8_take_121 hl (k := 9) rfl (by decide) (by decide) rfl (fun ls hl => ?_)
          refine lv_goto (tgt := 6) hx hb dX8_take_124 (by decide) ?_
          exact ih 4 0 f_78 H locs ls (by omega) (Or.inr ⟨rfl, tk_n hI⟩) hP hD hS (lv_sub hl [4, 5, 6, 7, 8, 9, 1, 0] rfl)
      · skip
        rcases hI with ⟨rfl, hI⟩ | ⟨rfl, hI⟩
        · skip
          have hl : lv_has ls 10 [(0, .ref h0), (1, .int p1), (2, .int p2), (3, .int p3), (4, .int p4), (5, .int 1), (6, .int 1), (7, .int 4)] := hl
          refine lv_iload hx hb dX8_take_6 (lv_at hl 7 rfl) ?_
          refine lv_bipush (v := 8) hx hb dX8_take_8 (by decide) ?_
          refine lv_icmp_ge (tgt := 127) hx hb dX8_take_10 (by decide) (fun c_82 => ?_) (fun c_82 => ?_)
          · exact absurd c_82 (by decide)
          refine lv_iload hx hb dX8_take_13 (lv_at hl 7 rfl) ?_
          refine lv_iconst (v := 2) hx hb dX8_take_15 (by decide) ?_
          refine lv_icmp_ge (tgt := 23) hx hb dX8_take_16 (by decide) (fun c_83 => ?_) (fun c_83 => ?_)
          rotate_left
          · exact absurd c_83 (by decide)
          refine lv_iload hx hb dX8_take_23 (lv_at hl 7 rfl) ?_
          refine lv_iconst (v := 4) hx hb dX8_take_25 (by decide) ?_
          refine lv_icmp_ge (tgt := 33) hx hb dX8_take_26 (by decide) (fun c_84 => ?_) (fun c_84 => ?_)
          rotate_left
          · exact absurd c_84 (by decide)
          refine lv_iload hx hb dX8_take_33 (lv_at hl 7 rfl) ?_
          refine lv_bipush (v := 6) hx hb dX8_take_35 (by decide) ?_
          refine lv_icmp_ge (tgt := 44) hx hb dX8_take_37 (by decide) (fun c_85 => ?_) (fun c_85 => ?_)
          · exact absurd c_85 (by decide)
          refine lv_iload_n hx hb dX8_take_40 rfl (lv_at hl 3 rfl) ?_
          refine lv_goto (tgt := 46) hx hb dX8_take_41 (by decide) ?_
          refine lv_istore (lv' := [(8, .int p3), (0, .ref h0), (1, .int p1), (2, .int p2), (3, .int p3), (4, .int p4), (5, .int 1), (6, .int 1), (7, .int 4)]) hx hb dX8_take_46 hl (by decide) rfl (fun ls hl => ?_)
          refine lv_iload hx hb dX8_take_48 (lv_at hl 8 rfl) ?_
          refine lv_iconst (v := 2) hx hb dX8_take_50 (by decide) ?_
          refine lv_irem hx hb dX8_take_51 (by decide) ?_
          refine tvv (v := .int 0) (congrArg Value.int (by decide)) ?_
          refine lv_if_ne (tgt := 63) hx hb dX8_take_52 (by decide) (fun c_86 => ?_) (fun c_86 => ?_)
          · exact absurd c_86 (by decide)
          refine lv_iload hx hb dX8_take_55 (lv_at hl 0 rfl) ?_
          refine lv_bipush (v := 16) hx hb dX8_take_57 (by decide) ?_
          refine lv_ishr hx hb dX8_take_59 ?_
          refine lv_goto (tgt := 66) hx hb dX8_take_60 (by decide) ?_
          refine tvv (v := .int (tm p1 p2 p3 p4 4)) rfl ?_
          refine lv_istore (lv' := [(9, .int (tm p1 p2 p3 p4 4)), (8, .int p3), (0, .ref h0), (1, .int p1), (2, .int p2), (3, .int p3), (4, .int p4), (5, .int 1), (6, .int 1), (7, .int 4)]) hx hb dX8_take_66 hl (by decide) rfl (fun ls hl => ?_)
          refine lv_aload_n hx hb dX8_take_68 rfl (lv_at hl 2 rfl) ?_
          refine va_get (D := (dC, dI)) (ci := 8) (v := .ref h0_asked) (C := RX8) (T := TX8) (N := 23) hx hb hts hi8 hown hK hP 0 rfl rfl 11 (by decide) (hts (.fieldLink RX8 30 "AskTreeModel" "asked" "[I") (by decide +kernel)) (fun _ h9 => h9) rfl dX8_take_69 ?_
          refine lv_iload hx hb dX8_take_72 (lv_at hl 9 rfl) ?_
          refine lv_iload hx hb dX8_take_74 (lv_at hl 0 rfl) ?_
          refine va_iast hx hb hK hP hD hS 1 0 rfl rfl (vi _ _ (by decide)) dX8_take_76 (fun H locs hP hD hS => ?_)
          have hP : va_P (dC, dI) vwCl [(h0, .inr (8, [.ref a0_marks, .ref a0_classes, .int 0, .ref a0_isSort, .ref a0_nodes, .ref a0_many, .int 0, .ref a0_in, .int 0, .int 0, .int 0, .ref h0_asked, .ref a0_turned, .int 0, .int (-1), .int (-1), .ref a0_heap, .ref a0_heapYes, .ref a0_path, .ref a0_bestWrong, .ref a0_bestAsked, .ref a0_bestMark, .ref a0_bestV])), (h0_asked, .inl (k0_asked, 8, .inl (upd f_1 (Int32.toNatClampNeg 4) (tm p1 p2 p3 p4 4))))] H := hP
          have hD : va_D A [(h0, .inr (8, [.ref a0_marks, .ref a0_classes, .int 0, .ref a0_isSort, .ref a0_nodes, .ref a0_many, .int 0, .ref a0_in, .int 0, .int 0, .int 0, .ref h0_asked, .ref a0_turned, .int 0, .int (-1), .int (-1), .ref a0_heap, .ref a0_heapYes, .ref a0_path, .ref a0_bestWrong, .ref a0_bestAsked, .ref a0_bestMark, .ref a0_bestV])), (h0_asked, .inl (k0_asked, 8, .inl (upd f_1 (Int32.toNatClampNeg 4) (tm p1 p2 p3 p4 4))))] := hD
          generalize hf_88 : upd f_1 (Int32.toNatClampNeg 4) (tm p1 p2 p3 p4 4) = f_87 at hP hD
          have hk_89 : f_87 4 = (tm p1 p2 p3 p4 4) := by rw [← hf_88]; exact up_s (by decide)
          clear hf_88
          refine lv_iload hx hb dX8_take_77 (lv_at hl 8 rfl) ?_
          refine lv_if_eq (tgt := 118) hx hb dX8_take_79 (by decide) (fun c_90 => ?_) (fun c_90 => ?_)
          · exact absurd c_90 (by decide)
          refine lv_iload hx hb dX8_take_82 (lv_at hl 0 rfl) ?_
          refine lv_sipush (v := (-32768)) hx hb dX8_take_84 (by decide) ?_
          refine lv_icmp_ne (tgt := 98) hx hb dX8_take_87 (by decide) (fun c_91 => ?_) (fun c_91 => ?_)
          · skip
            refine lv_iload hx hb dX8_take_98 (lv_at hl 0 rfl) ?_
            refine lv_sipush (v := (-1000)) hx hb dX8_take_100 (by decide) ?_
            refine lv_icmp_lt (tgt := 118) hx hb dX8_take_103 (by decide) (fun c_92 => ?_) (fun c_92 => ?_)
            · skip
              refine lv_iconst (v := 0) hx hb dX8_take_118 (by decide) ?_
              refine lv_istore (lv' := [(6, .int 0), (9, .int (tm p1 p2 p3 p4 4)), (8, .int p3), (0, .ref h0), (1, .int p1), (2, .int p2), (3, .int p3), (4, .int p4), (5, .int 1), (7, .int 4)]) hx hb dX8_take_119 hl (by decide) rfl (fun ls hl => ?_)
              refine lv_iinc (v := 5) (lv' := [(7, .int 5), (6, .int 0), (9, .int (tm p1 p2 p3 p4 4)), (8, .int p3), (0, .ref h0), (1, .int p1), (2, .int p2), (3, .int p3), (4, .int p4), (5, .int 1)]) hx hb dX8_take_121 hl (k := 9) rfl (by decide) (by decide) rfl (fun ls hl => ?_)
              refine lv_goto (tgt := 6) hx hb dX8_take_124 (by decide) ?_
              exact ih 5 0 f_87 H locs ls (by omega) (Or.inr ⟨rfl, tk_b (no_l c_92 c_91)⟩) hP hD hS (lv_sub hl [4, 5, 6, 7, 8, 9, 1, 0] rfl)
            · skip
              refine lv_iload hx hb dX8_take_106 (lv_at hl 0 rfl) ?_
              refine lv_sipush (v := 1000) hx hb dX8_take_108 (by decide) ?_
              refine lv_icmp_gt (tgt := 118) hx hb dX8_take_111 (by decide) (fun c_93 => ?_) (fun c_93 => ?_)
              · skip
                refine lv_iconst (v := 0) hx hb dX8_take_118 (by decide) ?_
                refine lv_istore (lv' := [(6, .int 0), (9, .int (tm p1 p2 p3 p4 4)), (8, .int p3), (0, .ref h0), (1, .int p1), (2, .int p2), (3, .int p3), (4, .int p4), (5, .int 1), (7, .int 4)]) hx hb dX8_take_119 hl (by decide) rfl (fun ls hl => ?_)
                refine lv_iinc (v := 5) (lv' := [(7, .int 5), (6, .int 0), (9, .int (tm p1 p2 p3 p4 4)), (8, .int p3), (0, .ref h0), (1, .int p1), (2, .int p2), (3, .int p3), (4, .int p4), (5, .int 1)]) hx hb dX8_take_121 hl (k := 9) rfl (by decide) (by decide) rfl (fun ls hl => ?_)
                refine lv_goto (tgt := 6) hx hb dX8_take_124 (by decide) ?_
                exact ih 5 0 f_87 H locs ls (by omega) (Or.inr ⟨rfl, tk_b (no_H c_93)⟩) hP hD hS (lv_sub hl [4, 5, 6, 7, 8, 9, 1, 0] rfl)
              · skip
                refine lv_iconst (v := 1) hx hb dX8_take_114 (by decide) ?_
                refine lv_goto (tgt := 119) hx hb dX8_take_115 (by decide) ?_
                refine lv_istore (lv' := [(6, .int 1), (9, .int (tm p1 p2 p3 p4 4)), (8, .int p3), (0, .ref h0), (1, .int p1), (2, .int p2), (3, .int p3), (4, .int p4), (5, .int 1), (7, .int 4)]) hx hb dX8_take_119 hl (by decide) rfl (fun ls hl => ?_)
                refine lv_iinc (v := 5) (lv' := [(7, .int 5), (6, .int 1), (9, .int (tm p1 p2 p3 p4 4)), (8, .int p3), (0, .ref h0), (1, .int p1), (2, .int p2), (3, .int p3), (4, .int p4), (5, .int 1)]) hx hb dX8_take_121 hl (k := 9) rfl (by decide) (by decide) rfl (fun ls hl => ?_)
                refine lv_goto (tgt := 6) hx hb dX8_take_124 (by decide) ?_
                exact ih 5 1 f_87 H locs ls (by omega) (Or.inl ⟨rfl, tk_s hI (ok_n c_92 c_93)⟩) hP hD hS (lv_sub hl [4, 5, 6, 7, 8, 9, 1, 0] rfl)
          · skip
            refine lv_iload hx hb dX8_take_90 (lv_at hl 7 rfl) ?_
            refine lv_if_eq (tgt := 118) hx hb dX8_take_92 (by decide) (fun c_94 => ?_) (fun c_94 => ?_)
            · exact absurd c_94 (by decide)
            refine lv_goto (tgt := 114) hx hb dX8_take_95 (by decide) ?_
            refine lv_iconst (v := 1) hx hb dX8_take_114 (by decide) ?_
            refine lv_goto (tgt := 119) hx hb dX8_take_115 (by decide) ?_
            refine lv_istore (lv' := [(6, .int 1), (9, .int (tm p1 p2 p3 p4 4)), (8, .int p3), (0, .ref h0), (1, .int p1), (2, .int p2), (3, .int p3), (4, .int p4), (5, .int 1), (7, .int 4)]) hx hb dX8_take_119 hl (by decide) rfl (fun ls hl => ?_)
            refine lv_iinc (v := 5) (lv' := [(7, .int 5), (6, .int 1), (9, .int (tm p1 p2 p3 p4 4)), (8, .int p3), (0, .ref h0), (1, .int p1), (2, .int p2), (3, .int p3), (4, .int p4), (5, .int 1)]) hx hb dX8_take_121 hl (k := 9) rfl (by decide) (by decide) rfl (fun ls hl => ?_)
            refine lv_goto (tgt := 6) hx hb dX8_take_124 (by decide) ?_
            exact ih 5 1 f_87 H locs ls (by omega) (Or.inl ⟨rfl, tk_s hI (ok_g c_91)⟩) hP hD hS (lv_sub hl [4, 5, 6, 7, 8, 9, 1, 0] rfl)
        · skip
          have hl : lv_has ls 10 [(0, .ref h0), (1, .int p1), (2, .int p2), (3, .int p3), (4, .int p4), (5, .int 1), (6, .int 0), (7, .int 4)] := hl
          refine lv_iload hx hb dX8_take_6 (lv_at hl 7 rfl) ?_
          refine lv_bipush (v := 8) hx hb dX8_take_8 (by decide) ?_
          refine lv_icmp_ge (tgt := 127) hx hb dX8_take_10 (by decide) (fun c_95 => ?_) (fun c_95 => ?_)
          · exact absurd c_95 (by decide)
          refine lv_iload hx hb dX8_take_13 (lv_at hl 7 rfl) ?_
          refine lv_iconst (v := 2) hx hb dX8_take_15 (by decide) ?_
          refine lv_icmp_ge (tgt := 23) hx hb dX8_take_16 (by decide) (fun c_96 => ?_) (fun c_96 => ?_)
          rotate_left
          · exact absurd c_96 (by decide)
          refine lv_iload hx hb dX8_take_23 (lv_at hl 7 rfl) ?_
          refine lv_iconst (v := 4) hx hb dX8_take_25 (by decide) ?_
          refine lv_icmp_ge (tgt := 33) hx hb dX8_take_26 (by decide) (fun c_97 => ?_) (fun c_97 => ?_)
          rotate_left
          · exact absurd c_97 (by decide)
          refine lv_iload hx hb dX8_take_33 (lv_at hl 7 rfl) ?_
          refine lv_bipush (v := 6) hx hb dX8_take_35 (by decide) ?_
          refine lv_icmp_ge (tgt := 44) hx hb dX8_take_37 (by decide) (fun c_98 => ?_) (fun c_98 => ?_)
          · exact absurd c_98 (by decide)
          refine lv_iload_n hx hb dX8_take_40 rfl (lv_at hl 3 rfl) ?_
          refine lv_goto (tgt := 46) hx hb dX8_take_41 (by decide) ?_
          refine lv_istore (lv' := [(8, .int p3), (0, .ref h0), (1, .int p1), (2, .int p2), (3, .int p3), (4, .int p4), (5, .int 1), (6, .int 0), (7, .int 4)]) hx hb dX8_take_46 hl (by decide) rfl (fun ls hl => ?_)
          refine lv_iload hx hb dX8_take_48 (lv_at hl 8 rfl) ?_
          refine lv_iconst (v := 2) hx hb dX8_take_50 (by decide) ?_
          refine lv_irem hx hb dX8_take_51 (by decide) ?_
          refine tvv (v := .int 0) (congrArg Value.int (by decide)) ?_
          refine lv_if_ne (tgt := 63) hx hb dX8_take_52 (by decide) (fun c_99 => ?_) (fun c_99 => ?_)
          · exact absurd c_99 (by decide)
          refine lv_iload hx hb dX8_take_55 (lv_at hl 0 rfl) ?_
          refine lv_bipush (v := 16) hx hb dX8_take_57 (by decide) ?_
          refine lv_ishr hx hb dX8_take_59 ?_
          refine lv_goto (tgt := 66) hx hb dX8_take_60 (by decide) ?_
          refine tvv (v := .int (tm p1 p2 p3 p4 4)) rfl ?_
          refine lv_istore (lv' := [(9, .int (tm p1 p2 p3 p4 4)), (8, .int p3), (0, .ref h0), (1, .int p1), (2, .int p2), (3, .int p3), (4, .int p4), (5, .int 1), (6, .int 0), (7, .int 4)]) hx hb dX8_take_66 hl (by decide) rfl (fun ls hl => ?_)
          refine lv_aload_n hx hb dX8_take_68 rfl (lv_at hl 2 rfl) ?_
          refine va_get (D := (dC, dI)) (ci := 8) (v := .ref h0_asked) (C := RX8) (T := TX8) (N := 23) hx hb hts hi8 hown hK hP 0 rfl rfl 11 (by decide) (hts (.fieldLink RX8 30 "AskTreeModel" "asked" "[I") (by decide +kernel)) (fun _ h9 => h9) rfl dX8_take_69 ?_
          refine lv_iload hx hb dX8_take_72 (lv_at hl 9 rfl) ?_
          refine lv_iload hx hb dX8_take_74 (lv_at hl 0 rfl) ?_
          refine va_iast hx hb hK hP hD hS 1 0 rfl rfl (vi _ _ (by decide)) dX8_take_76 (fun H locs hP hD hS => ?_)
          have hP : va_P (dC, dI) vwCl [(h0, .inr (8, [.ref a0_marks, .ref a0_classes, .int 0, .ref a0_isSort, .ref a0_nodes, .ref a0_many, .int 0, .ref a0_in, .int 0, .int 0, .int 0, .ref h0_asked, .ref a0_turned, .int 0, .int (-1), .int (-1), .ref a0_heap, .ref a0_heapYes, .ref a0_path, .ref a0_bestWrong, .ref a0_bestAsked, .ref a0_bestMark, .ref a0_bestV])), (h0_asked, .inl (k0_asked, 8, .inl (upd f_1 (Int32.toNatClampNeg 4) (tm p1 p2 p3 p4 4))))] H := hP
          have hD : va_D A [(h0, .inr (8, [.ref a0_marks, .ref a0_classes, .int 0, .ref a0_isSort, .ref a0_nodes, .ref a0_many, .int 0, .ref a0_in, .int 0, .int 0, .int 0, .ref h0_asked, .ref a0_turned, .int 0, .int (-1), .int (-1), .ref a0_heap, .ref a0_heapYes, .ref a0_path, .ref a0_bestWrong, .ref a0_bestAsked, .ref a0_bestMark, .ref a0_bestV])), (h0_asked, .inl (k0_asked, 8, .inl (upd f_1 (Int32.toNatClampNeg 4) (tm p1 p2 p3 p4 4))))] := hD
          generalize hf_101 : upd f_1 (Int32.toNatClampNeg 4) (tm p1 p2 p3 p4 4) = f_100 at hP hD
          have hk_102 : f_100 4 = (tm p1 p2 p3 p4 4) := by rw [← hf_101]; exact up_s (by decide)
          clear hf_101
          refine lv_iload hx hb dX8_take_77 (lv_at hl 8 rfl) ?_
          refine lv_if_eq (tgt := 118) hx hb dX8_take_79 (by decide) (fun c_103 => ?_) (fun c_103 => ?_)
          rotate_left
          · exact absurd c_103 (by decide)
          refine lv_iconst (v := 0) hx hb dX8_take_118 (by decide) ?_
          refine lv_istore (lv' := [(6, .int 0), (9, .int (tm p1 p2 p3 p4 4)), (8, .int p3), (0, .ref h0), (1, .int p1), (2, .int p2), (3, .int p3), (4, .int p4), (5, .int 1), (7, .int 4)]) hx hb dX8_take_119 hl (by decide) rfl (fun ls hl => ?_)
          refine lv_iinc (v := 5) (lv' := [(7, .int 5), (6, .int 0), (9, .int (tm p1 p2 p3 p4 4)), (8, .int p3), (0, .ref h0), (1, .int p1), (2, .int p2), (3, .int p3), (4, .int p4), (5, .int 1)]) hx hb dX8_take_121 hl (k := 9) rfl (by decide) (by decide) rfl (fun ls hl => ?_)
          refine lv_goto (tgt := 6) hx hb dX8_take_124 (by decide) ?_
          exact ih 5 0 f_100 H locs ls (by omega) (Or.inr ⟨rfl, tk_n hI⟩) hP hD hS (lv_sub hl [4, 5, 6, 7, 8, 9, 1, 0] rfl)
      · skip
        rcases hI with ⟨rfl, hI⟩ | ⟨rfl, hI⟩
        · skip
          have hl : lv_has ls 10 [(0, .ref h0), (1, .int p1), (2, .int p2), (3, .int p3), (4, .int p4), (5, .int 1), (6, .int 1), (7, .int 5)] := hl
          refine lv_iload hx hb dX8_take_6 (lv_at hl 7 rfl) ?_
          refine lv_bipush (v := 8) hx hb dX8_take_8 (by decide) ?_
          refine lv_icmp_ge (tgt := 127) hx hb dX8_take_10 (by decide) (fun c_104 => ?_) (fun c_104 => ?_)
          · exact absurd c_104 (by decide)
          refine lv_iload hx hb dX8_take_13 (lv_at hl 7 rfl) ?_
          refine lv_iconst (v := 2) hx hb dX8_take_15 (by decide) ?_
          refine lv_icmp_ge (tgt := 23) hx hb dX8_take_16 (by decide) (fun c_105 => ?_) (fun c_105 => ?_)
          rotate_left
          · exact absurd c_105 (by decide)
          refine lv_iload hx hb dX8_take_23 (lv_at hl 7 rfl) ?_
          refine lv_iconst (v := 4) hx hb dX8_take_25 (by decide) ?_
          refine lv_icmp_ge (tgt := 33) hx hb dX8_take_26 (by decide) (fun c_106 => ?_) (fun c_106 => ?_)
          rotate_left
          · exact absurd c_106 (by decide)
          refine lv_iload hx hb dX8_take_33 (lv_at hl 7 rfl) ?_
          refine lv_bipush (v := 6) hx hb dX8_take_35 (by decide) ?_
          refine lv_icmp_ge (tgt := 44) hx hb dX8_take_37 (by decide) (fun c_107 => ?_) (fun c_107 => ?_)
          · exact absurd c_107 (by decide)
          refine lv_iload_n hx hb dX8_take_40 rfl (lv_at hl 3 rfl) ?_
          refine lv_goto (tgt := 46) hx hb dX8_take_41 (by decide) ?_
          refine lv_istore (lv' := [(8, .int p3), (0, .ref h0), (1, .int p1), (2, .int p2), (3, .int p3), (4, .int p4), (5, .int 1), (6, .int 1), (7, .int 5)]) hx hb dX8_take_46 hl (by decide) rfl (fun ls hl => ?_)
          refine lv_iload hx hb dX8_take_48 (lv_at hl 8 rfl) ?_
          refine lv_iconst (v := 2) hx hb dX8_take_50 (by decide) ?_
          refine lv_irem hx hb dX8_take_51 (by decide) ?_
          refine tvv (v := .int 1) (congrArg Value.int (by decide)) ?_
          refine lv_if_ne (tgt := 63) hx hb dX8_take_52 (by decide) (fun c_108 => ?_) (fun c_108 => ?_)
          rotate_left
          · exact absurd c_108 (by decide)
          refine lv_iload hx hb dX8_take_63 (lv_at hl 0 rfl) ?_
          refine lv_i2s (v := (p3).toInt16.toInt32) hx hb dX8_take_65 rfl ?_
          refine tvv (v := .int (tm p1 p2 p3 p4 5)) rfl ?_
          refine lv_istore (lv' := [(9, .int (tm p1 p2 p3 p4 5)), (8, .int p3), (0, .ref h0), (1, .int p1), (2, .int p2), (3, .int p3), (4, .int p4), (5, .int 1), (6, .int 1), (7, .int 5)]) hx hb dX8_take_66 hl (by decide) rfl (fun ls hl => ?_)
          refine lv_aload_n hx hb dX8_take_68 rfl (lv_at hl 2 rfl) ?_
          refine va_get (D := (dC, dI)) (ci := 8) (v := .ref h0_asked) (C := RX8) (T := TX8) (N := 23) hx hb hts hi8 hown hK hP 0 rfl rfl 11 (by decide) (hts (.fieldLink RX8 30 "AskTreeModel" "asked" "[I") (by decide +kernel)) (fun _ h9 => h9) rfl dX8_take_69 ?_
          refine lv_iload hx hb dX8_take_72 (lv_at hl 9 rfl) ?_
          refine lv_iload hx hb dX8_take_74 (lv_at hl 0 rfl) ?_
          refine va_iast hx hb hK hP hD hS 1 0 rfl rfl (vi _ _ (by decide)) dX8_take_76 (fun H locs hP hD hS => ?_)
          have hP : va_P (dC, dI) vwCl [(h0, .inr (8, [.ref a0_marks, .ref a0_classes, .int 0, .ref a0_isSort, .ref a0_nodes, .ref a0_many, .int 0, .ref a0_in, .int 0, .int 0, .int 0, .ref h0_asked, .ref a0_turned, .int 0, .int (-1), .int (-1), .ref a0_heap, .ref a0_heapYes, .ref a0_path, .ref a0_bestWrong, .ref a0_bestAsked, .ref a0_bestMark, .ref a0_bestV])), (h0_asked, .inl (k0_asked, 8, .inl (upd f_1 (Int32.toNatClampNeg 5) (tm p1 p2 p3 p4 5))))] H := hP
          have hD : va_D A [(h0, .inr (8, [.ref a0_marks, .ref a0_classes, .int 0, .ref a0_isSort, .ref a0_nodes, .ref a0_many, .int 0, .ref a0_in, .int 0, .int 0, .int 0, .ref h0_asked, .ref a0_turned, .int 0, .int (-1), .int (-1), .ref a0_heap, .ref a0_heapYes, .ref a0_path, .ref a0_bestWrong, .ref a0_bestAsked, .ref a0_bestMark, .ref a0_bestV])), (h0_asked, .inl (k0_asked, 8, .inl (upd f_1 (Int32.toNatClampNeg 5) (tm p1 p2 p3 p4 5))))] := hD
          generalize hf_110 : upd f_1 (Int32.toNatClampNeg 5) (tm p1 p2 p3 p4 5) = f_109 at hP hD
          have hk_111 : f_109 5 = (tm p1 p2 p3 p4 5) := by rw [← hf_110]; exact up_s (by decide)
          clear hf_110
          refine lv_iload hx hb dX8_take_77 (lv_at hl 8 rfl) ?_
          refine lv_if_eq (tgt := 118) hx hb dX8_take_79 (by decide) (fun c_112 => ?_) (fun c_112 => ?_)
          · exact absurd c_112 (by decide)
          refine lv_iload hx hb dX8_take_82 (lv_at hl 0 rfl) ?_
          refine lv_sipush (v := (-32768)) hx hb dX8_take_84 (by decide) ?_
          refine lv_icmp_ne (tgt := 98) hx hb dX8_take_87 (by decide) (fun c_113 => ?_) (fun c_113 => ?_)
          · skip
            refine lv_iload hx hb dX8_take_98 (lv_at hl 0 rfl) ?_
            refine lv_sipush (v := (-1000)) hx hb dX8_take_100 (by decide) ?_
            refine lv_icmp_lt (tgt := 118) hx hb dX8_take_103 (by decide) (fun c_114 => ?_) (fun c_114 => ?_)
            · skip
              refine lv_iconst (v := 0) hx hb dX8_take_118 (by decide) ?_
              refine lv_istore (lv' := [(6, .int 0), (9, .int (tm p1 p2 p3 p4 5)), (8, .int p3), (0, .ref h0), (1, .int p1), (2, .int p2), (3, .int p3), (4, .int p4), (5, .int 1), (7, .int 5)]) hx hb dX8_take_119 hl (by decide) rfl (fun ls hl => ?_)
              refine lv_iinc (v := 6) (lv' := [(7, .int 6), (6, .int 0), (9, .int (tm p1 p2 p3 p4 5)), (8, .int p3), (0, .ref h0), (1, .int p1), (2, .int p2), (3, .int p3), (4, .int p4), (5, .int 1)]) hx hb dX8_take_121 hl (k := 9) rfl (by decide) (by decide) rfl (fun ls hl => ?_)
              refine lv_goto (tgt := 6) hx hb dX8_take_124 (by decide) ?_
              exact ih 6 0 f_109 H locs ls (by omega) (Or.inr ⟨rfl, tk_b (no_l c_114 c_113)⟩) hP hD hS (lv_sub hl [4, 5, 6, 7, 8, 9, 1, 0] rfl)
            · skip
              refine lv_iload hx hb dX8_take_106 (lv_at hl 0 rfl) ?_
              refine lv_sipush (v := 1000) hx hb dX8_take_108 (by decide) ?_
              refine lv_icmp_gt (tgt := 118) hx hb dX8_take_111 (by decide) (fun c_115 => ?_) (fun c_115 => ?_)
              · skip
                refine lv_iconst (v := 0) hx hb dX8_take_118 (by decide) ?_
                refine lv_istore (lv' := [(6, .int 0), (9, .int (tm p1 p2 p3 p4 5)), (8, .int p3), (0, .ref h0), (1, .int p1), (2, .int p2), (3, .int p3), (4, .int p4), (5, .int 1), (7, .int 5)]) hx hb dX8_take_119 hl (by decide) rfl (fun ls hl => ?_)
                refine lv_iinc (v := 6) (lv' := [(7, .int 6), (6, .int 0), (9, .int (tm p1 p2 p3 p4 5)), (8, .int p3), (0, .ref h0), (1, .int p1), (2, .int p2), (3, .int p3), (4, .int p4), (5, .int 1)]) hx hb dX8_take_121 hl (k := 9) rfl (by decide) (by decide) rfl (fun ls hl => ?_)
                refine lv_goto (tgt := 6) hx hb dX8_take_124 (by decide) ?_
                exact ih 6 0 f_109 H locs ls (by omega) (Or.inr ⟨rfl, tk_b (no_H c_115)⟩) hP hD hS (lv_sub hl [4, 5, 6, 7, 8, 9, 1, 0] rfl)
              · skip
                refine lv_iconst (v := 1) hx hb dX8_take_114 (by decide) ?_
                refine lv_goto (tgt := 119) hx hb dX8_take_115 (by decide) ?_
                refine lv_istore (lv' := [(6, .int 1), (9, .int (tm p1 p2 p3 p4 5)), (8, .int p3), (0, .ref h0), (1, .int p1), (2, .int p2), (3, .int p3), (4, .int p4), (5, .int 1), (7, .int 5)]) hx hb dX8_take_119 hl (by decide) rfl (fun ls hl => ?_)
                refine lv_iinc (v := 6) (lv' := [(7, .int 6), (6, .int 1), (9, .int (tm p1 p2 p3 p4 5)), (8, .int p3), (0, .ref h0), (1, .int p1), (2, .int p2), (3, .int p3), (4, .int p4), (5, .int 1)]) hx hb dX8_take_121 hl (k := 9) rfl (by decide) (by decide) rfl (fun ls hl => ?_)
                refine lv_goto (tgt := 6) hx hb dX8_take_124 (by decide) ?_
                exact ih 6 1 f_109 H locs ls (by omega) (Or.inl ⟨rfl, tk_s hI (ok_n c_114 c_115)⟩) hP hD hS (lv_sub hl [4, 5, 6, 7, 8, 9, 1, 0] rfl)
          · skip
            refine lv_iload hx hb dX8_take_90 (lv_at hl 7 rfl) ?_
            refine lv_if_eq (tgt := 118) hx hb dX8_take_92 (by decide) (fun c_116 => ?_) (fun c_116 => ?_)
            · exact absurd c_116 (by decide)
            refine lv_goto (tgt := 114) hx hb dX8_take_95 (by decide) ?_
            refine lv_iconst (v := 1) hx hb dX8_take_114 (by decide) ?_
            refine lv_goto (tgt := 119) hx hb dX8_take_115 (by decide) ?_
            refine lv_istore (lv' := [(6, .int 1), (9, .int (tm p1 p2 p3 p4 5)), (8, .int p3), (0, .ref h0), (1, .int p1), (2, .int p2), (3, .int p3), (4, .int p4), (5, .int 1), (7, .int 5)]) hx hb dX8_take_119 hl (by decide) rfl (fun ls hl => ?_)
            refine lv_iinc (v := 6) (lv' := [(7, .int 6), (6, .int 1), (9, .int (tm p1 p2 p3 p4 5)), (8, .int p3), (0, .ref h0), (1, .int p1), (2, .int p2), (3, .int p3), (4, .int p4), (5, .int 1)]) hx hb dX8_take_121 hl (k := 9) rfl (by decide) (by decide) rfl (fun ls hl => ?_)
            refine lv_goto (tgt := 6) hx hb dX8_take_124 (by decide) ?_
            exact ih 6 1 f_109 H locs ls (by omega) (Or.inl ⟨rfl, tk_s hI (ok_g c_113)⟩) hP hD hS (lv_sub hl [4, 5, 6, 7, 8, 9, 1, 0] rfl)
        · skip
          have hl : lv_has ls 10 [(0, .ref h0), (1, .int p1), (2, .int p2), (3, .int p3), (4, .int p4), (5, .int 1), (6, .int 0), (7, .int 5)] := hl
          refine lv_iload hx hb dX8_take_6 (lv_at hl 7 rfl) ?_
          refine lv_bipush (v := 8) hx hb dX8_take_8 (by decide) ?_
          refine lv_icmp_ge (tgt := 127) hx hb dX8_take_10 (by decide) (fun c_117 => ?_) (fun c_117 => ?_)
          · exact absurd c_117 (by decide)
          refine lv_iload hx hb dX8_take_13 (lv_at hl 7 rfl) ?_
          refine lv_iconst (v := 2) hx hb dX8_take_15 (by decide) ?_
          refine lv_icmp_ge (tgt := 23) hx hb dX8_take_16 (by decide) (fun c_118 => ?_) (fun c_118 => ?_)
          rotate_left
          · exact absurd c_118 (by decide)
          refine lv_iload hx hb dX8_take_23 (lv_at hl 7 rfl) ?_
          refine lv_iconst (v := 4) hx hb dX8_take_25 (by decide) ?_
          refine lv_icmp_ge (tgt := 33) hx hb dX8_take_26 (by decide) (fun c_119 => ?_) (fun c_119 => ?_)
          rotate_left
          · exact absurd c_119 (by decide)
          refine lv_iload hx hb dX8_take_33 (lv_at hl 7 rfl) ?_
          refine lv_bipush (v := 6) hx hb dX8_take_35 (by decide) ?_
          refine lv_icmp_ge (tgt := 44) hx hb dX8_take_37 (by decide) (fun c_120 => ?_) (fun c_120 => ?_)
          · exact absurd c_120 (by decide)
          refine lv_iload_n hx hb dX8_take_40 rfl (lv_at hl 3 rfl) ?_
          refine lv_goto (tgt := 46) hx hb dX8_take_41 (by decide) ?_
          refine lv_istore (lv' := [(8, .int p3), (0, .ref h0), (1, .int p1), (2, .int p2), (3, .int p3), (4, .int p4), (5, .int 1), (6, .int 0), (7, .int 5)]) hx hb dX8_take_46 hl (by decide) rfl (fun ls hl => ?_)
          refine lv_iload hx hb dX8_take_48 (lv_at hl 8 rfl) ?_
          refine lv_iconst (v := 2) hx hb dX8_take_50 (by decide) ?_
          refine lv_irem hx hb dX8_take_51 (by decide) ?_
          refine tvv (v := .int 1) (congrArg Value.int (by decide)) ?_
          refine lv_if_ne (tgt := 63) hx hb dX8_take_52 (by decide) (fun c_121 => ?_) (fun c_121 => ?_)
          rotate_left
          · exact absurd c_121 (by decide)
          refine lv_iload hx hb dX8_take_63 (lv_at hl 0 rfl) ?_
          refine lv_i2s (v := (p3).toInt16.toInt32) hx hb dX8_take_65 rfl ?_
          refine tvv (v := .int (tm p1 p2 p3 p4 5)) rfl ?_
          refine lv_istore (lv' := [(9, .int (tm p1 p2 p3 p4 5)), (8, .int p3), (0, .ref h0), (1, .int p1), (2, .int p2), (3, .int p3), (4, .int p4), (5, .int 1), (6, .int 0), (7, .int 5)]) hx hb dX8_take_66 hl (by decide) rfl (fun ls hl => ?_)
          refine lv_aload_n hx hb dX8_take_68 rfl (lv_at hl 2 rfl) ?_
          refine va_get (D := (dC, dI)) (ci := 8) (v := .ref h0_asked) (C := RX8) (T := TX8) (N := 23) hx hb hts hi8 hown hK hP 0 rfl rfl 11 (by decide) (hts (.fieldLink RX8 30 "AskTreeModel" "asked" "[I") (by decide +kernel)) (fun _ h9 => h9) rfl dX8_take_69 ?_
          refine lv_iload hx hb dX8_take_72 (lv_at hl 9 rfl) ?_
          refine lv_iload hx hb dX8_take_74 (lv_at hl 0 rfl) ?_
          refine va_iast hx hb hK hP hD hS 1 0 rfl rfl (vi _ _ (by decide)) dX8_take_76 (fun H locs hP hD hS => ?_)
          have hP : va_P (dC, dI) vwCl [(h0, .inr (8, [.ref a0_marks, .ref a0_classes, .int 0, .ref a0_isSort, .ref a0_nodes, .ref a0_many, .int 0, .ref a0_in, .int 0, .int 0, .int 0, .ref h0_asked, .ref a0_turned, .int 0, .int (-1), .int (-1), .ref a0_heap, .ref a0_heapYes, .ref a0_path, .ref a0_bestWrong, .ref a0_bestAsked, .ref a0_bestMark, .ref a0_bestV])), (h0_asked, .inl (k0_asked, 8, .inl (upd f_1 (Int32.toNatClampNeg 5) (tm p1 p2 p3 p4 5))))] H := hP
          have hD : va_D A [(h0, .inr (8, [.ref a0_marks, .ref a0_classes, .int 0, .ref a0_isSort, .ref a0_nodes, .ref a0_many, .int 0, .ref a0_in, .int 0, .int 0, .int 0, .ref h0_asked, .ref a0_turned, .int 0, .int (-1), .int (-1), .ref a0_heap, .ref a0_heapYes, .ref a0_path, .ref a0_bestWrong, .ref a0_bestAsked, .ref a0_bestMark, .ref a0_bestV])), (h0_asked, .inl (k0_asked, 8, .inl (upd f_1 (Int32.toNatClampNeg 5) (tm p1 p2 p3 p4 5))))] := hD
          generalize hf_123 : upd f_1 (Int32.toNatClampNeg 5) (tm p1 p2 p3 p4 5) = f_122 at hP hD
          have hk_124 : f_122 5 = (tm p1 p2 p3 p4 5) := by rw [← hf_123]; exact up_s (by decide)
          clear hf_123
          refine lv_iload hx hb dX8_take_77 (lv_at hl 8 rfl) ?_
          refine lv_if_eq (tgt := 118) hx hb dX8_take_79 (by decide) (fun c_125 => ?_) (fun c_125 => ?_)
          rotate_left
          · exact absurd c_125 (by decide)
          refine lv_iconst (v := 0) hx hb dX8_take_118 (by decide) ?_
          refine lv_istore (lv' := [(6, .int 0), (9, .int (tm p1 p2 p3 p4 5)), (8, .int p3), (0, .ref h0), (1, .int p1), (2, .int p2), (3, .int p3), (4, .int p4), (5, .int 1), (7, .int 5)]) hx hb dX8_take_119 hl (by decide) rfl (fun ls hl => ?_)
          refine lv_iinc (v := 6) (lv' := [(7, .int 6), (6, .int 0), (9, .int (tm p1 p2 p3 p4 5)), (8, .int p3), (0, .ref h0), (1, .int p1), (2, .int p2), (3, .int p3), (4, .int p4), (5, .int 1)]) hx hb dX8_take_121 hl (k := 9) rfl (by decide) (by decide) rfl (fun ls hl => ?_)
          refine lv_goto (tgt := 6) hx hb dX8_take_124 (by decide) ?_
          exact ih 6 0 f_122 H locs ls (by omega) (Or.inr ⟨rfl, tk_n hI⟩) hP hD hS (lv_sub hl [4, 5, 6, 7, 8, 9, 1, 0] rfl)
      · skip
        rcases hI with ⟨rfl, hI⟩ | ⟨rfl, hI⟩
        · skip
          have hl : lv_has ls 10 [(0, .ref h0), (1, .int p1), (2, .int p2), (3, .int p3), (4, .int p4), (5, .int 1), (6, .int 1), (7, .int 6)] := hl
          refine lv_iload hx hb dX8_take_6 (lv_at hl 7 rfl) ?_
          refine lv_bipush (v := 8) hx hb dX8_take_8 (by decide) ?_
          refine lv_icmp_ge (tgt := 127) hx hb dX8_take_10 (by decide) (fun c_126 => ?_) (fun c_126 => ?_)
          · exact absurd c_126 (by decide)
          refine lv_iload hx hb dX8_take_13 (lv_at hl 7 rfl) ?_
          refine lv_iconst (v := 2) hx hb dX8_take_15 (by decide) ?_
          refine lv_icmp_ge (tgt := 23) hx hb dX8_take_16 (by decide) (fun c_127 => ?_) (fun c_127 => ?_)
          rotate_left
          · exact absurd c_127 (by decide)
          refine lv_iload hx hb dX8_take_23 (lv_at hl 7 rfl) ?_
          refine lv_iconst (v := 4) hx hb dX8_take_25 (by decide) ?_
          refine lv_icmp_ge (tgt := 33) hx hb dX8_take_26 (by decide) (fun c_128 => ?_) (fun c_128 => ?_)
          rotate_left
          · exact absurd c_128 (by decide)
          refine lv_iload hx hb dX8_take_33 (lv_at hl 7 rfl) ?_
          refine lv_bipush (v := 6) hx hb dX8_take_35 (by decide) ?_
          refine lv_icmp_ge (tgt := 44) hx hb dX8_take_37 (by decide) (fun c_129 => ?_) (fun c_129 => ?_)
          rotate_left
          · exact absurd c_129 (by decide)
          refine lv_iload hx hb dX8_take_44 (lv_at hl 4 rfl) ?_
          refine lv_istore (lv' := [(8, .int p4), (0, .ref h0), (1, .int p1), (2, .int p2), (3, .int p3), (4, .int p4), (5, .int 1), (6, .int 1), (7, .int 6)]) hx hb dX8_take_46 hl (by decide) rfl (fun ls hl => ?_)
          refine lv_iload hx hb dX8_take_48 (lv_at hl 8 rfl) ?_
          refine lv_iconst (v := 2) hx hb dX8_take_50 (by decide) ?_
          refine lv_irem hx hb dX8_take_51 (by decide) ?_
          refine tvv (v := .int 0) (congrArg Value.int (by decide)) ?_
          refine lv_if_ne (tgt := 63) hx hb dX8_take_52 (by decide) (fun c_130 => ?_) (fun c_130 => ?_)
          · exact absurd c_130 (by decide)
          refine lv_iload hx hb dX8_take_55 (lv_at hl 0 rfl) ?_
          refine lv_bipush (v := 16) hx hb dX8_take_57 (by decide) ?_
          refine lv_ishr hx hb dX8_take_59 ?_
          refine lv_goto (tgt := 66) hx hb dX8_take_60 (by decide) ?_
          refine tvv (v := .int (tm p1 p2 p3 p4 6)) rfl ?_
          refine lv_istore (lv' := [(9, .int (tm p1 p2 p3 p4 6)), (8, .int p4), (0, .ref h0), (1, .int p1), (2, .int p2), (3, .int p3), (4, .int p4), (5, .int 1), (6, .int 1), (7, .int 6)]) hx hb dX8_take_66 hl (by decide) rfl (fun ls hl => ?_)
          refine lv_aload_n hx hb dX8_take_68 rfl (lv_at hl 2 rfl) ?_
          refine va_get (D := (dC, dI)) (ci := 8) (v := .ref h0_asked) (C := RX8) (T := TX8) (N := 23) hx hb hts hi8 hown hK hP 0 rfl rfl 11 (by decide) (hts (.fieldLink RX8 30 "AskTreeModel" "asked" "[I") (by decide +kernel)) (fun _ h9 => h9) rfl dX8_take_69 ?_
          refine lv_iload hx hb dX8_take_72 (lv_at hl 9 rfl) ?_
          refine lv_iload hx hb dX8_take_74 (lv_at hl 0 rfl) ?_
          refine va_iast hx hb hK hP hD hS 1 0 rfl rfl (vi _ _ (by decide)) dX8_take_76 (fun H locs hP hD hS => ?_)
          have hP : va_P (dC, dI) vwCl [(h0, .inr (8, [.ref a0_marks, .ref a0_classes, .int 0, .ref a0_isSort, .ref a0_nodes, .ref a0_many, .int 0, .ref a0_in, .int 0, .int 0, .int 0, .ref h0_asked, .ref a0_turned, .int 0, .int (-1), .int (-1), .ref a0_heap, .ref a0_heapYes, .ref a0_path, .ref a0_bestWrong, .ref a0_bestAsked, .ref a0_bestMark, .ref a0_bestV])), (h0_asked, .inl (k0_asked, 8, .inl (upd f_1 (Int32.toNatClampNeg 6) (tm p1 p2 p3 p4 6))))] H := hP
          have hD : va_D A [(h0, .inr (8, [.ref a0_marks, .ref a0_classes, .int 0, .ref a0_isSort, .ref a0_nodes, .ref a0_many, .int 0, .ref a0_in, .int 0, .int 0, .int 0, .ref h0_asked, .ref a0_turned, .int 0, .int (-1), .int (-1), .ref a0_heap, .ref a0_heapYes, .ref a0_path, .ref a0_bestWrong, .ref a0_bestAsked, .ref a0_bestMark, .ref a0_bestV])), (h0_asked, .inl (k0_asked, 8, .inl (upd f_1 (Int32.toNatClampNeg 6) (tm p1 p2 p3 p4 6))))] := hD
          generalize hf_132 : upd f_1 (Int32.toNatClampNeg 6) (tm p1 p2 p3 p4 6) = f_131 at hP hD
          have hk_133 : f_131 6 = (tm p1 p2 p3 p4 6) := by rw [← hf_132]; exact up_s (by decide)
          clear hf_132
          refine lv_iload hx hb dX8_take_77 (lv_at hl 8 rfl) ?_
          refine lv_if_eq (tgt := 118) hx hb dX8_take_79 (by decide) (fun c_134 => ?_) (fun c_134 => ?_)
          · exact absurd c_134 (by decide)
          refine lv_iload hx hb dX8_take_82 (lv_at hl 0 rfl) ?_
          refine lv_sipush (v := (-32768)) hx hb dX8_take_84 (by decide) ?_
          refine lv_icmp_ne (tgt := 98) hx hb dX8_take_87 (by decide) (fun c_135 => ?_) (fun c_135 => ?_)
          · skip
            refine lv_iload hx hb dX8_take_98 (lv_at hl 0 rfl) ?_
            refine lv_sipush (v := (-1000)) hx hb dX8_take_100 (by decide) ?_
            refine lv_icmp_lt (tgt := 118) hx hb dX8_take_103 (by decide) (fun c_136 => ?_) (fun c_136 => ?_)
            · skip
              refine lv_iconst (v := 0) hx hb dX8_take_118 (by decide) ?_
              refine lv_istore (lv' := [(6, .int 0), (9, .int (tm p1 p2 p3 p4 6)), (8, .int p4), (0, .ref h0), (1, .int p1), (2, .int p2), (3, .int p3), (4, .int p4), (5, .int 1), (7, .int 6)]) hx hb dX8_take_119 hl (by decide) rfl (fun ls hl => ?_)
              refine lv_iinc (v := 7) (lv' := [(7, .int 7), (6, .int 0), (9, .int (tm p1 p2 p3 p4 6)), (8, .int p4), (0, .ref h0), (1, .int p1), (2, .int p2), (3, .int p3), (4, .int p4), (5, .int 1)]) hx hb dX8_take_121 hl (k := 9) rfl (by decide) (by decide) rfl (fun ls hl => ?_)
              refine lv_goto (tgt := 6) hx hb dX8_take_124 (by decide) ?_
              exact ih 7 0 f_131 H locs ls (by omega) (Or.inr ⟨rfl, tk_b (no_l c_136 c_135)⟩) hP hD hS (lv_sub hl [4, 5, 6, 7, 8, 9, 1, 0] rfl)
            · skip
              refine lv_iload hx hb dX8_take_106 (lv_at hl 0 rfl) ?_
              refine lv_sipush (v := 1000) hx hb dX8_take_108 (by decide) ?_
              refine lv_icmp_gt (tgt := 118) hx hb dX8_take_111 (by decide) (fun c_137 => ?_) (fun c_137 => ?_)
              · skip
                refine lv_iconst (v := 0) hx hb dX8_take_118 (by decide) ?_
                refine lv_istore (lv' := [(6, .int 0), (9, .int (tm p1 p2 p3 p4 6)), (8, .int p4), (0, .ref h0), (1, .int p1), (2, .int p2), (3, .int p3), (4, .int p4), (5, .int 1), (7, .int 6)]) hx hb dX8_take_119 hl (by decide) rfl (fun ls hl => ?_)
                refine lv_iinc (v := 7) (lv' := [(7, .int 7), (6, .int 0), (9, .int (tm p1 p2 p3 p4 6)), (8, .int p4), (0, .ref h0), (1, .int p1), (2, .int p2), (3, .int p3), (4, .int p4), (5, .int 1)]) hx hb dX8_take_121 hl (k := 9) rfl (by decide) (by decide) rfl (fun ls hl => ?_)
                refine lv_goto (tgt := 6) hx hb dX8_take_124 (by decide) ?_
                exact ih 7 0 f_131 H locs ls (by omega) (Or.inr ⟨rfl, tk_b (no_H c_137)⟩) hP hD hS (lv_sub hl [4, 5, 6, 7, 8, 9, 1, 0] rfl)
              · skip
                refine lv_iconst (v := 1) hx hb dX8_take_114 (by decide) ?_
                refine lv_goto (tgt := 119) hx hb dX8_take_115 (by decide) ?_
                refine lv_istore (lv' := [(6, .int 1), (9, .int (tm p1 p2 p3 p4 6)), (8, .int p4), (0, .ref h0), (1, .int p1), (2, .int p2), (3, .int p3), (4, .int p4), (5, .int 1), (7, .int 6)]) hx hb dX8_take_119 hl (by decide) rfl (fun ls hl => ?_)
                refine lv_iinc (v := 7) (lv' := [(7, .int 7), (6, .int 1), (9, .int (tm p1 p2 p3 p4 6)), (8, .int p4), (0, .ref h0), (1, .int p1), (2, .int p2), (3, .int p3), (4, .int p4), (5, .int 1)]) hx hb dX8_take_121 hl (k := 9) rfl (by decide) (by decide) rfl (fun ls hl => ?_)
                refine lv_goto (tgt := 6) hx hb dX8_take_124 (by decide) ?_
                exact ih 7 1 f_131 H locs ls (by omega) (Or.inl ⟨rfl, tk_s hI (ok_n c_136 c_137)⟩) hP hD hS (lv_sub hl [4, 5, 6, 7, 8, 9, 1, 0] rfl)
          · skip
            refine lv_iload hx hb dX8_take_90 (lv_at hl 7 rfl) ?_
            refine lv_if_eq (tgt := 118) hx hb dX8_take_92 (by decide) (fun c_138 => ?_) (fun c_138 => ?_)
            · exact absurd c_138 (by decide)
            refine lv_goto (tgt := 114) hx hb dX8_take_95 (by decide) ?_
            refine lv_iconst (v := 1) hx hb dX8_take_114 (by decide) ?_
            refine lv_goto (tgt := 119) hx hb dX8_take_115 (by decide) ?_
            refine lv_istore (lv' := [(6, .int 1), (9, .int (tm p1 p2 p3 p4 6)), (8, .int p4), (0, .ref h0), (1, .int p1), (2, .int p2), (3, .int p3), (4, .int p4), (5, .int 1), (7, .int 6)]) hx hb dX8_take_119 hl (by decide) rfl (fun ls hl => ?_)
            refine lv_iinc (v := 7) (lv' := [(7, .int 7), (6, .int 1), (9, .int (tm p1 p2 p3 p4 6)), (8, .int p4), (0, .ref h0), (1, .int p1), (2, .int p2), (3, .int p3), (4, .int p4), (5, .int 1)]) hx hb dX8_take_121 hl (k := 9) rfl (by decide) (by decide) rfl (fun ls hl => ?_)
            refine lv_goto (tgt := 6) hx hb dX8_take_124 (by decide) ?_
            exact ih 7 1 f_131 H locs ls (by omega) (Or.inl ⟨rfl, tk_s hI (ok_g c_135)⟩) hP hD hS (lv_sub hl [4, 5, 6, 7, 8, 9, 1, 0] rfl)
        · skip
          have hl : lv_has ls 10 [(0, .ref h0), (1, .int p1), (2, .int p2), (3, .int p3), (4, .int p4), (5, .int 1), (6, .int 0), (7, .int 6)] := hl
          refine lv_iload hx hb dX8_take_6 (lv_at hl 7 rfl) ?_
          refine lv_bipush (v := 8) hx hb dX8_take_8 (by decide) ?_
          refine lv_icmp_ge (tgt := 127) hx hb dX8_take_10 (by decide) (fun c_139 => ?_) (fun c_139 => ?_)
          · exact absurd c_139 (by decide)
          refine lv_iload hx hb dX8_take_13 (lv_at hl 7 rfl) ?_
          refine lv_iconst (v := 2) hx hb dX8_take_15 (by decide) ?_
          refine lv_icmp_ge (tgt := 23) hx hb dX8_take_16 (by decide) (fun c_140 => ?_) (fun c_140 => ?_)
          rotate_left
          · exact absurd c_140 (by decide)
          refine lv_iload hx hb dX8_take_23 (lv_at hl 7 rfl) ?_
          refine lv_iconst (v := 4) hx hb dX8_take_25 (by decide) ?_
          refine lv_icmp_ge (tgt := 33) hx hb dX8_take_26 (by decide) (fun c_141 => ?_) (fun c_141 => ?_)
          rotate_left
          · exact absurd c_141 (by decide)
          refine lv_iload hx hb dX8_take_33 (lv_at hl 7 rfl) ?_
          refine lv_bipush (v := 6) hx hb dX8_take_35 (by decide) ?_
          refine lv_icmp_ge (tgt := 44) hx hb dX8_take_37 (by decide) (fun c_142 => ?_) (fun c_142 => ?_)
          rotate_left
          · exact absurd c_142 (by decide)
          refine lv_iload hx hb dX8_take_44 (lv_at hl 4 rfl) ?_
          refine lv_istore (lv' := [(8, .int p4), (0, .ref h0), (1, .int p1), (2, .int p2), (3, .int p3), (4, .int p4), (5, .int 1), (6, .int 0), (7, .int 6)]) hx hb dX8_take_46 hl (by decide) rfl (fun ls hl => ?_)
          refine lv_iload hx hb dX8_take_48 (lv_at hl 8 rfl) ?_
          refine lv_iconst (v := 2) hx hb dX8_take_50 (by decide) ?_
          refine lv_irem hx hb dX8_take_51 (by decide) ?_
          refine tvv (v := .int 0) (congrArg Value.int (by decide)) ?_
          refine lv_if_ne (tgt := 63) hx hb dX8_take_52 (by decide) (fun c_143 => ?_) (fun c_143 => ?_)
          · exact absurd c_143 (by decide)
          refine lv_iload hx hb dX8_take_55 (lv_at hl 0 rfl) ?_
          refine lv_bipush (v := 16) hx hb dX8_take_57 (by decide) ?_
          refine lv_ishr hx hb dX8_take_59 ?_
          refine lv_goto (tgt := 66) hx hb dX8_take_60 (by decide) ?_
          refine tvv (v := .int (tm p1 p2 p3 p4 6)) rfl ?_
          refine lv_istore (lv' := [(9, .int (tm p1 p2 p3 p4 6)), (8, .int p4), (0, .ref h0), (1, .int p1), (2, .int p2), (3, .int p3), (4, .int p4), (5, .int 1), (6, .int 0), (7, .int 6)]) hx hb dX8_take_66 hl (by decide) rfl (fun ls hl => ?_)
          refine lv_aload_n hx hb dX8_take_68 rfl (lv_at hl 2 rfl) ?_
          refine va_get (D := (dC, dI)) (ci := 8) (v := .ref h0_asked) (C := RX8) (T := TX8) (N := 23) hx hb hts hi8 hown hK hP 0 rfl rfl 11 (by decide) (hts (.fieldLink RX8 30 "AskTreeModel" "asked" "[I") (by decide +kernel)) (fun _ h9 => h9) rfl dX8_take_69 ?_
          refine lv_iload hx hb dX8_take_72 (lv_at hl 9 rfl) ?_
          refine lv_iload hx hb dX8_take_74 (lv_at hl 0 rfl) ?_
          refine va_iast hx hb hK hP hD hS 1 0 rfl rfl (vi _ _ (by decide)) dX8_take_76 (fun H locs hP hD hS => ?_)
          have hP : va_P (dC, dI) vwCl [(h0, .inr (8, [.ref a0_marks, .ref a0_classes, .int 0, .ref a0_isSort, .ref a0_nodes, .ref a0_many, .int 0, .ref a0_in, .int 0, .int 0, .int 0, .ref h0_asked, .ref a0_turned, .int 0, .int (-1), .int (-1), .ref a0_heap, .ref a0_heapYes, .ref a0_path, .ref a0_bestWrong, .ref a0_bestAsked, .ref a0_bestMark, .ref a0_bestV])), (h0_asked, .inl (k0_asked, 8, .inl (upd f_1 (Int32.toNatClampNeg 6) (tm p1 p2 p3 p4 6))))] H := hP
          have hD : va_D A [(h0, .inr (8, [.ref a0_marks, .ref a0_classes, .int 0, .ref a0_isSort, .ref a0_nodes, .ref a0_many, .int 0, .ref a0_in, .int 0, .int 0, .int 0, .ref h0_asked, .ref a0_turned, .int 0, .int (-1), .int (-1), .ref a0_heap, .ref a0_heapYes, .ref a0_path, .ref a0_bestWrong, .ref a0_bestAsked, .ref a0_bestMark, .ref a0_bestV])), (h0_asked, .inl (k0_asked, 8, .inl (upd f_1 (Int32.toNatClampNeg 6) (tm p1 p2 p3 p4 6))))] := hD
          generalize hf_145 : upd f_1 (Int32.toNatClampNeg 6) (tm p1 p2 p3 p4 6) = f_144 at hP hD
          have hk_146 : f_144 6 = (tm p1 p2 p3 p4 6) := by rw [← hf_145]; exact up_s (by decide)
          clear hf_145
          refine lv_iload hx hb dX8_take_77 (lv_at hl 8 rfl) ?_
          refine lv_if_eq (tgt := 118) hx hb dX8_take_79 (by decide) (fun c_147 => ?_) (fun c_147 => ?_)
          rotate_left
          · exact absurd c_147 (by decide)
          refine lv_iconst (v := 0) hx hb dX8_take_118 (by decide) ?_
          refine lv_istore (lv' := [(6, .int 0), (9, .int (tm p1 p2 p3 p4 6)), (8, .int p4), (0, .ref h0), (1, .int p1), (2, .int p2), (3, .int p3), (4, .int p4), (5, .int 1), (7, .int 6)]) hx hb dX8_take_119 hl (by decide) rfl (fun ls hl => ?_)
          refine lv_iinc (v := 7) (lv' := [(7, .int 7), (6, .int 0), (9, .int (tm p1 p2 p3 p4 6)), (8, .int p4), (0, .ref h0), (1, .int p1), (2, .int p2), (3, .int p3), (4, .int p4), (5, .int 1)]) hx hb dX8_take_121 hl (k := 9) rfl (by decide) (by decide) rfl (fun ls hl => ?_)
          refine lv_goto (tgt := 6) hx hb dX8_take_124 (by decide) ?_
          exact ih 7 0 f_144 H locs ls (by omega) (Or.inr ⟨rfl, tk_n hI⟩) hP hD hS (lv_sub hl [4, 5, 6, 7, 8, 9, 1, 0] rfl)
      · skip
        rcases hI with ⟨rfl, hI⟩ | ⟨rfl, hI⟩
        · skip
          have hl : lv_has ls 10 [(0, .ref h0), (1, .int p1), (2, .int p2), (3, .int p3), (4, .int p4), (5, .int 1), (6, .int 1), (7, .int 7)] := hl
          refine lv_iload hx hb dX8_take_6 (lv_at hl 7 rfl) ?_
          refine lv_bipush (v := 8) hx hb dX8_take_8 (by decide) ?_
          refine lv_icmp_ge (tgt := 127) hx hb dX8_take_10 (by decide) (fun c_148 => ?_) (fun c_148 => ?_)
          · exact absurd c_148 (by decide)
          refine lv_iload hx hb dX8_take_13 (lv_at hl 7 rfl) ?_
          refine lv_iconst (v := 2) hx hb dX8_take_15 (by decide) ?_
          refine lv_icmp_ge (tgt := 23) hx hb dX8_take_16 (by decide) (fun c_149 => ?_) (fun c_149 => ?_)
          rotate_left
          · exact absurd c_149 (by decide)
          refine lv_iload hx hb dX8_take_23 (lv_at hl 7 rfl) ?_
          refine lv_iconst (v := 4) hx hb dX8_take_25 (by decide) ?_
          refine lv_icmp_ge (tgt := 33) hx hb dX8_take_26 (by decide) (fun c_150 => ?_) (fun c_150 => ?_)
          rotate_left
          · exact absurd c_150 (by decide)
          refine lv_iload hx hb dX8_take_33 (lv_at hl 7 rfl) ?_
          refine lv_bipush (v := 6) hx hb dX8_take_35 (by decide) ?_
          refine lv_icmp_ge (tgt := 44) hx hb dX8_take_37 (by decide) (fun c_151 => ?_) (fun c_151 => ?_)
          rotate_left
          · exact absurd c_151 (by decide)
          refine lv_iload hx hb dX8_take_44 (lv_at hl 4 rfl) ?_
          refine lv_istore (lv' := [(8, .int p4), (0, .ref h0), (1, .int p1), (2, .int p2), (3, .int p3), (4, .int p4), (5, .int 1), (6, .int 1), (7, .int 7)]) hx hb dX8_take_46 hl (by decide) rfl (fun ls hl => ?_)
          refine lv_iload hx hb dX8_take_48 (lv_at hl 8 rfl) ?_
          refine lv_iconst (v := 2) hx hb dX8_take_50 (by decide) ?_
          refine lv_irem hx hb dX8_take_51 (by decide) ?_
          refine tvv (v := .int 1) (congrArg Value.int (by decide)) ?_
          refine lv_if_ne (tgt := 63) hx hb dX8_take_52 (by decide) (fun c_152 => ?_) (fun c_152 => ?_)
          rotate_left
          · exact absurd c_152 (by decide)
          refine lv_iload hx hb dX8_take_63 (lv_at hl 0 rfl) ?_
          refine lv_i2s (v := (p4).toInt16.toInt32) hx hb dX8_take_65 rfl ?_
          refine tvv (v := .int (tm p1 p2 p3 p4 7)) rfl ?_
          refine lv_istore (lv' := [(9, .int (tm p1 p2 p3 p4 7)), (8, .int p4), (0, .ref h0), (1, .int p1), (2, .int p2), (3, .int p3), (4, .int p4), (5, .int 1), (6, .int 1), (7, .int 7)]) hx hb dX8_take_66 hl (by decide) rfl (fun ls hl => ?_)
          refine lv_aload_n hx hb dX8_take_68 rfl (lv_at hl 2 rfl) ?_
          refine va_get (D := (dC, dI)) (ci := 8) (v := .ref h0_asked) (C := RX8) (T := TX8) (N := 23) hx hb hts hi8 hown hK hP 0 rfl rfl 11 (by decide) (hts (.fieldLink RX8 30 "AskTreeModel" "asked" "[I") (by decide +kernel)) (fun _ h9 => h9) rfl dX8_take_69 ?_
          refine lv_iload hx hb dX8_take_72 (lv_at hl 9 rfl) ?_
          refine lv_iload hx hb dX8_take_74 (lv_at hl 0 rfl) ?_
          refine va_iast hx hb hK hP hD hS 1 0 rfl rfl (vi _ _ (by decide)) dX8_take_76 (fun H locs hP hD hS => ?_)
          have hP : va_P (dC, dI) vwCl [(h0, .inr (8, [.ref a0_marks, .ref a0_classes, .int 0, .ref a0_isSort, .ref a0_nodes, .ref a0_many, .int 0, .ref a0_in, .int 0, .int 0, .int 0, .ref h0_asked, .ref a0_turned, .int 0, .int (-1), .int (-1), .ref a0_heap, .ref a0_heapYes, .ref a0_path, .ref a0_bestWrong, .ref a0_bestAsked, .ref a0_bestMark, .ref a0_bestV])), (h0_asked, .inl (k0_asked, 8, .inl (upd f_1 (Int32.toNatClampNeg 7) (tm p1 p2 p3 p4 7))))] H := hP
          have hD : va_D A [(h0, .inr (8, [.ref a0_marks, .ref a0_classes, .int 0, .ref a0_isSort, .ref a0_nodes, .ref a0_many, .int 0, .ref a0_in, .int 0, .int 0, .int 0, .ref h0_asked, .ref a0_turned, .int 0, .int (-1), .int (-1), .ref a0_heap, .ref a0_heapYes, .ref a0_path, .ref a0_bestWrong, .ref a0_bestAsked, .ref a0_bestMark, .ref a0_bestV])), (h0_asked, .inl (k0_asked, 8, .inl (upd f_1 (Int32.toNatClampNeg 7) (tm p1 p2 p3 p4 7))))] := hD
          generalize hf_154 : upd f_1 (Int32.toNatClampNeg 7) (tm p1 p2 p3 p4 7) = f_153 at hP hD
          have hk_155 : f_153 7 = (tm p1 p2 p3 p4 7) := by rw [← hf_154]; exact up_s (by decide)
          clear hf_154
          refine lv_iload hx hb dX8_take_77 (lv_at hl 8 rfl) ?_
          refine lv_if_eq (tgt := 118) hx hb dX8_take_79 (by decide) (fun c_156 => ?_) (fun c_156 => ?_)
          · exact absurd c_156 (by decide)
          refine lv_iload hx hb dX8_take_82 (lv_at hl 0 rfl) ?_
          refine lv_sipush (v := (-32768)) hx hb dX8_take_84 (by decide) ?_
          refine lv_icmp_ne (tgt := 98) hx hb dX8_take_87 (by decide) (fun c_157 => ?_) (fun c_157 => ?_)
          · skip
            refine lv_iload hx hb dX8_take_98 (lv_at hl 0 rfl) ?_
            refine lv_sipush (v := (-1000)) hx hb dX8_take_100 (by decide) ?_
            refine lv_icmp_lt (tgt := 118) hx hb dX8_take_103 (by decide) (fun c_158 => ?_) (fun c_158 => ?_)
            · skip
              refine lv_iconst (v := 0) hx hb dX8_take_118 (by decide) ?_
              refine lv_istore (lv' := [(6, .int 0), (9, .int (tm p1 p2 p3 p4 7)), (8, .int p4), (0, .ref h0), (1, .int p1), (2, .int p2), (3, .int p3), (4, .int p4), (5, .int 1), (7, .int 7)]) hx hb dX8_take_119 hl (by decide) rfl (fun ls hl => ?_)
              refine lv_iinc (v := 8) (lv' := [(7, .int 8), (6, .int 0), (9, .int (tm p1 p2 p3 p4 7)), (8, .int p4), (0, .ref h0), (1, .int p1), (2, .int p2), (3, .int p3), (4, .int p4), (5, .int 1)]) hx hb dX8_take_121 hl (k := 9) rfl (by decide) (by decide) rfl (fun ls hl => ?_)
              refine lv_goto (tgt := 6) hx hb dX8_take_124 (by decide) ?_
              exact ih 8 0 f_153 H locs ls (by omega) (Or.inr ⟨rfl, tk_b (no_l c_158 c_157)⟩) hP hD hS (lv_sub hl [4, 5, 6, 7, 8, 9, 1, 0] rfl)
            · skip
              refine lv_iload hx hb dX8_take_106 (lv_at hl 0 rfl) ?_
              refine lv_sipush (v := 1000) hx hb dX8_take_108 (by decide) ?_
              refine lv_icmp_gt (tgt := 118) hx hb dX8_take_111 (by decide) (fun c_159 => ?_) (fun c_159 => ?_)
              · skip
                refine lv_iconst (v := 0) hx hb dX8_take_118 (by decide) ?_
                refine lv_istore (lv' := [(6, .int 0), (9, .int (tm p1 p2 p3 p4 7)), (8, .int p4), (0, .ref h0), (1, .int p1), (2, .int p2), (3, .int p3), (4, .int p4), (5, .int 1), (7, .int 7)]) hx hb dX8_take_119 hl (by decide) rfl (fun ls hl => ?_)
                refine lv_iinc (v := 8) (lv' := [(7, .int 8), (6, .int 0), (9, .int (tm p1 p2 p3 p4 7)), (8, .int p4), (0, .ref h0), (1, .int p1), (2, .int p2), (3, .int p3), (4, .int p4), (5, .int 1)]) hx hb dX8_take_121 hl (k := 9) rfl (by decide) (by decide) rfl (fun ls hl => ?_)
                refine lv_goto (tgt := 6) hx hb dX8_take_124 (by decide) ?_
                exact ih 8 0 f_153 H locs ls (by omega) (Or.inr ⟨rfl, tk_b (no_H c_159)⟩) hP hD hS (lv_sub hl [4, 5, 6, 7, 8, 9, 1, 0] rfl)
              · skip
                refine lv_iconst (v := 1) hx hb dX8_take_114 (by decide) ?_
                refine lv_goto (tgt := 119) hx hb dX8_take_115 (by decide) ?_
                refine lv_istore (lv' := [(6, .int 1), (9, .int (tm p1 p2 p3 p4 7)), (8, .int p4), (0, .ref h0), (1, .int p1), (2, .int p2), (3, .int p3), (4, .int p4), (5, .int 1), (7, .int 7)]) hx hb dX8_take_119 hl (by decide) rfl (fun ls hl => ?_)
                refine lv_iinc (v := 8) (lv' := [(7, .int 8), (6, .int 1), (9, .int (tm p1 p2 p3 p4 7)), (8, .int p4), (0, .ref h0), (1, .int p1), (2, .int p2), (3, .int p3), (4, .int p4), (5, .int 1)]) hx hb dX8_take_121 hl (k := 9) rfl (by decide) (by decide) rfl (fun ls hl => ?_)
                refine lv_goto (tgt := 6) hx hb dX8_take_124 (by decide) ?_
                exact ih 8 1 f_153 H locs ls (by omega) (Or.inl ⟨rfl, tk_s hI (ok_n c_158 c_159)⟩) hP hD hS (lv_sub hl [4, 5, 6, 7, 8, 9, 1, 0] rfl)
          · skip
            refine lv_iload hx hb dX8_take_90 (lv_at hl 7 rfl) ?_
            refine lv_if_eq (tgt := 118) hx hb dX8_take_92 (by decide) (fun c_160 => ?_) (fun c_160 => ?_)
            · exact absurd c_160 (by decide)
            refine lv_goto (tgt := 114) hx hb dX8_take_95 (by decide) ?_
            refine lv_iconst (v := 1) hx hb dX8_take_114 (by decide) ?_
            refine lv_goto (tgt := 119) hx hb dX8_take_115 (by decide) ?_
            refine lv_istore (lv' := [(6, .int 1), (9, .int (tm p1 p2 p3 p4 7)), (8, .int p4), (0, .ref h0), (1, .int p1), (2, .int p2), (3, .int p3), (4, .int p4), (5, .int 1), (7, .int 7)]) hx hb dX8_take_119 hl (by decide) rfl (fun ls hl => ?_)
            refine lv_iinc (v := 8) (lv' := [(7, .int 8), (6, .int 1), (9, .int (tm p1 p2 p3 p4 7)), (8, .int p4), (0, .ref h0), (1, .int p1), (2, .int p2), (3, .int p3), (4, .int p4), (5, .int 1)]) hx hb dX8_take_121 hl (k := 9) rfl (by decide) (by decide) rfl (fun ls hl => ?_)
            refine lv_goto (tgt := 6) hx hb dX8_take_124 (by decide) ?_
            exact ih 8 1 f_153 H locs ls (by omega) (Or.inl ⟨rfl, tk_s hI (ok_g c_157)⟩) hP hD hS (lv_sub hl [4, 5, 6, 7, 8, 9, 1, 0] rfl)
        · skip
          have hl : lv_has ls 10 [(0, .ref h0), (1, .int p1), (2, .int p2), (3, .int p3), (4, .int p4), (5, .int 1), (6, .int 0), (7, .int 7)] := hl
          refine lv_iload hx hb dX8_take_6 (lv_at hl 7 rfl) ?_
          refine lv_bipush (v := 8) hx hb dX8_take_8 (by decide) ?_
          refine lv_icmp_ge (tgt := 127) hx hb dX8_take_10 (by decide) (fun c_161 => ?_) (fun c_161 => ?_)
          · exact absurd c_161 (by decide)
          refine lv_iload hx hb dX8_take_13 (lv_at hl 7 rfl) ?_
          refine lv_iconst (v := 2) hx hb dX8_take_15 (by decide) ?_
          refine lv_icmp_ge (tgt := 23) hx hb dX8_take_16 (by decide) (fun c_162 => ?_) (fun c_162 => ?_)
          rotate_left
          · exact absurd c_162 (by decide)
          refine lv_iload hx hb dX8_take_23 (lv_at hl 7 rfl) ?_
          refine lv_iconst (v := 4) hx hb dX8_take_25 (by decide) ?_
          refine lv_icmp_ge (tgt := 33) hx hb dX8_take_26 (by decide) (fun c_163 => ?_) (fun c_163 => ?_)
          rotate_left
          · exact absurd c_163 (by decide)
          refine lv_iload hx hb dX8_take_33 (lv_at hl 7 rfl) ?_
          refine lv_bipush (v := 6) hx hb dX8_take_35 (by decide) ?_
          refine lv_icmp_ge (tgt := 44) hx hb dX8_take_37 (by decide) (fun c_164 => ?_) (fun c_164 => ?_)
          rotate_left
          · exact absurd c_164 (by decide)
          refine lv_iload hx hb dX8_take_44 (lv_at hl 4 rfl) ?_
          refine lv_istore (lv' := [(8, .int p4), (0, .ref h0), (1, .int p1), (2, .int p2), (3, .int p3), (4, .int p4), (5, .int 1), (6, .int 0), (7, .int 7)]) hx hb dX8_take_46 hl (by decide) rfl (fun ls hl => ?_)
          refine lv_iload hx hb dX8_take_48 (lv_at hl 8 rfl) ?_
          refine lv_iconst (v := 2) hx hb dX8_take_50 (by decide) ?_
          refine lv_irem hx hb dX8_take_51 (by decide) ?_
          refine tvv (v := .int 1) (congrArg Value.int (by decide)) ?_
          refine lv_if_ne (tgt := 63) hx hb dX8_take_52 (by decide) (fun c_165 => ?_) (fun c_165 => ?_)
          rotate_left
          · exact absurd c_165 (by decide)
          refine lv_iload hx hb dX8_take_63 (lv_at hl 0 rfl) ?_
          refine lv_i2s (v := (p4).toInt16.toInt32) hx hb dX8_take_65 rfl ?_
          refine tvv (v := .int (tm p1 p2 p3 p4 7)) rfl ?_
          refine lv_istore (lv' := [(9, .int (tm p1 p2 p3 p4 7)), (8, .int p4), (0, .ref h0), (1, .int p1), (2, .int p2), (3, .int p3), (4, .int p4), (5, .int 1), (6, .int 0), (7, .int 7)]) hx hb dX8_take_66 hl (by decide) rfl (fun ls hl => ?_)
          refine lv_aload_n hx hb dX8_take_68 rfl (lv_at hl 2 rfl) ?_
          refine va_get (D := (dC, dI)) (ci := 8) (v := .ref h0_asked) (C := RX8) (T := TX8) (N := 23) hx hb hts hi8 hown hK hP 0 rfl rfl 11 (by decide) (hts (.fieldLink RX8 30 "AskTreeModel" "asked" "[I") (by decide +kernel)) (fun _ h9 => h9) rfl dX8_take_69 ?_
          refine lv_iload hx hb dX8_take_72 (lv_at hl 9 rfl) ?_
          refine lv_iload hx hb dX8_take_74 (lv_at hl 0 rfl) ?_
          refine va_iast hx hb hK hP hD hS 1 0 rfl rfl (vi _ _ (by decide)) dX8_take_76 (fun H locs hP hD hS => ?_)
          have hP : va_P (dC, dI) vwCl [(h0, .inr (8, [.ref a0_marks, .ref a0_classes, .int 0, .ref a0_isSort, .ref a0_nodes, .ref a0_many, .int 0, .ref a0_in, .int 0, .int 0, .int 0, .ref h0_asked, .ref a0_turned, .int 0, .int (-1), .int (-1), .ref a0_heap, .ref a0_heapYes, .ref a0_path, .ref a0_bestWrong, .ref a0_bestAsked, .ref a0_bestMark, .ref a0_bestV])), (h0_asked, .inl (k0_asked, 8, .inl (upd f_1 (Int32.toNatClampNeg 7) (tm p1 p2 p3 p4 7))))] H := hP
          have hD : va_D A [(h0, .inr (8, [.ref a0_marks, .ref a0_classes, .int 0, .ref a0_isSort, .ref a0_nodes, .ref a0_many, .int 0, .ref a0_in, .int 0, .int 0, .int 0, .ref h0_asked, .ref a0_turned, .int 0, .int (-1), .int (-1), .ref a0_heap, .ref a0_heapYes, .ref a0_path, .ref a0_bestWrong, .ref a0_bestAsked, .ref a0_bestMark, .ref a0_bestV])), (h0_asked, .inl (k0_asked, 8, .inl (upd f_1 (Int32.toNatClampNeg 7) (tm p1 p2 p3 p4 7))))] := hD
          generalize hf_167 : upd f_1 (Int32.toNatClampNeg 7) (tm p1 p2 p3 p4 7) = f_166 at hP hD
          have hk_168 : f_166 7 = (tm p1 p2 p3 p4 7) := by rw [← hf_167]; exact up_s (by decide)
          clear hf_167
          refine lv_iload hx hb dX8_take_77 (lv_at hl 8 rfl) ?_
          refine lv_if_eq (tgt := 118) hx hb dX8_take_79 (by decide) (fun c_169 => ?_) (fun c_169 => ?_)
          rotate_left
          · exact absurd c_169 (by decide)
          refine lv_iconst (v := 0) hx hb dX8_take_118 (by decide) ?_
          refine lv_istore (lv' := [(6, .int 0), (9, .int (tm p1 p2 p3 p4 7)), (8, .int p4), (0, .ref h0), (1, .int p1), (2, .int p2), (3, .int p3), (4, .int p4), (5, .int 1), (7, .int 7)]) hx hb dX8_take_119 hl (by decide) rfl (fun ls hl => ?_)
          refine lv_iinc (v := 8) (lv' := [(7, .int 8), (6, .int 0), (9, .int (tm p1 p2 p3 p4 7)), (8, .int p4), (0, .ref h0), (1, .int p1), (2, .int p2), (3, .int p3), (4, .int p4), (5, .int 1)]) hx hb dX8_take_121 hl (k := 9) rfl (by decide) (by decide) rfl (fun ls hl => ?_)
          refine lv_goto (tgt := 6) hx hb dX8_take_124 (by decide) ?_
          exact ih 8 0 f_166 H locs ls (by omega) (Or.inr ⟨rfl, tk_n hI⟩) hP hD hS (lv_sub hl [4, 5, 6, 7, 8, 9, 1, 0] rfl)
  exact key 8 0 1 f0_asked s.heap [] ls rfl (Or.inl ⟨rfl, tk_0 p1 p2 p3 p4⟩) hP hD hS (lv_sub hl [2, 3, 4, 5, 6, 7, 1, 0] rfl)

set_option maxHeartbeats 4000000 in
set_option maxRecDepth 100000 in
theorem c_areGrowing (l : Launch) (dC : Nat → ClassId) (dI : Nat → Nat → Nat) (sz : Nat) (p0 : Int32) (p1 : Int32)   : Met l yX8_areGrowing wsX8_areGrowing ({ frames := 1, cells := 0, slots := 0, locals := 60 }) (va_Pc [.int p0, .int p1] (pw (dC, dI) [] [] sz)) (va_Qi (fun (r : Int32) (u : vu) => (u = ([], []) ∧ p0 < 0 ∧ r = 0) ∨ (u = ([], []) ∧ ¬ p0 < 0 ∧ 8 < p0 ∧ r = 0) ∨ (u = ([], []) ∧ ¬ p0 < 0 ∧ ¬ 8 < p0 ∧ p1 < 1 ∧ r = 0) ∨ (u = ([], []) ∧ ¬ p0 < 0 ∧ ¬ 8 < p0 ∧ ¬ p1 < 1 ∧ 100 < p1 ∧ r = 0) ∨ (u = ([], []) ∧ ¬ p0 < 0 ∧ ¬ 8 < p0 ∧ ¬ p1 < 1 ∧ ¬ 100 < p1 ∧ r = 1)) (fun u t => qw (dC, dI) u.2 (va_A [] sz) u.1 t) (va_A [] sz)) 0 0 (va_A [] sz) := by
  refine Met.ofW (cc := cX8_areGrowing) (maxL := 2) (ret := (some .boolean)) (by decide) rfl ?_
  intro p e s m args below meth c s₁ B hml hv
  obtain ⟨rfl, hsz, hP, hK, hD0, hN⟩ := hv
  have hx := B.exec
  have hb := B.bytes
  have hr := B.returns
  have hts := atoms_spec (ws := wsX8_areGrowing) B.pre
  have hown : s.vm.findClass RX8 = some m.cls := findClass_of_methodNamed B.named
  have hlocks := B.notSynchronized
  subst hsz
  have hD := hD0.self (sz := s.heap.size)
  generalize hAe : va_A [] s.heap.size = A at hD ⊢
  have hA : ∀ q : Nat, s.heap.size ≤ q → A q := fun q h => by rw [← hAe]; exact Or.inr h
  have hS : va_S A s.heap s.heap [] := va_S.rf
  have hl := lv_entry ([.int p0, .int p1]) (n := 2) (Nat.le_of_ble_eq_true rfl)
  rw [lg_entry_eq]
  generalize (lg_sl ([.int p0, .int p1]) ++ List.replicate (2 - (lg_sl ([.int p0, .int p1])).length) Slot.unset).toArray = ls at hl ⊢
  have hl : lv_has ls 2 [(0, .int p0), (1, .int p1)] := hl
  have hP : va_P (dC, dI) vwCl [] s.heap := hP
  refine lv_iload_n hx hb dX8_areGrowing_0 rfl (lv_at hl 0 rfl) ?_
  refine lv_if_lt (tgt := 25) hx hb dX8_areGrowing_1 (by decide) (fun c_1 => ?_) (fun c_1 => ?_)
  · skip
    refine lv_iconst (v := 0) hx hb dX8_areGrowing_25 (by decide) ?_
    have hP9 := hP.sub (ws' := []) [] rfl
    have hD9 := hD.sub (ws' := []) [] (by decide) rfl
    have hK9 := hK.sub (tys' := []) [] rfl
    exact W.zret (v := 0) hx hb hr rfl (fun t ht hW => ⟨⟨0, ([], []), rfl, (Or.inl ⟨rfl, c_1, rfl⟩), (by rw [ht]; exact hP9), va_K.moved hW.alike hK9, hD9⟩, hS.F ht⟩) hS.2.2 dX8_areGrowing_26
  · skip
    refine lv_iload_n hx hb dX8_areGrowing_4 rfl (lv_at hl 0 rfl) ?_
    refine lv_bipush (v := 8) hx hb dX8_areGrowing_5 (by decide) ?_
    refine lv_icmp_gt (tgt := 25) hx hb dX8_areGrowing_7 (by decide) (fun c_2 => ?_) (fun c_2 => ?_)
    · skip
      refine lv_iconst (v := 0) hx hb dX8_areGrowing_25 (by decide) ?_
      have hP9 := hP.sub (ws' := []) [] rfl
      have hD9 := hD.sub (ws' := []) [] (by decide) rfl
      have hK9 := hK.sub (tys' := []) [] rfl
      exact W.zret (v := 0) hx hb hr rfl (fun t ht hW => ⟨⟨0, ([], []), rfl, (Or.inr (Or.inl ⟨rfl, c_1, c_2, rfl⟩)), (by rw [ht]; exact hP9), va_K.moved hW.alike hK9, hD9⟩, hS.F ht⟩) hS.2.2 dX8_areGrowing_26
    · skip
      refine lv_iload_n hx hb dX8_areGrowing_10 rfl (lv_at hl 1 rfl) ?_
      refine lv_iconst (v := 1) hx hb dX8_areGrowing_11 (by decide) ?_
      refine lv_icmp_lt (tgt := 25) hx hb dX8_areGrowing_12 (by decide) (fun c_3 => ?_) (fun c_3 => ?_)
      · skip
        refine lv_iconst (v := 0) hx hb dX8_areGrowing_25 (by decide) ?_
        have hP9 := hP.sub (ws' := []) [] rfl
        have hD9 := hD.sub (ws' := []) [] (by decide) rfl
        have hK9 := hK.sub (tys' := []) [] rfl
        exact W.zret (v := 0) hx hb hr rfl (fun t ht hW => ⟨⟨0, ([], []), rfl, (Or.inr (Or.inr (Or.inl ⟨rfl, c_1, c_2, c_3, rfl⟩))), (by rw [ht]; exact hP9), va_K.moved hW.alike hK9, hD9⟩, hS.F ht⟩) hS.2.2 dX8_areGrowing_26
      · skip
        refine lv_iload_n hx hb dX8_areGrowing_15 rfl (lv_at hl 1 rfl) ?_
        refine lv_bipush (v := 100) hx hb dX8_areGrowing_16 (by decide) ?_
        refine lv_icmp_gt (tgt := 25) hx hb dX8_areGrowing_18 (by decide) (fun c_4 => ?_) (fun c_4 => ?_)
        · skip
          refine lv_iconst (v := 0) hx hb dX8_areGrowing_25 (by decide) ?_
          have hP9 := hP.sub (ws' := []) [] rfl
          have hD9 := hD.sub (ws' := []) [] (by decide) rfl
          have hK9 := hK.sub (tys' := []) [] rfl
          exact W.zret (v := 0) hx hb hr rfl (fun t ht hW => ⟨⟨0, ([], []), rfl, (Or.inr (Or.inr (Or.inr (Or.inl ⟨rfl, c_1, c_2, c_3, c_4, rfl⟩)))), (by rw [ht]; exact hP9), va_K.moved hW.alike hK9, hD9⟩, hS.F ht⟩) hS.2.2 dX8_areGrowing_26
        · skip
          refine lv_iconst (v := 1) hx hb dX8_areGrowing_21 (by decide) ?_
          refine lv_goto (tgt := 26) hx hb dX8_areGrowing_22 (by decide) ?_
          have hP9 := hP.sub (ws' := []) [] rfl
          have hD9 := hD.sub (ws' := []) [] (by decide) rfl
          have hK9 := hK.sub (tys' := []) [] rfl
          exact W.zret (v := 1) hx hb hr rfl (fun t ht hW => ⟨⟨1, ([], []), rfl, (Or.inr (Or.inr (Or.inr (Or.inr ⟨rfl, c_1, c_2, c_3, c_4, rfl⟩)))), (by rw [ht]; exact hP9), va_K.moved hW.alike hK9, hD9⟩, hS.F ht⟩) hS.2.2 dX8_areGrowing_26

theorem lf_isTree_1 (p1 : Int32) (e0 : ¬ p1 < 0) (e1 : ¬ 0 ≤ p1) : False := by
  (try simp only [Int32.lt_iff_toInt_lt, Int32.le_iff_toInt_le, ← Int32.toInt_inj, ln_0, ln_1, ln_2, ln_3, ln_4, ln_6, ln_8, ln_10, ln_50, ln_100, ln_300, ln_1000, ln_m1000, ln_m32768, ln_m1, ln_m2, ln_m40000, ln_20] at *)
  all_goals omega
set_option maxHeartbeats 4000000 in
set_option maxRecDepth 100000 in
theorem c_isTree (l : Launch) (dC : Nat → ClassId) (dI : Nat → Nat → Nat) (sz : Nat) (h0 : Nat) (p1 : Int32) (a0_marks : Nat) (a0_classes : Nat) (a0_isSort : Nat) (a0_nodes : Nat) (a0_many : Nat) (a0_in : Nat) (a0_asked : Nat) (a0_turned : Nat) (a0_heap : Nat) (a0_heapYes : Nat) (a0_path : Nat) (a0_bestWrong : Nat) (a0_bestAsked : Nat) (a0_bestMark : Nat) (a0_bestV : Nat)   : Met l yX8_isTree wsX8_isTree ({ frames := 1, cells := 0, slots := 0, locals := 60 }) (va_Pc [.ref h0, .int p1] (pw (dC, dI) [] [(h0, .inr (8, [.ref a0_marks, .ref a0_classes, .int 0, .ref a0_isSort, .ref a0_nodes, .ref a0_many, .int 0, .ref a0_in, .int 0, .int 0, .int 0, .ref a0_asked, .ref a0_turned, .int 0, .int (-1), .int (-1), .ref a0_heap, .ref a0_heapYes, .ref a0_path, .ref a0_bestWrong, .ref a0_bestAsked, .ref a0_bestMark, .ref a0_bestV]))] sz)) (va_Qi (fun (r : Int32) (u : vu) => (u = ([(h0, .inr (8, [.ref a0_marks, .ref a0_classes, .int 0, .ref a0_isSort, .ref a0_nodes, .ref a0_many, .int 0, .ref a0_in, .int 0, .int 0, .int 0, .ref a0_asked, .ref a0_turned, .int 0, .int (-1), .int (-1), .ref a0_heap, .ref a0_heapYes, .ref a0_path, .ref a0_bestWrong, .ref a0_bestAsked, .ref a0_bestMark, .ref a0_bestV]))], []) ∧ r = 0)) (fun u t => qw (dC, dI) u.2 (va_A [(h0, .inr (8, [.ref a0_marks, .ref a0_classes, .int 0, .ref a0_isSort, .ref a0_nodes, .ref a0_many, .int 0, .ref a0_in, .int 0, .int 0, .int 0, .ref a0_asked, .ref a0_turned, .int 0, .int (-1), .int (-1), .ref a0_heap, .ref a0_heapYes, .ref a0_path, .ref a0_bestWrong, .ref a0_bestAsked, .ref a0_bestMark, .ref a0_bestV]))] sz) u.1 t) (va_A [(h0, .inr (8, [.ref a0_marks, .ref a0_classes, .int 0, .ref a0_isSort, .ref a0_nodes, .ref a0_many, .int 0, .ref a0_in, .int 0, .int 0, .int 0, .ref a0_asked, .ref a0_turned, .int 0, .int (-1), .int (-1), .ref a0_heap, .ref a0_heapYes, .ref a0_path, .ref a0_bestWrong, .ref a0_bestAsked, .ref a0_bestMark, .ref a0_bestV]))] sz)) 0 0 (va_A [(h0, .inr (8, [.ref a0_marks, .ref a0_classes, .int 0, .ref a0_isSort, .ref a0_nodes, .ref a0_many, .int 0, .ref a0_in, .int 0, .int 0, .int 0, .ref a0_asked, .ref a0_turned, .int 0, .int (-1), .int (-1), .ref a0_heap, .ref a0_heapYes, .ref a0_path, .ref a0_bestWrong, .ref a0_bestAsked, .ref a0_bestMark, .ref a0_bestV]))] sz) := by
  refine Met.ofW (cc := cX8_isTree) (maxL := 2) (ret := (some .boolean)) (by decide) rfl ?_
  intro p e s m args below meth c s₁ B hml hv
  obtain ⟨rfl, hsz, hP, hK, hD0, hN⟩ := hv
  have hx := B.exec
  have hb := B.bytes
  have hr := B.returns
  have hts := atoms_spec (ws := wsX8_isTree) B.pre
  have hown : s.vm.findClass RX8 = some m.cls := findClass_of_methodNamed B.named
  have hlocks := B.notSynchronized
  have hi8 : ∀ w ∈ u_ws RX8 TX8 23, w ∈ wsX8_isTree := fun _ h => List.mem_cons_of_mem _ (List.mem_append_right _ h)
  subst hsz
  have hD := hD0.self (sz := s.heap.size)
  generalize hAe : va_A [(h0, .inr (8, [.ref a0_marks, .ref a0_classes, .int 0, .ref a0_isSort, .ref a0_nodes, .ref a0_many, .int 0, .ref a0_in, .int 0, .int 0, .int 0, .ref a0_asked, .ref a0_turned, .int 0, .int (-1), .int (-1), .ref a0_heap, .ref a0_heapYes, .ref a0_path, .ref a0_bestWrong, .ref a0_bestAsked, .ref a0_bestMark, .ref a0_bestV]))] s.heap.size = A at hD ⊢
  have hA : ∀ q : Nat, s.heap.size ≤ q → A q := fun q h => by rw [← hAe]; exact Or.inr h
  have hS : va_S A s.heap s.heap [] := va_S.rf
  have hl := lv_entry ([.ref h0, .int p1]) (n := 2) (Nat.le_of_ble_eq_true rfl)
  rw [lg_entry_eq]
  generalize (lg_sl ([.ref h0, .int p1]) ++ List.replicate (2 - (lg_sl ([.ref h0, .int p1])).length) Slot.unset).toArray = ls at hl ⊢
  have hl : lv_has ls 2 [(0, .ref h0), (1, .int p1)] := hl
  have hP : va_P (dC, dI) vwCl [(h0, .inr (8, [.ref a0_marks, .ref a0_classes, .int 0, .ref a0_isSort, .ref a0_nodes, .ref a0_many, .int 0, .ref a0_in, .int 0, .int 0, .int 0, .ref a0_asked, .ref a0_turned, .int 0, .int (-1), .int (-1), .ref a0_heap, .ref a0_heapYes, .ref a0_path, .ref a0_bestWrong, .ref a0_bestAsked, .ref a0_bestMark, .ref a0_bestV]))] s.heap := hP
  refine lv_iload_n hx hb dX8_isTree_0 rfl (lv_at hl 1 rfl) ?_
  refine lv_if_lt (tgt := 16) hx hb dX8_isTree_1 (by decide) (fun c_1 => ?_) (fun c_1 => ?_)
  · skip
    refine lv_iconst (v := 0) hx hb dX8_isTree_16 (by decide) ?_
    have hP9 := hP.sub (ws' := [(h0, .inr (8, [.ref a0_marks, .ref a0_classes, .int 0, .ref a0_isSort, .ref a0_nodes, .ref a0_many, .int 0, .ref a0_in, .int 0, .int 0, .int 0, .ref a0_asked, .ref a0_turned, .int 0, .int (-1), .int (-1), .ref a0_heap, .ref a0_heapYes, .ref a0_path, .ref a0_bestWrong, .ref a0_bestAsked, .ref a0_bestMark, .ref a0_bestV]))]) [0] rfl
    have hD9 := hD.sub (ws' := [(h0, .inr (8, [.ref a0_marks, .ref a0_classes, .int 0, .ref a0_isSort, .ref a0_nodes, .ref a0_many, .int 0, .ref a0_in, .int 0, .int 0, .int 0, .ref a0_asked, .ref a0_turned, .int 0, .int (-1), .int (-1), .ref a0_heap, .ref a0_heapYes, .ref a0_path, .ref a0_bestWrong, .ref a0_bestAsked, .ref a0_bestMark, .ref a0_bestV]))]) [0] (by decide) rfl
    have hK9 := hK.sub (tys' := []) [] rfl
    exact W.zret (v := 0) hx hb hr rfl (fun t ht hW => ⟨⟨0, ([(h0, .inr (8, [.ref a0_marks, .ref a0_classes, .int 0, .ref a0_isSort, .ref a0_nodes, .ref a0_many, .int 0, .ref a0_in, .int 0, .int 0, .int 0, .ref a0_asked, .ref a0_turned, .int 0, .int (-1), .int (-1), .ref a0_heap, .ref a0_heapYes, .ref a0_path, .ref a0_bestWrong, .ref a0_bestAsked, .ref a0_bestMark, .ref a0_bestV]))], []), rfl, ⟨rfl, rfl⟩, (by rw [ht]; exact hP9), va_K.moved hW.alike hK9, hD9⟩, hS.F ht⟩) hS.2.2 dX8_isTree_17
  · skip
    refine lv_iload_n hx hb dX8_isTree_4 rfl (lv_at hl 1 rfl) ?_
    refine lv_aload_n hx hb dX8_isTree_5 rfl (lv_at hl 0 rfl) ?_
    refine va_get (D := (dC, dI)) (ci := 8) (v := .int 0) (C := RX8) (T := TX8) (N := 23) hx hb hts hi8 hown hK hP 0 rfl rfl 6 (by decide) (hts (.fieldLink RX8 67 "AskTreeModel" "trees" "I") (by decide +kernel)) (fun _ h9 => h9) rfl dX8_isTree_6 ?_
    refine lv_icmp_ge (tgt := 16) hx hb dX8_isTree_9 (by decide) (fun c_2 => ?_) (fun c_2 => ?_)
    rotate_left
    · exact False.elim (lf_isTree_1 p1 c_1 c_2)
    refine lv_iconst (v := 0) hx hb dX8_isTree_16 (by decide) ?_
    have hP9 := hP.sub (ws' := [(h0, .inr (8, [.ref a0_marks, .ref a0_classes, .int 0, .ref a0_isSort, .ref a0_nodes, .ref a0_many, .int 0, .ref a0_in, .int 0, .int 0, .int 0, .ref a0_asked, .ref a0_turned, .int 0, .int (-1), .int (-1), .ref a0_heap, .ref a0_heapYes, .ref a0_path, .ref a0_bestWrong, .ref a0_bestAsked, .ref a0_bestMark, .ref a0_bestV]))]) [0] rfl
    have hD9 := hD.sub (ws' := [(h0, .inr (8, [.ref a0_marks, .ref a0_classes, .int 0, .ref a0_isSort, .ref a0_nodes, .ref a0_many, .int 0, .ref a0_in, .int 0, .int 0, .int 0, .ref a0_asked, .ref a0_turned, .int 0, .int (-1), .int (-1), .ref a0_heap, .ref a0_heapYes, .ref a0_path, .ref a0_bestWrong, .ref a0_bestAsked, .ref a0_bestMark, .ref a0_bestV]))]) [0] (by decide) rfl
    have hK9 := hK.sub (tys' := []) [] rfl
    exact W.zret (v := 0) hx hb hr rfl (fun t ht hW => ⟨⟨0, ([(h0, .inr (8, [.ref a0_marks, .ref a0_classes, .int 0, .ref a0_isSort, .ref a0_nodes, .ref a0_many, .int 0, .ref a0_in, .int 0, .int 0, .int 0, .ref a0_asked, .ref a0_turned, .int 0, .int (-1), .int (-1), .ref a0_heap, .ref a0_heapYes, .ref a0_path, .ref a0_bestWrong, .ref a0_bestAsked, .ref a0_bestMark, .ref a0_bestV]))], []), rfl, ⟨rfl, rfl⟩, (by rw [ht]; exact hP9), va_K.moved hW.alike hK9, hD9⟩, hS.F ht⟩) hS.2.2 dX8_isTree_17

set_option maxHeartbeats 4000000 in
set_option maxRecDepth 100000 in
theorem c_place0 (l : Launch) (dC : Nat → ClassId) (dI : Nat → Nat → Nat) (sz : Nat) (h0 : Nat) (a0_marks : Nat) (a0_classes : Nat) (a0_isSort : Nat) (a0_nodes : Nat) (a0_many : Nat) (a0_in : Nat) (a0_asked : Nat) (a0_turned : Nat) (a0_heap : Nat) (a0_heapYes : Nat) (a0_path : Nat) (a0_bestWrong : Nat) (a0_bestAsked : Nat) (a0_bestMark : Nat) (a0_bestV : Nat)   : Met l yX8_place wsX8_place ({ frames := 1, cells := 0, slots := 0, locals := 60 }) (va_Pc [.ref h0, .int 0, .int 0] (pw (dC, dI) [] [(h0, .inr (8, [.ref a0_marks, .ref a0_classes, .int 0, .ref a0_isSort, .ref a0_nodes, .ref a0_many, .int 0, .ref a0_in, .int 0, .int 0, .int 0, .ref a0_asked, .ref a0_turned, .int 0, .int (-1), .int (-1), .ref a0_heap, .ref a0_heapYes, .ref a0_path, .ref a0_bestWrong, .ref a0_bestAsked, .ref a0_bestMark, .ref a0_bestV]))] sz)) (va_Qi (fun (r : Int32) (u : vu) => (u = ([(h0, .inr (8, [.ref a0_marks, .ref a0_classes, .int 0, .ref a0_isSort, .ref a0_nodes, .ref a0_many, .int 0, .ref a0_in, .int 0, .int 0, .int 0, .ref a0_asked, .ref a0_turned, .int 0, .int (-1), .int (-1), .ref a0_heap, .ref a0_heapYes, .ref a0_path, .ref a0_bestWrong, .ref a0_bestAsked, .ref a0_bestMark, .ref a0_bestV]))], []) ∧ r = 0)) (fun u t => qw (dC, dI) u.2 (va_A [(h0, .inr (8, [.ref a0_marks, .ref a0_classes, .int 0, .ref a0_isSort, .ref a0_nodes, .ref a0_many, .int 0, .ref a0_in, .int 0, .int 0, .int 0, .ref a0_asked, .ref a0_turned, .int 0, .int (-1), .int (-1), .ref a0_heap, .ref a0_heapYes, .ref a0_path, .ref a0_bestWrong, .ref a0_bestAsked, .ref a0_bestMark, .ref a0_bestV]))] sz) u.1 t) (va_A [(h0, .inr (8, [.ref a0_marks, .ref a0_classes, .int 0, .ref a0_isSort, .ref a0_nodes, .ref a0_many, .int 0, .ref a0_in, .int 0, .int 0, .int 0, .ref a0_asked, .ref a0_turned, .int 0, .int (-1), .int (-1), .ref a0_heap, .ref a0_heapYes, .ref a0_path, .ref a0_bestWrong, .ref a0_bestAsked, .ref a0_bestMark, .ref a0_bestV]))] sz)) 0 0 (va_A [(h0, .inr (8, [.ref a0_marks, .ref a0_classes, .int 0, .ref a0_isSort, .ref a0_nodes, .ref a0_many, .int 0, .ref a0_in, .int 0, .int 0, .int 0, .ref a0_asked, .ref a0_turned, .int 0, .int (-1), .int (-1), .ref a0_heap, .ref a0_heapYes, .ref a0_path, .ref a0_bestWrong, .ref a0_bestAsked, .ref a0_bestMark, .ref a0_bestV]))] sz) := by
  refine Met.ofW (cc := cX8_place) (maxL := 3) (ret := (some .int)) (by decide) rfl ?_
  intro p e s m args below meth c s₁ B hml hv
  obtain ⟨rfl, hsz, hP, hK, hD0, hN⟩ := hv
  have hx := B.exec
  have hb := B.bytes
  have hr := B.returns
  have hts := atoms_spec (ws := wsX8_place) B.pre
  have hown : s.vm.findClass RX8 = some m.cls := findClass_of_methodNamed B.named
  have hlocks := B.notSynchronized
  subst hsz
  have hD := hD0.self (sz := s.heap.size)
  generalize hAe : va_A [(h0, .inr (8, [.ref a0_marks, .ref a0_classes, .int 0, .ref a0_isSort, .ref a0_nodes, .ref a0_many, .int 0, .ref a0_in, .int 0, .int 0, .int 0, .ref a0_asked, .ref a0_turned, .int 0, .int (-1), .int (-1), .ref a0_heap, .ref a0_heapYes, .ref a0_path, .ref a0_bestWrong, .ref a0_bestAsked, .ref a0_bestMark, .ref a0_bestV]))] s.heap.size = A at hD ⊢
  have hA : ∀ q : Nat, s.heap.size ≤ q → A q := fun q h => by rw [← hAe]; exact Or.inr h
  have hS : va_S A s.heap s.heap [] := va_S.rf
  have hl := lv_entry ([.ref h0, .int 0, .int 0]) (n := 3) (Nat.le_of_ble_eq_true rfl)
  rw [lg_entry_eq]
  generalize (lg_sl ([.ref h0, .int 0, .int 0]) ++ List.replicate (3 - (lg_sl ([.ref h0, .int 0, .int 0])).length) Slot.unset).toArray = ls at hl ⊢
  have hl : lv_has ls 3 [(0, .ref h0), (1, .int 0), (2, .int 0)] := hl
  have hP : va_P (dC, dI) vwCl [(h0, .inr (8, [.ref a0_marks, .ref a0_classes, .int 0, .ref a0_isSort, .ref a0_nodes, .ref a0_many, .int 0, .ref a0_in, .int 0, .int 0, .int 0, .ref a0_asked, .ref a0_turned, .int 0, .int (-1), .int (-1), .ref a0_heap, .ref a0_heapYes, .ref a0_path, .ref a0_bestWrong, .ref a0_bestAsked, .ref a0_bestMark, .ref a0_bestV]))] s.heap := hP
  refine lv_iload_n hx hb dX8_place_0 rfl (lv_at hl 1 rfl) ?_
  refine lv_sipush (v := 640) hx hb dX8_place_1 (by decide) ?_
  refine lv_imul hx hb dX8_place_4 ?_
  refine tvv (v := .int 0) (congrArg Value.int (by decide)) ?_
  refine lv_iload_n hx hb dX8_place_5 rfl (lv_at hl 2 rfl) ?_
  refine lv_iadd hx hb dX8_place_6 ?_
  refine tvv (v := .int 0) (congrArg Value.int (by decide)) ?_
  refine lv_bipush (v := 10) hx hb dX8_place_7 (by decide) ?_
  refine lv_imul hx hb dX8_place_9 ?_
  refine tvv (v := .int 0) (congrArg Value.int (by decide)) ?_
  have hP9 := hP.sub (ws' := [(h0, .inr (8, [.ref a0_marks, .ref a0_classes, .int 0, .ref a0_isSort, .ref a0_nodes, .ref a0_many, .int 0, .ref a0_in, .int 0, .int 0, .int 0, .ref a0_asked, .ref a0_turned, .int 0, .int (-1), .int (-1), .ref a0_heap, .ref a0_heapYes, .ref a0_path, .ref a0_bestWrong, .ref a0_bestAsked, .ref a0_bestMark, .ref a0_bestV]))]) [0] rfl
  have hD9 := hD.sub (ws' := [(h0, .inr (8, [.ref a0_marks, .ref a0_classes, .int 0, .ref a0_isSort, .ref a0_nodes, .ref a0_many, .int 0, .ref a0_in, .int 0, .int 0, .int 0, .ref a0_asked, .ref a0_turned, .int 0, .int (-1), .int (-1), .ref a0_heap, .ref a0_heapYes, .ref a0_path, .ref a0_bestWrong, .ref a0_bestAsked, .ref a0_bestMark, .ref a0_bestV]))]) [0] (by decide) rfl
  have hK9 := hK.sub (tys' := []) [] rfl
  exact W.iret (v := 0) hx hb hr (fun t ht hW => ⟨⟨0, ([(h0, .inr (8, [.ref a0_marks, .ref a0_classes, .int 0, .ref a0_isSort, .ref a0_nodes, .ref a0_many, .int 0, .ref a0_in, .int 0, .int 0, .int 0, .ref a0_asked, .ref a0_turned, .int 0, .int (-1), .int (-1), .ref a0_heap, .ref a0_heapYes, .ref a0_path, .ref a0_bestWrong, .ref a0_bestAsked, .ref a0_bestMark, .ref a0_bestV]))], []), rfl, ⟨rfl, rfl⟩, (by rw [ht]; exact hP9), va_K.moved hW.alike hK9, hD9⟩, hS.F ht⟩) hS.2.2 dX8_place_10

set_option maxHeartbeats 4000000 in
set_option maxRecDepth 100000 in
theorem c_countRow0 (l : Launch) (dC : Nat → ClassId) (dI : Nat → Nat → Nat) (sz : Nat) (h0 : Nat) (h0_heap : Nat) (a0_marks : Nat) (a0_classes : Nat) (a0_isSort : Nat) (a0_nodes : Nat) (a0_many : Nat) (a0_in : Nat) (a0_asked : Nat) (a0_turned : Nat) (a0_heapYes : Nat) (a0_path : Nat) (a0_bestWrong : Nat) (a0_bestAsked : Nat) (a0_bestMark : Nat) (a0_bestV : Nat) (k0_heap : ClassId) (f0_heap : Nat → Int32)   : Met l yX8_countRow wsX8_countRow ({ frames := 1, cells := 0, slots := 0, locals := 60 }) (va_Pc [.ref h0, .int 0] (pw (dC, dI) [(k0_heap, .int)] [(h0, .inr (8, [.ref a0_marks, .ref a0_classes, .int 0, .ref a0_isSort, .ref a0_nodes, .ref a0_many, .int 0, .ref a0_in, .int 0, .int 0, .int 0, .ref a0_asked, .ref a0_turned, .int 0, .int (-1), .int (-1), .ref h0_heap, .ref a0_heapYes, .ref a0_path, .ref a0_bestWrong, .ref a0_bestAsked, .ref a0_bestMark, .ref a0_bestV])), (h0_heap, .inl (k0_heap, 4, .inl f0_heap))] sz)) (va_Qv (fun (u : vu) => (∃ (f_17 : Nat → Int32), u = ([(h0, .inr (8, [.ref a0_marks, .ref a0_classes, .int 0, .ref a0_isSort, .ref a0_nodes, .ref a0_many, .int 0, .ref a0_in, .int 0, .int 0, .int 0, .ref a0_asked, .ref a0_turned, .int 0, .int (-1), .int (-1), .ref h0_heap, .ref a0_heapYes, .ref a0_path, .ref a0_bestWrong, .ref a0_bestAsked, .ref a0_bestMark, .ref a0_bestV])), (h0_heap, .inl (k0_heap, 4, .inl f_17))], []) ∧ f_17 0 = 0 ∧ f_17 1 = 0 ∧ f_17 2 = 0 ∧ f_17 3 = 0)) (fun u t => qw (dC, dI) u.2 (va_A [(h0, .inr (8, [.ref a0_marks, .ref a0_classes, .int 0, .ref a0_isSort, .ref a0_nodes, .ref a0_many, .int 0, .ref a0_in, .int 0, .int 0, .int 0, .ref a0_asked, .ref a0_turned, .int 0, .int (-1), .int (-1), .ref h0_heap, .ref a0_heapYes, .ref a0_path, .ref a0_bestWrong, .ref a0_bestAsked, .ref a0_bestMark, .ref a0_bestV])), (h0_heap, .inl (k0_heap, 4, .inl f0_heap))] sz) u.1 t) (va_A [(h0, .inr (8, [.ref a0_marks, .ref a0_classes, .int 0, .ref a0_isSort, .ref a0_nodes, .ref a0_many, .int 0, .ref a0_in, .int 0, .int 0, .int 0, .ref a0_asked, .ref a0_turned, .int 0, .int (-1), .int (-1), .ref h0_heap, .ref a0_heapYes, .ref a0_path, .ref a0_bestWrong, .ref a0_bestAsked, .ref a0_bestMark, .ref a0_bestV])), (h0_heap, .inl (k0_heap, 4, .inl f0_heap))] sz)) 0 0 (va_A [(h0, .inr (8, [.ref a0_marks, .ref a0_classes, .int 0, .ref a0_isSort, .ref a0_nodes, .ref a0_many, .int 0, .ref a0_in, .int 0, .int 0, .int 0, .ref a0_asked, .ref a0_turned, .int 0, .int (-1), .int (-1), .ref h0_heap, .ref a0_heapYes, .ref a0_path, .ref a0_bestWrong, .ref a0_bestAsked, .ref a0_bestMark, .ref a0_bestV])), (h0_heap, .inl (k0_heap, 4, .inl f0_heap))] sz) := by
  refine Met.ofW (cc := cX8_countRow) (maxL := 3) (ret := none) (by decide) rfl ?_
  intro p e s m args below meth c s₁ B hml hv
  obtain ⟨rfl, hsz, hP, hK, hD0, hN⟩ := hv
  have hx := B.exec
  have hb := B.bytes
  have hr := B.returns
  have hts := atoms_spec (ws := wsX8_countRow) B.pre
  have hown : s.vm.findClass RX8 = some m.cls := findClass_of_methodNamed B.named
  have hlocks := B.notSynchronized
  have hi8 : ∀ w ∈ u_ws RX8 TX8 23, w ∈ wsX8_countRow := fun _ h => List.mem_cons_of_mem _ (List.mem_append_right _ h)
  subst hsz
  have hD := hD0.self (sz := s.heap.size)
  generalize hAe : va_A [(h0, .inr (8, [.ref a0_marks, .ref a0_classes, .int 0, .ref a0_isSort, .ref a0_nodes, .ref a0_many, .int 0, .ref a0_in, .int 0, .int 0, .int 0, .ref a0_asked, .ref a0_turned, .int 0, .int (-1), .int (-1), .ref h0_heap, .ref a0_heapYes, .ref a0_path, .ref a0_bestWrong, .ref a0_bestAsked, .ref a0_bestMark, .ref a0_bestV])), (h0_heap, .inl (k0_heap, 4, .inl f0_heap))] s.heap.size = A at hD ⊢
  have hA : ∀ q : Nat, s.heap.size ≤ q → A q := fun q h => by rw [← hAe]; exact Or.inr h
  have hS : va_S A s.heap s.heap [] := va_S.rf
  have hl := lv_entry ([.ref h0, .int 0]) (n := 3) (Nat.le_of_ble_eq_true rfl)
  rw [lg_entry_eq]
  generalize (lg_sl ([.ref h0, .int 0]) ++ List.replicate (3 - (lg_sl ([.ref h0, .int 0])).length) Slot.unset).toArray = ls at hl ⊢
  have hl : lv_has ls 3 [(0, .ref h0), (1, .int 0)] := hl
  have hP : va_P (dC, dI) vwCl [(h0, .inr (8, [.ref a0_marks, .ref a0_classes, .int 0, .ref a0_isSort, .ref a0_nodes, .ref a0_many, .int 0, .ref a0_in, .int 0, .int 0, .int 0, .ref a0_asked, .ref a0_turned, .int 0, .int (-1), .int (-1), .ref h0_heap, .ref a0_heapYes, .ref a0_path, .ref a0_bestWrong, .ref a0_bestAsked, .ref a0_bestMark, .ref a0_bestV])), (h0_heap, .inl (k0_heap, 4, .inl f0_heap))] s.heap := hP
  refine lv_iconst (v := 0) hx hb dX8_countRow_0 (by decide) ?_
  refine lv_istore_n (lv' := [(2, .int 0), (0, .ref h0), (1, .int 0)]) hx hb dX8_countRow_1 rfl hl (by decide) rfl (fun ls hl => ?_)
  refine lv_iload_n hx hb dX8_countRow_2 rfl (lv_at hl 0 rfl) ?_
  refine lv_iconst (v := 4) hx hb dX8_countRow_3 (by decide) ?_
  refine lv_icmp_ge (tgt := 20) hx hb dX8_countRow_4 (by decide) (fun c_1 => ?_) (fun c_1 => ?_)
  · exact absurd c_1 (by decide)
  refine lv_aload_n hx hb dX8_countRow_7 rfl (lv_at hl 1 rfl) ?_
  refine va_get (D := (dC, dI)) (ci := 8) (v := .ref h0_heap) (C := RX8) (T := TX8) (N := 23) hx hb hts hi8 hown hK hP 0 rfl rfl 16 (by decide) (hts (.fieldLink RX8 43 "AskTreeModel" "heap" "[I") (by decide +kernel)) (fun _ h9 => h9) rfl dX8_countRow_8 ?_
  refine lv_iload_n hx hb dX8_countRow_11 rfl (lv_at hl 0 rfl) ?_
  refine lv_iconst (v := 0) hx hb dX8_countRow_12 (by decide) ?_
  refine va_iast hx hb hK hP hD hS 1 0 rfl rfl (vi _ _ (by decide)) dX8_countRow_13 (fun H locs hP hD hS => ?_)
  have hP : va_P (dC, dI) vwCl [(h0, .inr (8, [.ref a0_marks, .ref a0_classes, .int 0, .ref a0_isSort, .ref a0_nodes, .ref a0_many, .int 0, .ref a0_in, .int 0, .int 0, .int 0, .ref a0_asked, .ref a0_turned, .int 0, .int (-1), .int (-1), .ref h0_heap, .ref a0_heapYes, .ref a0_path, .ref a0_bestWrong, .ref a0_bestAsked, .ref a0_bestMark, .ref a0_bestV])), (h0_heap, .inl (k0_heap, 4, .inl (upd f0_heap (Int32.toNatClampNeg 0) 0)))] H := hP
  have hD : va_D A [(h0, .inr (8, [.ref a0_marks, .ref a0_classes, .int 0, .ref a0_isSort, .ref a0_nodes, .ref a0_many, .int 0, .ref a0_in, .int 0, .int 0, .int 0, .ref a0_asked, .ref a0_turned, .int 0, .int (-1), .int (-1), .ref h0_heap, .ref a0_heapYes, .ref a0_path, .ref a0_bestWrong, .ref a0_bestAsked, .ref a0_bestMark, .ref a0_bestV])), (h0_heap, .inl (k0_heap, 4, .inl (upd f0_heap (Int32.toNatClampNeg 0) 0)))] := hD
  generalize hf_3 : upd f0_heap (Int32.toNatClampNeg 0) 0 = f_2 at hP hD
  have hk_4 : f_2 0 = 0 := by rw [← hf_3]; exact up_s (by decide)
  clear hf_3
  refine lv_iinc (v := 1) (lv' := [(2, .int 1), (0, .ref h0), (1, .int 0)]) hx hb dX8_countRow_14 hl (k := 0) rfl (by decide) (by decide) rfl (fun ls hl => ?_)
  refine lv_goto (tgt := 2) hx hb dX8_countRow_17 (by decide) ?_
  refine lv_iload_n hx hb dX8_countRow_2 rfl (lv_at hl 0 rfl) ?_
  refine lv_iconst (v := 4) hx hb dX8_countRow_3 (by decide) ?_
  refine lv_icmp_ge (tgt := 20) hx hb dX8_countRow_4 (by decide) (fun c_5 => ?_) (fun c_5 => ?_)
  · exact absurd c_5 (by decide)
  refine lv_aload_n hx hb dX8_countRow_7 rfl (lv_at hl 1 rfl) ?_
  refine va_get (D := (dC, dI)) (ci := 8) (v := .ref h0_heap) (C := RX8) (T := TX8) (N := 23) hx hb hts hi8 hown hK hP 0 rfl rfl 16 (by decide) (hts (.fieldLink RX8 43 "AskTreeModel" "heap" "[I") (by decide +kernel)) (fun _ h9 => h9) rfl dX8_countRow_8 ?_
  refine lv_iload_n hx hb dX8_countRow_11 rfl (lv_at hl 0 rfl) ?_
  refine lv_iconst (v := 0) hx hb dX8_countRow_12 (by decide) ?_
  refine va_iast hx hb hK hP hD hS 1 0 rfl rfl (vi _ _ (by decide)) dX8_countRow_13 (fun H locs hP hD hS => ?_)
  have hP : va_P (dC, dI) vwCl [(h0, .inr (8, [.ref a0_marks, .ref a0_classes, .int 0, .ref a0_isSort, .ref a0_nodes, .ref a0_many, .int 0, .ref a0_in, .int 0, .int 0, .int 0, .ref a0_asked, .ref a0_turned, .int 0, .int (-1), .int (-1), .ref h0_heap, .ref a0_heapYes, .ref a0_path, .ref a0_bestWrong, .ref a0_bestAsked, .ref a0_bestMark, .ref a0_bestV])), (h0_heap, .inl (k0_heap, 4, .inl (upd f_2 (Int32.toNatClampNeg 1) 0)))] H := hP
  have hD : va_D A [(h0, .inr (8, [.ref a0_marks, .ref a0_classes, .int 0, .ref a0_isSort, .ref a0_nodes, .ref a0_many, .int 0, .ref a0_in, .int 0, .int 0, .int 0, .ref a0_asked, .ref a0_turned, .int 0, .int (-1), .int (-1), .ref h0_heap, .ref a0_heapYes, .ref a0_path, .ref a0_bestWrong, .ref a0_bestAsked, .ref a0_bestMark, .ref a0_bestV])), (h0_heap, .inl (k0_heap, 4, .inl (upd f_2 (Int32.toNatClampNeg 1) 0)))] := hD
  generalize hf_7 : upd f_2 (Int32.toNatClampNeg 1) 0 = f_6 at hP hD
  have hk_8 : f_6 1 = 0 := by rw [← hf_7]; exact up_s (by decide)
  have hk_9 : f_6 0 = 0 := by rw [← hf_7]; exact up_n (k := 1) (by decide) (by decide) hk_4
  clear hf_7
  refine lv_iinc (v := 2) (lv' := [(2, .int 2), (0, .ref h0), (1, .int 0)]) hx hb dX8_countRow_14 hl (k := 0) rfl (by decide) (by decide) rfl (fun ls hl => ?_)
  refine lv_goto (tgt := 2) hx hb dX8_countRow_17 (by decide) ?_
  refine lv_iload_n hx hb dX8_countRow_2 rfl (lv_at hl 0 rfl) ?_
  refine lv_iconst (v := 4) hx hb dX8_countRow_3 (by decide) ?_
  refine lv_icmp_ge (tgt := 20) hx hb dX8_countRow_4 (by decide) (fun c_10 => ?_) (fun c_10 => ?_)
  · exact absurd c_10 (by decide)
  refine lv_aload_n hx hb dX8_countRow_7 rfl (lv_at hl 1 rfl) ?_
  refine va_get (D := (dC, dI)) (ci := 8) (v := .ref h0_heap) (C := RX8) (T := TX8) (N := 23) hx hb hts hi8 hown hK hP 0 rfl rfl 16 (by decide) (hts (.fieldLink RX8 43 "AskTreeModel" "heap" "[I") (by decide +kernel)) (fun _ h9 => h9) rfl dX8_countRow_8 ?_
  refine lv_iload_n hx hb dX8_countRow_11 rfl (lv_at hl 0 rfl) ?_
  refine lv_iconst (v := 0) hx hb dX8_countRow_12 (by decide) ?_
  refine va_iast hx hb hK hP hD hS 1 0 rfl rfl (vi _ _ (by decide)) dX8_countRow_13 (fun H locs hP hD hS => ?_)
  have hP : va_P (dC, dI) vwCl [(h0, .inr (8, [.ref a0_marks, .ref a0_classes, .int 0, .ref a0_isSort, .ref a0_nodes, .ref a0_many, .int 0, .ref a0_in, .int 0, .int 0, .int 0, .ref a0_asked, .ref a0_turned, .int 0, .int (-1), .int (-1), .ref h0_heap, .ref a0_heapYes, .ref a0_path, .ref a0_bestWrong, .ref a0_bestAsked, .ref a0_bestMark, .ref a0_bestV])), (h0_heap, .inl (k0_heap, 4, .inl (upd f_6 (Int32.toNatClampNeg 2) 0)))] H := hP
  have hD : va_D A [(h0, .inr (8, [.ref a0_marks, .ref a0_classes, .int 0, .ref a0_isSort, .ref a0_nodes, .ref a0_many, .int 0, .ref a0_in, .int 0, .int 0, .int 0, .ref a0_asked, .ref a0_turned, .int 0, .int (-1), .int (-1), .ref h0_heap, .ref a0_heapYes, .ref a0_path, .ref a0_bestWrong, .ref a0_bestAsked, .ref a0_bestMark, .ref a0_bestV])), (h0_heap, .inl (k0_heap, 4, .inl (upd f_6 (Int32.toNatClampNeg 2) 0)))] := hD
  generalize hf_12 : upd f_6 (Int32.toNatClampNeg 2) 0 = f_11 at hP hD
  have hk_13 : f_11 2 = 0 := by rw [← hf_12]; exact up_s (by decide)
  have hk_14 : f_11 1 = 0 := by rw [← hf_12]; exact up_n (k := 2) (by decide) (by decide) hk_8
  have hk_15 : f_11 0 = 0 := by rw [← hf_12]; exact up_n (k := 2) (by decide) (by decide) hk_9
  clear hf_12
  refine lv_iinc (v := 3) (lv' := [(2, .int 3), (0, .ref h0), (1, .int 0)]) hx hb dX8_countRow_14 hl (k := 0) rfl (by decide) (by decide) rfl (fun ls hl => ?_)
  refine lv_goto (tgt := 2) hx hb dX8_countRow_17 (by decide) ?_
  refine lv_iload_n hx hb dX8_countRow_2 rfl (lv_at hl 0 rfl) ?_
  refine lv_iconst (v := 4) hx hb dX8_countRow_3 (by decide) ?_
  refine lv_icmp_ge (tgt := 20) hx hb dX8_countRow_4 (by decide) (fun c_16 => ?_) (fun c_16 => ?_)
  · exact absurd c_16 (by decide)
  refine lv_aload_n hx hb dX8_countRow_7 rfl (lv_at hl 1 rfl) ?_
  refine va_get (D := (dC, dI)) (ci := 8) (v := .ref h0_heap) (C := RX8) (T := TX8) (N := 23) hx hb hts hi8 hown hK hP 0 rfl rfl 16 (by decide) (hts (.fieldLink RX8 43 "AskTreeModel" "heap" "[I") (by decide +kernel)) (fun _ h9 => h9) rfl dX8_countRow_8 ?_
  refine lv_iload_n hx hb dX8_countRow_11 rfl (lv_at hl 0 rfl) ?_
  refine lv_iconst (v := 0) hx hb dX8_countRow_12 (by decide) ?_
  refine va_iast hx hb hK hP hD hS 1 0 rfl rfl (vi _ _ (by decide)) dX8_countRow_13 (fun H locs hP hD hS => ?_)
  have hP : va_P (dC, dI) vwCl [(h0, .inr (8, [.ref a0_marks, .ref a0_classes, .int 0, .ref a0_isSort, .ref a0_nodes, .ref a0_many, .int 0, .ref a0_in, .int 0, .int 0, .int 0, .ref a0_asked, .ref a0_turned, .int 0, .int (-1), .int (-1), .ref h0_heap, .ref a0_heapYes, .ref a0_path, .ref a0_bestWrong, .ref a0_bestAsked, .ref a0_bestMark, .ref a0_bestV])), (h0_heap, .inl (k0_heap, 4, .inl (upd f_11 (Int32.toNatClampNeg 3) 0)))] H := hP
  have hD : va_D A [(h0, .inr (8, [.ref a0_marks, .ref a0_classes, .int 0, .ref a0_isSort, .ref a0_nodes, .ref a0_many, .int 0, .ref a0_in, .int 0, .int 0, .int 0, .ref a0_asked, .ref a0_turned, .int 0, .int (-1), .int (-1), .ref h0_heap, .ref a0_heapYes, .ref a0_path, .ref a0_bestWrong, .ref a0_bestAsked, .ref a0_bestMark, .ref a0_bestV])), (h0_heap, .inl (k0_heap, 4, .inl (upd f_11 (Int32.toNatClampNeg 3) 0)))] := hD
  generalize hf_18 : upd f_11 (Int32.toNatClampNeg 3) 0 = f_17 at hP hD
  have hk_19 : f_17 3 = 0 := by rw [← hf_18]; exact up_s (by decide)
  have hk_20 : f_17 2 = 0 := by rw [← hf_18]; exact up_n (k := 3) (by decide) (by decide) hk_13
  have hk_21 : f_17 1 = 0 := by rw [← hf_18]; exact up_n (k := 3) (by decide) (by decide) hk_14
  have hk_22 : f_17 0 = 0 := by rw [← hf_18]; exact up_n (k := 3) (by decide) (by decide) hk_15
  clear hf_18
  refine lv_iinc (v := 4) (lv' := [(2, .int 4), (0, .ref h0), (1, .int 0)]) hx hb dX8_countRow_14 hl (k := 0) rfl (by decide) (by decide) rfl (fun ls hl => ?_)
  refine lv_goto (tgt := 2) hx hb dX8_countRow_17 (by decide) ?_
  refine lv_iload_n hx hb dX8_countRow_2 rfl (lv_at hl 0 rfl) ?_
  refine lv_iconst (v := 4) hx hb dX8_countRow_3 (by decide) ?_
  refine lv_icmp_ge (tgt := 20) hx hb dX8_countRow_4 (by decide) (fun c_23 => ?_) (fun c_23 => ?_)
  rotate_left
  · exact absurd c_23 (by decide)
  refine lv_iconst (v := 0) hx hb dX8_countRow_20 (by decide) ?_
  refine lv_istore_n (lv' := [(2, .int 0), (0, .ref h0), (1, .int 0)]) hx hb dX8_countRow_21 rfl hl (by decide) rfl (fun ls hl => ?_)
  refine lv_iload_n hx hb dX8_countRow_22 rfl (lv_at hl 0 rfl) ?_
  refine lv_aload_n hx hb dX8_countRow_23 rfl (lv_at hl 1 rfl) ?_
  refine va_get (D := (dC, dI)) (ci := 8) (v := .int 0) (C := RX8) (T := TX8) (N := 23) hx hb hts hi8 hown hK hP 0 rfl rfl 2 (by decide) (hts (.fieldLink RX8 64 "AskTreeModel" "cases" "I") (by decide +kernel)) (fun _ h9 => h9) rfl dX8_countRow_24 ?_
  refine lv_icmp_ge (tgt := 66) hx hb dX8_countRow_27 (by decide) (fun c_24 => ?_) (fun c_24 => ?_)
  rotate_left
  · exact absurd c_24 (by decide)
  have hP9 := hP.sub (ws' := [(h0, .inr (8, [.ref a0_marks, .ref a0_classes, .int 0, .ref a0_isSort, .ref a0_nodes, .ref a0_many, .int 0, .ref a0_in, .int 0, .int 0, .int 0, .ref a0_asked, .ref a0_turned, .int 0, .int (-1), .int (-1), .ref h0_heap, .ref a0_heapYes, .ref a0_path, .ref a0_bestWrong, .ref a0_bestAsked, .ref a0_bestMark, .ref a0_bestV])), (h0_heap, .inl (k0_heap, 4, .inl f_17))]) [0, 1] rfl
  have hD9 := hD.sub (ws' := [(h0, .inr (8, [.ref a0_marks, .ref a0_classes, .int 0, .ref a0_isSort, .ref a0_nodes, .ref a0_many, .int 0, .ref a0_in, .int 0, .int 0, .int 0, .ref a0_asked, .ref a0_turned, .int 0, .int (-1), .int (-1), .ref h0_heap, .ref a0_heapYes, .ref a0_path, .ref a0_bestWrong, .ref a0_bestAsked, .ref a0_bestMark, .ref a0_bestV])), (h0_heap, .inl (k0_heap, 4, .inl f_17))]) [0, 1] (by decide) rfl
  have hK9 := hK.sub (tys' := []) [] rfl
  exact W.vret hx hb hr (fun t ht hW => ⟨⟨([(h0, .inr (8, [.ref a0_marks, .ref a0_classes, .int 0, .ref a0_isSort, .ref a0_nodes, .ref a0_many, .int 0, .ref a0_in, .int 0, .int 0, .int 0, .ref a0_asked, .ref a0_turned, .int 0, .int (-1), .int (-1), .ref h0_heap, .ref a0_heapYes, .ref a0_path, .ref a0_bestWrong, .ref a0_bestAsked, .ref a0_bestMark, .ref a0_bestV])), (h0_heap, .inl (k0_heap, 4, .inl f_17))], []), rfl, ⟨f_17, rfl, hk_22, hk_21, hk_20, hk_19⟩, (by rw [ht]; exact hP9), va_K.moved hW.alike hK9, hD9⟩, hS.F ht⟩) hS.2.2 dX8_countRow_66

set_option maxHeartbeats 4000000 in
set_option maxRecDepth 100000 in
theorem c_newNode0 (l : Launch) (dC : Nat → ClassId) (dI : Nat → Nat → Nat) (sz : Nat) (h0 : Nat) (h0_heap : Nat) (h0_many : Nat) (h0_nodes : Nat) (a0_marks : Nat) (a0_classes : Nat) (a0_isSort : Nat) (a0_in : Nat) (a0_asked : Nat) (a0_turned : Nat) (a0_heapYes : Nat) (a0_path : Nat) (a0_bestWrong : Nat) (a0_bestAsked : Nat) (a0_bestMark : Nat) (a0_bestV : Nat) (k0_heap : ClassId) (f0_heap : Nat → Int32) (k0_many : ClassId) (f0_many : Nat → Int32) (k0_nodes : ClassId) (f0_nodes : Nat → Int32) (hy0_many_0 : f0_many 0 = 0)  : Met l yX8_newNode wsX8_newNode ({ frames := 2, cells := 0, slots := 0, locals := 82 }) (va_Pc [.ref h0, .int 0] (pw (dC, dI) [(k0_heap, .int), (k0_many, .int), (k0_nodes, .int)] [(h0, .inr (8, [.ref a0_marks, .ref a0_classes, .int 0, .ref a0_isSort, .ref h0_nodes, .ref h0_many, .int 0, .ref a0_in, .int 0, .int 0, .int 0, .ref a0_asked, .ref a0_turned, .int 0, .int (-1), .int (-1), .ref h0_heap, .ref a0_heapYes, .ref a0_path, .ref a0_bestWrong, .ref a0_bestAsked, .ref a0_bestMark, .ref a0_bestV])), (h0_heap, .inl (k0_heap, 4, .inl f0_heap)), (h0_many, .inl (k0_many, 21, .inl f0_many)), (h0_nodes, .inl (k0_nodes, 134400, .inl f0_nodes))] sz)) (va_Qi (fun (r : Int32) (u : vu) => (∃ (f_2 : Nat → Int32) (f_88 : Nat → Int32) (f_75 : Nat → Int32), u = ([(h0, .inr (8, [.ref a0_marks, .ref a0_classes, .int 0, .ref a0_isSort, .ref h0_nodes, .ref h0_many, .int 0, .ref a0_in, .int 0, .int 0, .int 0, .ref a0_asked, .ref a0_turned, .int 0, .int (-1), .int (-1), .ref h0_heap, .ref a0_heapYes, .ref a0_path, .ref a0_bestWrong, .ref a0_bestAsked, .ref a0_bestMark, .ref a0_bestV])), (h0_heap, .inl (k0_heap, 4, .inl f_2)), (h0_many, .inl (k0_many, 21, .inl f_88)), (h0_nodes, .inl (k0_nodes, 134400, .inl f_75))], []) ∧ f_2 0 = 0 ∧ f_2 1 = 0 ∧ f_2 2 = 0 ∧ f_2 3 = 0 ∧ f_75 0 = (-1) ∧ f_75 1 = 0 ∧ f_75 2 = (-1) ∧ f_75 3 = (-1) ∧ f_75 4 = 0 ∧ f_75 5 = 0 ∧ f_75 6 = 0 ∧ f_75 7 = 0 ∧ f_75 8 = 0 ∧ f_75 9 = 0 ∧ r = 0)) (fun u t => qw (dC, dI) u.2 (va_A [(h0, .inr (8, [.ref a0_marks, .ref a0_classes, .int 0, .ref a0_isSort, .ref h0_nodes, .ref h0_many, .int 0, .ref a0_in, .int 0, .int 0, .int 0, .ref a0_asked, .ref a0_turned, .int 0, .int (-1), .int (-1), .ref h0_heap, .ref a0_heapYes, .ref a0_path, .ref a0_bestWrong, .ref a0_bestAsked, .ref a0_bestMark, .ref a0_bestV])), (h0_heap, .inl (k0_heap, 4, .inl f0_heap)), (h0_many, .inl (k0_many, 21, .inl f0_many)), (h0_nodes, .inl (k0_nodes, 134400, .inl f0_nodes))] sz) u.1 t) (va_A [(h0, .inr (8, [.ref a0_marks, .ref a0_classes, .int 0, .ref a0_isSort, .ref h0_nodes, .ref h0_many, .int 0, .ref a0_in, .int 0, .int 0, .int 0, .ref a0_asked, .ref a0_turned, .int 0, .int (-1), .int (-1), .ref h0_heap, .ref a0_heapYes, .ref a0_path, .ref a0_bestWrong, .ref a0_bestAsked, .ref a0_bestMark, .ref a0_bestV])), (h0_heap, .inl (k0_heap, 4, .inl f0_heap)), (h0_many, .inl (k0_many, 21, .inl f0_many)), (h0_nodes, .inl (k0_nodes, 134400, .inl f0_nodes))] sz)) 0 0 (va_A [(h0, .inr (8, [.ref a0_marks, .ref a0_classes, .int 0, .ref a0_isSort, .ref h0_nodes, .ref h0_many, .int 0, .ref a0_in, .int 0, .int 0, .int 0, .ref a0_asked, .ref a0_turned, .int 0, .int (-1), .int (-1), .ref h0_heap, .ref a0_heapYes, .ref a0_path, .ref a0_bestWrong, .ref a0_bestAsked, .ref a0_bestMark, .ref a0_bestV])), (h0_heap, .inl (k0_heap, 4, .inl f0_heap)), (h0_many, .inl (k0_many, 21, .inl f0_many)), (h0_nodes, .inl (k0_nodes, 134400, .inl f0_nodes))] sz) := by
  refine Met.ofW (cc := cX8_newNode) (maxL := 5) (ret := (some .int)) (by decide) rfl ?_
  intro p e s m args below meth c s₁ B hml hv
  obtain ⟨rfl, hsz, hP, hK, hD0, hN⟩ := hv
  have hx := B.exec
  have hb := B.bytes
  have hr := B.returns
  have hts := atoms_spec (ws := wsX8_newNode) B.pre
  have hown : s.vm.findClass RX8 = some m.cls := findClass_of_methodNamed B.named
  have hlocks := B.notSynchronized
  have hi8 : ∀ w ∈ u_ws RX8 TX8 23, w ∈ wsX8_newNode := fun _ h => List.mem_cons_of_mem _ (List.mem_append_right _ h)
  subst hsz
  have hD := hD0.self (sz := s.heap.size)
  generalize hAe : va_A [(h0, .inr (8, [.ref a0_marks, .ref a0_classes, .int 0, .ref a0_isSort, .ref h0_nodes, .ref h0_many, .int 0, .ref a0_in, .int 0, .int 0, .int 0, .ref a0_asked, .ref a0_turned, .int 0, .int (-1), .int (-1), .ref h0_heap, .ref a0_heapYes, .ref a0_path, .ref a0_bestWrong, .ref a0_bestAsked, .ref a0_bestMark, .ref a0_bestV])), (h0_heap, .inl (k0_heap, 4, .inl f0_heap)), (h0_many, .inl (k0_many, 21, .inl f0_many)), (h0_nodes, .inl (k0_nodes, 134400, .inl f0_nodes))] s.heap.size = A at hD ⊢
  have hA : ∀ q : Nat, s.heap.size ≤ q → A q := fun q h => by rw [← hAe]; exact Or.inr h
  have hS : va_S A s.heap s.heap [] := va_S.rf
  have hl := lv_entry ([.ref h0, .int 0]) (n := 5) (Nat.le_of_ble_eq_true rfl)
  rw [lg_entry_eq]
  generalize (lg_sl ([.ref h0, .int 0]) ++ List.replicate (5 - (lg_sl ([.ref h0, .int 0])).length) Slot.unset).toArray = ls at hl ⊢
  have hl : lv_has ls 5 [(0, .ref h0), (1, .int 0)] := hl
  have hP : va_P (dC, dI) vwCl [(h0, .inr (8, [.ref a0_marks, .ref a0_classes, .int 0, .ref a0_isSort, .ref h0_nodes, .ref h0_many, .int 0, .ref a0_in, .int 0, .int 0, .int 0, .ref a0_asked, .ref a0_turned, .int 0, .int (-1), .int (-1), .ref h0_heap, .ref a0_heapYes, .ref a0_path, .ref a0_bestWrong, .ref a0_bestAsked, .ref a0_bestMark, .ref a0_bestV])), (h0_heap, .inl (k0_heap, 4, .inl f0_heap)), (h0_many, .inl (k0_many, 21, .inl f0_many)), (h0_nodes, .inl (k0_nodes, 134400, .inl f0_nodes))] s.heap := hP
  refine lv_aload_n hx hb dX8_newNode_0 rfl (lv_at hl 0 rfl) ?_
  refine lv_iload_n hx hb dX8_newNode_1 rfl (lv_at hl 1 rfl) ?_
  have hPc := hP.sub (ws' := [(h0, .inr (8, [.ref a0_marks, .ref a0_classes, .int 0, .ref a0_isSort, .ref h0_nodes, .ref h0_many, .int 0, .ref a0_in, .int 0, .int 0, .int 0, .ref a0_asked, .ref a0_turned, .int 0, .int (-1), .int (-1), .ref h0_heap, .ref a0_heapYes, .ref a0_path, .ref a0_bestWrong, .ref a0_bestAsked, .ref a0_bestMark, .ref a0_bestV])), (h0_heap, .inl (k0_heap, 4, .inl f0_heap))]) [0, 1] rfl
  have hDc := hD.sub (ws' := [(h0, .inr (8, [.ref a0_marks, .ref a0_classes, .int 0, .ref a0_isSort, .ref h0_nodes, .ref h0_many, .int 0, .ref a0_in, .int 0, .int 0, .int 0, .ref a0_asked, .ref a0_turned, .int 0, .int (-1), .int (-1), .ref h0_heap, .ref a0_heapYes, .ref a0_path, .ref a0_bestWrong, .ref a0_bestAsked, .ref a0_bestMark, .ref a0_bestV])), (h0_heap, .inl (k0_heap, 4, .inl f0_heap))]) [0, 1] (by decide) rfl
  have hKc := hK.sub (tys' := [(k0_heap, .int)]) [0] rfl
  have hFc := va_free (wc := [(h0, .inr (8, [.ref a0_marks, .ref a0_classes, .int 0, .ref a0_isSort, .ref h0_nodes, .ref h0_many, .int 0, .ref a0_in, .int 0, .int 0, .int 0, .ref a0_asked, .ref a0_turned, .int 0, .int (-1), .int (-1), .ref h0_heap, .ref a0_heapYes, .ref a0_path, .ref a0_bestWrong, .ref a0_bestAsked, .ref a0_bestMark, .ref a0_bestV])), (h0_heap, .inl (k0_heap, 4, .inl f0_heap))]) hD hS hA [0, 1] rfl
  refine va_callv (va_runV (As := [.int 0]) (rest := []) ⟨hx, hb, hml, hown, hts⟩ (c_countRow0 l dC dI s.heap.size h0 h0_heap a0_marks a0_classes a0_isSort h0_nodes h0_many a0_in a0_asked a0_turned a0_heapYes a0_path a0_bestWrong a0_bestAsked a0_bestMark a0_bestV k0_heap f0_heap ) (cwV 1 hts gX8_newNode_X8_countRow rfl rfl rfl (by decide +kernel) ⟨Nat.le_of_ble_eq_true rfl, Nat.le_of_ble_eq_true rfl⟩) (pre_V hPc hKc hDc hN (ci := 8) (q0 := 0) rfl rfl) rfl rfl hl.1 rfl (lv_room (Nat.le_of_ble_eq_true rfl)) dX8_newNode_2 ⟨Nat.le_of_ble_eq_true rfl, Nat.le_of_ble_eq_true rfl⟩) hS (fun q _ h => hFc q h) hFc (fun u t H1 locs ht hvm hw hB hz1 hk1 hS => ?_)
  clear hPc hDc hKc
  obtain ⟨f_2, rfl, hk_3, hk_4, hk_5, hk_6⟩ := hw
  obtain ⟨hP1, hK1, hD1⟩ := hB
  rw [ht] at hP1
  obtain ⟨hP, hD⟩ := va_join (wr := [(h0_many, .inl (k0_many, 21, .inl f0_many)), (h0_nodes, .inl (k0_nodes, 134400, .inl f0_nodes))]) (w1 := [(h0, .inr (8, [.ref a0_marks, .ref a0_classes, .int 0, .ref a0_isSort, .ref h0_nodes, .ref h0_many, .int 0, .ref a0_in, .int 0, .int 0, .int 0, .ref a0_asked, .ref a0_turned, .int 0, .int (-1), .int (-1), .ref h0_heap, .ref a0_heapYes, .ref a0_path, .ref a0_bestWrong, .ref a0_bestAsked, .ref a0_bestMark, .ref a0_bestV])), (h0_heap, .inl (k0_heap, 4, .inl f_2))]) hP hD [0, 1] [2, 3] rfl rfl (by decide) (by decide) hk1 hFc hP1 hD1
  generalize H1 = H at hP hS ⊢
  clear hP1 hD1 hFc hk1 hz1 ht hvm hK1
  have hP : va_P (dC, dI) vwCl [(h0_many, .inl (k0_many, 21, .inl f0_many)), (h0_nodes, .inl (k0_nodes, 134400, .inl f0_nodes)), (h0, .inr (8, [.ref a0_marks, .ref a0_classes, .int 0, .ref a0_isSort, .ref h0_nodes, .ref h0_many, .int 0, .ref a0_in, .int 0, .int 0, .int 0, .ref a0_asked, .ref a0_turned, .int 0, .int (-1), .int (-1), .ref h0_heap, .ref a0_heapYes, .ref a0_path, .ref a0_bestWrong, .ref a0_bestAsked, .ref a0_bestMark, .ref a0_bestV])), (h0_heap, .inl (k0_heap, 4, .inl f_2))] H := hP
  have hD : va_D A [(h0_many, .inl (k0_many, 21, .inl f0_many)), (h0_nodes, .inl (k0_nodes, 134400, .inl f0_nodes)), (h0, .inr (8, [.ref a0_marks, .ref a0_classes, .int 0, .ref a0_isSort, .ref h0_nodes, .ref h0_many, .int 0, .ref a0_in, .int 0, .int 0, .int 0, .ref a0_asked, .ref a0_turned, .int 0, .int (-1), .int (-1), .ref h0_heap, .ref a0_heapYes, .ref a0_path, .ref a0_bestWrong, .ref a0_bestAsked, .ref a0_bestMark, .ref a0_bestV])), (h0_heap, .inl (k0_heap, 4, .inl f_2))] := hD
  refine lv_aload_n hx hb dX8_newNode_5 rfl (lv_at hl 0 rfl) ?_
  refine va_get (D := (dC, dI)) (ci := 8) (v := .ref h0_many) (C := RX8) (T := TX8) (N := 23) hx hb hts hi8 hown hK hP 2 rfl rfl 5 (by decide) (hts (.fieldLink RX8 24 "AskTreeModel" "many" "[I") (by decide +kernel)) (fun _ h9 => h9) rfl dX8_newNode_6 ?_
  refine lv_aload_n hx hb dX8_newNode_9 rfl (lv_at hl 0 rfl) ?_
  refine va_get (D := (dC, dI)) (ci := 8) (v := .int 0) (C := RX8) (T := TX8) (N := 23) hx hb hts hi8 hown hK hP 2 rfl rfl 8 (by decide) (hts (.fieldLink RX8 111 "AskTreeModel" "making" "I") (by decide +kernel)) (fun _ h9 => h9) rfl dX8_newNode_10 ?_
  refine va_iald hx hb hK hP 0 1 rfl rfl (vi _ _ (by decide)) dX8_newNode_13 ?_
  refine tvv (v := .int 0) (ci f0_many (k := 0) (by decide) hy0_many_0) ?_
  refine lv_istore_n (lv' := [(2, .int 0), (0, .ref h0), (1, .int 0)]) hx hb dX8_newNode_14 rfl hl (by decide) rfl (fun ls hl => ?_)
  refine lv_aload_n hx hb dX8_newNode_15 rfl (lv_at hl 1 rfl) ?_
  refine lv_aload_n hx hb dX8_newNode_16 rfl (lv_at hl 1 rfl) ?_
  refine va_get (D := (dC, dI)) (ci := 8) (v := .int 0) (C := RX8) (T := TX8) (N := 23) hx hb hts hi8 hown hK hP 2 rfl rfl 8 (by decide) (hts (.fieldLink RX8 111 "AskTreeModel" "making" "I") (by decide +kernel)) (fun _ h9 => h9) rfl dX8_newNode_17 ?_
  refine lv_iload_n hx hb dX8_newNode_20 rfl (lv_at hl 0 rfl) ?_
  have hPc := hP.sub (ws' := [(h0, .inr (8, [.ref a0_marks, .ref a0_classes, .int 0, .ref a0_isSort, .ref h0_nodes, .ref h0_many, .int 0, .ref a0_in, .int 0, .int 0, .int 0, .ref a0_asked, .ref a0_turned, .int 0, .int (-1), .int (-1), .ref h0_heap, .ref a0_heapYes, .ref a0_path, .ref a0_bestWrong, .ref a0_bestAsked, .ref a0_bestMark, .ref a0_bestV]))]) [2] rfl
  have hDc := hD.sub (ws' := [(h0, .inr (8, [.ref a0_marks, .ref a0_classes, .int 0, .ref a0_isSort, .ref h0_nodes, .ref h0_many, .int 0, .ref a0_in, .int 0, .int 0, .int 0, .ref a0_asked, .ref a0_turned, .int 0, .int (-1), .int (-1), .ref h0_heap, .ref a0_heapYes, .ref a0_path, .ref a0_bestWrong, .ref a0_bestAsked, .ref a0_bestMark, .ref a0_bestV]))]) [2] (by decide) rfl
  have hKc := hK.sub (tys' := []) [] rfl
  have hFc := va_free (wc := [(h0, .inr (8, [.ref a0_marks, .ref a0_classes, .int 0, .ref a0_isSort, .ref h0_nodes, .ref h0_many, .int 0, .ref a0_in, .int 0, .int 0, .int 0, .ref a0_asked, .ref a0_turned, .int 0, .int (-1), .int (-1), .ref h0_heap, .ref a0_heapYes, .ref a0_path, .ref a0_bestWrong, .ref a0_bestAsked, .ref a0_bestMark, .ref a0_bestV]))]) hD hS hA [2] rfl
  refine va_calli (va_runV (As := [.int 0, .int 0]) (rest := []) ⟨hx, hb, hml, hown, hts⟩ (c_place0 l dC dI H.size h0 a0_marks a0_classes a0_isSort h0_nodes h0_many a0_in a0_asked a0_turned h0_heap a0_heapYes a0_path a0_bestWrong a0_bestAsked a0_bestMark a0_bestV ) (cwV 2 hts gX8_newNode_X8_place rfl rfl rfl (by decide +kernel) ⟨Nat.le_of_ble_eq_true rfl, Nat.le_of_ble_eq_true rfl⟩) (pre_V hPc hKc hDc hN (ci := 8) (q0 := 0) rfl rfl) rfl rfl hl.1 rfl (lv_room (Nat.le_of_ble_eq_true rfl)) dX8_newNode_21 ⟨Nat.le_of_ble_eq_true rfl, Nat.le_of_ble_eq_true rfl⟩) hS (fun q _ h => hFc q h) hFc (fun r_7 u t H1 locs ht hvm hw hB hz1 hk1 hS => ?_)
  clear hPc hDc hKc
  obtain ⟨rfl, rfl⟩ := hw
  obtain ⟨hP1, hK1, hD1⟩ := hB
  rw [ht] at hP1
  obtain ⟨hP, hD⟩ := va_join (wr := [(h0_many, .inl (k0_many, 21, .inl f0_many)), (h0_nodes, .inl (k0_nodes, 134400, .inl f0_nodes)), (h0_heap, .inl (k0_heap, 4, .inl f_2))]) (w1 := [(h0, .inr (8, [.ref a0_marks, .ref a0_classes, .int 0, .ref a0_isSort, .ref h0_nodes, .ref h0_many, .int 0, .ref a0_in, .int 0, .int 0, .int 0, .ref a0_asked, .ref a0_turned, .int 0, .int (-1), .int (-1), .ref h0_heap, .ref a0_heapYes, .ref a0_path, .ref a0_bestWrong, .ref a0_bestAsked, .ref a0_bestMark, .ref a0_bestV]))]) hP hD [2] [0, 1, 3] rfl rfl (by decide) (by decide) hk1 hFc hP1 hD1
  generalize H1 = H at hP hS ⊢
  clear hP1 hD1 hFc hk1 hz1 ht hvm hK1
  have hP : va_P (dC, dI) vwCl [(h0_many, .inl (k0_many, 21, .inl f0_many)), (h0_nodes, .inl (k0_nodes, 134400, .inl f0_nodes)), (h0_heap, .inl (k0_heap, 4, .inl f_2)), (h0, .inr (8, [.ref a0_marks, .ref a0_classes, .int 0, .ref a0_isSort, .ref h0_nodes, .ref h0_many, .int 0, .ref a0_in, .int 0, .int 0, .int 0, .ref a0_asked, .ref a0_turned, .int 0, .int (-1), .int (-1), .ref h0_heap, .ref a0_heapYes, .ref a0_path, .ref a0_bestWrong, .ref a0_bestAsked, .ref a0_bestMark, .ref a0_bestV]))] H := hP
  have hD : va_D A [(h0_many, .inl (k0_many, 21, .inl f0_many)), (h0_nodes, .inl (k0_nodes, 134400, .inl f0_nodes)), (h0_heap, .inl (k0_heap, 4, .inl f_2)), (h0, .inr (8, [.ref a0_marks, .ref a0_classes, .int 0, .ref a0_isSort, .ref h0_nodes, .ref h0_many, .int 0, .ref a0_in, .int 0, .int 0, .int 0, .ref a0_asked, .ref a0_turned, .int 0, .int (-1), .int (-1), .ref h0_heap, .ref a0_heapYes, .ref a0_path, .ref a0_bestWrong, .ref a0_bestAsked, .ref a0_bestMark, .ref a0_bestV]))] := hD
  refine lv_istore_n (lv' := [(3, .int 0), (2, .int 0), (0, .ref h0), (1, .int 0)]) hx hb dX8_newNode_24 rfl hl (by decide) rfl (fun ls hl => ?_)
  refine lv_aload_n hx hb dX8_newNode_25 rfl (lv_at hl 2 rfl) ?_
  refine va_get (D := (dC, dI)) (ci := 8) (v := .ref h0_nodes) (C := RX8) (T := TX8) (N := 23) hx hb hts hi8 hown hK hP 3 rfl rfl 4 (by decide) (hts (.fieldLink RX8 21 "AskTreeModel" "nodes" "[I") (by decide +kernel)) (fun _ h9 => h9) rfl dX8_newNode_26 ?_
  refine lv_iload_n hx hb dX8_newNode_29 rfl (lv_at hl 0 rfl) ?_
  refine lv_iconst (v := (-1)) hx hb dX8_newNode_30 (by decide) ?_
  refine va_iast hx hb hK hP hD hS 1 2 rfl rfl (vi _ _ (by decide)) dX8_newNode_31 (fun H locs hP hD hS => ?_)
  have hP : va_P (dC, dI) vwCl [(h0_many, .inl (k0_many, 21, .inl f0_many)), (h0_nodes, .inl (k0_nodes, 134400, .inl (upd f0_nodes (Int32.toNatClampNeg 0) (-1)))), (h0_heap, .inl (k0_heap, 4, .inl f_2)), (h0, .inr (8, [.ref a0_marks, .ref a0_classes, .int 0, .ref a0_isSort, .ref h0_nodes, .ref h0_many, .int 0, .ref a0_in, .int 0, .int 0, .int 0, .ref a0_asked, .ref a0_turned, .int 0, .int (-1), .int (-1), .ref h0_heap, .ref a0_heapYes, .ref a0_path, .ref a0_bestWrong, .ref a0_bestAsked, .ref a0_bestMark, .ref a0_bestV]))] H := hP
  have hD : va_D A [(h0_many, .inl (k0_many, 21, .inl f0_many)), (h0_nodes, .inl (k0_nodes, 134400, .inl (upd f0_nodes (Int32.toNatClampNeg 0) (-1)))), (h0_heap, .inl (k0_heap, 4, .inl f_2)), (h0, .inr (8, [.ref a0_marks, .ref a0_classes, .int 0, .ref a0_isSort, .ref h0_nodes, .ref h0_many, .int 0, .ref a0_in, .int 0, .int 0, .int 0, .ref a0_asked, .ref a0_turned, .int 0, .int (-1), .int (-1), .ref h0_heap, .ref a0_heapYes, .ref a0_path, .ref a0_bestWrong, .ref a0_bestAsked, .ref a0_bestMark, .ref a0_bestV]))] := hD
  generalize hf_9 : upd f0_nodes (Int32.toNatClampNeg 0) (-1) = f_8 at hP hD
  have hk_10 : f_8 0 = (-1) := by rw [← hf_9]; exact up_s (by decide)
  clear hf_9
  refine lv_aload_n hx hb dX8_newNode_32 rfl (lv_at hl 2 rfl) ?_
  refine va_get (D := (dC, dI)) (ci := 8) (v := .ref h0_nodes) (C := RX8) (T := TX8) (N := 23) hx hb hts hi8 hown hK hP 3 rfl rfl 4 (by decide) (hts (.fieldLink RX8 21 "AskTreeModel" "nodes" "[I") (by decide +kernel)) (fun _ h9 => h9) rfl dX8_newNode_33 ?_
  refine lv_iload_n hx hb dX8_newNode_36 rfl (lv_at hl 0 rfl) ?_
  refine lv_iconst (v := 1) hx hb dX8_newNode_37 (by decide) ?_
  refine lv_iadd hx hb dX8_newNode_38 ?_
  refine tvv (v := .int 1) (congrArg Value.int (by decide)) ?_
  refine lv_iconst (v := 0) hx hb dX8_newNode_39 (by decide) ?_
  refine va_iast hx hb hK hP hD hS 1 2 rfl rfl (vi _ _ (by decide)) dX8_newNode_40 (fun H locs hP hD hS => ?_)
  have hP : va_P (dC, dI) vwCl [(h0_many, .inl (k0_many, 21, .inl f0_many)), (h0_nodes, .inl (k0_nodes, 134400, .inl (upd f_8 (Int32.toNatClampNeg 1) 0))), (h0_heap, .inl (k0_heap, 4, .inl f_2)), (h0, .inr (8, [.ref a0_marks, .ref a0_classes, .int 0, .ref a0_isSort, .ref h0_nodes, .ref h0_many, .int 0, .ref a0_in, .int 0, .int 0, .int 0, .ref a0_asked, .ref a0_turned, .int 0, .int (-1), .int (-1), .ref h0_heap, .ref a0_heapYes, .ref a0_path, .ref a0_bestWrong, .ref a0_bestAsked, .ref a0_bestMark, .ref a0_bestV]))] H := hP
  have hD : va_D A [(h0_many, .inl (k0_many, 21, .inl f0_many)), (h0_nodes, .inl (k0_nodes, 134400, .inl (upd f_8 (Int32.toNatClampNeg 1) 0))), (h0_heap, .inl (k0_heap, 4, .inl f_2)), (h0, .inr (8, [.ref a0_marks, .ref a0_classes, .int 0, .ref a0_isSort, .ref h0_nodes, .ref h0_many, .int 0, .ref a0_in, .int 0, .int 0, .int 0, .ref a0_asked, .ref a0_turned, .int 0, .int (-1), .int (-1), .ref h0_heap, .ref a0_heapYes, .ref a0_path, .ref a0_bestWrong, .ref a0_bestAsked, .ref a0_bestMark, .ref a0_bestV]))] := hD
  generalize hf_12 : upd f_8 (Int32.toNatClampNeg 1) 0 = f_11 at hP hD
  have hk_13 : f_11 1 = 0 := by rw [← hf_12]; exact up_s (by decide)
  have hk_14 : f_11 0 = (-1) := by rw [← hf_12]; exact up_n (k := 1) (by decide) (by decide) hk_10
  clear hf_12
  refine lv_aload_n hx hb dX8_newNode_41 rfl (lv_at hl 2 rfl) ?_
  refine va_get (D := (dC, dI)) (ci := 8) (v := .ref h0_nodes) (C := RX8) (T := TX8) (N := 23) hx hb hts hi8 hown hK hP 3 rfl rfl 4 (by decide) (hts (.fieldLink RX8 21 "AskTreeModel" "nodes" "[I") (by decide +kernel)) (fun _ h9 => h9) rfl dX8_newNode_42 ?_
  refine lv_iload_n hx hb dX8_newNode_45 rfl (lv_at hl 0 rfl) ?_
  refine lv_iconst (v := 2) hx hb dX8_newNode_46 (by decide) ?_
  refine lv_iadd hx hb dX8_newNode_47 ?_
  refine tvv (v := .int 2) (congrArg Value.int (by decide)) ?_
  refine lv_iconst (v := (-1)) hx hb dX8_newNode_48 (by decide) ?_
  refine va_iast hx hb hK hP hD hS 1 2 rfl rfl (vi _ _ (by decide)) dX8_newNode_49 (fun H locs hP hD hS => ?_)
  have hP : va_P (dC, dI) vwCl [(h0_many, .inl (k0_many, 21, .inl f0_many)), (h0_nodes, .inl (k0_nodes, 134400, .inl (upd f_11 (Int32.toNatClampNeg 2) (-1)))), (h0_heap, .inl (k0_heap, 4, .inl f_2)), (h0, .inr (8, [.ref a0_marks, .ref a0_classes, .int 0, .ref a0_isSort, .ref h0_nodes, .ref h0_many, .int 0, .ref a0_in, .int 0, .int 0, .int 0, .ref a0_asked, .ref a0_turned, .int 0, .int (-1), .int (-1), .ref h0_heap, .ref a0_heapYes, .ref a0_path, .ref a0_bestWrong, .ref a0_bestAsked, .ref a0_bestMark, .ref a0_bestV]))] H := hP
  have hD : va_D A [(h0_many, .inl (k0_many, 21, .inl f0_many)), (h0_nodes, .inl (k0_nodes, 134400, .inl (upd f_11 (Int32.toNatClampNeg 2) (-1)))), (h0_heap, .inl (k0_heap, 4, .inl f_2)), (h0, .inr (8, [.ref a0_marks, .ref a0_classes, .int 0, .ref a0_isSort, .ref h0_nodes, .ref h0_many, .int 0, .ref a0_in, .int 0, .int 0, .int 0, .ref a0_asked, .ref a0_turned, .int 0, .int (-1), .int (-1), .ref h0_heap, .ref a0_heapYes, .ref a0_path, .ref a0_bestWrong, .ref a0_bestAsked, .ref a0_bestMark, .ref a0_bestV]))] := hD
  generalize hf_16 : upd f_11 (Int32.toNatClampNeg 2) (-1) = f_15 at hP hD
  have hk_17 : f_15 2 = (-1) := by rw [← hf_16]; exact up_s (by decide)
  have hk_18 : f_15 1 = 0 := by rw [← hf_16]; exact up_n (k := 2) (by decide) (by decide) hk_13
  have hk_19 : f_15 0 = (-1) := by rw [← hf_16]; exact up_n (k := 2) (by decide) (by decide) hk_14
  clear hf_16
  refine lv_aload_n hx hb dX8_newNode_50 rfl (lv_at hl 2 rfl) ?_
  refine va_get (D := (dC, dI)) (ci := 8) (v := .ref h0_nodes) (C := RX8) (T := TX8) (N := 23) hx hb hts hi8 hown hK hP 3 rfl rfl 4 (by decide) (hts (.fieldLink RX8 21 "AskTreeModel" "nodes" "[I") (by decide +kernel)) (fun _ h9 => h9) rfl dX8_newNode_51 ?_
  refine lv_iload_n hx hb dX8_newNode_54 rfl (lv_at hl 0 rfl) ?_
  refine lv_iconst (v := 3) hx hb dX8_newNode_55 (by decide) ?_
  refine lv_iadd hx hb dX8_newNode_56 ?_
  refine tvv (v := .int 3) (congrArg Value.int (by decide)) ?_
  refine lv_iconst (v := (-1)) hx hb dX8_newNode_57 (by decide) ?_
  refine va_iast hx hb hK hP hD hS 1 2 rfl rfl (vi _ _ (by decide)) dX8_newNode_58 (fun H locs hP hD hS => ?_)
  have hP : va_P (dC, dI) vwCl [(h0_many, .inl (k0_many, 21, .inl f0_many)), (h0_nodes, .inl (k0_nodes, 134400, .inl (upd f_15 (Int32.toNatClampNeg 3) (-1)))), (h0_heap, .inl (k0_heap, 4, .inl f_2)), (h0, .inr (8, [.ref a0_marks, .ref a0_classes, .int 0, .ref a0_isSort, .ref h0_nodes, .ref h0_many, .int 0, .ref a0_in, .int 0, .int 0, .int 0, .ref a0_asked, .ref a0_turned, .int 0, .int (-1), .int (-1), .ref h0_heap, .ref a0_heapYes, .ref a0_path, .ref a0_bestWrong, .ref a0_bestAsked, .ref a0_bestMark, .ref a0_bestV]))] H := hP
  have hD : va_D A [(h0_many, .inl (k0_many, 21, .inl f0_many)), (h0_nodes, .inl (k0_nodes, 134400, .inl (upd f_15 (Int32.toNatClampNeg 3) (-1)))), (h0_heap, .inl (k0_heap, 4, .inl f_2)), (h0, .inr (8, [.ref a0_marks, .ref a0_classes, .int 0, .ref a0_isSort, .ref h0_nodes, .ref h0_many, .int 0, .ref a0_in, .int 0, .int 0, .int 0, .ref a0_asked, .ref a0_turned, .int 0, .int (-1), .int (-1), .ref h0_heap, .ref a0_heapYes, .ref a0_path, .ref a0_bestWrong, .ref a0_bestAsked, .ref a0_bestMark, .ref a0_bestV]))] := hD
  generalize hf_21 : upd f_15 (Int32.toNatClampNeg 3) (-1) = f_20 at hP hD
  have hk_22 : f_20 3 = (-1) := by rw [← hf_21]; exact up_s (by decide)
  have hk_23 : f_20 2 = (-1) := by rw [← hf_21]; exact up_n (k := 3) (by decide) (by decide) hk_17
  have hk_24 : f_20 1 = 0 := by rw [← hf_21]; exact up_n (k := 3) (by decide) (by decide) hk_18
  have hk_25 : f_20 0 = (-1) := by rw [← hf_21]; exact up_n (k := 3) (by decide) (by decide) hk_19
  clear hf_21
  refine lv_aload_n hx hb dX8_newNode_59 rfl (lv_at hl 2 rfl) ?_
  refine va_get (D := (dC, dI)) (ci := 8) (v := .ref h0_nodes) (C := RX8) (T := TX8) (N := 23) hx hb hts hi8 hown hK hP 3 rfl rfl 4 (by decide) (hts (.fieldLink RX8 21 "AskTreeModel" "nodes" "[I") (by decide +kernel)) (fun _ h9 => h9) rfl dX8_newNode_60 ?_
  refine lv_iload_n hx hb dX8_newNode_63 rfl (lv_at hl 0 rfl) ?_
  refine lv_iconst (v := 4) hx hb dX8_newNode_64 (by decide) ?_
  refine lv_iadd hx hb dX8_newNode_65 ?_
  refine tvv (v := .int 4) (congrArg Value.int (by decide)) ?_
  refine lv_iload_n hx hb dX8_newNode_66 rfl (lv_at hl 3 rfl) ?_
  refine va_iast hx hb hK hP hD hS 1 2 rfl rfl (vi _ _ (by decide)) dX8_newNode_67 (fun H locs hP hD hS => ?_)
  have hP : va_P (dC, dI) vwCl [(h0_many, .inl (k0_many, 21, .inl f0_many)), (h0_nodes, .inl (k0_nodes, 134400, .inl (upd f_20 (Int32.toNatClampNeg 4) 0))), (h0_heap, .inl (k0_heap, 4, .inl f_2)), (h0, .inr (8, [.ref a0_marks, .ref a0_classes, .int 0, .ref a0_isSort, .ref h0_nodes, .ref h0_many, .int 0, .ref a0_in, .int 0, .int 0, .int 0, .ref a0_asked, .ref a0_turned, .int 0, .int (-1), .int (-1), .ref h0_heap, .ref a0_heapYes, .ref a0_path, .ref a0_bestWrong, .ref a0_bestAsked, .ref a0_bestMark, .ref a0_bestV]))] H := hP
  have hD : va_D A [(h0_many, .inl (k0_many, 21, .inl f0_many)), (h0_nodes, .inl (k0_nodes, 134400, .inl (upd f_20 (Int32.toNatClampNeg 4) 0))), (h0_heap, .inl (k0_heap, 4, .inl f_2)), (h0, .inr (8, [.ref a0_marks, .ref a0_classes, .int 0, .ref a0_isSort, .ref h0_nodes, .ref h0_many, .int 0, .ref a0_in, .int 0, .int 0, .int 0, .ref a0_asked, .ref a0_turned, .int 0, .int (-1), .int (-1), .ref h0_heap, .ref a0_heapYes, .ref a0_path, .ref a0_bestWrong, .ref a0_bestAsked, .ref a0_bestMark, .ref a0_bestV]))] := hD
  generalize hf_27 : upd f_20 (Int32.toNatClampNeg 4) 0 = f_26 at hP hD
  have hk_28 : f_26 4 = 0 := by rw [← hf_27]; exact up_s (by decide)
  have hk_29 : f_26 3 = (-1) := by rw [← hf_27]; exact up_n (k := 4) (by decide) (by decide) hk_22
  have hk_30 : f_26 2 = (-1) := by rw [← hf_27]; exact up_n (k := 4) (by decide) (by decide) hk_23
  have hk_31 : f_26 1 = 0 := by rw [← hf_27]; exact up_n (k := 4) (by decide) (by decide) hk_24
  have hk_32 : f_26 0 = (-1) := by rw [← hf_27]; exact up_n (k := 4) (by decide) (by decide) hk_25
  clear hf_27
  refine lv_aload_n hx hb dX8_newNode_68 rfl (lv_at hl 2 rfl) ?_
  refine va_get (D := (dC, dI)) (ci := 8) (v := .ref h0_nodes) (C := RX8) (T := TX8) (N := 23) hx hb hts hi8 hown hK hP 3 rfl rfl 4 (by decide) (hts (.fieldLink RX8 21 "AskTreeModel" "nodes" "[I") (by decide +kernel)) (fun _ h9 => h9) rfl dX8_newNode_69 ?_
  refine lv_iload_n hx hb dX8_newNode_72 rfl (lv_at hl 0 rfl) ?_
  refine lv_iconst (v := 5) hx hb dX8_newNode_73 (by decide) ?_
  refine lv_iadd hx hb dX8_newNode_74 ?_
  refine tvv (v := .int 5) (congrArg Value.int (by decide)) ?_
  refine lv_iconst (v := 0) hx hb dX8_newNode_75 (by decide) ?_
  refine va_iast hx hb hK hP hD hS 1 2 rfl rfl (vi _ _ (by decide)) dX8_newNode_76 (fun H locs hP hD hS => ?_)
  have hP : va_P (dC, dI) vwCl [(h0_many, .inl (k0_many, 21, .inl f0_many)), (h0_nodes, .inl (k0_nodes, 134400, .inl (upd f_26 (Int32.toNatClampNeg 5) 0))), (h0_heap, .inl (k0_heap, 4, .inl f_2)), (h0, .inr (8, [.ref a0_marks, .ref a0_classes, .int 0, .ref a0_isSort, .ref h0_nodes, .ref h0_many, .int 0, .ref a0_in, .int 0, .int 0, .int 0, .ref a0_asked, .ref a0_turned, .int 0, .int (-1), .int (-1), .ref h0_heap, .ref a0_heapYes, .ref a0_path, .ref a0_bestWrong, .ref a0_bestAsked, .ref a0_bestMark, .ref a0_bestV]))] H := hP
  have hD : va_D A [(h0_many, .inl (k0_many, 21, .inl f0_many)), (h0_nodes, .inl (k0_nodes, 134400, .inl (upd f_26 (Int32.toNatClampNeg 5) 0))), (h0_heap, .inl (k0_heap, 4, .inl f_2)), (h0, .inr (8, [.ref a0_marks, .ref a0_classes, .int 0, .ref a0_isSort, .ref h0_nodes, .ref h0_many, .int 0, .ref a0_in, .int 0, .int 0, .int 0, .ref a0_asked, .ref a0_turned, .int 0, .int (-1), .int (-1), .ref h0_heap, .ref a0_heapYes, .ref a0_path, .ref a0_bestWrong, .ref a0_bestAsked, .ref a0_bestMark, .ref a0_bestV]))] := hD
  generalize hf_34 : upd f_26 (Int32.toNatClampNeg 5) 0 = f_33 at hP hD
  have hk_35 : f_33 5 = 0 := by rw [← hf_34]; exact up_s (by decide)
  have hk_36 : f_33 4 = 0 := by rw [← hf_34]; exact up_n (k := 5) (by decide) (by decide) hk_28
  have hk_37 : f_33 3 = (-1) := by rw [← hf_34]; exact up_n (k := 5) (by decide) (by decide) hk_29
  have hk_38 : f_33 2 = (-1) := by rw [← hf_34]; exact up_n (k := 5) (by decide) (by decide) hk_30
  have hk_39 : f_33 1 = 0 := by rw [← hf_34]; exact up_n (k := 5) (by decide) (by decide) hk_31
  have hk_40 : f_33 0 = (-1) := by rw [← hf_34]; exact up_n (k := 5) (by decide) (by decide) hk_32
  clear hf_34
  refine lv_iconst (v := 0) hx hb dX8_newNode_77 (by decide) ?_
  refine lv_istore (lv' := [(4, .int 0), (3, .int 0), (2, .int 0), (0, .ref h0), (1, .int 0)]) hx hb dX8_newNode_78 hl (by decide) rfl (fun ls hl => ?_)
  refine lv_iload hx hb dX8_newNode_80 (lv_at hl 0 rfl) ?_
  refine lv_iconst (v := 4) hx hb dX8_newNode_82 (by decide) ?_
  refine lv_icmp_ge (tgt := 111) hx hb dX8_newNode_83 (by decide) (fun c_41 => ?_) (fun c_41 => ?_)
  · exact absurd c_41 (by decide)
  refine lv_aload_n hx hb dX8_newNode_86 rfl (lv_at hl 3 rfl) ?_
  refine va_get (D := (dC, dI)) (ci := 8) (v := .ref h0_nodes) (C := RX8) (T := TX8) (N := 23) hx hb hts hi8 hown hK hP 3 rfl rfl 4 (by decide) (hts (.fieldLink RX8 21 "AskTreeModel" "nodes" "[I") (by decide +kernel)) (fun _ h9 => h9) rfl dX8_newNode_87 ?_
  refine lv_iload_n hx hb dX8_newNode_90 rfl (lv_at hl 1 rfl) ?_
  refine lv_bipush (v := 6) hx hb dX8_newNode_91 (by decide) ?_
  refine lv_iadd hx hb dX8_newNode_93 ?_
  refine tvv (v := .int 6) (congrArg Value.int (by decide)) ?_
  refine lv_iload hx hb dX8_newNode_94 (lv_at hl 0 rfl) ?_
  refine lv_iadd hx hb dX8_newNode_96 ?_
  refine tvv (v := .int 6) (congrArg Value.int (by decide)) ?_
  refine lv_aload_n hx hb dX8_newNode_97 rfl (lv_at hl 3 rfl) ?_
  refine va_get (D := (dC, dI)) (ci := 8) (v := .ref h0_heap) (C := RX8) (T := TX8) (N := 23) hx hb hts hi8 hown hK hP 3 rfl rfl 16 (by decide) (hts (.fieldLink RX8 43 "AskTreeModel" "heap" "[I") (by decide +kernel)) (fun _ h9 => h9) rfl dX8_newNode_98 ?_
  refine lv_iload hx hb dX8_newNode_101 (lv_at hl 0 rfl) ?_
  refine va_iald hx hb hK hP 2 0 rfl rfl (vi _ _ (by decide)) dX8_newNode_103 ?_
  refine tvv (v := .int 0) (ci f_2 (k := 0) (by decide) hk_3) ?_
  refine va_iast hx hb hK hP hD hS 1 2 rfl rfl (vi _ _ (by decide)) dX8_newNode_104 (fun H locs hP hD hS => ?_)
  have hP : va_P (dC, dI) vwCl [(h0_many, .inl (k0_many, 21, .inl f0_many)), (h0_nodes, .inl (k0_nodes, 134400, .inl (upd f_33 (Int32.toNatClampNeg 6) 0))), (h0_heap, .inl (k0_heap, 4, .inl f_2)), (h0, .inr (8, [.ref a0_marks, .ref a0_classes, .int 0, .ref a0_isSort, .ref h0_nodes, .ref h0_many, .int 0, .ref a0_in, .int 0, .int 0, .int 0, .ref a0_asked, .ref a0_turned, .int 0, .int (-1), .int (-1), .ref h0_heap, .ref a0_heapYes, .ref a0_path, .ref a0_bestWrong, .ref a0_bestAsked, .ref a0_bestMark, .ref a0_bestV]))] H := hP
  have hD : va_D A [(h0_many, .inl (k0_many, 21, .inl f0_many)), (h0_nodes, .inl (k0_nodes, 134400, .inl (upd f_33 (Int32.toNatClampNeg 6) 0))), (h0_heap, .inl (k0_heap, 4, .inl f_2)), (h0, .inr (8, [.ref a0_marks, .ref a0_classes, .int 0, .ref a0_isSort, .ref h0_nodes, .ref h0_many, .int 0, .ref a0_in, .int 0, .int 0, .int 0, .ref a0_asked, .ref a0_turned, .int 0, .int (-1), .int (-1), .ref h0_heap, .ref a0_heapYes, .ref a0_path, .ref a0_bestWrong, .ref a0_bestAsked, .ref a0_bestMark, .ref a0_bestV]))] := hD
  generalize hf_43 : upd f_33 (Int32.toNatClampNeg 6) 0 = f_42 at hP hD
  have hk_44 : f_42 6 = 0 := by rw [← hf_43]; exact up_s (by decide)
  have hk_45 : f_42 5 = 0 := by rw [← hf_43]; exact up_n (k := 6) (by decide) (by decide) hk_35
  have hk_46 : f_42 4 = 0 := by rw [← hf_43]; exact up_n (k := 6) (by decide) (by decide) hk_36
  have hk_47 : f_42 3 = (-1) := by rw [← hf_43]; exact up_n (k := 6) (by decide) (by decide) hk_37
  have hk_48 : f_42 2 = (-1) := by rw [← hf_43]; exact up_n (k := 6) (by decide) (by decide) hk_38
  have hk_49 : f_42 1 = 0 := by rw [← hf_43]; exact up_n (k := 6) (by decide) (by decide) hk_39
  have hk_50 : f_42 0 = (-1) := by rw [← hf_43]; exact up_n (k := 6) (by decide) (by decide) hk_40
  clear hf_43
  refine lv_iinc (v := 1) (lv' := [(4, .int 1), (3, .int 0), (2, .int 0), (0, .ref h0), (1, .int 0)]) hx hb dX8_newNode_105 hl (k := 0) rfl (by decide) (by decide) rfl (fun ls hl => ?_)
  refine lv_goto (tgt := 80) hx hb dX8_newNode_108 (by decide) ?_
  refine lv_iload hx hb dX8_newNode_80 (lv_at hl 0 rfl) ?_
  refine lv_iconst (v := 4) hx hb dX8_newNode_82 (by decide) ?_
  refine lv_icmp_ge (tgt := 111) hx hb dX8_newNode_83 (by decide) (fun c_51 => ?_) (fun c_51 => ?_)
  · exact absurd c_51 (by decide)
  refine lv_aload_n hx hb dX8_newNode_86 rfl (lv_at hl 3 rfl) ?_
  refine va_get (D := (dC, dI)) (ci := 8) (v := .ref h0_nodes) (C := RX8) (T := TX8) (N := 23) hx hb hts hi8 hown hK hP 3 rfl rfl 4 (by decide) (hts (.fieldLink RX8 21 "AskTreeModel" "nodes" "[I") (by decide +kernel)) (fun _ h9 => h9) rfl dX8_newNode_87 ?_
  refine lv_iload_n hx hb dX8_newNode_90 rfl (lv_at hl 1 rfl) ?_
  refine lv_bipush (v := 6) hx hb dX8_newNode_91 (by decide) ?_
  refine lv_iadd hx hb dX8_newNode_93 ?_
  refine tvv (v := .int 6) (congrArg Value.int (by decide)) ?_
  refine lv_iload hx hb dX8_newNode_94 (lv_at hl 0 rfl) ?_
  refine lv_iadd hx hb dX8_newNode_96 ?_
  refine tvv (v := .int 7) (congrArg Value.int (by decide)) ?_
  refine lv_aload_n hx hb dX8_newNode_97 rfl (lv_at hl 3 rfl) ?_
  refine va_get (D := (dC, dI)) (ci := 8) (v := .ref h0_heap) (C := RX8) (T := TX8) (N := 23) hx hb hts hi8 hown hK hP 3 rfl rfl 16 (by decide) (hts (.fieldLink RX8 43 "AskTreeModel" "heap" "[I") (by decide +kernel)) (fun _ h9 => h9) rfl dX8_newNode_98 ?_
  refine lv_iload hx hb dX8_newNode_101 (lv_at hl 0 rfl) ?_
  refine va_iald hx hb hK hP 2 0 rfl rfl (vi _ _ (by decide)) dX8_newNode_103 ?_
  refine tvv (v := .int 0) (ci f_2 (k := 1) (by decide) hk_4) ?_
  refine va_iast hx hb hK hP hD hS 1 2 rfl rfl (vi _ _ (by decide)) dX8_newNode_104 (fun H locs hP hD hS => ?_)
  have hP : va_P (dC, dI) vwCl [(h0_many, .inl (k0_many, 21, .inl f0_many)), (h0_nodes, .inl (k0_nodes, 134400, .inl (upd f_42 (Int32.toNatClampNeg 7) 0))), (h0_heap, .inl (k0_heap, 4, .inl f_2)), (h0, .inr (8, [.ref a0_marks, .ref a0_classes, .int 0, .ref a0_isSort, .ref h0_nodes, .ref h0_many, .int 0, .ref a0_in, .int 0, .int 0, .int 0, .ref a0_asked, .ref a0_turned, .int 0, .int (-1), .int (-1), .ref h0_heap, .ref a0_heapYes, .ref a0_path, .ref a0_bestWrong, .ref a0_bestAsked, .ref a0_bestMark, .ref a0_bestV]))] H := hP
  have hD : va_D A [(h0_many, .inl (k0_many, 21, .inl f0_many)), (h0_nodes, .inl (k0_nodes, 134400, .inl (upd f_42 (Int32.toNatClampNeg 7) 0))), (h0_heap, .inl (k0_heap, 4, .inl f_2)), (h0, .inr (8, [.ref a0_marks, .ref a0_classes, .int 0, .ref a0_isSort, .ref h0_nodes, .ref h0_many, .int 0, .ref a0_in, .int 0, .int 0, .int 0, .ref a0_asked, .ref a0_turned, .int 0, .int (-1), .int (-1), .ref h0_heap, .ref a0_heapYes, .ref a0_path, .ref a0_bestWrong, .ref a0_bestAsked, .ref a0_bestMark, .ref a0_bestV]))] := hD
  generalize hf_53 : upd f_42 (Int32.toNatClampNeg 7) 0 = f_52 at hP hD
  have hk_54 : f_52 7 = 0 := by rw [← hf_53]; exact up_s (by decide)
  have hk_55 : f_52 6 = 0 := by rw [← hf_53]; exact up_n (k := 7) (by decide) (by decide) hk_44
  have hk_56 : f_52 5 = 0 := by rw [← hf_53]; exact up_n (k := 7) (by decide) (by decide) hk_45
  have hk_57 : f_52 4 = 0 := by rw [← hf_53]; exact up_n (k := 7) (by decide) (by decide) hk_46
  have hk_58 : f_52 3 = (-1) := by rw [← hf_53]; exact up_n (k := 7) (by decide) (by decide) hk_47
  have hk_59 : f_52 2 = (-1) := by rw [← hf_53]; exact up_n (k := 7) (by decide) (by decide) hk_48
  have hk_60 : f_52 1 = 0 := by rw [← hf_53]; exact up_n (k := 7) (by decide) (by decide) hk_49
  have hk_61 : f_52 0 = (-1) := by rw [← hf_53]; exact up_n (k := 7) (by decide) (by decide) hk_50
  clear hf_53
  refine lv_iinc (v := 2) (lv' := [(4, .int 2), (3, .int 0), (2, .int 0), (0, .ref h0), (1, .int 0)]) hx hb dX8_newNode_105 hl (k := 0) rfl (by decide) (by decide) rfl (fun ls hl => ?_)
  refine lv_goto (tgt := 80) hx hb dX8_newNode_108 (by decide) ?_
  refine lv_iload hx hb dX8_newNode_80 (lv_at hl 0 rfl) ?_
  refine lv_iconst (v := 4) hx hb dX8_newNode_82 (by decide) ?_
  refine lv_icmp_ge (tgt := 111) hx hb dX8_newNode_83 (by decide) (fun c_62 => ?_) (fun c_62 => ?_)
  · exact absurd c_62 (by decide)
  refine lv_aload_n hx hb dX8_newNode_86 rfl (lv_at hl 3 rfl) ?_
  refine va_get (D := (dC, dI)) (ci := 8) (v := .ref h0_nodes) (C := RX8) (T := TX8) (N := 23) hx hb hts hi8 hown hK hP 3 rfl rfl 4 (by decide) (hts (.fieldLink RX8 21 "AskTreeModel" "nodes" "[I") (by decide +kernel)) (fun _ h9 => h9) rfl dX8_newNode_87 ?_
  refine lv_iload_n hx hb dX8_newNode_90 rfl (lv_at hl 1 rfl) ?_
  refine lv_bipush (v := 6) hx hb dX8_newNode_91 (by decide) ?_
  refine lv_iadd hx hb dX8_newNode_93 ?_
  refine tvv (v := .int 6) (congrArg Value.int (by decide)) ?_
  refine lv_iload hx hb dX8_newNode_94 (lv_at hl 0 rfl) ?_
  refine lv_iadd hx hb dX8_newNode_96 ?_
  refine tvv (v := .int 8) (congrArg Value.int (by decide)) ?_
  refine lv_aload_n hx hb dX8_newNode_97 rfl (lv_at hl 3 rfl) ?_
  refine va_get (D := (dC, dI)) (ci := 8) (v := .ref h0_heap) (C := RX8) (T := TX8) (N := 23) hx hb hts hi8 hown hK hP 3 rfl rfl 16 (by decide) (hts (.fieldLink RX8 43 "AskTreeModel" "heap" "[I") (by decide +kernel)) (fun _ h9 => h9) rfl dX8_newNode_98 ?_
  refine lv_iload hx hb dX8_newNode_101 (lv_at hl 0 rfl) ?_
  refine va_iald hx hb hK hP 2 0 rfl rfl (vi _ _ (by decide)) dX8_newNode_103 ?_
  refine tvv (v := .int 0) (ci f_2 (k := 2) (by decide) hk_5) ?_
  refine va_iast hx hb hK hP hD hS 1 2 rfl rfl (vi _ _ (by decide)) dX8_newNode_104 (fun H locs hP hD hS => ?_)
  have hP : va_P (dC, dI) vwCl [(h0_many, .inl (k0_many, 21, .inl f0_many)), (h0_nodes, .inl (k0_nodes, 134400, .inl (upd f_52 (Int32.toNatClampNeg 8) 0))), (h0_heap, .inl (k0_heap, 4, .inl f_2)), (h0, .inr (8, [.ref a0_marks, .ref a0_classes, .int 0, .ref a0_isSort, .ref h0_nodes, .ref h0_many, .int 0, .ref a0_in, .int 0, .int 0, .int 0, .ref a0_asked, .ref a0_turned, .int 0, .int (-1), .int (-1), .ref h0_heap, .ref a0_heapYes, .ref a0_path, .ref a0_bestWrong, .ref a0_bestAsked, .ref a0_bestMark, .ref a0_bestV]))] H := hP
  have hD : va_D A [(h0_many, .inl (k0_many, 21, .inl f0_many)), (h0_nodes, .inl (k0_nodes, 134400, .inl (upd f_52 (Int32.toNatClampNeg 8) 0))), (h0_heap, .inl (k0_heap, 4, .inl f_2)), (h0, .inr (8, [.ref a0_marks, .ref a0_classes, .int 0, .ref a0_isSort, .ref h0_nodes, .ref h0_many, .int 0, .ref a0_in, .int 0, .int 0, .int 0, .ref a0_asked, .ref a0_turned, .int 0, .int (-1), .int (-1), .ref h0_heap, .ref a0_heapYes, .ref a0_path, .ref a0_bestWrong, .ref a0_bestAsked, .ref a0_bestMark, .ref a0_bestV]))] := hD
  generalize hf_64 : upd f_52 (Int32.toNatClampNeg 8) 0 = f_63 at hP hD
  have hk_65 : f_63 8 = 0 := by rw [← hf_64]; exact up_s (by decide)
  have hk_66 : f_63 7 = 0 := by rw [← hf_64]; exact up_n (k := 8) (by decide) (by decide) hk_54
  have hk_67 : f_63 6 = 0 := by rw [← hf_64]; exact up_n (k := 8) (by decide) (by decide) hk_55
  have hk_68 : f_63 5 = 0 := by rw [← hf_64]; exact up_n (k := 8) (by decide) (by decide) hk_56
  have hk_69 : f_63 4 = 0 := by rw [← hf_64]; exact up_n (k := 8) (by decide) (by decide) hk_57
  have hk_70 : f_63 3 = (-1) := by rw [← hf_64]; exact up_n (k := 8) (by decide) (by decide) hk_58
  have hk_71 : f_63 2 = (-1) := by rw [← hf_64]; exact up_n (k := 8) (by decide) (by decide) hk_59
  have hk_72 : f_63 1 = 0 := by rw [← hf_64]; exact up_n (k := 8) (by decide) (by decide) hk_60
  have hk_73 : f_63 0 = (-1) := by rw [← hf_64]; exact up_n (k := 8) (by decide) (by decide) hk_61
  clear hf_64
  refine lv_iinc (v := 3) (lv' := [(4, .int 3), (3, .int 0), (2, .int 0), (0, .ref h0), (1, .int 0)]) hx hb dX8_newNode_105 hl (k := 0) rfl (by decide) (by decide) rfl (fun ls hl => ?_)
  refine lv_goto (tgt := 80) hx hb dX8_newNode_108 (by decide) ?_
  refine lv_iload hx hb dX8_newNode_80 (lv_at hl 0 rfl) ?_
  refine lv_iconst (v := 4) hx hb dX8_newNode_82 (by decide) ?_
  refine lv_icmp_ge (tgt := 111) hx hb dX8_newNode_83 (by decide) (fun c_74 => ?_) (fun c_74 => ?_)
  · exact absurd c_74 (by decide)
  refine lv_aload_n hx hb dX8_newNode_86 rfl (lv_at hl 3 rfl) ?_
  refine va_get (D := (dC, dI)) (ci := 8) (v := .ref h0_nodes) (C := RX8) (T := TX8) (N := 23) hx hb hts hi8 hown hK hP 3 rfl rfl 4 (by decide) (hts (.fieldLink RX8 21 "AskTreeModel" "nodes" "[I") (by decide +kernel)) (fun _ h9 => h9) rfl dX8_newNode_87 ?_
  refine lv_iload_n hx hb dX8_newNode_90 rfl (lv_at hl 1 rfl) ?_
  refine lv_bipush (v := 6) hx hb dX8_newNode_91 (by decide) ?_
  refine lv_iadd hx hb dX8_newNode_93 ?_
  refine tvv (v := .int 6) (congrArg Value.int (by decide)) ?_
  refine lv_iload hx hb dX8_newNode_94 (lv_at hl 0 rfl) ?_
  refine lv_iadd hx hb dX8_newNode_96 ?_
  refine tvv (v := .int 9) (congrArg Value.int (by decide)) ?_
  refine lv_aload_n hx hb dX8_newNode_97 rfl (lv_at hl 3 rfl) ?_
  refine va_get (D := (dC, dI)) (ci := 8) (v := .ref h0_heap) (C := RX8) (T := TX8) (N := 23) hx hb hts hi8 hown hK hP 3 rfl rfl 16 (by decide) (hts (.fieldLink RX8 43 "AskTreeModel" "heap" "[I") (by decide +kernel)) (fun _ h9 => h9) rfl dX8_newNode_98 ?_
  refine lv_iload hx hb dX8_newNode_101 (lv_at hl 0 rfl) ?_
  refine va_iald hx hb hK hP 2 0 rfl rfl (vi _ _ (by decide)) dX8_newNode_103 ?_
  refine tvv (v := .int 0) (ci f_2 (k := 3) (by decide) hk_6) ?_
  refine va_iast hx hb hK hP hD hS 1 2 rfl rfl (vi _ _ (by decide)) dX8_newNode_104 (fun H locs hP hD hS => ?_)
  have hP : va_P (dC, dI) vwCl [(h0_many, .inl (k0_many, 21, .inl f0_many)), (h0_nodes, .inl (k0_nodes, 134400, .inl (upd f_63 (Int32.toNatClampNeg 9) 0))), (h0_heap, .inl (k0_heap, 4, .inl f_2)), (h0, .inr (8, [.ref a0_marks, .ref a0_classes, .int 0, .ref a0_isSort, .ref h0_nodes, .ref h0_many, .int 0, .ref a0_in, .int 0, .int 0, .int 0, .ref a0_asked, .ref a0_turned, .int 0, .int (-1), .int (-1), .ref h0_heap, .ref a0_heapYes, .ref a0_path, .ref a0_bestWrong, .ref a0_bestAsked, .ref a0_bestMark, .ref a0_bestV]))] H := hP
  have hD : va_D A [(h0_many, .inl (k0_many, 21, .inl f0_many)), (h0_nodes, .inl (k0_nodes, 134400, .inl (upd f_63 (Int32.toNatClampNeg 9) 0))), (h0_heap, .inl (k0_heap, 4, .inl f_2)), (h0, .inr (8, [.ref a0_marks, .ref a0_classes, .int 0, .ref a0_isSort, .ref h0_nodes, .ref h0_many, .int 0, .ref a0_in, .int 0, .int 0, .int 0, .ref a0_asked, .ref a0_turned, .int 0, .int (-1), .int (-1), .ref h0_heap, .ref a0_heapYes, .ref a0_path, .ref a0_bestWrong, .ref a0_bestAsked, .ref a0_bestMark, .ref a0_bestV]))] := hD
  generalize hf_76 : upd f_63 (Int32.toNatClampNeg 9) 0 = f_75 at hP hD
  have hk_77 : f_75 9 = 0 := by rw [← hf_76]; exact up_s (by decide)
  have hk_78 : f_75 8 = 0 := by rw [← hf_76]; exact up_n (k := 9) (by decide) (by decide) hk_65
  have hk_79 : f_75 7 = 0 := by rw [← hf_76]; exact up_n (k := 9) (by decide) (by decide) hk_66
  have hk_80 : f_75 6 = 0 := by rw [← hf_76]; exact up_n (k := 9) (by decide) (by decide) hk_67
  have hk_81 : f_75 5 = 0 := by rw [← hf_76]; exact up_n (k := 9) (by decide) (by decide) hk_68
  have hk_82 : f_75 4 = 0 := by rw [← hf_76]; exact up_n (k := 9) (by decide) (by decide) hk_69
  have hk_83 : f_75 3 = (-1) := by rw [← hf_76]; exact up_n (k := 9) (by decide) (by decide) hk_70
  have hk_84 : f_75 2 = (-1) := by rw [← hf_76]; exact up_n (k := 9) (by decide) (by decide) hk_71
  have hk_85 : f_75 1 = 0 := by rw [← hf_76]; exact up_n (k := 9) (by decide) (by decide) hk_72
  have hk_86 : f_75 0 = (-1) := by rw [← hf_76]; exact up_n (k := 9) (by decide) (by decide) hk_73
  clear hf_76
  refine lv_iinc (v := 4) (lv' := [(4, .int 4), (3, .int 0), (2, .int 0), (0, .ref h0), (1, .int 0)]) hx hb dX8_newNode_105 hl (k := 0) rfl (by decide) (by decide) rfl (fun ls hl => ?_)
  refine lv_goto (tgt := 80) hx hb dX8_newNode_108 (by decide) ?_
  refine lv_iload hx hb dX8_newNode_80 (lv_at hl 0 rfl) ?_
  refine lv_iconst (v := 4) hx hb dX8_newNode_82 (by decide) ?_
  refine lv_icmp_ge (tgt := 111) hx hb dX8_newNode_83 (by decide) (fun c_87 => ?_) (fun c_87 => ?_)
  rotate_left
  · exact absurd c_87 (by decide)
  refine lv_aload_n hx hb dX8_newNode_111 rfl (lv_at hl 3 rfl) ?_
  refine va_get (D := (dC, dI)) (ci := 8) (v := .ref h0_many) (C := RX8) (T := TX8) (N := 23) hx hb hts hi8 hown hK hP 3 rfl rfl 5 (by decide) (hts (.fieldLink RX8 24 "AskTreeModel" "many" "[I") (by decide +kernel)) (fun _ h9 => h9) rfl dX8_newNode_112 ?_
  refine lv_aload_n hx hb dX8_newNode_115 rfl (lv_at hl 3 rfl) ?_
  refine va_get (D := (dC, dI)) (ci := 8) (v := .int 0) (C := RX8) (T := TX8) (N := 23) hx hb hts hi8 hown hK hP 3 rfl rfl 8 (by decide) (hts (.fieldLink RX8 111 "AskTreeModel" "making" "I") (by decide +kernel)) (fun _ h9 => h9) rfl dX8_newNode_116 ?_
  refine lv_dup2_11 hx hb dX8_newNode_119 rfl rfl ?_
  refine va_iald hx hb hK hP 0 1 rfl rfl (vi _ _ (by decide)) dX8_newNode_120 ?_
  refine tvv (v := .int 0) (ci f0_many (k := 0) (by decide) hy0_many_0) ?_
  refine lv_iconst (v := 1) hx hb dX8_newNode_121 (by decide) ?_
  refine lv_iadd hx hb dX8_newNode_122 ?_
  refine tvv (v := .int 1) (congrArg Value.int (by decide)) ?_
  refine va_iast hx hb hK hP hD hS 0 1 rfl rfl (vi _ _ (by decide)) dX8_newNode_123 (fun H locs hP hD hS => ?_)
  have hP : va_P (dC, dI) vwCl [(h0_many, .inl (k0_many, 21, .inl (upd f0_many (Int32.toNatClampNeg 0) 1))), (h0_nodes, .inl (k0_nodes, 134400, .inl f_75)), (h0_heap, .inl (k0_heap, 4, .inl f_2)), (h0, .inr (8, [.ref a0_marks, .ref a0_classes, .int 0, .ref a0_isSort, .ref h0_nodes, .ref h0_many, .int 0, .ref a0_in, .int 0, .int 0, .int 0, .ref a0_asked, .ref a0_turned, .int 0, .int (-1), .int (-1), .ref h0_heap, .ref a0_heapYes, .ref a0_path, .ref a0_bestWrong, .ref a0_bestAsked, .ref a0_bestMark, .ref a0_bestV]))] H := hP
  have hD : va_D A [(h0_many, .inl (k0_many, 21, .inl (upd f0_many (Int32.toNatClampNeg 0) 1))), (h0_nodes, .inl (k0_nodes, 134400, .inl f_75)), (h0_heap, .inl (k0_heap, 4, .inl f_2)), (h0, .inr (8, [.ref a0_marks, .ref a0_classes, .int 0, .ref a0_isSort, .ref h0_nodes, .ref h0_many, .int 0, .ref a0_in, .int 0, .int 0, .int 0, .ref a0_asked, .ref a0_turned, .int 0, .int (-1), .int (-1), .ref h0_heap, .ref a0_heapYes, .ref a0_path, .ref a0_bestWrong, .ref a0_bestAsked, .ref a0_bestMark, .ref a0_bestV]))] := hD
  generalize hf_89 : upd f0_many (Int32.toNatClampNeg 0) 1 = f_88 at hP hD
  have hk_90 : f_88 0 = 1 := by rw [← hf_89]; exact up_s (by decide)
  clear hf_89
  refine lv_iload_n hx hb dX8_newNode_124 rfl (lv_at hl 2 rfl) ?_
  have hP9 := hP.sub (ws' := [(h0, .inr (8, [.ref a0_marks, .ref a0_classes, .int 0, .ref a0_isSort, .ref h0_nodes, .ref h0_many, .int 0, .ref a0_in, .int 0, .int 0, .int 0, .ref a0_asked, .ref a0_turned, .int 0, .int (-1), .int (-1), .ref h0_heap, .ref a0_heapYes, .ref a0_path, .ref a0_bestWrong, .ref a0_bestAsked, .ref a0_bestMark, .ref a0_bestV])), (h0_heap, .inl (k0_heap, 4, .inl f_2)), (h0_many, .inl (k0_many, 21, .inl f_88)), (h0_nodes, .inl (k0_nodes, 134400, .inl f_75))]) [3, 2, 0, 1] rfl
  have hD9 := hD.sub (ws' := [(h0, .inr (8, [.ref a0_marks, .ref a0_classes, .int 0, .ref a0_isSort, .ref h0_nodes, .ref h0_many, .int 0, .ref a0_in, .int 0, .int 0, .int 0, .ref a0_asked, .ref a0_turned, .int 0, .int (-1), .int (-1), .ref h0_heap, .ref a0_heapYes, .ref a0_path, .ref a0_bestWrong, .ref a0_bestAsked, .ref a0_bestMark, .ref a0_bestV])), (h0_heap, .inl (k0_heap, 4, .inl f_2)), (h0_many, .inl (k0_many, 21, .inl f_88)), (h0_nodes, .inl (k0_nodes, 134400, .inl f_75))]) [3, 2, 0, 1] (by decide) rfl
  have hK9 := hK.sub (tys' := []) [] rfl
  exact W.iret (v := 0) hx hb hr (fun t ht hW => ⟨⟨0, ([(h0, .inr (8, [.ref a0_marks, .ref a0_classes, .int 0, .ref a0_isSort, .ref h0_nodes, .ref h0_many, .int 0, .ref a0_in, .int 0, .int 0, .int 0, .ref a0_asked, .ref a0_turned, .int 0, .int (-1), .int (-1), .ref h0_heap, .ref a0_heapYes, .ref a0_path, .ref a0_bestWrong, .ref a0_bestAsked, .ref a0_bestMark, .ref a0_bestV])), (h0_heap, .inl (k0_heap, 4, .inl f_2)), (h0_many, .inl (k0_many, 21, .inl f_88)), (h0_nodes, .inl (k0_nodes, 134400, .inl f_75))], []), rfl, ⟨f_2, f_88, f_75, rfl, hk_3, hk_4, hk_5, hk_6, hk_86, hk_85, hk_84, hk_83, hk_82, hk_81, hk_80, hk_79, hk_78, hk_77, rfl⟩, (by rw [ht]; exact hP9), va_K.moved hW.alike hK9, hD9⟩, hS.F ht⟩) hS.2.2 dX8_newNode_125

set_option maxHeartbeats 4000000 in
set_option maxRecDepth 100000 in
theorem c_countAt0 (l : Launch) (dC : Nat → ClassId) (dI : Nat → Nat → Nat) (sz : Nat) (h0 : Nat) (h0_nodes : Nat) (a0_marks : Nat) (a0_classes : Nat) (a0_isSort : Nat) (a0_many : Nat) (a0_in : Nat) (a0_asked : Nat) (a0_turned : Nat) (a0_heap : Nat) (a0_heapYes : Nat) (a0_path : Nat) (a0_bestWrong : Nat) (a0_bestAsked : Nat) (a0_bestMark : Nat) (a0_bestV : Nat) (k0_nodes : ClassId) (f0_nodes : Nat → Int32) (hy0_nodes_6 : f0_nodes 6 = 0) (hy0_nodes_7 : f0_nodes 7 = 0) (hy0_nodes_8 : f0_nodes 8 = 0) (hy0_nodes_9 : f0_nodes 9 = 0)  : Met l yX8_countAt wsX8_countAt ({ frames := 1, cells := 0, slots := 0, locals := 60 }) (va_Pc [.ref h0, .int 0] (pw (dC, dI) [(k0_nodes, .int)] [(h0, .inr (8, [.ref a0_marks, .ref a0_classes, .int 0, .ref a0_isSort, .ref h0_nodes, .ref a0_many, .int 0, .ref a0_in, .int 0, .int 0, .int 0, .ref a0_asked, .ref a0_turned, .int 0, .int (-1), .int (-1), .ref a0_heap, .ref a0_heapYes, .ref a0_path, .ref a0_bestWrong, .ref a0_bestAsked, .ref a0_bestMark, .ref a0_bestV])), (h0_nodes, .inl (k0_nodes, 134400, .inl f0_nodes))] sz)) (va_Qi (fun (r : Int32) (u : vu) => (u = ([(h0, .inr (8, [.ref a0_marks, .ref a0_classes, .int 0, .ref a0_isSort, .ref h0_nodes, .ref a0_many, .int 0, .ref a0_in, .int 0, .int 0, .int 0, .ref a0_asked, .ref a0_turned, .int 0, .int (-1), .int (-1), .ref a0_heap, .ref a0_heapYes, .ref a0_path, .ref a0_bestWrong, .ref a0_bestAsked, .ref a0_bestMark, .ref a0_bestV])), (h0_nodes, .inl (k0_nodes, 134400, .inl f0_nodes))], []) ∧ r = 0)) (fun u t => qw (dC, dI) u.2 (va_A [(h0, .inr (8, [.ref a0_marks, .ref a0_classes, .int 0, .ref a0_isSort, .ref h0_nodes, .ref a0_many, .int 0, .ref a0_in, .int 0, .int 0, .int 0, .ref a0_asked, .ref a0_turned, .int 0, .int (-1), .int (-1), .ref a0_heap, .ref a0_heapYes, .ref a0_path, .ref a0_bestWrong, .ref a0_bestAsked, .ref a0_bestMark, .ref a0_bestV])), (h0_nodes, .inl (k0_nodes, 134400, .inl f0_nodes))] sz) u.1 t) (va_A [(h0, .inr (8, [.ref a0_marks, .ref a0_classes, .int 0, .ref a0_isSort, .ref h0_nodes, .ref a0_many, .int 0, .ref a0_in, .int 0, .int 0, .int 0, .ref a0_asked, .ref a0_turned, .int 0, .int (-1), .int (-1), .ref a0_heap, .ref a0_heapYes, .ref a0_path, .ref a0_bestWrong, .ref a0_bestAsked, .ref a0_bestMark, .ref a0_bestV])), (h0_nodes, .inl (k0_nodes, 134400, .inl f0_nodes))] sz)) 0 0 (va_A [(h0, .inr (8, [.ref a0_marks, .ref a0_classes, .int 0, .ref a0_isSort, .ref h0_nodes, .ref a0_many, .int 0, .ref a0_in, .int 0, .int 0, .int 0, .ref a0_asked, .ref a0_turned, .int 0, .int (-1), .int (-1), .ref a0_heap, .ref a0_heapYes, .ref a0_path, .ref a0_bestWrong, .ref a0_bestAsked, .ref a0_bestMark, .ref a0_bestV])), (h0_nodes, .inl (k0_nodes, 134400, .inl f0_nodes))] sz) := by
  refine Met.ofW (cc := cX8_countAt) (maxL := 2) (ret := (some .int)) (by decide) rfl ?_
  intro p e s m args below meth c s₁ B hml hv
  obtain ⟨rfl, hsz, hP, hK, hD0, hN⟩ := hv
  have hx := B.exec
  have hb := B.bytes
  have hr := B.returns
  have hts := atoms_spec (ws := wsX8_countAt) B.pre
  have hown : s.vm.findClass RX8 = some m.cls := findClass_of_methodNamed B.named
  have hlocks := B.notSynchronized
  have hi8 : ∀ w ∈ u_ws RX8 TX8 23, w ∈ wsX8_countAt := fun _ h => List.mem_cons_of_mem _ (List.mem_append_right _ h)
  subst hsz
  have hD := hD0.self (sz := s.heap.size)
  generalize hAe : va_A [(h0, .inr (8, [.ref a0_marks, .ref a0_classes, .int 0, .ref a0_isSort, .ref h0_nodes, .ref a0_many, .int 0, .ref a0_in, .int 0, .int 0, .int 0, .ref a0_asked, .ref a0_turned, .int 0, .int (-1), .int (-1), .ref a0_heap, .ref a0_heapYes, .ref a0_path, .ref a0_bestWrong, .ref a0_bestAsked, .ref a0_bestMark, .ref a0_bestV])), (h0_nodes, .inl (k0_nodes, 134400, .inl f0_nodes))] s.heap.size = A at hD ⊢
  have hA : ∀ q : Nat, s.heap.size ≤ q → A q := fun q h => by rw [← hAe]; exact Or.inr h
  have hS : va_S A s.heap s.heap [] := va_S.rf
  have hl := lv_entry ([.ref h0, .int 0]) (n := 2) (Nat.le_of_ble_eq_true rfl)
  rw [lg_entry_eq]
  generalize (lg_sl ([.ref h0, .int 0]) ++ List.replicate (2 - (lg_sl ([.ref h0, .int 0])).length) Slot.unset).toArray = ls at hl ⊢
  have hl : lv_has ls 2 [(0, .ref h0), (1, .int 0)] := hl
  have hP : va_P (dC, dI) vwCl [(h0, .inr (8, [.ref a0_marks, .ref a0_classes, .int 0, .ref a0_isSort, .ref h0_nodes, .ref a0_many, .int 0, .ref a0_in, .int 0, .int 0, .int 0, .ref a0_asked, .ref a0_turned, .int 0, .int (-1), .int (-1), .ref a0_heap, .ref a0_heapYes, .ref a0_path, .ref a0_bestWrong, .ref a0_bestAsked, .ref a0_bestMark, .ref a0_bestV])), (h0_nodes, .inl (k0_nodes, 134400, .inl f0_nodes))] s.heap := hP
  refine lv_aload_n hx hb dX8_countAt_0 rfl (lv_at hl 0 rfl) ?_
  refine va_get (D := (dC, dI)) (ci := 8) (v := .ref h0_nodes) (C := RX8) (T := TX8) (N := 23) hx hb hts hi8 hown hK hP 0 rfl rfl 4 (by decide) (hts (.fieldLink RX8 21 "AskTreeModel" "nodes" "[I") (by decide +kernel)) (fun _ h9 => h9) rfl dX8_countAt_1 ?_
  refine lv_iload_n hx hb dX8_countAt_4 rfl (lv_at hl 1 rfl) ?_
  refine lv_bipush (v := 6) hx hb dX8_countAt_5 (by decide) ?_
  refine lv_iadd hx hb dX8_countAt_7 ?_
  refine tvv (v := .int 6) (congrArg Value.int (by decide)) ?_
  refine va_iald hx hb hK hP 1 0 rfl rfl (vi _ _ (by decide)) dX8_countAt_8 ?_
  refine tvv (v := .int 0) (ci f0_nodes (k := 6) (by decide) hy0_nodes_6) ?_
  refine lv_aload_n hx hb dX8_countAt_9 rfl (lv_at hl 0 rfl) ?_
  refine va_get (D := (dC, dI)) (ci := 8) (v := .ref h0_nodes) (C := RX8) (T := TX8) (N := 23) hx hb hts hi8 hown hK hP 0 rfl rfl 4 (by decide) (hts (.fieldLink RX8 21 "AskTreeModel" "nodes" "[I") (by decide +kernel)) (fun _ h9 => h9) rfl dX8_countAt_10 ?_
  refine lv_iload_n hx hb dX8_countAt_13 rfl (lv_at hl 1 rfl) ?_
  refine lv_bipush (v := 7) hx hb dX8_countAt_14 (by decide) ?_
  refine lv_iadd hx hb dX8_countAt_16 ?_
  refine tvv (v := .int 7) (congrArg Value.int (by decide)) ?_
  refine va_iald hx hb hK hP 1 0 rfl rfl (vi _ _ (by decide)) dX8_countAt_17 ?_
  refine tvv (v := .int 0) (ci f0_nodes (k := 7) (by decide) hy0_nodes_7) ?_
  refine lv_iadd hx hb dX8_countAt_18 ?_
  refine tvv (v := .int 0) (congrArg Value.int (by decide)) ?_
  refine lv_aload_n hx hb dX8_countAt_19 rfl (lv_at hl 0 rfl) ?_
  refine va_get (D := (dC, dI)) (ci := 8) (v := .ref h0_nodes) (C := RX8) (T := TX8) (N := 23) hx hb hts hi8 hown hK hP 0 rfl rfl 4 (by decide) (hts (.fieldLink RX8 21 "AskTreeModel" "nodes" "[I") (by decide +kernel)) (fun _ h9 => h9) rfl dX8_countAt_20 ?_
  refine lv_iload_n hx hb dX8_countAt_23 rfl (lv_at hl 1 rfl) ?_
  refine lv_bipush (v := 8) hx hb dX8_countAt_24 (by decide) ?_
  refine lv_iadd hx hb dX8_countAt_26 ?_
  refine tvv (v := .int 8) (congrArg Value.int (by decide)) ?_
  refine va_iald hx hb hK hP 1 0 rfl rfl (vi _ _ (by decide)) dX8_countAt_27 ?_
  refine tvv (v := .int 0) (ci f0_nodes (k := 8) (by decide) hy0_nodes_8) ?_
  refine lv_iadd hx hb dX8_countAt_28 ?_
  refine tvv (v := .int 0) (congrArg Value.int (by decide)) ?_
  refine lv_aload_n hx hb dX8_countAt_29 rfl (lv_at hl 0 rfl) ?_
  refine va_get (D := (dC, dI)) (ci := 8) (v := .ref h0_nodes) (C := RX8) (T := TX8) (N := 23) hx hb hts hi8 hown hK hP 0 rfl rfl 4 (by decide) (hts (.fieldLink RX8 21 "AskTreeModel" "nodes" "[I") (by decide +kernel)) (fun _ h9 => h9) rfl dX8_countAt_30 ?_
  refine lv_iload_n hx hb dX8_countAt_33 rfl (lv_at hl 1 rfl) ?_
  refine lv_bipush (v := 9) hx hb dX8_countAt_34 (by decide) ?_
  refine lv_iadd hx hb dX8_countAt_36 ?_
  refine tvv (v := .int 9) (congrArg Value.int (by decide)) ?_
  refine va_iald hx hb hK hP 1 0 rfl rfl (vi _ _ (by decide)) dX8_countAt_37 ?_
  refine tvv (v := .int 0) (ci f0_nodes (k := 9) (by decide) hy0_nodes_9) ?_
  refine lv_iadd hx hb dX8_countAt_38 ?_
  refine tvv (v := .int 0) (congrArg Value.int (by decide)) ?_
  have hP9 := hP.sub (ws' := [(h0, .inr (8, [.ref a0_marks, .ref a0_classes, .int 0, .ref a0_isSort, .ref h0_nodes, .ref a0_many, .int 0, .ref a0_in, .int 0, .int 0, .int 0, .ref a0_asked, .ref a0_turned, .int 0, .int (-1), .int (-1), .ref a0_heap, .ref a0_heapYes, .ref a0_path, .ref a0_bestWrong, .ref a0_bestAsked, .ref a0_bestMark, .ref a0_bestV])), (h0_nodes, .inl (k0_nodes, 134400, .inl f0_nodes))]) [0, 1] rfl
  have hD9 := hD.sub (ws' := [(h0, .inr (8, [.ref a0_marks, .ref a0_classes, .int 0, .ref a0_isSort, .ref h0_nodes, .ref a0_many, .int 0, .ref a0_in, .int 0, .int 0, .int 0, .ref a0_asked, .ref a0_turned, .int 0, .int (-1), .int (-1), .ref a0_heap, .ref a0_heapYes, .ref a0_path, .ref a0_bestWrong, .ref a0_bestAsked, .ref a0_bestMark, .ref a0_bestV])), (h0_nodes, .inl (k0_nodes, 134400, .inl f0_nodes))]) [0, 1] (by decide) rfl
  have hK9 := hK.sub (tys' := []) [] rfl
  exact W.iret (v := 0) hx hb hr (fun t ht hW => ⟨⟨0, ([(h0, .inr (8, [.ref a0_marks, .ref a0_classes, .int 0, .ref a0_isSort, .ref h0_nodes, .ref a0_many, .int 0, .ref a0_in, .int 0, .int 0, .int 0, .ref a0_asked, .ref a0_turned, .int 0, .int (-1), .int (-1), .ref a0_heap, .ref a0_heapYes, .ref a0_path, .ref a0_bestWrong, .ref a0_bestAsked, .ref a0_bestMark, .ref a0_bestV])), (h0_nodes, .inl (k0_nodes, 134400, .inl f0_nodes))], []), rfl, ⟨rfl, rfl⟩, (by rw [ht]; exact hP9), va_K.moved hW.alike hK9, hD9⟩, hS.F ht⟩) hS.2.2 dX8_countAt_39

set_option maxHeartbeats 4000000 in
set_option maxRecDepth 100000 in
theorem c_classAt0 (l : Launch) (dC : Nat → ClassId) (dI : Nat → Nat → Nat) (sz : Nat) (h0 : Nat) (h0_nodes : Nat) (a0_marks : Nat) (a0_classes : Nat) (a0_isSort : Nat) (a0_many : Nat) (a0_in : Nat) (a0_asked : Nat) (a0_turned : Nat) (a0_heap : Nat) (a0_heapYes : Nat) (a0_path : Nat) (a0_bestWrong : Nat) (a0_bestAsked : Nat) (a0_bestMark : Nat) (a0_bestV : Nat) (k0_nodes : ClassId) (f0_nodes : Nat → Int32) (hy0_nodes_6 : f0_nodes 6 = 0) (hy0_nodes_7 : f0_nodes 7 = 0) (hy0_nodes_8 : f0_nodes 8 = 0) (hy0_nodes_9 : f0_nodes 9 = 0)  : Met l yX8_classAt wsX8_classAt ({ frames := 1, cells := 0, slots := 0, locals := 60 }) (va_Pc [.ref h0, .int 0] (pw (dC, dI) [(k0_nodes, .int)] [(h0, .inr (8, [.ref a0_marks, .ref a0_classes, .int 0, .ref a0_isSort, .ref h0_nodes, .ref a0_many, .int 0, .ref a0_in, .int 0, .int 0, .int 0, .ref a0_asked, .ref a0_turned, .int 0, .int (-1), .int (-1), .ref a0_heap, .ref a0_heapYes, .ref a0_path, .ref a0_bestWrong, .ref a0_bestAsked, .ref a0_bestMark, .ref a0_bestV])), (h0_nodes, .inl (k0_nodes, 134400, .inl f0_nodes))] sz)) (va_Qi (fun (r : Int32) (u : vu) => (u = ([(h0, .inr (8, [.ref a0_marks, .ref a0_classes, .int 0, .ref a0_isSort, .ref h0_nodes, .ref a0_many, .int 0, .ref a0_in, .int 0, .int 0, .int 0, .ref a0_asked, .ref a0_turned, .int 0, .int (-1), .int (-1), .ref a0_heap, .ref a0_heapYes, .ref a0_path, .ref a0_bestWrong, .ref a0_bestAsked, .ref a0_bestMark, .ref a0_bestV])), (h0_nodes, .inl (k0_nodes, 134400, .inl f0_nodes))], []) ∧ r = 0)) (fun u t => qw (dC, dI) u.2 (va_A [(h0, .inr (8, [.ref a0_marks, .ref a0_classes, .int 0, .ref a0_isSort, .ref h0_nodes, .ref a0_many, .int 0, .ref a0_in, .int 0, .int 0, .int 0, .ref a0_asked, .ref a0_turned, .int 0, .int (-1), .int (-1), .ref a0_heap, .ref a0_heapYes, .ref a0_path, .ref a0_bestWrong, .ref a0_bestAsked, .ref a0_bestMark, .ref a0_bestV])), (h0_nodes, .inl (k0_nodes, 134400, .inl f0_nodes))] sz) u.1 t) (va_A [(h0, .inr (8, [.ref a0_marks, .ref a0_classes, .int 0, .ref a0_isSort, .ref h0_nodes, .ref a0_many, .int 0, .ref a0_in, .int 0, .int 0, .int 0, .ref a0_asked, .ref a0_turned, .int 0, .int (-1), .int (-1), .ref a0_heap, .ref a0_heapYes, .ref a0_path, .ref a0_bestWrong, .ref a0_bestAsked, .ref a0_bestMark, .ref a0_bestV])), (h0_nodes, .inl (k0_nodes, 134400, .inl f0_nodes))] sz)) 0 0 (va_A [(h0, .inr (8, [.ref a0_marks, .ref a0_classes, .int 0, .ref a0_isSort, .ref h0_nodes, .ref a0_many, .int 0, .ref a0_in, .int 0, .int 0, .int 0, .ref a0_asked, .ref a0_turned, .int 0, .int (-1), .int (-1), .ref a0_heap, .ref a0_heapYes, .ref a0_path, .ref a0_bestWrong, .ref a0_bestAsked, .ref a0_bestMark, .ref a0_bestV])), (h0_nodes, .inl (k0_nodes, 134400, .inl f0_nodes))] sz) := by
  refine Met.ofW (cc := cX8_classAt) (maxL := 4) (ret := (some .int)) (by decide) rfl ?_
  intro p e s m args below meth c s₁ B hml hv
  obtain ⟨rfl, hsz, hP, hK, hD0, hN⟩ := hv
  have hx := B.exec
  have hb := B.bytes
  have hr := B.returns
  have hts := atoms_spec (ws := wsX8_classAt) B.pre
  have hown : s.vm.findClass RX8 = some m.cls := findClass_of_methodNamed B.named
  have hlocks := B.notSynchronized
  have hi8 : ∀ w ∈ u_ws RX8 TX8 23, w ∈ wsX8_classAt := fun _ h => List.mem_cons_of_mem _ (List.mem_append_right _ h)
  subst hsz
  have hD := hD0.self (sz := s.heap.size)
  generalize hAe : va_A [(h0, .inr (8, [.ref a0_marks, .ref a0_classes, .int 0, .ref a0_isSort, .ref h0_nodes, .ref a0_many, .int 0, .ref a0_in, .int 0, .int 0, .int 0, .ref a0_asked, .ref a0_turned, .int 0, .int (-1), .int (-1), .ref a0_heap, .ref a0_heapYes, .ref a0_path, .ref a0_bestWrong, .ref a0_bestAsked, .ref a0_bestMark, .ref a0_bestV])), (h0_nodes, .inl (k0_nodes, 134400, .inl f0_nodes))] s.heap.size = A at hD ⊢
  have hA : ∀ q : Nat, s.heap.size ≤ q → A q := fun q h => by rw [← hAe]; exact Or.inr h
  have hS : va_S A s.heap s.heap [] := va_S.rf
  have hl := lv_entry ([.ref h0, .int 0]) (n := 4) (Nat.le_of_ble_eq_true rfl)
  rw [lg_entry_eq]
  generalize (lg_sl ([.ref h0, .int 0]) ++ List.replicate (4 - (lg_sl ([.ref h0, .int 0])).length) Slot.unset).toArray = ls at hl ⊢
  have hl : lv_has ls 4 [(0, .ref h0), (1, .int 0)] := hl
  have hP : va_P (dC, dI) vwCl [(h0, .inr (8, [.ref a0_marks, .ref a0_classes, .int 0, .ref a0_isSort, .ref h0_nodes, .ref a0_many, .int 0, .ref a0_in, .int 0, .int 0, .int 0, .ref a0_asked, .ref a0_turned, .int 0, .int (-1), .int (-1), .ref a0_heap, .ref a0_heapYes, .ref a0_path, .ref a0_bestWrong, .ref a0_bestAsked, .ref a0_bestMark, .ref a0_bestV])), (h0_nodes, .inl (k0_nodes, 134400, .inl f0_nodes))] s.heap := hP
  refine lv_iconst (v := 0) hx hb dX8_classAt_0 (by decide) ?_
  refine lv_istore_n (lv' := [(2, .int 0), (0, .ref h0), (1, .int 0)]) hx hb dX8_classAt_1 rfl hl (by decide) rfl (fun ls hl => ?_)
  refine lv_iconst (v := 1) hx hb dX8_classAt_2 (by decide) ?_
  refine lv_istore_n (lv' := [(3, .int 1), (2, .int 0), (0, .ref h0), (1, .int 0)]) hx hb dX8_classAt_3 rfl hl (by decide) rfl (fun ls hl => ?_)
  refine lv_iload_n hx hb dX8_classAt_4 rfl (lv_at hl 0 rfl) ?_
  refine lv_iconst (v := 4) hx hb dX8_classAt_5 (by decide) ?_
  refine lv_icmp_ge (tgt := 46) hx hb dX8_classAt_6 (by decide) (fun c_1 => ?_) (fun c_1 => ?_)
  · exact absurd c_1 (by decide)
  refine lv_aload_n hx hb dX8_classAt_9 rfl (lv_at hl 2 rfl) ?_
  refine va_get (D := (dC, dI)) (ci := 8) (v := .ref h0_nodes) (C := RX8) (T := TX8) (N := 23) hx hb hts hi8 hown hK hP 0 rfl rfl 4 (by decide) (hts (.fieldLink RX8 21 "AskTreeModel" "nodes" "[I") (by decide +kernel)) (fun _ h9 => h9) rfl dX8_classAt_10 ?_
  refine lv_iload_n hx hb dX8_classAt_13 rfl (lv_at hl 3 rfl) ?_
  refine lv_bipush (v := 6) hx hb dX8_classAt_14 (by decide) ?_
  refine lv_iadd hx hb dX8_classAt_16 ?_
  refine tvv (v := .int 6) (congrArg Value.int (by decide)) ?_
  refine lv_iload_n hx hb dX8_classAt_17 rfl (lv_at hl 0 rfl) ?_
  refine lv_iadd hx hb dX8_classAt_18 ?_
  refine tvv (v := .int 7) (congrArg Value.int (by decide)) ?_
  refine va_iald hx hb hK hP 1 0 rfl rfl (vi _ _ (by decide)) dX8_classAt_19 ?_
  refine tvv (v := .int 0) (ci f0_nodes (k := 7) (by decide) hy0_nodes_7) ?_
  refine lv_aload_n hx hb dX8_classAt_20 rfl (lv_at hl 2 rfl) ?_
  refine va_get (D := (dC, dI)) (ci := 8) (v := .ref h0_nodes) (C := RX8) (T := TX8) (N := 23) hx hb hts hi8 hown hK hP 0 rfl rfl 4 (by decide) (hts (.fieldLink RX8 21 "AskTreeModel" "nodes" "[I") (by decide +kernel)) (fun _ h9 => h9) rfl dX8_classAt_21 ?_
  refine lv_iload_n hx hb dX8_classAt_24 rfl (lv_at hl 3 rfl) ?_
  refine lv_bipush (v := 6) hx hb dX8_classAt_25 (by decide) ?_
  refine lv_iadd hx hb dX8_classAt_27 ?_
  refine tvv (v := .int 6) (congrArg Value.int (by decide)) ?_
  refine lv_iload_n hx hb dX8_classAt_28 rfl (lv_at hl 1 rfl) ?_
  refine lv_iadd hx hb dX8_classAt_29 ?_
  refine tvv (v := .int 6) (congrArg Value.int (by decide)) ?_
  refine va_iald hx hb hK hP 1 0 rfl rfl (vi _ _ (by decide)) dX8_classAt_30 ?_
  refine tvv (v := .int 0) (ci f0_nodes (k := 6) (by decide) hy0_nodes_6) ?_
  refine lv_icmp_le (tgt := 38) hx hb dX8_classAt_31 (by decide) (fun c_2 => ?_) (fun c_2 => ?_)
  rotate_left
  · exact absurd c_2 (by decide)
  refine lv_iload_n hx hb dX8_classAt_38 rfl (lv_at hl 1 rfl) ?_
  refine lv_istore_n (lv' := [(2, .int 0), (3, .int 1), (0, .ref h0), (1, .int 0)]) hx hb dX8_classAt_39 rfl hl (by decide) rfl (fun ls hl => ?_)
  refine lv_iinc (v := 2) (lv' := [(3, .int 2), (2, .int 0), (0, .ref h0), (1, .int 0)]) hx hb dX8_classAt_40 hl (k := 1) rfl (by decide) (by decide) rfl (fun ls hl => ?_)
  refine lv_goto (tgt := 4) hx hb dX8_classAt_43 (by decide) ?_
  refine lv_iload_n hx hb dX8_classAt_4 rfl (lv_at hl 0 rfl) ?_
  refine lv_iconst (v := 4) hx hb dX8_classAt_5 (by decide) ?_
  refine lv_icmp_ge (tgt := 46) hx hb dX8_classAt_6 (by decide) (fun c_3 => ?_) (fun c_3 => ?_)
  · exact absurd c_3 (by decide)
  refine lv_aload_n hx hb dX8_classAt_9 rfl (lv_at hl 2 rfl) ?_
  refine va_get (D := (dC, dI)) (ci := 8) (v := .ref h0_nodes) (C := RX8) (T := TX8) (N := 23) hx hb hts hi8 hown hK hP 0 rfl rfl 4 (by decide) (hts (.fieldLink RX8 21 "AskTreeModel" "nodes" "[I") (by decide +kernel)) (fun _ h9 => h9) rfl dX8_classAt_10 ?_
  refine lv_iload_n hx hb dX8_classAt_13 rfl (lv_at hl 3 rfl) ?_
  refine lv_bipush (v := 6) hx hb dX8_classAt_14 (by decide) ?_
  refine lv_iadd hx hb dX8_classAt_16 ?_
  refine tvv (v := .int 6) (congrArg Value.int (by decide)) ?_
  refine lv_iload_n hx hb dX8_classAt_17 rfl (lv_at hl 0 rfl) ?_
  refine lv_iadd hx hb dX8_classAt_18 ?_
  refine tvv (v := .int 8) (congrArg Value.int (by decide)) ?_
  refine va_iald hx hb hK hP 1 0 rfl rfl (vi _ _ (by decide)) dX8_classAt_19 ?_
  refine tvv (v := .int 0) (ci f0_nodes (k := 8) (by decide) hy0_nodes_8) ?_
  refine lv_aload_n hx hb dX8_classAt_20 rfl (lv_at hl 2 rfl) ?_
  refine va_get (D := (dC, dI)) (ci := 8) (v := .ref h0_nodes) (C := RX8) (T := TX8) (N := 23) hx hb hts hi8 hown hK hP 0 rfl rfl 4 (by decide) (hts (.fieldLink RX8 21 "AskTreeModel" "nodes" "[I") (by decide +kernel)) (fun _ h9 => h9) rfl dX8_classAt_21 ?_
  refine lv_iload_n hx hb dX8_classAt_24 rfl (lv_at hl 3 rfl) ?_
  refine lv_bipush (v := 6) hx hb dX8_classAt_25 (by decide) ?_
  refine lv_iadd hx hb dX8_classAt_27 ?_
  refine tvv (v := .int 6) (congrArg Value.int (by decide)) ?_
  refine lv_iload_n hx hb dX8_classAt_28 rfl (lv_at hl 1 rfl) ?_
  refine lv_iadd hx hb dX8_classAt_29 ?_
  refine tvv (v := .int 6) (congrArg Value.int (by decide)) ?_
  refine va_iald hx hb hK hP 1 0 rfl rfl (vi _ _ (by decide)) dX8_classAt_30 ?_
  refine tvv (v := .int 0) (ci f0_nodes (k := 6) (by decide) hy0_nodes_6) ?_
  refine lv_icmp_le (tgt := 38) hx hb dX8_classAt_31 (by decide) (fun c_4 => ?_) (fun c_4 => ?_)
  rotate_left
  · exact absurd c_4 (by decide)
  refine lv_iload_n hx hb dX8_classAt_38 rfl (lv_at hl 1 rfl) ?_
  refine lv_istore_n (lv' := [(2, .int 0), (3, .int 2), (0, .ref h0), (1, .int 0)]) hx hb dX8_classAt_39 rfl hl (by decide) rfl (fun ls hl => ?_)
  refine lv_iinc (v := 3) (lv' := [(3, .int 3), (2, .int 0), (0, .ref h0), (1, .int 0)]) hx hb dX8_classAt_40 hl (k := 1) rfl (by decide) (by decide) rfl (fun ls hl => ?_)
  refine lv_goto (tgt := 4) hx hb dX8_classAt_43 (by decide) ?_
  refine lv_iload_n hx hb dX8_classAt_4 rfl (lv_at hl 0 rfl) ?_
  refine lv_iconst (v := 4) hx hb dX8_classAt_5 (by decide) ?_
  refine lv_icmp_ge (tgt := 46) hx hb dX8_classAt_6 (by decide) (fun c_5 => ?_) (fun c_5 => ?_)
  · exact absurd c_5 (by decide)
  refine lv_aload_n hx hb dX8_classAt_9 rfl (lv_at hl 2 rfl) ?_
  refine va_get (D := (dC, dI)) (ci := 8) (v := .ref h0_nodes) (C := RX8) (T := TX8) (N := 23) hx hb hts hi8 hown hK hP 0 rfl rfl 4 (by decide) (hts (.fieldLink RX8 21 "AskTreeModel" "nodes" "[I") (by decide +kernel)) (fun _ h9 => h9) rfl dX8_classAt_10 ?_
  refine lv_iload_n hx hb dX8_classAt_13 rfl (lv_at hl 3 rfl) ?_
  refine lv_bipush (v := 6) hx hb dX8_classAt_14 (by decide) ?_
  refine lv_iadd hx hb dX8_classAt_16 ?_
  refine tvv (v := .int 6) (congrArg Value.int (by decide)) ?_
  refine lv_iload_n hx hb dX8_classAt_17 rfl (lv_at hl 0 rfl) ?_
  refine lv_iadd hx hb dX8_classAt_18 ?_
  refine tvv (v := .int 9) (congrArg Value.int (by decide)) ?_
  refine va_iald hx hb hK hP 1 0 rfl rfl (vi _ _ (by decide)) dX8_classAt_19 ?_
  refine tvv (v := .int 0) (ci f0_nodes (k := 9) (by decide) hy0_nodes_9) ?_
  refine lv_aload_n hx hb dX8_classAt_20 rfl (lv_at hl 2 rfl) ?_
  refine va_get (D := (dC, dI)) (ci := 8) (v := .ref h0_nodes) (C := RX8) (T := TX8) (N := 23) hx hb hts hi8 hown hK hP 0 rfl rfl 4 (by decide) (hts (.fieldLink RX8 21 "AskTreeModel" "nodes" "[I") (by decide +kernel)) (fun _ h9 => h9) rfl dX8_classAt_21 ?_
  refine lv_iload_n hx hb dX8_classAt_24 rfl (lv_at hl 3 rfl) ?_
  refine lv_bipush (v := 6) hx hb dX8_classAt_25 (by decide) ?_
  refine lv_iadd hx hb dX8_classAt_27 ?_
  refine tvv (v := .int 6) (congrArg Value.int (by decide)) ?_
  refine lv_iload_n hx hb dX8_classAt_28 rfl (lv_at hl 1 rfl) ?_
  refine lv_iadd hx hb dX8_classAt_29 ?_
  refine tvv (v := .int 6) (congrArg Value.int (by decide)) ?_
  refine va_iald hx hb hK hP 1 0 rfl rfl (vi _ _ (by decide)) dX8_classAt_30 ?_
  refine tvv (v := .int 0) (ci f0_nodes (k := 6) (by decide) hy0_nodes_6) ?_
  refine lv_icmp_le (tgt := 38) hx hb dX8_classAt_31 (by decide) (fun c_6 => ?_) (fun c_6 => ?_)
  rotate_left
  · exact absurd c_6 (by decide)
  refine lv_iload_n hx hb dX8_classAt_38 rfl (lv_at hl 1 rfl) ?_
  refine lv_istore_n (lv' := [(2, .int 0), (3, .int 3), (0, .ref h0), (1, .int 0)]) hx hb dX8_classAt_39 rfl hl (by decide) rfl (fun ls hl => ?_)
  refine lv_iinc (v := 4) (lv' := [(3, .int 4), (2, .int 0), (0, .ref h0), (1, .int 0)]) hx hb dX8_classAt_40 hl (k := 1) rfl (by decide) (by decide) rfl (fun ls hl => ?_)
  refine lv_goto (tgt := 4) hx hb dX8_classAt_43 (by decide) ?_
  refine lv_iload_n hx hb dX8_classAt_4 rfl (lv_at hl 0 rfl) ?_
  refine lv_iconst (v := 4) hx hb dX8_classAt_5 (by decide) ?_
  refine lv_icmp_ge (tgt := 46) hx hb dX8_classAt_6 (by decide) (fun c_7 => ?_) (fun c_7 => ?_)
  rotate_left
  · exact absurd c_7 (by decide)
  refine lv_iload_n hx hb dX8_classAt_46 rfl (lv_at hl 1 rfl) ?_
  have hP9 := hP.sub (ws' := [(h0, .inr (8, [.ref a0_marks, .ref a0_classes, .int 0, .ref a0_isSort, .ref h0_nodes, .ref a0_many, .int 0, .ref a0_in, .int 0, .int 0, .int 0, .ref a0_asked, .ref a0_turned, .int 0, .int (-1), .int (-1), .ref a0_heap, .ref a0_heapYes, .ref a0_path, .ref a0_bestWrong, .ref a0_bestAsked, .ref a0_bestMark, .ref a0_bestV])), (h0_nodes, .inl (k0_nodes, 134400, .inl f0_nodes))]) [0, 1] rfl
  have hD9 := hD.sub (ws' := [(h0, .inr (8, [.ref a0_marks, .ref a0_classes, .int 0, .ref a0_isSort, .ref h0_nodes, .ref a0_many, .int 0, .ref a0_in, .int 0, .int 0, .int 0, .ref a0_asked, .ref a0_turned, .int 0, .int (-1), .int (-1), .ref a0_heap, .ref a0_heapYes, .ref a0_path, .ref a0_bestWrong, .ref a0_bestAsked, .ref a0_bestMark, .ref a0_bestV])), (h0_nodes, .inl (k0_nodes, 134400, .inl f0_nodes))]) [0, 1] (by decide) rfl
  have hK9 := hK.sub (tys' := []) [] rfl
  exact W.iret (v := 0) hx hb hr (fun t ht hW => ⟨⟨0, ([(h0, .inr (8, [.ref a0_marks, .ref a0_classes, .int 0, .ref a0_isSort, .ref h0_nodes, .ref a0_many, .int 0, .ref a0_in, .int 0, .int 0, .int 0, .ref a0_asked, .ref a0_turned, .int 0, .int (-1), .int (-1), .ref a0_heap, .ref a0_heapYes, .ref a0_path, .ref a0_bestWrong, .ref a0_bestAsked, .ref a0_bestMark, .ref a0_bestV])), (h0_nodes, .inl (k0_nodes, 134400, .inl f0_nodes))], []), rfl, ⟨rfl, rfl⟩, (by rw [ht]; exact hP9), va_K.moved hW.alike hK9, hD9⟩, hS.F ht⟩) hS.2.2 dX8_classAt_47

set_option maxHeartbeats 4000000 in
set_option maxRecDepth 100000 in
theorem c_wrongAt0 (l : Launch) (dC : Nat → ClassId) (dI : Nat → Nat → Nat) (sz : Nat) (h0 : Nat) (h0_nodes : Nat) (a0_marks : Nat) (a0_classes : Nat) (a0_isSort : Nat) (a0_many : Nat) (a0_in : Nat) (a0_asked : Nat) (a0_turned : Nat) (a0_heap : Nat) (a0_heapYes : Nat) (a0_path : Nat) (a0_bestWrong : Nat) (a0_bestAsked : Nat) (a0_bestMark : Nat) (a0_bestV : Nat) (k0_nodes : ClassId) (f0_nodes : Nat → Int32) (hy0_nodes_6 : f0_nodes 6 = 0) (hy0_nodes_7 : f0_nodes 7 = 0) (hy0_nodes_8 : f0_nodes 8 = 0) (hy0_nodes_9 : f0_nodes 9 = 0)  : Met l yX8_wrongAt wsX8_wrongAt ({ frames := 2, cells := 0, slots := 0, locals := 83 }) (va_Pc [.ref h0, .int 0] (pw (dC, dI) [(k0_nodes, .int)] [(h0, .inr (8, [.ref a0_marks, .ref a0_classes, .int 0, .ref a0_isSort, .ref h0_nodes, .ref a0_many, .int 0, .ref a0_in, .int 0, .int 0, .int 0, .ref a0_asked, .ref a0_turned, .int 0, .int (-1), .int (-1), .ref a0_heap, .ref a0_heapYes, .ref a0_path, .ref a0_bestWrong, .ref a0_bestAsked, .ref a0_bestMark, .ref a0_bestV])), (h0_nodes, .inl (k0_nodes, 134400, .inl f0_nodes))] sz)) (va_Qi (fun (r : Int32) (u : vu) => (u = ([(h0, .inr (8, [.ref a0_marks, .ref a0_classes, .int 0, .ref a0_isSort, .ref h0_nodes, .ref a0_many, .int 0, .ref a0_in, .int 0, .int 0, .int 0, .ref a0_asked, .ref a0_turned, .int 0, .int (-1), .int (-1), .ref a0_heap, .ref a0_heapYes, .ref a0_path, .ref a0_bestWrong, .ref a0_bestAsked, .ref a0_bestMark, .ref a0_bestV])), (h0_nodes, .inl (k0_nodes, 134400, .inl f0_nodes))], []) ∧ r = 0)) (fun u t => qw (dC, dI) u.2 (va_A [(h0, .inr (8, [.ref a0_marks, .ref a0_classes, .int 0, .ref a0_isSort, .ref h0_nodes, .ref a0_many, .int 0, .ref a0_in, .int 0, .int 0, .int 0, .ref a0_asked, .ref a0_turned, .int 0, .int (-1), .int (-1), .ref a0_heap, .ref a0_heapYes, .ref a0_path, .ref a0_bestWrong, .ref a0_bestAsked, .ref a0_bestMark, .ref a0_bestV])), (h0_nodes, .inl (k0_nodes, 134400, .inl f0_nodes))] sz) u.1 t) (va_A [(h0, .inr (8, [.ref a0_marks, .ref a0_classes, .int 0, .ref a0_isSort, .ref h0_nodes, .ref a0_many, .int 0, .ref a0_in, .int 0, .int 0, .int 0, .ref a0_asked, .ref a0_turned, .int 0, .int (-1), .int (-1), .ref a0_heap, .ref a0_heapYes, .ref a0_path, .ref a0_bestWrong, .ref a0_bestAsked, .ref a0_bestMark, .ref a0_bestV])), (h0_nodes, .inl (k0_nodes, 134400, .inl f0_nodes))] sz)) 0 0 (va_A [(h0, .inr (8, [.ref a0_marks, .ref a0_classes, .int 0, .ref a0_isSort, .ref h0_nodes, .ref a0_many, .int 0, .ref a0_in, .int 0, .int 0, .int 0, .ref a0_asked, .ref a0_turned, .int 0, .int (-1), .int (-1), .ref a0_heap, .ref a0_heapYes, .ref a0_path, .ref a0_bestWrong, .ref a0_bestAsked, .ref a0_bestMark, .ref a0_bestV])), (h0_nodes, .inl (k0_nodes, 134400, .inl f0_nodes))] sz) := by
  refine Met.ofW (cc := cX8_wrongAt) (maxL := 2) (ret := (some .int)) (by decide) rfl ?_
  intro p e s m args below meth c s₁ B hml hv
  obtain ⟨rfl, hsz, hP, hK, hD0, hN⟩ := hv
  have hx := B.exec
  have hb := B.bytes
  have hr := B.returns
  have hts := atoms_spec (ws := wsX8_wrongAt) B.pre
  have hown : s.vm.findClass RX8 = some m.cls := findClass_of_methodNamed B.named
  have hlocks := B.notSynchronized
  have hi8 : ∀ w ∈ u_ws RX8 TX8 23, w ∈ wsX8_wrongAt := fun _ h => List.mem_cons_of_mem _ (List.mem_append_right _ h)
  subst hsz
  have hD := hD0.self (sz := s.heap.size)
  generalize hAe : va_A [(h0, .inr (8, [.ref a0_marks, .ref a0_classes, .int 0, .ref a0_isSort, .ref h0_nodes, .ref a0_many, .int 0, .ref a0_in, .int 0, .int 0, .int 0, .ref a0_asked, .ref a0_turned, .int 0, .int (-1), .int (-1), .ref a0_heap, .ref a0_heapYes, .ref a0_path, .ref a0_bestWrong, .ref a0_bestAsked, .ref a0_bestMark, .ref a0_bestV])), (h0_nodes, .inl (k0_nodes, 134400, .inl f0_nodes))] s.heap.size = A at hD ⊢
  have hA : ∀ q : Nat, s.heap.size ≤ q → A q := fun q h => by rw [← hAe]; exact Or.inr h
  have hS : va_S A s.heap s.heap [] := va_S.rf
  have hl := lv_entry ([.ref h0, .int 0]) (n := 2) (Nat.le_of_ble_eq_true rfl)
  rw [lg_entry_eq]
  generalize (lg_sl ([.ref h0, .int 0]) ++ List.replicate (2 - (lg_sl ([.ref h0, .int 0])).length) Slot.unset).toArray = ls at hl ⊢
  have hl : lv_has ls 2 [(0, .ref h0), (1, .int 0)] := hl
  have hP : va_P (dC, dI) vwCl [(h0, .inr (8, [.ref a0_marks, .ref a0_classes, .int 0, .ref a0_isSort, .ref h0_nodes, .ref a0_many, .int 0, .ref a0_in, .int 0, .int 0, .int 0, .ref a0_asked, .ref a0_turned, .int 0, .int (-1), .int (-1), .ref a0_heap, .ref a0_heapYes, .ref a0_path, .ref a0_bestWrong, .ref a0_bestAsked, .ref a0_bestMark, .ref a0_bestV])), (h0_nodes, .inl (k0_nodes, 134400, .inl f0_nodes))] s.heap := hP
  refine lv_aload_n hx hb dX8_wrongAt_0 rfl (lv_at hl 0 rfl) ?_
  refine lv_iload_n hx hb dX8_wrongAt_1 rfl (lv_at hl 1 rfl) ?_
  have hPc := hP.sub (ws' := [(h0, .inr (8, [.ref a0_marks, .ref a0_classes, .int 0, .ref a0_isSort, .ref h0_nodes, .ref a0_many, .int 0, .ref a0_in, .int 0, .int 0, .int 0, .ref a0_asked, .ref a0_turned, .int 0, .int (-1), .int (-1), .ref a0_heap, .ref a0_heapYes, .ref a0_path, .ref a0_bestWrong, .ref a0_bestAsked, .ref a0_bestMark, .ref a0_bestV])), (h0_nodes, .inl (k0_nodes, 134400, .inl f0_nodes))]) [0, 1] rfl
  have hDc := hD.sub (ws' := [(h0, .inr (8, [.ref a0_marks, .ref a0_classes, .int 0, .ref a0_isSort, .ref h0_nodes, .ref a0_many, .int 0, .ref a0_in, .int 0, .int 0, .int 0, .ref a0_asked, .ref a0_turned, .int 0, .int (-1), .int (-1), .ref a0_heap, .ref a0_heapYes, .ref a0_path, .ref a0_bestWrong, .ref a0_bestAsked, .ref a0_bestMark, .ref a0_bestV])), (h0_nodes, .inl (k0_nodes, 134400, .inl f0_nodes))]) [0, 1] (by decide) rfl
  have hKc := hK.sub (tys' := [(k0_nodes, .int)]) [0] rfl
  have hFc := va_free (wc := [(h0, .inr (8, [.ref a0_marks, .ref a0_classes, .int 0, .ref a0_isSort, .ref h0_nodes, .ref a0_many, .int 0, .ref a0_in, .int 0, .int 0, .int 0, .ref a0_asked, .ref a0_turned, .int 0, .int (-1), .int (-1), .ref a0_heap, .ref a0_heapYes, .ref a0_path, .ref a0_bestWrong, .ref a0_bestAsked, .ref a0_bestMark, .ref a0_bestV])), (h0_nodes, .inl (k0_nodes, 134400, .inl f0_nodes))]) hD hS hA [0, 1] rfl
  refine va_calli (va_runV (As := [.int 0]) (rest := []) ⟨hx, hb, hml, hown, hts⟩ (c_countAt0 l dC dI s.heap.size h0 h0_nodes a0_marks a0_classes a0_isSort a0_many a0_in a0_asked a0_turned a0_heap a0_heapYes a0_path a0_bestWrong a0_bestAsked a0_bestMark a0_bestV k0_nodes f0_nodes hy0_nodes_6 hy0_nodes_7 hy0_nodes_8 hy0_nodes_9) (cwV 1 hts gX8_wrongAt_X8_countAt rfl rfl rfl (by decide +kernel) ⟨Nat.le_of_ble_eq_true rfl, Nat.le_of_ble_eq_true rfl⟩) (pre_V hPc hKc hDc hN (ci := 8) (q0 := 0) rfl rfl) rfl rfl hl.1 rfl (lv_room (Nat.le_of_ble_eq_true rfl)) dX8_wrongAt_2 ⟨Nat.le_of_ble_eq_true rfl, Nat.le_of_ble_eq_true rfl⟩) hS (fun q _ h => hFc q h) hFc (fun r_1 u t H1 locs ht hvm hw hB hz1 hk1 hS => ?_)
  clear hPc hDc hKc
  obtain ⟨rfl, rfl⟩ := hw
  obtain ⟨hP1, hK1, hD1⟩ := hB
  rw [ht] at hP1
  obtain ⟨hP, hD⟩ := va_join (wr := []) (w1 := [(h0, .inr (8, [.ref a0_marks, .ref a0_classes, .int 0, .ref a0_isSort, .ref h0_nodes, .ref a0_many, .int 0, .ref a0_in, .int 0, .int 0, .int 0, .ref a0_asked, .ref a0_turned, .int 0, .int (-1), .int (-1), .ref a0_heap, .ref a0_heapYes, .ref a0_path, .ref a0_bestWrong, .ref a0_bestAsked, .ref a0_bestMark, .ref a0_bestV])), (h0_nodes, .inl (k0_nodes, 134400, .inl f0_nodes))]) hP hD [0, 1] [] rfl rfl (by decide) (by decide) hk1 hFc hP1 hD1
  generalize H1 = H at hP hS ⊢
  clear hP1 hD1 hFc hk1 hz1 ht hvm hK1
  have hP : va_P (dC, dI) vwCl [(h0, .inr (8, [.ref a0_marks, .ref a0_classes, .int 0, .ref a0_isSort, .ref h0_nodes, .ref a0_many, .int 0, .ref a0_in, .int 0, .int 0, .int 0, .ref a0_asked, .ref a0_turned, .int 0, .int (-1), .int (-1), .ref a0_heap, .ref a0_heapYes, .ref a0_path, .ref a0_bestWrong, .ref a0_bestAsked, .ref a0_bestMark, .ref a0_bestV])), (h0_nodes, .inl (k0_nodes, 134400, .inl f0_nodes))] H := hP
  have hD : va_D A [(h0, .inr (8, [.ref a0_marks, .ref a0_classes, .int 0, .ref a0_isSort, .ref h0_nodes, .ref a0_many, .int 0, .ref a0_in, .int 0, .int 0, .int 0, .ref a0_asked, .ref a0_turned, .int 0, .int (-1), .int (-1), .ref a0_heap, .ref a0_heapYes, .ref a0_path, .ref a0_bestWrong, .ref a0_bestAsked, .ref a0_bestMark, .ref a0_bestV])), (h0_nodes, .inl (k0_nodes, 134400, .inl f0_nodes))] := hD
  refine lv_aload_n hx hb dX8_wrongAt_5 rfl (lv_at hl 0 rfl) ?_
  refine va_get (D := (dC, dI)) (ci := 8) (v := .ref h0_nodes) (C := RX8) (T := TX8) (N := 23) hx hb hts hi8 hown hK hP 0 rfl rfl 4 (by decide) (hts (.fieldLink RX8 21 "AskTreeModel" "nodes" "[I") (by decide +kernel)) (fun _ h9 => h9) rfl dX8_wrongAt_6 ?_
  refine lv_iload_n hx hb dX8_wrongAt_9 rfl (lv_at hl 1 rfl) ?_
  refine lv_bipush (v := 6) hx hb dX8_wrongAt_10 (by decide) ?_
  refine lv_iadd hx hb dX8_wrongAt_12 ?_
  refine tvv (v := .int 6) (congrArg Value.int (by decide)) ?_
  refine lv_aload_n hx hb dX8_wrongAt_13 rfl (lv_at hl 0 rfl) ?_
  refine lv_iload_n hx hb dX8_wrongAt_14 rfl (lv_at hl 1 rfl) ?_
  have hPc := hP.sub (ws' := [(h0, .inr (8, [.ref a0_marks, .ref a0_classes, .int 0, .ref a0_isSort, .ref h0_nodes, .ref a0_many, .int 0, .ref a0_in, .int 0, .int 0, .int 0, .ref a0_asked, .ref a0_turned, .int 0, .int (-1), .int (-1), .ref a0_heap, .ref a0_heapYes, .ref a0_path, .ref a0_bestWrong, .ref a0_bestAsked, .ref a0_bestMark, .ref a0_bestV])), (h0_nodes, .inl (k0_nodes, 134400, .inl f0_nodes))]) [0, 1] rfl
  have hDc := hD.sub (ws' := [(h0, .inr (8, [.ref a0_marks, .ref a0_classes, .int 0, .ref a0_isSort, .ref h0_nodes, .ref a0_many, .int 0, .ref a0_in, .int 0, .int 0, .int 0, .ref a0_asked, .ref a0_turned, .int 0, .int (-1), .int (-1), .ref a0_heap, .ref a0_heapYes, .ref a0_path, .ref a0_bestWrong, .ref a0_bestAsked, .ref a0_bestMark, .ref a0_bestV])), (h0_nodes, .inl (k0_nodes, 134400, .inl f0_nodes))]) [0, 1] (by decide) rfl
  have hKc := hK.sub (tys' := [(k0_nodes, .int)]) [0] rfl
  have hFc := va_free (wc := [(h0, .inr (8, [.ref a0_marks, .ref a0_classes, .int 0, .ref a0_isSort, .ref h0_nodes, .ref a0_many, .int 0, .ref a0_in, .int 0, .int 0, .int 0, .ref a0_asked, .ref a0_turned, .int 0, .int (-1), .int (-1), .ref a0_heap, .ref a0_heapYes, .ref a0_path, .ref a0_bestWrong, .ref a0_bestAsked, .ref a0_bestMark, .ref a0_bestV])), (h0_nodes, .inl (k0_nodes, 134400, .inl f0_nodes))]) hD hS hA [0, 1] rfl
  refine va_calli (va_runV (As := [.int 0]) (rest := [.int 6, .ref h0_nodes, .int 0]) ⟨hx, hb, hml, hown, hts⟩ (c_classAt0 l dC dI H.size h0 h0_nodes a0_marks a0_classes a0_isSort a0_many a0_in a0_asked a0_turned a0_heap a0_heapYes a0_path a0_bestWrong a0_bestAsked a0_bestMark a0_bestV k0_nodes f0_nodes hy0_nodes_6 hy0_nodes_7 hy0_nodes_8 hy0_nodes_9) (cwV 1 hts gX8_wrongAt_X8_classAt rfl rfl rfl (by decide +kernel) ⟨Nat.le_of_ble_eq_true rfl, Nat.le_of_ble_eq_true rfl⟩) (pre_V hPc hKc hDc hN (ci := 8) (q0 := 0) rfl rfl) rfl rfl hl.1 rfl (lv_room (Nat.le_of_ble_eq_true rfl)) dX8_wrongAt_15 ⟨Nat.le_of_ble_eq_true rfl, Nat.le_of_ble_eq_true rfl⟩) hS (fun q _ h => hFc q h) hFc (fun r_2 u t H1 locs ht hvm hw hB hz1 hk1 hS => ?_)
  clear hPc hDc hKc
  obtain ⟨rfl, rfl⟩ := hw
  obtain ⟨hP1, hK1, hD1⟩ := hB
  rw [ht] at hP1
  obtain ⟨hP, hD⟩ := va_join (wr := []) (w1 := [(h0, .inr (8, [.ref a0_marks, .ref a0_classes, .int 0, .ref a0_isSort, .ref h0_nodes, .ref a0_many, .int 0, .ref a0_in, .int 0, .int 0, .int 0, .ref a0_asked, .ref a0_turned, .int 0, .int (-1), .int (-1), .ref a0_heap, .ref a0_heapYes, .ref a0_path, .ref a0_bestWrong, .ref a0_bestAsked, .ref a0_bestMark, .ref a0_bestV])), (h0_nodes, .inl (k0_nodes, 134400, .inl f0_nodes))]) hP hD [0, 1] [] rfl rfl (by decide) (by decide) hk1 hFc hP1 hD1
  generalize H1 = H at hP hS ⊢
  clear hP1 hD1 hFc hk1 hz1 ht hvm hK1
  have hP : va_P (dC, dI) vwCl [(h0, .inr (8, [.ref a0_marks, .ref a0_classes, .int 0, .ref a0_isSort, .ref h0_nodes, .ref a0_many, .int 0, .ref a0_in, .int 0, .int 0, .int 0, .ref a0_asked, .ref a0_turned, .int 0, .int (-1), .int (-1), .ref a0_heap, .ref a0_heapYes, .ref a0_path, .ref a0_bestWrong, .ref a0_bestAsked, .ref a0_bestMark, .ref a0_bestV])), (h0_nodes, .inl (k0_nodes, 134400, .inl f0_nodes))] H := hP
  have hD : va_D A [(h0, .inr (8, [.ref a0_marks, .ref a0_classes, .int 0, .ref a0_isSort, .ref h0_nodes, .ref a0_many, .int 0, .ref a0_in, .int 0, .int 0, .int 0, .ref a0_asked, .ref a0_turned, .int 0, .int (-1), .int (-1), .ref a0_heap, .ref a0_heapYes, .ref a0_path, .ref a0_bestWrong, .ref a0_bestAsked, .ref a0_bestMark, .ref a0_bestV])), (h0_nodes, .inl (k0_nodes, 134400, .inl f0_nodes))] := hD
  refine lv_iadd hx hb dX8_wrongAt_18 ?_
  refine tvv (v := .int 6) (congrArg Value.int (by decide)) ?_
  refine va_iald hx hb hK hP 1 0 rfl rfl (vi _ _ (by decide)) dX8_wrongAt_19 ?_
  refine tvv (v := .int 0) (ci f0_nodes (k := 6) (by decide) hy0_nodes_6) ?_
  refine lv_isub hx hb dX8_wrongAt_20 ?_
  refine tvv (v := .int 0) (congrArg Value.int (by decide)) ?_
  have hP9 := hP.sub (ws' := [(h0, .inr (8, [.ref a0_marks, .ref a0_classes, .int 0, .ref a0_isSort, .ref h0_nodes, .ref a0_many, .int 0, .ref a0_in, .int 0, .int 0, .int 0, .ref a0_asked, .ref a0_turned, .int 0, .int (-1), .int (-1), .ref a0_heap, .ref a0_heapYes, .ref a0_path, .ref a0_bestWrong, .ref a0_bestAsked, .ref a0_bestMark, .ref a0_bestV])), (h0_nodes, .inl (k0_nodes, 134400, .inl f0_nodes))]) [0, 1] rfl
  have hD9 := hD.sub (ws' := [(h0, .inr (8, [.ref a0_marks, .ref a0_classes, .int 0, .ref a0_isSort, .ref h0_nodes, .ref a0_many, .int 0, .ref a0_in, .int 0, .int 0, .int 0, .ref a0_asked, .ref a0_turned, .int 0, .int (-1), .int (-1), .ref a0_heap, .ref a0_heapYes, .ref a0_path, .ref a0_bestWrong, .ref a0_bestAsked, .ref a0_bestMark, .ref a0_bestV])), (h0_nodes, .inl (k0_nodes, 134400, .inl f0_nodes))]) [0, 1] (by decide) rfl
  have hK9 := hK.sub (tys' := []) [] rfl
  exact W.iret (v := 0) hx hb hr (fun t ht hW => ⟨⟨0, ([(h0, .inr (8, [.ref a0_marks, .ref a0_classes, .int 0, .ref a0_isSort, .ref h0_nodes, .ref a0_many, .int 0, .ref a0_in, .int 0, .int 0, .int 0, .ref a0_asked, .ref a0_turned, .int 0, .int (-1), .int (-1), .ref a0_heap, .ref a0_heapYes, .ref a0_path, .ref a0_bestWrong, .ref a0_bestAsked, .ref a0_bestMark, .ref a0_bestV])), (h0_nodes, .inl (k0_nodes, 134400, .inl f0_nodes))], []), rfl, ⟨rfl, rfl⟩, (by rw [ht]; exact hP9), va_K.moved hW.alike hK9, hD9⟩, hS.F ht⟩) hS.2.2 dX8_wrongAt_21

set_option maxHeartbeats 4000000 in
set_option maxRecDepth 100000 in
theorem c_growNode0 (l : Launch) (dC : Nat → ClassId) (dI : Nat → Nat → Nat) (sz : Nat) (h0 : Nat) (p2 : Int32) (p3 : Int32) (h0_heap : Nat) (h0_many : Nat) (h0_nodes : Nat) (a0_marks : Nat) (a0_classes : Nat) (a0_isSort : Nat) (a0_in : Nat) (a0_asked : Nat) (a0_turned : Nat) (a0_heapYes : Nat) (a0_path : Nat) (a0_bestWrong : Nat) (a0_bestAsked : Nat) (a0_bestMark : Nat) (a0_bestV : Nat) (k0_heap : ClassId) (f0_heap : Nat → Int32) (k0_many : ClassId) (f0_many : Nat → Int32) (k0_nodes : ClassId) (f0_nodes : Nat → Int32) (hy0_many_0 : f0_many 0 = 0)  : Met l yX8_growNode wsX8_growNode ({ frames := 3, cells := 0, slots := 0, locals := 106 }) (va_Pc [.ref h0, .int 0, .int p2, .int p3] (pw (dC, dI) [(k0_heap, .int), (k0_many, .int), (k0_nodes, .int)] [(h0, .inr (8, [.ref a0_marks, .ref a0_classes, .int 0, .ref a0_isSort, .ref h0_nodes, .ref h0_many, .int 0, .ref a0_in, .int 0, .int 0, .int 0, .ref a0_asked, .ref a0_turned, .int 0, .int (-1), .int (-1), .ref h0_heap, .ref a0_heapYes, .ref a0_path, .ref a0_bestWrong, .ref a0_bestAsked, .ref a0_bestMark, .ref a0_bestV])), (h0_heap, .inl (k0_heap, 4, .inl f0_heap)), (h0_many, .inl (k0_many, 21, .inl f0_many)), (h0_nodes, .inl (k0_nodes, 134400, .inl f0_nodes))] sz)) (va_Qi (fun (r : Int32) (u : vu) => (∃ (f_2 : Nat → Int32) (f_3 : Nat → Int32) (f_4 : Nat → Int32), u = ([(h0, .inr (8, [.ref a0_marks, .ref a0_classes, .int 0, .ref a0_isSort, .ref h0_nodes, .ref h0_many, .int 0, .ref a0_in, .int 0, .int 0, .int 0, .ref a0_asked, .ref a0_turned, .int 0, .int (-1), .int (-1), .ref h0_heap, .ref a0_heapYes, .ref a0_path, .ref a0_bestWrong, .ref a0_bestAsked, .ref a0_bestMark, .ref a0_bestV])), (h0_heap, .inl (k0_heap, 4, .inl f_2)), (h0_many, .inl (k0_many, 21, .inl f_3)), (h0_nodes, .inl (k0_nodes, 134400, .inl f_4))], []) ∧ f_2 0 = 0 ∧ f_2 1 = 0 ∧ f_2 2 = 0 ∧ f_2 3 = 0 ∧ r = 0)) (fun u t => qw (dC, dI) u.2 (va_A [(h0, .inr (8, [.ref a0_marks, .ref a0_classes, .int 0, .ref a0_isSort, .ref h0_nodes, .ref h0_many, .int 0, .ref a0_in, .int 0, .int 0, .int 0, .ref a0_asked, .ref a0_turned, .int 0, .int (-1), .int (-1), .ref h0_heap, .ref a0_heapYes, .ref a0_path, .ref a0_bestWrong, .ref a0_bestAsked, .ref a0_bestMark, .ref a0_bestV])), (h0_heap, .inl (k0_heap, 4, .inl f0_heap)), (h0_many, .inl (k0_many, 21, .inl f0_many)), (h0_nodes, .inl (k0_nodes, 134400, .inl f0_nodes))] sz) u.1 t) (va_A [(h0, .inr (8, [.ref a0_marks, .ref a0_classes, .int 0, .ref a0_isSort, .ref h0_nodes, .ref h0_many, .int 0, .ref a0_in, .int 0, .int 0, .int 0, .ref a0_asked, .ref a0_turned, .int 0, .int (-1), .int (-1), .ref h0_heap, .ref a0_heapYes, .ref a0_path, .ref a0_bestWrong, .ref a0_bestAsked, .ref a0_bestMark, .ref a0_bestV])), (h0_heap, .inl (k0_heap, 4, .inl f0_heap)), (h0_many, .inl (k0_many, 21, .inl f0_many)), (h0_nodes, .inl (k0_nodes, 134400, .inl f0_nodes))] sz)) 0 0 (va_A [(h0, .inr (8, [.ref a0_marks, .ref a0_classes, .int 0, .ref a0_isSort, .ref h0_nodes, .ref h0_many, .int 0, .ref a0_in, .int 0, .int 0, .int 0, .ref a0_asked, .ref a0_turned, .int 0, .int (-1), .int (-1), .ref h0_heap, .ref a0_heapYes, .ref a0_path, .ref a0_bestWrong, .ref a0_bestAsked, .ref a0_bestMark, .ref a0_bestV])), (h0_heap, .inl (k0_heap, 4, .inl f0_heap)), (h0_many, .inl (k0_many, 21, .inl f0_many)), (h0_nodes, .inl (k0_nodes, 134400, .inl f0_nodes))] sz) := by
  refine Met.ofW (cc := cX8_growNode) (maxL := 9) (ret := (some .int)) (by decide) rfl ?_
  intro p e s m args below meth c s₁ B hml hv
  obtain ⟨rfl, hsz, hP, hK, hD0, hN⟩ := hv
  have hx := B.exec
  have hb := B.bytes
  have hr := B.returns
  have hts := atoms_spec (ws := wsX8_growNode) B.pre
  have hown : s.vm.findClass RX8 = some m.cls := findClass_of_methodNamed B.named
  have hlocks := B.notSynchronized
  have hi8 : ∀ w ∈ u_ws RX8 TX8 23, w ∈ wsX8_growNode := fun _ h => List.mem_cons_of_mem _ (List.mem_append_right _ h)
  subst hsz
  have hD := hD0.self (sz := s.heap.size)
  generalize hAe : va_A [(h0, .inr (8, [.ref a0_marks, .ref a0_classes, .int 0, .ref a0_isSort, .ref h0_nodes, .ref h0_many, .int 0, .ref a0_in, .int 0, .int 0, .int 0, .ref a0_asked, .ref a0_turned, .int 0, .int (-1), .int (-1), .ref h0_heap, .ref a0_heapYes, .ref a0_path, .ref a0_bestWrong, .ref a0_bestAsked, .ref a0_bestMark, .ref a0_bestV])), (h0_heap, .inl (k0_heap, 4, .inl f0_heap)), (h0_many, .inl (k0_many, 21, .inl f0_many)), (h0_nodes, .inl (k0_nodes, 134400, .inl f0_nodes))] s.heap.size = A at hD ⊢
  have hA : ∀ q : Nat, s.heap.size ≤ q → A q := fun q h => by rw [← hAe]; exact Or.inr h
  have hS : va_S A s.heap s.heap [] := va_S.rf
  have hl := lv_entry ([.ref h0, .int 0, .int p2, .int p3]) (n := 9) (Nat.le_of_ble_eq_true rfl)
  rw [lg_entry_eq]
  generalize (lg_sl ([.ref h0, .int 0, .int p2, .int p3]) ++ List.replicate (9 - (lg_sl ([.ref h0, .int 0, .int p2, .int p3])).length) Slot.unset).toArray = ls at hl ⊢
  have hl : lv_has ls 9 [(0, .ref h0), (1, .int 0), (2, .int p2), (3, .int p3)] := hl
  have hP : va_P (dC, dI) vwCl [(h0, .inr (8, [.ref a0_marks, .ref a0_classes, .int 0, .ref a0_isSort, .ref h0_nodes, .ref h0_many, .int 0, .ref a0_in, .int 0, .int 0, .int 0, .ref a0_asked, .ref a0_turned, .int 0, .int (-1), .int (-1), .ref h0_heap, .ref a0_heapYes, .ref a0_path, .ref a0_bestWrong, .ref a0_bestAsked, .ref a0_bestMark, .ref a0_bestV])), (h0_heap, .inl (k0_heap, 4, .inl f0_heap)), (h0_many, .inl (k0_many, 21, .inl f0_many)), (h0_nodes, .inl (k0_nodes, 134400, .inl f0_nodes))] s.heap := hP
  refine lv_aload_n hx hb dX8_growNode_0 rfl (lv_at hl 0 rfl) ?_
  refine lv_iload_n hx hb dX8_growNode_1 rfl (lv_at hl 1 rfl) ?_
  have hPc := hP.sub (ws' := [(h0, .inr (8, [.ref a0_marks, .ref a0_classes, .int 0, .ref a0_isSort, .ref h0_nodes, .ref h0_many, .int 0, .ref a0_in, .int 0, .int 0, .int 0, .ref a0_asked, .ref a0_turned, .int 0, .int (-1), .int (-1), .ref h0_heap, .ref a0_heapYes, .ref a0_path, .ref a0_bestWrong, .ref a0_bestAsked, .ref a0_bestMark, .ref a0_bestV])), (h0_heap, .inl (k0_heap, 4, .inl f0_heap)), (h0_many, .inl (k0_many, 21, .inl f0_many)), (h0_nodes, .inl (k0_nodes, 134400, .inl f0_nodes))]) [0, 1, 2, 3] rfl
  have hDc := hD.sub (ws' := [(h0, .inr (8, [.ref a0_marks, .ref a0_classes, .int 0, .ref a0_isSort, .ref h0_nodes, .ref h0_many, .int 0, .ref a0_in, .int 0, .int 0, .int 0, .ref a0_asked, .ref a0_turned, .int 0, .int (-1), .int (-1), .ref h0_heap, .ref a0_heapYes, .ref a0_path, .ref a0_bestWrong, .ref a0_bestAsked, .ref a0_bestMark, .ref a0_bestV])), (h0_heap, .inl (k0_heap, 4, .inl f0_heap)), (h0_many, .inl (k0_many, 21, .inl f0_many)), (h0_nodes, .inl (k0_nodes, 134400, .inl f0_nodes))]) [0, 1, 2, 3] (by decide) rfl
  have hKc := hK.sub (tys' := [(k0_heap, .int), (k0_many, .int), (k0_nodes, .int)]) [0, 1, 2] rfl
  have hFc := va_free (wc := [(h0, .inr (8, [.ref a0_marks, .ref a0_classes, .int 0, .ref a0_isSort, .ref h0_nodes, .ref h0_many, .int 0, .ref a0_in, .int 0, .int 0, .int 0, .ref a0_asked, .ref a0_turned, .int 0, .int (-1), .int (-1), .ref h0_heap, .ref a0_heapYes, .ref a0_path, .ref a0_bestWrong, .ref a0_bestAsked, .ref a0_bestMark, .ref a0_bestV])), (h0_heap, .inl (k0_heap, 4, .inl f0_heap)), (h0_many, .inl (k0_many, 21, .inl f0_many)), (h0_nodes, .inl (k0_nodes, 134400, .inl f0_nodes))]) hD hS hA [0, 1, 2, 3] rfl
  refine va_calli (va_runV (As := [.int 0]) (rest := []) ⟨hx, hb, hml, hown, hts⟩ (c_newNode0 l dC dI s.heap.size h0 h0_heap h0_many h0_nodes a0_marks a0_classes a0_isSort a0_in a0_asked a0_turned a0_heapYes a0_path a0_bestWrong a0_bestAsked a0_bestMark a0_bestV k0_heap f0_heap k0_many f0_many k0_nodes f0_nodes hy0_many_0) (cwV 1 hts gX8_growNode_X8_newNode rfl rfl rfl (by decide +kernel) ⟨Nat.le_of_ble_eq_true rfl, Nat.le_of_ble_eq_true rfl⟩) (pre_V hPc hKc hDc hN (ci := 8) (q0 := 0) rfl rfl) rfl rfl hl.1 rfl (lv_room (Nat.le_of_ble_eq_true rfl)) dX8_growNode_2 ⟨Nat.le_of_ble_eq_true rfl, Nat.le_of_ble_eq_true rfl⟩) hS (fun q _ h => hFc q h) hFc (fun r_1 u t H1 locs ht hvm hw hB hz1 hk1 hS => ?_)
  clear hPc hDc hKc
  obtain ⟨f_2, f_3, f_4, rfl, hk_5, hk_6, hk_7, hk_8, hk_9, hk_10, hk_11, hk_12, hk_13, hk_14, hk_15, hk_16, hk_17, hk_18, rfl⟩ := hw
  obtain ⟨hP1, hK1, hD1⟩ := hB
  rw [ht] at hP1
  obtain ⟨hP, hD⟩ := va_join (wr := []) (w1 := [(h0, .inr (8, [.ref a0_marks, .ref a0_classes, .int 0, .ref a0_isSort, .ref h0_nodes, .ref h0_many, .int 0, .ref a0_in, .int 0, .int 0, .int 0, .ref a0_asked, .ref a0_turned, .int 0, .int (-1), .int (-1), .ref h0_heap, .ref a0_heapYes, .ref a0_path, .ref a0_bestWrong, .ref a0_bestAsked, .ref a0_bestMark, .ref a0_bestV])), (h0_heap, .inl (k0_heap, 4, .inl f_2)), (h0_many, .inl (k0_many, 21, .inl f_3)), (h0_nodes, .inl (k0_nodes, 134400, .inl f_4))]) hP hD [0, 1, 2, 3] [] rfl rfl (by decide) (by decide) hk1 hFc hP1 hD1
  generalize H1 = H at hP hS ⊢
  clear hP1 hD1 hFc hk1 hz1 ht hvm hK1
  have hP : va_P (dC, dI) vwCl [(h0, .inr (8, [.ref a0_marks, .ref a0_classes, .int 0, .ref a0_isSort, .ref h0_nodes, .ref h0_many, .int 0, .ref a0_in, .int 0, .int 0, .int 0, .ref a0_asked, .ref a0_turned, .int 0, .int (-1), .int (-1), .ref h0_heap, .ref a0_heapYes, .ref a0_path, .ref a0_bestWrong, .ref a0_bestAsked, .ref a0_bestMark, .ref a0_bestV])), (h0_heap, .inl (k0_heap, 4, .inl f_2)), (h0_many, .inl (k0_many, 21, .inl f_3)), (h0_nodes, .inl (k0_nodes, 134400, .inl f_4))] H := hP
  have hD : va_D A [(h0, .inr (8, [.ref a0_marks, .ref a0_classes, .int 0, .ref a0_isSort, .ref h0_nodes, .ref h0_many, .int 0, .ref a0_in, .int 0, .int 0, .int 0, .ref a0_asked, .ref a0_turned, .int 0, .int (-1), .int (-1), .ref h0_heap, .ref a0_heapYes, .ref a0_path, .ref a0_bestWrong, .ref a0_bestAsked, .ref a0_bestMark, .ref a0_bestV])), (h0_heap, .inl (k0_heap, 4, .inl f_2)), (h0_many, .inl (k0_many, 21, .inl f_3)), (h0_nodes, .inl (k0_nodes, 134400, .inl f_4))] := hD
  refine lv_istore (lv' := [(4, .int 0), (0, .ref h0), (1, .int 0), (2, .int p2), (3, .int p3)]) hx hb dX8_growNode_5 hl (by decide) rfl (fun ls hl => ?_)
  refine lv_aload_n hx hb dX8_growNode_7 rfl (lv_at hl 1 rfl) ?_
  refine lv_aload_n hx hb dX8_growNode_8 rfl (lv_at hl 1 rfl) ?_
  refine va_get (D := (dC, dI)) (ci := 8) (v := .int 0) (C := RX8) (T := TX8) (N := 23) hx hb hts hi8 hown hK hP 0 rfl rfl 8 (by decide) (hts (.fieldLink RX8 111 "AskTreeModel" "making" "I") (by decide +kernel)) (fun _ h9 => h9) rfl dX8_growNode_9 ?_
  refine lv_iload hx hb dX8_growNode_12 (lv_at hl 0 rfl) ?_
  have hPc := hP.sub (ws' := [(h0, .inr (8, [.ref a0_marks, .ref a0_classes, .int 0, .ref a0_isSort, .ref h0_nodes, .ref h0_many, .int 0, .ref a0_in, .int 0, .int 0, .int 0, .ref a0_asked, .ref a0_turned, .int 0, .int (-1), .int (-1), .ref h0_heap, .ref a0_heapYes, .ref a0_path, .ref a0_bestWrong, .ref a0_bestAsked, .ref a0_bestMark, .ref a0_bestV]))]) [0] rfl
  have hDc := hD.sub (ws' := [(h0, .inr (8, [.ref a0_marks, .ref a0_classes, .int 0, .ref a0_isSort, .ref h0_nodes, .ref h0_many, .int 0, .ref a0_in, .int 0, .int 0, .int 0, .ref a0_asked, .ref a0_turned, .int 0, .int (-1), .int (-1), .ref h0_heap, .ref a0_heapYes, .ref a0_path, .ref a0_bestWrong, .ref a0_bestAsked, .ref a0_bestMark, .ref a0_bestV]))]) [0] (by decide) rfl
  have hKc := hK.sub (tys' := []) [] rfl
  have hFc := va_free (wc := [(h0, .inr (8, [.ref a0_marks, .ref a0_classes, .int 0, .ref a0_isSort, .ref h0_nodes, .ref h0_many, .int 0, .ref a0_in, .int 0, .int 0, .int 0, .ref a0_asked, .ref a0_turned, .int 0, .int (-1), .int (-1), .ref h0_heap, .ref a0_heapYes, .ref a0_path, .ref a0_bestWrong, .ref a0_bestAsked, .ref a0_bestMark, .ref a0_bestV]))]) hD hS hA [0] rfl
  refine va_calli (va_runV (As := [.int 0, .int 0]) (rest := []) ⟨hx, hb, hml, hown, hts⟩ (c_place0 l dC dI H.size h0 a0_marks a0_classes a0_isSort h0_nodes h0_many a0_in a0_asked a0_turned h0_heap a0_heapYes a0_path a0_bestWrong a0_bestAsked a0_bestMark a0_bestV ) (cwV 2 hts gX8_growNode_X8_place rfl rfl rfl (by decide +kernel) ⟨Nat.le_of_ble_eq_true rfl, Nat.le_of_ble_eq_true rfl⟩) (pre_V hPc hKc hDc hN (ci := 8) (q0 := 0) rfl rfl) rfl rfl hl.1 rfl (lv_room (Nat.le_of_ble_eq_true rfl)) dX8_growNode_14 ⟨Nat.le_of_ble_eq_true rfl, Nat.le_of_ble_eq_true rfl⟩) hS (fun q _ h => hFc q h) hFc (fun r_19 u t H1 locs ht hvm hw hB hz1 hk1 hS => ?_)
  clear hPc hDc hKc
  obtain ⟨rfl, rfl⟩ := hw
  obtain ⟨hP1, hK1, hD1⟩ := hB
  rw [ht] at hP1
  obtain ⟨hP, hD⟩ := va_join (wr := [(h0_heap, .inl (k0_heap, 4, .inl f_2)), (h0_many, .inl (k0_many, 21, .inl f_3)), (h0_nodes, .inl (k0_nodes, 134400, .inl f_4))]) (w1 := [(h0, .inr (8, [.ref a0_marks, .ref a0_classes, .int 0, .ref a0_isSort, .ref h0_nodes, .ref h0_many, .int 0, .ref a0_in, .int 0, .int 0, .int 0, .ref a0_asked, .ref a0_turned, .int 0, .int (-1), .int (-1), .ref h0_heap, .ref a0_heapYes, .ref a0_path, .ref a0_bestWrong, .ref a0_bestAsked, .ref a0_bestMark, .ref a0_bestV]))]) hP hD [0] [1, 2, 3] rfl rfl (by decide) (by decide) hk1 hFc hP1 hD1
  generalize H1 = H at hP hS ⊢
  clear hP1 hD1 hFc hk1 hz1 ht hvm hK1
  have hP : va_P (dC, dI) vwCl [(h0_heap, .inl (k0_heap, 4, .inl f_2)), (h0_many, .inl (k0_many, 21, .inl f_3)), (h0_nodes, .inl (k0_nodes, 134400, .inl f_4)), (h0, .inr (8, [.ref a0_marks, .ref a0_classes, .int 0, .ref a0_isSort, .ref h0_nodes, .ref h0_many, .int 0, .ref a0_in, .int 0, .int 0, .int 0, .ref a0_asked, .ref a0_turned, .int 0, .int (-1), .int (-1), .ref h0_heap, .ref a0_heapYes, .ref a0_path, .ref a0_bestWrong, .ref a0_bestAsked, .ref a0_bestMark, .ref a0_bestV]))] H := hP
  have hD : va_D A [(h0_heap, .inl (k0_heap, 4, .inl f_2)), (h0_many, .inl (k0_many, 21, .inl f_3)), (h0_nodes, .inl (k0_nodes, 134400, .inl f_4)), (h0, .inr (8, [.ref a0_marks, .ref a0_classes, .int 0, .ref a0_isSort, .ref h0_nodes, .ref h0_many, .int 0, .ref a0_in, .int 0, .int 0, .int 0, .ref a0_asked, .ref a0_turned, .int 0, .int (-1), .int (-1), .ref h0_heap, .ref a0_heapYes, .ref a0_path, .ref a0_bestWrong, .ref a0_bestAsked, .ref a0_bestMark, .ref a0_bestV]))] := hD
  refine lv_istore (lv' := [(5, .int 0), (4, .int 0), (0, .ref h0), (1, .int 0), (2, .int p2), (3, .int p3)]) hx hb dX8_growNode_17 hl (by decide) rfl (fun ls hl => ?_)
  refine lv_iload_n hx hb dX8_growNode_19 rfl (lv_at hl 3 rfl) ?_
  refine lv_iload_n hx hb dX8_growNode_20 rfl (lv_at hl 4 rfl) ?_
  refine lv_icmp_eq (tgt := 42) hx hb dX8_growNode_21 (by decide) (fun c_20 => ?_) (fun c_20 => ?_)
  · skip
    refine lv_iload hx hb dX8_growNode_42 (lv_at hl 1 rfl) ?_
    have hP9 := hP.sub (ws' := [(h0, .inr (8, [.ref a0_marks, .ref a0_classes, .int 0, .ref a0_isSort, .ref h0_nodes, .ref h0_many, .int 0, .ref a0_in, .int 0, .int 0, .int 0, .ref a0_asked, .ref a0_turned, .int 0, .int (-1), .int (-1), .ref h0_heap, .ref a0_heapYes, .ref a0_path, .ref a0_bestWrong, .ref a0_bestAsked, .ref a0_bestMark, .ref a0_bestV])), (h0_heap, .inl (k0_heap, 4, .inl f_2)), (h0_many, .inl (k0_many, 21, .inl f_3)), (h0_nodes, .inl (k0_nodes, 134400, .inl f_4))]) [3, 0, 1, 2] rfl
    have hD9 := hD.sub (ws' := [(h0, .inr (8, [.ref a0_marks, .ref a0_classes, .int 0, .ref a0_isSort, .ref h0_nodes, .ref h0_many, .int 0, .ref a0_in, .int 0, .int 0, .int 0, .ref a0_asked, .ref a0_turned, .int 0, .int (-1), .int (-1), .ref h0_heap, .ref a0_heapYes, .ref a0_path, .ref a0_bestWrong, .ref a0_bestAsked, .ref a0_bestMark, .ref a0_bestV])), (h0_heap, .inl (k0_heap, 4, .inl f_2)), (h0_many, .inl (k0_many, 21, .inl f_3)), (h0_nodes, .inl (k0_nodes, 134400, .inl f_4))]) [3, 0, 1, 2] (by decide) rfl
    have hK9 := hK.sub (tys' := []) [] rfl
    exact W.iret (v := 0) hx hb hr (fun t ht hW => ⟨⟨0, ([(h0, .inr (8, [.ref a0_marks, .ref a0_classes, .int 0, .ref a0_isSort, .ref h0_nodes, .ref h0_many, .int 0, .ref a0_in, .int 0, .int 0, .int 0, .ref a0_asked, .ref a0_turned, .int 0, .int (-1), .int (-1), .ref h0_heap, .ref a0_heapYes, .ref a0_path, .ref a0_bestWrong, .ref a0_bestAsked, .ref a0_bestMark, .ref a0_bestV])), (h0_heap, .inl (k0_heap, 4, .inl f_2)), (h0_many, .inl (k0_many, 21, .inl f_3)), (h0_nodes, .inl (k0_nodes, 134400, .inl f_4))], []), rfl, ⟨f_2, f_3, f_4, rfl, hk_5, hk_6, hk_7, hk_8, rfl⟩, (by rw [ht]; exact hP9), va_K.moved hW.alike hK9, hD9⟩, hS.F ht⟩) hS.2.2 dX8_growNode_44
  · skip
    refine lv_aload_n hx hb dX8_growNode_24 rfl (lv_at hl 2 rfl) ?_
    refine lv_iload hx hb dX8_growNode_25 (lv_at hl 0 rfl) ?_
    have hPc := hP.sub (ws' := [(h0, .inr (8, [.ref a0_marks, .ref a0_classes, .int 0, .ref a0_isSort, .ref h0_nodes, .ref h0_many, .int 0, .ref a0_in, .int 0, .int 0, .int 0, .ref a0_asked, .ref a0_turned, .int 0, .int (-1), .int (-1), .ref h0_heap, .ref a0_heapYes, .ref a0_path, .ref a0_bestWrong, .ref a0_bestAsked, .ref a0_bestMark, .ref a0_bestV])), (h0_nodes, .inl (k0_nodes, 134400, .inl f_4))]) [3, 2] rfl
    have hDc := hD.sub (ws' := [(h0, .inr (8, [.ref a0_marks, .ref a0_classes, .int 0, .ref a0_isSort, .ref h0_nodes, .ref h0_many, .int 0, .ref a0_in, .int 0, .int 0, .int 0, .ref a0_asked, .ref a0_turned, .int 0, .int (-1), .int (-1), .ref h0_heap, .ref a0_heapYes, .ref a0_path, .ref a0_bestWrong, .ref a0_bestAsked, .ref a0_bestMark, .ref a0_bestV])), (h0_nodes, .inl (k0_nodes, 134400, .inl f_4))]) [3, 2] (by decide) rfl
    have hKc := hK.sub (tys' := [(k0_nodes, .int)]) [2] rfl
    have hFc := va_free (wc := [(h0, .inr (8, [.ref a0_marks, .ref a0_classes, .int 0, .ref a0_isSort, .ref h0_nodes, .ref h0_many, .int 0, .ref a0_in, .int 0, .int 0, .int 0, .ref a0_asked, .ref a0_turned, .int 0, .int (-1), .int (-1), .ref h0_heap, .ref a0_heapYes, .ref a0_path, .ref a0_bestWrong, .ref a0_bestAsked, .ref a0_bestMark, .ref a0_bestV])), (h0_nodes, .inl (k0_nodes, 134400, .inl f_4))]) hD hS hA [3, 2] rfl
    refine va_calli (va_runV (As := [.int 0]) (rest := []) ⟨hx, hb, hml, hown, hts⟩ (c_wrongAt0 l dC dI H.size h0 h0_nodes a0_marks a0_classes a0_isSort h0_many a0_in a0_asked a0_turned h0_heap a0_heapYes a0_path a0_bestWrong a0_bestAsked a0_bestMark a0_bestV k0_nodes f_4 hk_15 hk_16 hk_17 hk_18) (cwV 1 hts gX8_growNode_X8_wrongAt rfl rfl rfl (by decide +kernel) ⟨Nat.le_of_ble_eq_true rfl, Nat.le_of_ble_eq_true rfl⟩) (pre_V hPc hKc hDc hN (ci := 8) (q0 := 0) rfl rfl) rfl rfl hl.1 rfl (lv_room (Nat.le_of_ble_eq_true rfl)) dX8_growNode_27 ⟨Nat.le_of_ble_eq_true rfl, Nat.le_of_ble_eq_true rfl⟩) hS (fun q _ h => hFc q h) hFc (fun r_21 u t H1 locs ht hvm hw hB hz1 hk1 hS => ?_)
    clear hPc hDc hKc
    obtain ⟨rfl, rfl⟩ := hw
    obtain ⟨hP1, hK1, hD1⟩ := hB
    rw [ht] at hP1
    obtain ⟨hP, hD⟩ := va_join (wr := [(h0_heap, .inl (k0_heap, 4, .inl f_2)), (h0_many, .inl (k0_many, 21, .inl f_3))]) (w1 := [(h0, .inr (8, [.ref a0_marks, .ref a0_classes, .int 0, .ref a0_isSort, .ref h0_nodes, .ref h0_many, .int 0, .ref a0_in, .int 0, .int 0, .int 0, .ref a0_asked, .ref a0_turned, .int 0, .int (-1), .int (-1), .ref h0_heap, .ref a0_heapYes, .ref a0_path, .ref a0_bestWrong, .ref a0_bestAsked, .ref a0_bestMark, .ref a0_bestV])), (h0_nodes, .inl (k0_nodes, 134400, .inl f_4))]) hP hD [3, 2] [0, 1] rfl rfl (by decide) (by decide) hk1 hFc hP1 hD1
    generalize H1 = H at hP hS ⊢
    clear hP1 hD1 hFc hk1 hz1 ht hvm hK1
    have hP : va_P (dC, dI) vwCl [(h0_heap, .inl (k0_heap, 4, .inl f_2)), (h0_many, .inl (k0_many, 21, .inl f_3)), (h0, .inr (8, [.ref a0_marks, .ref a0_classes, .int 0, .ref a0_isSort, .ref h0_nodes, .ref h0_many, .int 0, .ref a0_in, .int 0, .int 0, .int 0, .ref a0_asked, .ref a0_turned, .int 0, .int (-1), .int (-1), .ref h0_heap, .ref a0_heapYes, .ref a0_path, .ref a0_bestWrong, .ref a0_bestAsked, .ref a0_bestMark, .ref a0_bestV])), (h0_nodes, .inl (k0_nodes, 134400, .inl f_4))] H := hP
    have hD : va_D A [(h0_heap, .inl (k0_heap, 4, .inl f_2)), (h0_many, .inl (k0_many, 21, .inl f_3)), (h0, .inr (8, [.ref a0_marks, .ref a0_classes, .int 0, .ref a0_isSort, .ref h0_nodes, .ref h0_many, .int 0, .ref a0_in, .int 0, .int 0, .int 0, .ref a0_asked, .ref a0_turned, .int 0, .int (-1), .int (-1), .ref h0_heap, .ref a0_heapYes, .ref a0_path, .ref a0_bestWrong, .ref a0_bestAsked, .ref a0_bestMark, .ref a0_bestV])), (h0_nodes, .inl (k0_nodes, 134400, .inl f_4))] := hD
    refine lv_if_eq (tgt := 42) hx hb dX8_growNode_30 (by decide) (fun c_22 => ?_) (fun c_22 => ?_)
    rotate_left
    · exact absurd c_22 (by decide)
    refine lv_iload hx hb dX8_growNode_42 (lv_at hl 1 rfl) ?_
    have hP9 := hP.sub (ws' := [(h0, .inr (8, [.ref a0_marks, .ref a0_classes, .int 0, .ref a0_isSort, .ref h0_nodes, .ref h0_many, .int 0, .ref a0_in, .int 0, .int 0, .int 0, .ref a0_asked, .ref a0_turned, .int 0, .int (-1), .int (-1), .ref h0_heap, .ref a0_heapYes, .ref a0_path, .ref a0_bestWrong, .ref a0_bestAsked, .ref a0_bestMark, .ref a0_bestV])), (h0_heap, .inl (k0_heap, 4, .inl f_2)), (h0_many, .inl (k0_many, 21, .inl f_3)), (h0_nodes, .inl (k0_nodes, 134400, .inl f_4))]) [2, 0, 1, 3] rfl
    have hD9 := hD.sub (ws' := [(h0, .inr (8, [.ref a0_marks, .ref a0_classes, .int 0, .ref a0_isSort, .ref h0_nodes, .ref h0_many, .int 0, .ref a0_in, .int 0, .int 0, .int 0, .ref a0_asked, .ref a0_turned, .int 0, .int (-1), .int (-1), .ref h0_heap, .ref a0_heapYes, .ref a0_path, .ref a0_bestWrong, .ref a0_bestAsked, .ref a0_bestMark, .ref a0_bestV])), (h0_heap, .inl (k0_heap, 4, .inl f_2)), (h0_many, .inl (k0_many, 21, .inl f_3)), (h0_nodes, .inl (k0_nodes, 134400, .inl f_4))]) [2, 0, 1, 3] (by decide) rfl
    have hK9 := hK.sub (tys' := []) [] rfl
    exact W.iret (v := 0) hx hb hr (fun t ht hW => ⟨⟨0, ([(h0, .inr (8, [.ref a0_marks, .ref a0_classes, .int 0, .ref a0_isSort, .ref h0_nodes, .ref h0_many, .int 0, .ref a0_in, .int 0, .int 0, .int 0, .ref a0_asked, .ref a0_turned, .int 0, .int (-1), .int (-1), .ref h0_heap, .ref a0_heapYes, .ref a0_path, .ref a0_bestWrong, .ref a0_bestAsked, .ref a0_bestMark, .ref a0_bestV])), (h0_heap, .inl (k0_heap, 4, .inl f_2)), (h0_many, .inl (k0_many, 21, .inl f_3)), (h0_nodes, .inl (k0_nodes, 134400, .inl f_4))], []), rfl, ⟨f_2, f_3, f_4, rfl, hk_5, hk_6, hk_7, hk_8, rfl⟩, (by rw [ht]; exact hP9), va_K.moved hW.alike hK9, hD9⟩, hS.F ht⟩) hS.2.2 dX8_growNode_44

set_option maxHeartbeats 4000000 in
set_option maxRecDepth 100000 in
theorem c_place20 (l : Launch) (dC : Nat → ClassId) (dI : Nat → Nat → Nat) (sz : Nat) (h0 : Nat) (a0_marks : Nat) (a0_classes : Nat) (a0_isSort : Nat) (a0_nodes : Nat) (a0_many : Nat) (a0_in : Nat) (a0_asked : Nat) (a0_turned : Nat) (a0_heap : Nat) (a0_heapYes : Nat) (a0_path : Nat) (a0_bestWrong : Nat) (a0_bestAsked : Nat) (a0_bestMark : Nat) (a0_bestV : Nat)   : Met l yX8_place wsX8_place ({ frames := 1, cells := 0, slots := 0, locals := 60 }) (va_Pc [.ref h0, .int 20, .int 0] (pw (dC, dI) [] [(h0, .inr (8, [.ref a0_marks, .ref a0_classes, .int 0, .ref a0_isSort, .ref a0_nodes, .ref a0_many, .int 0, .ref a0_in, .int 20, .int 0, .int 0, .ref a0_asked, .ref a0_turned, .int 0, .int (-1), .int (-1), .ref a0_heap, .ref a0_heapYes, .ref a0_path, .ref a0_bestWrong, .ref a0_bestAsked, .ref a0_bestMark, .ref a0_bestV]))] sz)) (va_Qi (fun (r : Int32) (u : vu) => (u = ([(h0, .inr (8, [.ref a0_marks, .ref a0_classes, .int 0, .ref a0_isSort, .ref a0_nodes, .ref a0_many, .int 0, .ref a0_in, .int 20, .int 0, .int 0, .ref a0_asked, .ref a0_turned, .int 0, .int (-1), .int (-1), .ref a0_heap, .ref a0_heapYes, .ref a0_path, .ref a0_bestWrong, .ref a0_bestAsked, .ref a0_bestMark, .ref a0_bestV]))], []) ∧ r = 128000)) (fun u t => qw (dC, dI) u.2 (va_A [(h0, .inr (8, [.ref a0_marks, .ref a0_classes, .int 0, .ref a0_isSort, .ref a0_nodes, .ref a0_many, .int 0, .ref a0_in, .int 20, .int 0, .int 0, .ref a0_asked, .ref a0_turned, .int 0, .int (-1), .int (-1), .ref a0_heap, .ref a0_heapYes, .ref a0_path, .ref a0_bestWrong, .ref a0_bestAsked, .ref a0_bestMark, .ref a0_bestV]))] sz) u.1 t) (va_A [(h0, .inr (8, [.ref a0_marks, .ref a0_classes, .int 0, .ref a0_isSort, .ref a0_nodes, .ref a0_many, .int 0, .ref a0_in, .int 20, .int 0, .int 0, .ref a0_asked, .ref a0_turned, .int 0, .int (-1), .int (-1), .ref a0_heap, .ref a0_heapYes, .ref a0_path, .ref a0_bestWrong, .ref a0_bestAsked, .ref a0_bestMark, .ref a0_bestV]))] sz)) 0 0 (va_A [(h0, .inr (8, [.ref a0_marks, .ref a0_classes, .int 0, .ref a0_isSort, .ref a0_nodes, .ref a0_many, .int 0, .ref a0_in, .int 20, .int 0, .int 0, .ref a0_asked, .ref a0_turned, .int 0, .int (-1), .int (-1), .ref a0_heap, .ref a0_heapYes, .ref a0_path, .ref a0_bestWrong, .ref a0_bestAsked, .ref a0_bestMark, .ref a0_bestV]))] sz) := by
  refine Met.ofW (cc := cX8_place) (maxL := 3) (ret := (some .int)) (by decide) rfl ?_
  intro p e s m args below meth c s₁ B hml hv
  obtain ⟨rfl, hsz, hP, hK, hD0, hN⟩ := hv
  have hx := B.exec
  have hb := B.bytes
  have hr := B.returns
  have hts := atoms_spec (ws := wsX8_place) B.pre
  have hown : s.vm.findClass RX8 = some m.cls := findClass_of_methodNamed B.named
  have hlocks := B.notSynchronized
  subst hsz
  have hD := hD0.self (sz := s.heap.size)
  generalize hAe : va_A [(h0, .inr (8, [.ref a0_marks, .ref a0_classes, .int 0, .ref a0_isSort, .ref a0_nodes, .ref a0_many, .int 0, .ref a0_in, .int 20, .int 0, .int 0, .ref a0_asked, .ref a0_turned, .int 0, .int (-1), .int (-1), .ref a0_heap, .ref a0_heapYes, .ref a0_path, .ref a0_bestWrong, .ref a0_bestAsked, .ref a0_bestMark, .ref a0_bestV]))] s.heap.size = A at hD ⊢
  have hA : ∀ q : Nat, s.heap.size ≤ q → A q := fun q h => by rw [← hAe]; exact Or.inr h
  have hS : va_S A s.heap s.heap [] := va_S.rf
  have hl := lv_entry ([.ref h0, .int 20, .int 0]) (n := 3) (Nat.le_of_ble_eq_true rfl)
  rw [lg_entry_eq]
  generalize (lg_sl ([.ref h0, .int 20, .int 0]) ++ List.replicate (3 - (lg_sl ([.ref h0, .int 20, .int 0])).length) Slot.unset).toArray = ls at hl ⊢
  have hl : lv_has ls 3 [(0, .ref h0), (1, .int 20), (2, .int 0)] := hl
  have hP : va_P (dC, dI) vwCl [(h0, .inr (8, [.ref a0_marks, .ref a0_classes, .int 0, .ref a0_isSort, .ref a0_nodes, .ref a0_many, .int 0, .ref a0_in, .int 20, .int 0, .int 0, .ref a0_asked, .ref a0_turned, .int 0, .int (-1), .int (-1), .ref a0_heap, .ref a0_heapYes, .ref a0_path, .ref a0_bestWrong, .ref a0_bestAsked, .ref a0_bestMark, .ref a0_bestV]))] s.heap := hP
  refine lv_iload_n hx hb dX8_place_0 rfl (lv_at hl 1 rfl) ?_
  refine lv_sipush (v := 640) hx hb dX8_place_1 (by decide) ?_
  refine lv_imul hx hb dX8_place_4 ?_
  refine tvv (v := .int 12800) (congrArg Value.int (by decide)) ?_
  refine lv_iload_n hx hb dX8_place_5 rfl (lv_at hl 2 rfl) ?_
  refine lv_iadd hx hb dX8_place_6 ?_
  refine tvv (v := .int 12800) (congrArg Value.int (by decide)) ?_
  refine lv_bipush (v := 10) hx hb dX8_place_7 (by decide) ?_
  refine lv_imul hx hb dX8_place_9 ?_
  refine tvv (v := .int 128000) (congrArg Value.int (by decide)) ?_
  have hP9 := hP.sub (ws' := [(h0, .inr (8, [.ref a0_marks, .ref a0_classes, .int 0, .ref a0_isSort, .ref a0_nodes, .ref a0_many, .int 0, .ref a0_in, .int 20, .int 0, .int 0, .ref a0_asked, .ref a0_turned, .int 0, .int (-1), .int (-1), .ref a0_heap, .ref a0_heapYes, .ref a0_path, .ref a0_bestWrong, .ref a0_bestAsked, .ref a0_bestMark, .ref a0_bestV]))]) [0] rfl
  have hD9 := hD.sub (ws' := [(h0, .inr (8, [.ref a0_marks, .ref a0_classes, .int 0, .ref a0_isSort, .ref a0_nodes, .ref a0_many, .int 0, .ref a0_in, .int 20, .int 0, .int 0, .ref a0_asked, .ref a0_turned, .int 0, .int (-1), .int (-1), .ref a0_heap, .ref a0_heapYes, .ref a0_path, .ref a0_bestWrong, .ref a0_bestAsked, .ref a0_bestMark, .ref a0_bestV]))]) [0] (by decide) rfl
  have hK9 := hK.sub (tys' := []) [] rfl
  exact W.iret (v := 128000) hx hb hr (fun t ht hW => ⟨⟨128000, ([(h0, .inr (8, [.ref a0_marks, .ref a0_classes, .int 0, .ref a0_isSort, .ref a0_nodes, .ref a0_many, .int 0, .ref a0_in, .int 20, .int 0, .int 0, .ref a0_asked, .ref a0_turned, .int 0, .int (-1), .int (-1), .ref a0_heap, .ref a0_heapYes, .ref a0_path, .ref a0_bestWrong, .ref a0_bestAsked, .ref a0_bestMark, .ref a0_bestV]))], []), rfl, ⟨rfl, rfl⟩, (by rw [ht]; exact hP9), va_K.moved hW.alike hK9, hD9⟩, hS.F ht⟩) hS.2.2 dX8_place_10

set_option maxHeartbeats 4000000 in
set_option maxRecDepth 100000 in
theorem c_countRow20 (l : Launch) (dC : Nat → ClassId) (dI : Nat → Nat → Nat) (sz : Nat) (h0 : Nat) (h0_heap : Nat) (a0_marks : Nat) (a0_classes : Nat) (a0_isSort : Nat) (a0_nodes : Nat) (a0_many : Nat) (a0_in : Nat) (a0_asked : Nat) (a0_turned : Nat) (a0_heapYes : Nat) (a0_path : Nat) (a0_bestWrong : Nat) (a0_bestAsked : Nat) (a0_bestMark : Nat) (a0_bestV : Nat) (k0_heap : ClassId) (f0_heap : Nat → Int32)   : Met l yX8_countRow wsX8_countRow ({ frames := 1, cells := 0, slots := 0, locals := 60 }) (va_Pc [.ref h0, .int 0] (pw (dC, dI) [(k0_heap, .int)] [(h0, .inr (8, [.ref a0_marks, .ref a0_classes, .int 0, .ref a0_isSort, .ref a0_nodes, .ref a0_many, .int 0, .ref a0_in, .int 20, .int 0, .int 0, .ref a0_asked, .ref a0_turned, .int 0, .int (-1), .int (-1), .ref h0_heap, .ref a0_heapYes, .ref a0_path, .ref a0_bestWrong, .ref a0_bestAsked, .ref a0_bestMark, .ref a0_bestV])), (h0_heap, .inl (k0_heap, 4, .inl f0_heap))] sz)) (va_Qv (fun (u : vu) => (∃ (f_17 : Nat → Int32), u = ([(h0, .inr (8, [.ref a0_marks, .ref a0_classes, .int 0, .ref a0_isSort, .ref a0_nodes, .ref a0_many, .int 0, .ref a0_in, .int 20, .int 0, .int 0, .ref a0_asked, .ref a0_turned, .int 0, .int (-1), .int (-1), .ref h0_heap, .ref a0_heapYes, .ref a0_path, .ref a0_bestWrong, .ref a0_bestAsked, .ref a0_bestMark, .ref a0_bestV])), (h0_heap, .inl (k0_heap, 4, .inl f_17))], []) ∧ f_17 0 = 0 ∧ f_17 1 = 0 ∧ f_17 2 = 0 ∧ f_17 3 = 0)) (fun u t => qw (dC, dI) u.2 (va_A [(h0, .inr (8, [.ref a0_marks, .ref a0_classes, .int 0, .ref a0_isSort, .ref a0_nodes, .ref a0_many, .int 0, .ref a0_in, .int 20, .int 0, .int 0, .ref a0_asked, .ref a0_turned, .int 0, .int (-1), .int (-1), .ref h0_heap, .ref a0_heapYes, .ref a0_path, .ref a0_bestWrong, .ref a0_bestAsked, .ref a0_bestMark, .ref a0_bestV])), (h0_heap, .inl (k0_heap, 4, .inl f0_heap))] sz) u.1 t) (va_A [(h0, .inr (8, [.ref a0_marks, .ref a0_classes, .int 0, .ref a0_isSort, .ref a0_nodes, .ref a0_many, .int 0, .ref a0_in, .int 20, .int 0, .int 0, .ref a0_asked, .ref a0_turned, .int 0, .int (-1), .int (-1), .ref h0_heap, .ref a0_heapYes, .ref a0_path, .ref a0_bestWrong, .ref a0_bestAsked, .ref a0_bestMark, .ref a0_bestV])), (h0_heap, .inl (k0_heap, 4, .inl f0_heap))] sz)) 0 0 (va_A [(h0, .inr (8, [.ref a0_marks, .ref a0_classes, .int 0, .ref a0_isSort, .ref a0_nodes, .ref a0_many, .int 0, .ref a0_in, .int 20, .int 0, .int 0, .ref a0_asked, .ref a0_turned, .int 0, .int (-1), .int (-1), .ref h0_heap, .ref a0_heapYes, .ref a0_path, .ref a0_bestWrong, .ref a0_bestAsked, .ref a0_bestMark, .ref a0_bestV])), (h0_heap, .inl (k0_heap, 4, .inl f0_heap))] sz) := by
  refine Met.ofW (cc := cX8_countRow) (maxL := 3) (ret := none) (by decide) rfl ?_
  intro p e s m args below meth c s₁ B hml hv
  obtain ⟨rfl, hsz, hP, hK, hD0, hN⟩ := hv
  have hx := B.exec
  have hb := B.bytes
  have hr := B.returns
  have hts := atoms_spec (ws := wsX8_countRow) B.pre
  have hown : s.vm.findClass RX8 = some m.cls := findClass_of_methodNamed B.named
  have hlocks := B.notSynchronized
  have hi8 : ∀ w ∈ u_ws RX8 TX8 23, w ∈ wsX8_countRow := fun _ h => List.mem_cons_of_mem _ (List.mem_append_right _ h)
  subst hsz
  have hD := hD0.self (sz := s.heap.size)
  generalize hAe : va_A [(h0, .inr (8, [.ref a0_marks, .ref a0_classes, .int 0, .ref a0_isSort, .ref a0_nodes, .ref a0_many, .int 0, .ref a0_in, .int 20, .int 0, .int 0, .ref a0_asked, .ref a0_turned, .int 0, .int (-1), .int (-1), .ref h0_heap, .ref a0_heapYes, .ref a0_path, .ref a0_bestWrong, .ref a0_bestAsked, .ref a0_bestMark, .ref a0_bestV])), (h0_heap, .inl (k0_heap, 4, .inl f0_heap))] s.heap.size = A at hD ⊢
  have hA : ∀ q : Nat, s.heap.size ≤ q → A q := fun q h => by rw [← hAe]; exact Or.inr h
  have hS : va_S A s.heap s.heap [] := va_S.rf
  have hl := lv_entry ([.ref h0, .int 0]) (n := 3) (Nat.le_of_ble_eq_true rfl)
  rw [lg_entry_eq]
  generalize (lg_sl ([.ref h0, .int 0]) ++ List.replicate (3 - (lg_sl ([.ref h0, .int 0])).length) Slot.unset).toArray = ls at hl ⊢
  have hl : lv_has ls 3 [(0, .ref h0), (1, .int 0)] := hl
  have hP : va_P (dC, dI) vwCl [(h0, .inr (8, [.ref a0_marks, .ref a0_classes, .int 0, .ref a0_isSort, .ref a0_nodes, .ref a0_many, .int 0, .ref a0_in, .int 20, .int 0, .int 0, .ref a0_asked, .ref a0_turned, .int 0, .int (-1), .int (-1), .ref h0_heap, .ref a0_heapYes, .ref a0_path, .ref a0_bestWrong, .ref a0_bestAsked, .ref a0_bestMark, .ref a0_bestV])), (h0_heap, .inl (k0_heap, 4, .inl f0_heap))] s.heap := hP
  refine lv_iconst (v := 0) hx hb dX8_countRow_0 (by decide) ?_
  refine lv_istore_n (lv' := [(2, .int 0), (0, .ref h0), (1, .int 0)]) hx hb dX8_countRow_1 rfl hl (by decide) rfl (fun ls hl => ?_)
  refine lv_iload_n hx hb dX8_countRow_2 rfl (lv_at hl 0 rfl) ?_
  refine lv_iconst (v := 4) hx hb dX8_countRow_3 (by decide) ?_
  refine lv_icmp_ge (tgt := 20) hx hb dX8_countRow_4 (by decide) (fun c_1 => ?_) (fun c_1 => ?_)
  · exact absurd c_1 (by decide)
  refine lv_aload_n hx hb dX8_countRow_7 rfl (lv_at hl 1 rfl) ?_
  refine va_get (D := (dC, dI)) (ci := 8) (v := .ref h0_heap) (C := RX8) (T := TX8) (N := 23) hx hb hts hi8 hown hK hP 0 rfl rfl 16 (by decide) (hts (.fieldLink RX8 43 "AskTreeModel" "heap" "[I") (by decide +kernel)) (fun _ h9 => h9) rfl dX8_countRow_8 ?_
  refine lv_iload_n hx hb dX8_countRow_11 rfl (lv_at hl 0 rfl) ?_
  refine lv_iconst (v := 0) hx hb dX8_countRow_12 (by decide) ?_
  refine va_iast hx hb hK hP hD hS 1 0 rfl rfl (vi _ _ (by decide)) dX8_countRow_13 (fun H locs hP hD hS => ?_)
  have hP : va_P (dC, dI) vwCl [(h0, .inr (8, [.ref a0_marks, .ref a0_classes, .int 0, .ref a0_isSort, .ref a0_nodes, .ref a0_many, .int 0, .ref a0_in, .int 20, .int 0, .int 0, .ref a0_asked, .ref a0_turned, .int 0, .int (-1), .int (-1), .ref h0_heap, .ref a0_heapYes, .ref a0_path, .ref a0_bestWrong, .ref a0_bestAsked, .ref a0_bestMark, .ref a0_bestV])), (h0_heap, .inl (k0_heap, 4, .inl (upd f0_heap (Int32.toNatClampNeg 0) 0)))] H := hP
  have hD : va_D A [(h0, .inr (8, [.ref a0_marks, .ref a0_classes, .int 0, .ref a0_isSort, .ref a0_nodes, .ref a0_many, .int 0, .ref a0_in, .int 20, .int 0, .int 0, .ref a0_asked, .ref a0_turned, .int 0, .int (-1), .int (-1), .ref h0_heap, .ref a0_heapYes, .ref a0_path, .ref a0_bestWrong, .ref a0_bestAsked, .ref a0_bestMark, .ref a0_bestV])), (h0_heap, .inl (k0_heap, 4, .inl (upd f0_heap (Int32.toNatClampNeg 0) 0)))] := hD
  generalize hf_3 : upd f0_heap (Int32.toNatClampNeg 0) 0 = f_2 at hP hD
  have hk_4 : f_2 0 = 0 := by rw [← hf_3]; exact up_s (by decide)
  clear hf_3
  refine lv_iinc (v := 1) (lv' := [(2, .int 1), (0, .ref h0), (1, .int 0)]) hx hb dX8_countRow_14 hl (k := 0) rfl (by decide) (by decide) rfl (fun ls hl => ?_)
  refine lv_goto (tgt := 2) hx hb dX8_countRow_17 (by decide) ?_
  refine lv_iload_n hx hb dX8_countRow_2 rfl (lv_at hl 0 rfl) ?_
  refine lv_iconst (v := 4) hx hb dX8_countRow_3 (by decide) ?_
  refine lv_icmp_ge (tgt := 20) hx hb dX8_countRow_4 (by decide) (fun c_5 => ?_) (fun c_5 => ?_)
  · exact absurd c_5 (by decide)
  refine lv_aload_n hx hb dX8_countRow_7 rfl (lv_at hl 1 rfl) ?_
  refine va_get (D := (dC, dI)) (ci := 8) (v := .ref h0_heap) (C := RX8) (T := TX8) (N := 23) hx hb hts hi8 hown hK hP 0 rfl rfl 16 (by decide) (hts (.fieldLink RX8 43 "AskTreeModel" "heap" "[I") (by decide +kernel)) (fun _ h9 => h9) rfl dX8_countRow_8 ?_
  refine lv_iload_n hx hb dX8_countRow_11 rfl (lv_at hl 0 rfl) ?_
  refine lv_iconst (v := 0) hx hb dX8_countRow_12 (by decide) ?_
  refine va_iast hx hb hK hP hD hS 1 0 rfl rfl (vi _ _ (by decide)) dX8_countRow_13 (fun H locs hP hD hS => ?_)
  have hP : va_P (dC, dI) vwCl [(h0, .inr (8, [.ref a0_marks, .ref a0_classes, .int 0, .ref a0_isSort, .ref a0_nodes, .ref a0_many, .int 0, .ref a0_in, .int 20, .int 0, .int 0, .ref a0_asked, .ref a0_turned, .int 0, .int (-1), .int (-1), .ref h0_heap, .ref a0_heapYes, .ref a0_path, .ref a0_bestWrong, .ref a0_bestAsked, .ref a0_bestMark, .ref a0_bestV])), (h0_heap, .inl (k0_heap, 4, .inl (upd f_2 (Int32.toNatClampNeg 1) 0)))] H := hP
  have hD : va_D A [(h0, .inr (8, [.ref a0_marks, .ref a0_classes, .int 0, .ref a0_isSort, .ref a0_nodes, .ref a0_many, .int 0, .ref a0_in, .int 20, .int 0, .int 0, .ref a0_asked, .ref a0_turned, .int 0, .int (-1), .int (-1), .ref h0_heap, .ref a0_heapYes, .ref a0_path, .ref a0_bestWrong, .ref a0_bestAsked, .ref a0_bestMark, .ref a0_bestV])), (h0_heap, .inl (k0_heap, 4, .inl (upd f_2 (Int32.toNatClampNeg 1) 0)))] := hD
  generalize hf_7 : upd f_2 (Int32.toNatClampNeg 1) 0 = f_6 at hP hD
  have hk_8 : f_6 1 = 0 := by rw [← hf_7]; exact up_s (by decide)
  have hk_9 : f_6 0 = 0 := by rw [← hf_7]; exact up_n (k := 1) (by decide) (by decide) hk_4
  clear hf_7
  refine lv_iinc (v := 2) (lv' := [(2, .int 2), (0, .ref h0), (1, .int 0)]) hx hb dX8_countRow_14 hl (k := 0) rfl (by decide) (by decide) rfl (fun ls hl => ?_)
  refine lv_goto (tgt := 2) hx hb dX8_countRow_17 (by decide) ?_
  refine lv_iload_n hx hb dX8_countRow_2 rfl (lv_at hl 0 rfl) ?_
  refine lv_iconst (v := 4) hx hb dX8_countRow_3 (by decide) ?_
  refine lv_icmp_ge (tgt := 20) hx hb dX8_countRow_4 (by decide) (fun c_10 => ?_) (fun c_10 => ?_)
  · exact absurd c_10 (by decide)
  refine lv_aload_n hx hb dX8_countRow_7 rfl (lv_at hl 1 rfl) ?_
  refine va_get (D := (dC, dI)) (ci := 8) (v := .ref h0_heap) (C := RX8) (T := TX8) (N := 23) hx hb hts hi8 hown hK hP 0 rfl rfl 16 (by decide) (hts (.fieldLink RX8 43 "AskTreeModel" "heap" "[I") (by decide +kernel)) (fun _ h9 => h9) rfl dX8_countRow_8 ?_
  refine lv_iload_n hx hb dX8_countRow_11 rfl (lv_at hl 0 rfl) ?_
  refine lv_iconst (v := 0) hx hb dX8_countRow_12 (by decide) ?_
  refine va_iast hx hb hK hP hD hS 1 0 rfl rfl (vi _ _ (by decide)) dX8_countRow_13 (fun H locs hP hD hS => ?_)
  have hP : va_P (dC, dI) vwCl [(h0, .inr (8, [.ref a0_marks, .ref a0_classes, .int 0, .ref a0_isSort, .ref a0_nodes, .ref a0_many, .int 0, .ref a0_in, .int 20, .int 0, .int 0, .ref a0_asked, .ref a0_turned, .int 0, .int (-1), .int (-1), .ref h0_heap, .ref a0_heapYes, .ref a0_path, .ref a0_bestWrong, .ref a0_bestAsked, .ref a0_bestMark, .ref a0_bestV])), (h0_heap, .inl (k0_heap, 4, .inl (upd f_6 (Int32.toNatClampNeg 2) 0)))] H := hP
  have hD : va_D A [(h0, .inr (8, [.ref a0_marks, .ref a0_classes, .int 0, .ref a0_isSort, .ref a0_nodes, .ref a0_many, .int 0, .ref a0_in, .int 20, .int 0, .int 0, .ref a0_asked, .ref a0_turned, .int 0, .int (-1), .int (-1), .ref h0_heap, .ref a0_heapYes, .ref a0_path, .ref a0_bestWrong, .ref a0_bestAsked, .ref a0_bestMark, .ref a0_bestV])), (h0_heap, .inl (k0_heap, 4, .inl (upd f_6 (Int32.toNatClampNeg 2) 0)))] := hD
  generalize hf_12 : upd f_6 (Int32.toNatClampNeg 2) 0 = f_11 at hP hD
  have hk_13 : f_11 2 = 0 := by rw [← hf_12]; exact up_s (by decide)
  have hk_14 : f_11 1 = 0 := by rw [← hf_12]; exact up_n (k := 2) (by decide) (by decide) hk_8
  have hk_15 : f_11 0 = 0 := by rw [← hf_12]; exact up_n (k := 2) (by decide) (by decide) hk_9
  clear hf_12
  refine lv_iinc (v := 3) (lv' := [(2, .int 3), (0, .ref h0), (1, .int 0)]) hx hb dX8_countRow_14 hl (k := 0) rfl (by decide) (by decide) rfl (fun ls hl => ?_)
  refine lv_goto (tgt := 2) hx hb dX8_countRow_17 (by decide) ?_
  refine lv_iload_n hx hb dX8_countRow_2 rfl (lv_at hl 0 rfl) ?_
  refine lv_iconst (v := 4) hx hb dX8_countRow_3 (by decide) ?_
  refine lv_icmp_ge (tgt := 20) hx hb dX8_countRow_4 (by decide) (fun c_16 => ?_) (fun c_16 => ?_)
  · exact absurd c_16 (by decide)
  refine lv_aload_n hx hb dX8_countRow_7 rfl (lv_at hl 1 rfl) ?_
  refine va_get (D := (dC, dI)) (ci := 8) (v := .ref h0_heap) (C := RX8) (T := TX8) (N := 23) hx hb hts hi8 hown hK hP 0 rfl rfl 16 (by decide) (hts (.fieldLink RX8 43 "AskTreeModel" "heap" "[I") (by decide +kernel)) (fun _ h9 => h9) rfl dX8_countRow_8 ?_
  refine lv_iload_n hx hb dX8_countRow_11 rfl (lv_at hl 0 rfl) ?_
  refine lv_iconst (v := 0) hx hb dX8_countRow_12 (by decide) ?_
  refine va_iast hx hb hK hP hD hS 1 0 rfl rfl (vi _ _ (by decide)) dX8_countRow_13 (fun H locs hP hD hS => ?_)
  have hP : va_P (dC, dI) vwCl [(h0, .inr (8, [.ref a0_marks, .ref a0_classes, .int 0, .ref a0_isSort, .ref a0_nodes, .ref a0_many, .int 0, .ref a0_in, .int 20, .int 0, .int 0, .ref a0_asked, .ref a0_turned, .int 0, .int (-1), .int (-1), .ref h0_heap, .ref a0_heapYes, .ref a0_path, .ref a0_bestWrong, .ref a0_bestAsked, .ref a0_bestMark, .ref a0_bestV])), (h0_heap, .inl (k0_heap, 4, .inl (upd f_11 (Int32.toNatClampNeg 3) 0)))] H := hP
  have hD : va_D A [(h0, .inr (8, [.ref a0_marks, .ref a0_classes, .int 0, .ref a0_isSort, .ref a0_nodes, .ref a0_many, .int 0, .ref a0_in, .int 20, .int 0, .int 0, .ref a0_asked, .ref a0_turned, .int 0, .int (-1), .int (-1), .ref h0_heap, .ref a0_heapYes, .ref a0_path, .ref a0_bestWrong, .ref a0_bestAsked, .ref a0_bestMark, .ref a0_bestV])), (h0_heap, .inl (k0_heap, 4, .inl (upd f_11 (Int32.toNatClampNeg 3) 0)))] := hD
  generalize hf_18 : upd f_11 (Int32.toNatClampNeg 3) 0 = f_17 at hP hD
  have hk_19 : f_17 3 = 0 := by rw [← hf_18]; exact up_s (by decide)
  have hk_20 : f_17 2 = 0 := by rw [← hf_18]; exact up_n (k := 3) (by decide) (by decide) hk_13
  have hk_21 : f_17 1 = 0 := by rw [← hf_18]; exact up_n (k := 3) (by decide) (by decide) hk_14
  have hk_22 : f_17 0 = 0 := by rw [← hf_18]; exact up_n (k := 3) (by decide) (by decide) hk_15
  clear hf_18
  refine lv_iinc (v := 4) (lv' := [(2, .int 4), (0, .ref h0), (1, .int 0)]) hx hb dX8_countRow_14 hl (k := 0) rfl (by decide) (by decide) rfl (fun ls hl => ?_)
  refine lv_goto (tgt := 2) hx hb dX8_countRow_17 (by decide) ?_
  refine lv_iload_n hx hb dX8_countRow_2 rfl (lv_at hl 0 rfl) ?_
  refine lv_iconst (v := 4) hx hb dX8_countRow_3 (by decide) ?_
  refine lv_icmp_ge (tgt := 20) hx hb dX8_countRow_4 (by decide) (fun c_23 => ?_) (fun c_23 => ?_)
  rotate_left
  · exact absurd c_23 (by decide)
  refine lv_iconst (v := 0) hx hb dX8_countRow_20 (by decide) ?_
  refine lv_istore_n (lv' := [(2, .int 0), (0, .ref h0), (1, .int 0)]) hx hb dX8_countRow_21 rfl hl (by decide) rfl (fun ls hl => ?_)
  refine lv_iload_n hx hb dX8_countRow_22 rfl (lv_at hl 0 rfl) ?_
  refine lv_aload_n hx hb dX8_countRow_23 rfl (lv_at hl 1 rfl) ?_
  refine va_get (D := (dC, dI)) (ci := 8) (v := .int 0) (C := RX8) (T := TX8) (N := 23) hx hb hts hi8 hown hK hP 0 rfl rfl 2 (by decide) (hts (.fieldLink RX8 64 "AskTreeModel" "cases" "I") (by decide +kernel)) (fun _ h9 => h9) rfl dX8_countRow_24 ?_
  refine lv_icmp_ge (tgt := 66) hx hb dX8_countRow_27 (by decide) (fun c_24 => ?_) (fun c_24 => ?_)
  rotate_left
  · exact absurd c_24 (by decide)
  have hP9 := hP.sub (ws' := [(h0, .inr (8, [.ref a0_marks, .ref a0_classes, .int 0, .ref a0_isSort, .ref a0_nodes, .ref a0_many, .int 0, .ref a0_in, .int 20, .int 0, .int 0, .ref a0_asked, .ref a0_turned, .int 0, .int (-1), .int (-1), .ref h0_heap, .ref a0_heapYes, .ref a0_path, .ref a0_bestWrong, .ref a0_bestAsked, .ref a0_bestMark, .ref a0_bestV])), (h0_heap, .inl (k0_heap, 4, .inl f_17))]) [0, 1] rfl
  have hD9 := hD.sub (ws' := [(h0, .inr (8, [.ref a0_marks, .ref a0_classes, .int 0, .ref a0_isSort, .ref a0_nodes, .ref a0_many, .int 0, .ref a0_in, .int 20, .int 0, .int 0, .ref a0_asked, .ref a0_turned, .int 0, .int (-1), .int (-1), .ref h0_heap, .ref a0_heapYes, .ref a0_path, .ref a0_bestWrong, .ref a0_bestAsked, .ref a0_bestMark, .ref a0_bestV])), (h0_heap, .inl (k0_heap, 4, .inl f_17))]) [0, 1] (by decide) rfl
  have hK9 := hK.sub (tys' := []) [] rfl
  exact W.vret hx hb hr (fun t ht hW => ⟨⟨([(h0, .inr (8, [.ref a0_marks, .ref a0_classes, .int 0, .ref a0_isSort, .ref a0_nodes, .ref a0_many, .int 0, .ref a0_in, .int 20, .int 0, .int 0, .ref a0_asked, .ref a0_turned, .int 0, .int (-1), .int (-1), .ref h0_heap, .ref a0_heapYes, .ref a0_path, .ref a0_bestWrong, .ref a0_bestAsked, .ref a0_bestMark, .ref a0_bestV])), (h0_heap, .inl (k0_heap, 4, .inl f_17))], []), rfl, ⟨f_17, rfl, hk_22, hk_21, hk_20, hk_19⟩, (by rw [ht]; exact hP9), va_K.moved hW.alike hK9, hD9⟩, hS.F ht⟩) hS.2.2 dX8_countRow_66

set_option maxHeartbeats 4000000 in
set_option maxRecDepth 100000 in
theorem c_newNode20 (l : Launch) (dC : Nat → ClassId) (dI : Nat → Nat → Nat) (sz : Nat) (h0 : Nat) (h0_heap : Nat) (h0_many : Nat) (h0_nodes : Nat) (a0_marks : Nat) (a0_classes : Nat) (a0_isSort : Nat) (a0_in : Nat) (a0_asked : Nat) (a0_turned : Nat) (a0_heapYes : Nat) (a0_path : Nat) (a0_bestWrong : Nat) (a0_bestAsked : Nat) (a0_bestMark : Nat) (a0_bestV : Nat) (k0_heap : ClassId) (f0_heap : Nat → Int32) (k0_many : ClassId) (f0_many : Nat → Int32) (k0_nodes : ClassId) (f0_nodes : Nat → Int32) (hy0_many_20 : f0_many 20 = 0)  : Met l yX8_newNode wsX8_newNode ({ frames := 2, cells := 0, slots := 0, locals := 82 }) (va_Pc [.ref h0, .int 0] (pw (dC, dI) [(k0_heap, .int), (k0_many, .int), (k0_nodes, .int)] [(h0, .inr (8, [.ref a0_marks, .ref a0_classes, .int 0, .ref a0_isSort, .ref h0_nodes, .ref h0_many, .int 0, .ref a0_in, .int 20, .int 0, .int 0, .ref a0_asked, .ref a0_turned, .int 0, .int (-1), .int (-1), .ref h0_heap, .ref a0_heapYes, .ref a0_path, .ref a0_bestWrong, .ref a0_bestAsked, .ref a0_bestMark, .ref a0_bestV])), (h0_heap, .inl (k0_heap, 4, .inl f0_heap)), (h0_many, .inl (k0_many, 21, .inl f0_many)), (h0_nodes, .inl (k0_nodes, 134400, .inl f0_nodes))] sz)) (va_Qi (fun (r : Int32) (u : vu) => (∃ (f_2 : Nat → Int32) (f_88 : Nat → Int32) (f_75 : Nat → Int32), u = ([(h0, .inr (8, [.ref a0_marks, .ref a0_classes, .int 0, .ref a0_isSort, .ref h0_nodes, .ref h0_many, .int 0, .ref a0_in, .int 20, .int 0, .int 0, .ref a0_asked, .ref a0_turned, .int 0, .int (-1), .int (-1), .ref h0_heap, .ref a0_heapYes, .ref a0_path, .ref a0_bestWrong, .ref a0_bestAsked, .ref a0_bestMark, .ref a0_bestV])), (h0_heap, .inl (k0_heap, 4, .inl f_2)), (h0_many, .inl (k0_many, 21, .inl f_88)), (h0_nodes, .inl (k0_nodes, 134400, .inl f_75))], []) ∧ f_2 0 = 0 ∧ f_2 1 = 0 ∧ f_2 2 = 0 ∧ f_2 3 = 0 ∧ f_75 128000 = (-1) ∧ f_75 128001 = 0 ∧ f_75 128002 = (-1) ∧ f_75 128003 = (-1) ∧ f_75 128004 = 0 ∧ f_75 128005 = 0 ∧ f_75 128006 = 0 ∧ f_75 128007 = 0 ∧ f_75 128008 = 0 ∧ f_75 128009 = 0 ∧ r = 0)) (fun u t => qw (dC, dI) u.2 (va_A [(h0, .inr (8, [.ref a0_marks, .ref a0_classes, .int 0, .ref a0_isSort, .ref h0_nodes, .ref h0_many, .int 0, .ref a0_in, .int 20, .int 0, .int 0, .ref a0_asked, .ref a0_turned, .int 0, .int (-1), .int (-1), .ref h0_heap, .ref a0_heapYes, .ref a0_path, .ref a0_bestWrong, .ref a0_bestAsked, .ref a0_bestMark, .ref a0_bestV])), (h0_heap, .inl (k0_heap, 4, .inl f0_heap)), (h0_many, .inl (k0_many, 21, .inl f0_many)), (h0_nodes, .inl (k0_nodes, 134400, .inl f0_nodes))] sz) u.1 t) (va_A [(h0, .inr (8, [.ref a0_marks, .ref a0_classes, .int 0, .ref a0_isSort, .ref h0_nodes, .ref h0_many, .int 0, .ref a0_in, .int 20, .int 0, .int 0, .ref a0_asked, .ref a0_turned, .int 0, .int (-1), .int (-1), .ref h0_heap, .ref a0_heapYes, .ref a0_path, .ref a0_bestWrong, .ref a0_bestAsked, .ref a0_bestMark, .ref a0_bestV])), (h0_heap, .inl (k0_heap, 4, .inl f0_heap)), (h0_many, .inl (k0_many, 21, .inl f0_many)), (h0_nodes, .inl (k0_nodes, 134400, .inl f0_nodes))] sz)) 0 0 (va_A [(h0, .inr (8, [.ref a0_marks, .ref a0_classes, .int 0, .ref a0_isSort, .ref h0_nodes, .ref h0_many, .int 0, .ref a0_in, .int 20, .int 0, .int 0, .ref a0_asked, .ref a0_turned, .int 0, .int (-1), .int (-1), .ref h0_heap, .ref a0_heapYes, .ref a0_path, .ref a0_bestWrong, .ref a0_bestAsked, .ref a0_bestMark, .ref a0_bestV])), (h0_heap, .inl (k0_heap, 4, .inl f0_heap)), (h0_many, .inl (k0_many, 21, .inl f0_many)), (h0_nodes, .inl (k0_nodes, 134400, .inl f0_nodes))] sz) := by
  refine Met.ofW (cc := cX8_newNode) (maxL := 5) (ret := (some .int)) (by decide) rfl ?_
  intro p e s m args below meth c s₁ B hml hv
  obtain ⟨rfl, hsz, hP, hK, hD0, hN⟩ := hv
  have hx := B.exec
  have hb := B.bytes
  have hr := B.returns
  have hts := atoms_spec (ws := wsX8_newNode) B.pre
  have hown : s.vm.findClass RX8 = some m.cls := findClass_of_methodNamed B.named
  have hlocks := B.notSynchronized
  have hi8 : ∀ w ∈ u_ws RX8 TX8 23, w ∈ wsX8_newNode := fun _ h => List.mem_cons_of_mem _ (List.mem_append_right _ h)
  subst hsz
  have hD := hD0.self (sz := s.heap.size)
  generalize hAe : va_A [(h0, .inr (8, [.ref a0_marks, .ref a0_classes, .int 0, .ref a0_isSort, .ref h0_nodes, .ref h0_many, .int 0, .ref a0_in, .int 20, .int 0, .int 0, .ref a0_asked, .ref a0_turned, .int 0, .int (-1), .int (-1), .ref h0_heap, .ref a0_heapYes, .ref a0_path, .ref a0_bestWrong, .ref a0_bestAsked, .ref a0_bestMark, .ref a0_bestV])), (h0_heap, .inl (k0_heap, 4, .inl f0_heap)), (h0_many, .inl (k0_many, 21, .inl f0_many)), (h0_nodes, .inl (k0_nodes, 134400, .inl f0_nodes))] s.heap.size = A at hD ⊢
  have hA : ∀ q : Nat, s.heap.size ≤ q → A q := fun q h => by rw [← hAe]; exact Or.inr h
  have hS : va_S A s.heap s.heap [] := va_S.rf
  have hl := lv_entry ([.ref h0, .int 0]) (n := 5) (Nat.le_of_ble_eq_true rfl)
  rw [lg_entry_eq]
  generalize (lg_sl ([.ref h0, .int 0]) ++ List.replicate (5 - (lg_sl ([.ref h0, .int 0])).length) Slot.unset).toArray = ls at hl ⊢
  have hl : lv_has ls 5 [(0, .ref h0), (1, .int 0)] := hl
  have hP : va_P (dC, dI) vwCl [(h0, .inr (8, [.ref a0_marks, .ref a0_classes, .int 0, .ref a0_isSort, .ref h0_nodes, .ref h0_many, .int 0, .ref a0_in, .int 20, .int 0, .int 0, .ref a0_asked, .ref a0_turned, .int 0, .int (-1), .int (-1), .ref h0_heap, .ref a0_heapYes, .ref a0_path, .ref a0_bestWrong, .ref a0_bestAsked, .ref a0_bestMark, .ref a0_bestV])), (h0_heap, .inl (k0_heap, 4, .inl f0_heap)), (h0_many, .inl (k0_many, 21, .inl f0_many)), (h0_nodes, .inl (k0_nodes, 134400, .inl f0_nodes))] s.heap := hP
  refine lv_aload_n hx hb dX8_newNode_0 rfl (lv_at hl 0 rfl) ?_
  refine lv_iload_n hx hb dX8_newNode_1 rfl (lv_at hl 1 rfl) ?_
  have hPc := hP.sub (ws' := [(h0, .inr (8, [.ref a0_marks, .ref a0_classes, .int 0, .ref a0_isSort, .ref h0_nodes, .ref h0_many, .int 0, .ref a0_in, .int 20, .int 0, .int 0, .ref a0_asked, .ref a0_turned, .int 0, .int (-1), .int (-1), .ref h0_heap, .ref a0_heapYes, .ref a0_path, .ref a0_bestWrong, .ref a0_bestAsked, .ref a0_bestMark, .ref a0_bestV])), (h0_heap, .inl (k0_heap, 4, .inl f0_heap))]) [0, 1] rfl
  have hDc := hD.sub (ws' := [(h0, .inr (8, [.ref a0_marks, .ref a0_classes, .int 0, .ref a0_isSort, .ref h0_nodes, .ref h0_many, .int 0, .ref a0_in, .int 20, .int 0, .int 0, .ref a0_asked, .ref a0_turned, .int 0, .int (-1), .int (-1), .ref h0_heap, .ref a0_heapYes, .ref a0_path, .ref a0_bestWrong, .ref a0_bestAsked, .ref a0_bestMark, .ref a0_bestV])), (h0_heap, .inl (k0_heap, 4, .inl f0_heap))]) [0, 1] (by decide) rfl
  have hKc := hK.sub (tys' := [(k0_heap, .int)]) [0] rfl
  have hFc := va_free (wc := [(h0, .inr (8, [.ref a0_marks, .ref a0_classes, .int 0, .ref a0_isSort, .ref h0_nodes, .ref h0_many, .int 0, .ref a0_in, .int 20, .int 0, .int 0, .ref a0_asked, .ref a0_turned, .int 0, .int (-1), .int (-1), .ref h0_heap, .ref a0_heapYes, .ref a0_path, .ref a0_bestWrong, .ref a0_bestAsked, .ref a0_bestMark, .ref a0_bestV])), (h0_heap, .inl (k0_heap, 4, .inl f0_heap))]) hD hS hA [0, 1] rfl
  refine va_callv (va_runV (As := [.int 0]) (rest := []) ⟨hx, hb, hml, hown, hts⟩ (c_countRow20 l dC dI s.heap.size h0 h0_heap a0_marks a0_classes a0_isSort h0_nodes h0_many a0_in a0_asked a0_turned a0_heapYes a0_path a0_bestWrong a0_bestAsked a0_bestMark a0_bestV k0_heap f0_heap ) (cwV 1 hts gX8_newNode_X8_countRow rfl rfl rfl (by decide +kernel) ⟨Nat.le_of_ble_eq_true rfl, Nat.le_of_ble_eq_true rfl⟩) (pre_V hPc hKc hDc hN (ci := 8) (q0 := 0) rfl rfl) rfl rfl hl.1 rfl (lv_room (Nat.le_of_ble_eq_true rfl)) dX8_newNode_2 ⟨Nat.le_of_ble_eq_true rfl, Nat.le_of_ble_eq_true rfl⟩) hS (fun q _ h => hFc q h) hFc (fun u t H1 locs ht hvm hw hB hz1 hk1 hS => ?_)
  clear hPc hDc hKc
  obtain ⟨f_2, rfl, hk_3, hk_4, hk_5, hk_6⟩ := hw
  obtain ⟨hP1, hK1, hD1⟩ := hB
  rw [ht] at hP1
  obtain ⟨hP, hD⟩ := va_join (wr := [(h0_many, .inl (k0_many, 21, .inl f0_many)), (h0_nodes, .inl (k0_nodes, 134400, .inl f0_nodes))]) (w1 := [(h0, .inr (8, [.ref a0_marks, .ref a0_classes, .int 0, .ref a0_isSort, .ref h0_nodes, .ref h0_many, .int 0, .ref a0_in, .int 20, .int 0, .int 0, .ref a0_asked, .ref a0_turned, .int 0, .int (-1), .int (-1), .ref h0_heap, .ref a0_heapYes, .ref a0_path, .ref a0_bestWrong, .ref a0_bestAsked, .ref a0_bestMark, .ref a0_bestV])), (h0_heap, .inl (k0_heap, 4, .inl f_2))]) hP hD [0, 1] [2, 3] rfl rfl (by decide) (by decide) hk1 hFc hP1 hD1
  generalize H1 = H at hP hS ⊢
  clear hP1 hD1 hFc hk1 hz1 ht hvm hK1
  have hP : va_P (dC, dI) vwCl [(h0_many, .inl (k0_many, 21, .inl f0_many)), (h0_nodes, .inl (k0_nodes, 134400, .inl f0_nodes)), (h0, .inr (8, [.ref a0_marks, .ref a0_classes, .int 0, .ref a0_isSort, .ref h0_nodes, .ref h0_many, .int 0, .ref a0_in, .int 20, .int 0, .int 0, .ref a0_asked, .ref a0_turned, .int 0, .int (-1), .int (-1), .ref h0_heap, .ref a0_heapYes, .ref a0_path, .ref a0_bestWrong, .ref a0_bestAsked, .ref a0_bestMark, .ref a0_bestV])), (h0_heap, .inl (k0_heap, 4, .inl f_2))] H := hP
  have hD : va_D A [(h0_many, .inl (k0_many, 21, .inl f0_many)), (h0_nodes, .inl (k0_nodes, 134400, .inl f0_nodes)), (h0, .inr (8, [.ref a0_marks, .ref a0_classes, .int 0, .ref a0_isSort, .ref h0_nodes, .ref h0_many, .int 0, .ref a0_in, .int 20, .int 0, .int 0, .ref a0_asked, .ref a0_turned, .int 0, .int (-1), .int (-1), .ref h0_heap, .ref a0_heapYes, .ref a0_path, .ref a0_bestWrong, .ref a0_bestAsked, .ref a0_bestMark, .ref a0_bestV])), (h0_heap, .inl (k0_heap, 4, .inl f_2))] := hD
  refine lv_aload_n hx hb dX8_newNode_5 rfl (lv_at hl 0 rfl) ?_
  refine va_get (D := (dC, dI)) (ci := 8) (v := .ref h0_many) (C := RX8) (T := TX8) (N := 23) hx hb hts hi8 hown hK hP 2 rfl rfl 5 (by decide) (hts (.fieldLink RX8 24 "AskTreeModel" "many" "[I") (by decide +kernel)) (fun _ h9 => h9) rfl dX8_newNode_6 ?_
  refine lv_aload_n hx hb dX8_newNode_9 rfl (lv_at hl 0 rfl) ?_
  refine va_get (D := (dC, dI)) (ci := 8) (v := .int 20) (C := RX8) (T := TX8) (N := 23) hx hb hts hi8 hown hK hP 2 rfl rfl 8 (by decide) (hts (.fieldLink RX8 111 "AskTreeModel" "making" "I") (by decide +kernel)) (fun _ h9 => h9) rfl dX8_newNode_10 ?_
  refine va_iald hx hb hK hP 0 1 rfl rfl (vi _ _ (by decide)) dX8_newNode_13 ?_
  refine tvv (v := .int 0) (ci f0_many (k := 20) (by decide) hy0_many_20) ?_
  refine lv_istore_n (lv' := [(2, .int 0), (0, .ref h0), (1, .int 0)]) hx hb dX8_newNode_14 rfl hl (by decide) rfl (fun ls hl => ?_)
  refine lv_aload_n hx hb dX8_newNode_15 rfl (lv_at hl 1 rfl) ?_
  refine lv_aload_n hx hb dX8_newNode_16 rfl (lv_at hl 1 rfl) ?_
  refine va_get (D := (dC, dI)) (ci := 8) (v := .int 20) (C := RX8) (T := TX8) (N := 23) hx hb hts hi8 hown hK hP 2 rfl rfl 8 (by decide) (hts (.fieldLink RX8 111 "AskTreeModel" "making" "I") (by decide +kernel)) (fun _ h9 => h9) rfl dX8_newNode_17 ?_
  refine lv_iload_n hx hb dX8_newNode_20 rfl (lv_at hl 0 rfl) ?_
  have hPc := hP.sub (ws' := [(h0, .inr (8, [.ref a0_marks, .ref a0_classes, .int 0, .ref a0_isSort, .ref h0_nodes, .ref h0_many, .int 0, .ref a0_in, .int 20, .int 0, .int 0, .ref a0_asked, .ref a0_turned, .int 0, .int (-1), .int (-1), .ref h0_heap, .ref a0_heapYes, .ref a0_path, .ref a0_bestWrong, .ref a0_bestAsked, .ref a0_bestMark, .ref a0_bestV]))]) [2] rfl
  have hDc := hD.sub (ws' := [(h0, .inr (8, [.ref a0_marks, .ref a0_classes, .int 0, .ref a0_isSort, .ref h0_nodes, .ref h0_many, .int 0, .ref a0_in, .int 20, .int 0, .int 0, .ref a0_asked, .ref a0_turned, .int 0, .int (-1), .int (-1), .ref h0_heap, .ref a0_heapYes, .ref a0_path, .ref a0_bestWrong, .ref a0_bestAsked, .ref a0_bestMark, .ref a0_bestV]))]) [2] (by decide) rfl
  have hKc := hK.sub (tys' := []) [] rfl
  have hFc := va_free (wc := [(h0, .inr (8, [.ref a0_marks, .ref a0_classes, .int 0, .ref a0_isSort, .ref h0_nodes, .ref h0_many, .int 0, .ref a0_in, .int 20, .int 0, .int 0, .ref a0_asked, .ref a0_turned, .int 0, .int (-1), .int (-1), .ref h0_heap, .ref a0_heapYes, .ref a0_path, .ref a0_bestWrong, .ref a0_bestAsked, .ref a0_bestMark, .ref a0_bestV]))]) hD hS hA [2] rfl
  refine va_calli (va_runV (As := [.int 20, .int 0]) (rest := []) ⟨hx, hb, hml, hown, hts⟩ (c_place20 l dC dI H.size h0 a0_marks a0_classes a0_isSort h0_nodes h0_many a0_in a0_asked a0_turned h0_heap a0_heapYes a0_path a0_bestWrong a0_bestAsked a0_bestMark a0_bestV ) (cwV 2 hts gX8_newNode_X8_place rfl rfl rfl (by decide +kernel) ⟨Nat.le_of_ble_eq_true rfl, Nat.le_of_ble_eq_true rfl⟩) (pre_V hPc hKc hDc hN (ci := 8) (q0 := 0) rfl rfl) rfl rfl hl.1 rfl (lv_room (Nat.le_of_ble_eq_true rfl)) dX8_newNode_21 ⟨Nat.le_of_ble_eq_true rfl, Nat.le_of_ble_eq_true rfl⟩) hS (fun q _ h => hFc q h) hFc (fun r_7 u t H1 locs ht hvm hw hB hz1 hk1 hS => ?_)
  clear hPc hDc hKc
  obtain ⟨rfl, rfl⟩ := hw
  obtain ⟨hP1, hK1, hD1⟩ := hB
  rw [ht] at hP1
  obtain ⟨hP, hD⟩ := va_join (wr := [(h0_many, .inl (k0_many, 21, .inl f0_many)), (h0_nodes, .inl (k0_nodes, 134400, .inl f0_nodes)), (h0_heap, .inl (k0_heap, 4, .inl f_2))]) (w1 := [(h0, .inr (8, [.ref a0_marks, .ref a0_classes, .int 0, .ref a0_isSort, .ref h0_nodes, .ref h0_many, .int 0, .ref a0_in, .int 20, .int 0, .int 0, .ref a0_asked, .ref a0_turned, .int 0, .int (-1), .int (-1), .ref h0_heap, .ref a0_heapYes, .ref a0_path, .ref a0_bestWrong, .ref a0_bestAsked, .ref a0_bestMark, .ref a0_bestV]))]) hP hD [2] [0, 1, 3] rfl rfl (by decide) (by decide) hk1 hFc hP1 hD1
  generalize H1 = H at hP hS ⊢
  clear hP1 hD1 hFc hk1 hz1 ht hvm hK1
  have hP : va_P (dC, dI) vwCl [(h0_many, .inl (k0_many, 21, .inl f0_many)), (h0_nodes, .inl (k0_nodes, 134400, .inl f0_nodes)), (h0_heap, .inl (k0_heap, 4, .inl f_2)), (h0, .inr (8, [.ref a0_marks, .ref a0_classes, .int 0, .ref a0_isSort, .ref h0_nodes, .ref h0_many, .int 0, .ref a0_in, .int 20, .int 0, .int 0, .ref a0_asked, .ref a0_turned, .int 0, .int (-1), .int (-1), .ref h0_heap, .ref a0_heapYes, .ref a0_path, .ref a0_bestWrong, .ref a0_bestAsked, .ref a0_bestMark, .ref a0_bestV]))] H := hP
  have hD : va_D A [(h0_many, .inl (k0_many, 21, .inl f0_many)), (h0_nodes, .inl (k0_nodes, 134400, .inl f0_nodes)), (h0_heap, .inl (k0_heap, 4, .inl f_2)), (h0, .inr (8, [.ref a0_marks, .ref a0_classes, .int 0, .ref a0_isSort, .ref h0_nodes, .ref h0_many, .int 0, .ref a0_in, .int 20, .int 0, .int 0, .ref a0_asked, .ref a0_turned, .int 0, .int (-1), .int (-1), .ref h0_heap, .ref a0_heapYes, .ref a0_path, .ref a0_bestWrong, .ref a0_bestAsked, .ref a0_bestMark, .ref a0_bestV]))] := hD
  refine lv_istore_n (lv' := [(3, .int 128000), (2, .int 0), (0, .ref h0), (1, .int 0)]) hx hb dX8_newNode_24 rfl hl (by decide) rfl (fun ls hl => ?_)
  refine lv_aload_n hx hb dX8_newNode_25 rfl (lv_at hl 2 rfl) ?_
  refine va_get (D := (dC, dI)) (ci := 8) (v := .ref h0_nodes) (C := RX8) (T := TX8) (N := 23) hx hb hts hi8 hown hK hP 3 rfl rfl 4 (by decide) (hts (.fieldLink RX8 21 "AskTreeModel" "nodes" "[I") (by decide +kernel)) (fun _ h9 => h9) rfl dX8_newNode_26 ?_
  refine lv_iload_n hx hb dX8_newNode_29 rfl (lv_at hl 0 rfl) ?_
  refine lv_iconst (v := (-1)) hx hb dX8_newNode_30 (by decide) ?_
  refine va_iast hx hb hK hP hD hS 1 2 rfl rfl (vi _ _ (by decide)) dX8_newNode_31 (fun H locs hP hD hS => ?_)
  have hP : va_P (dC, dI) vwCl [(h0_many, .inl (k0_many, 21, .inl f0_many)), (h0_nodes, .inl (k0_nodes, 134400, .inl (upd f0_nodes (Int32.toNatClampNeg 128000) (-1)))), (h0_heap, .inl (k0_heap, 4, .inl f_2)), (h0, .inr (8, [.ref a0_marks, .ref a0_classes, .int 0, .ref a0_isSort, .ref h0_nodes, .ref h0_many, .int 0, .ref a0_in, .int 20, .int 0, .int 0, .ref a0_asked, .ref a0_turned, .int 0, .int (-1), .int (-1), .ref h0_heap, .ref a0_heapYes, .ref a0_path, .ref a0_bestWrong, .ref a0_bestAsked, .ref a0_bestMark, .ref a0_bestV]))] H := hP
  have hD : va_D A [(h0_many, .inl (k0_many, 21, .inl f0_many)), (h0_nodes, .inl (k0_nodes, 134400, .inl (upd f0_nodes (Int32.toNatClampNeg 128000) (-1)))), (h0_heap, .inl (k0_heap, 4, .inl f_2)), (h0, .inr (8, [.ref a0_marks, .ref a0_classes, .int 0, .ref a0_isSort, .ref h0_nodes, .ref h0_many, .int 0, .ref a0_in, .int 20, .int 0, .int 0, .ref a0_asked, .ref a0_turned, .int 0, .int (-1), .int (-1), .ref h0_heap, .ref a0_heapYes, .ref a0_path, .ref a0_bestWrong, .ref a0_bestAsked, .ref a0_bestMark, .ref a0_bestV]))] := hD
  generalize hf_9 : upd f0_nodes (Int32.toNatClampNeg 128000) (-1) = f_8 at hP hD
  have hk_10 : f_8 128000 = (-1) := by rw [← hf_9]; exact up_s (by decide)
  clear hf_9
  refine lv_aload_n hx hb dX8_newNode_32 rfl (lv_at hl 2 rfl) ?_
  refine va_get (D := (dC, dI)) (ci := 8) (v := .ref h0_nodes) (C := RX8) (T := TX8) (N := 23) hx hb hts hi8 hown hK hP 3 rfl rfl 4 (by decide) (hts (.fieldLink RX8 21 "AskTreeModel" "nodes" "[I") (by decide +kernel)) (fun _ h9 => h9) rfl dX8_newNode_33 ?_
  refine lv_iload_n hx hb dX8_newNode_36 rfl (lv_at hl 0 rfl) ?_
  refine lv_iconst (v := 1) hx hb dX8_newNode_37 (by decide) ?_
  refine lv_iadd hx hb dX8_newNode_38 ?_
  refine tvv (v := .int 128001) (congrArg Value.int (by decide)) ?_
  refine lv_iconst (v := 0) hx hb dX8_newNode_39 (by decide) ?_
  refine va_iast hx hb hK hP hD hS 1 2 rfl rfl (vi _ _ (by decide)) dX8_newNode_40 (fun H locs hP hD hS => ?_)
  have hP : va_P (dC, dI) vwCl [(h0_many, .inl (k0_many, 21, .inl f0_many)), (h0_nodes, .inl (k0_nodes, 134400, .inl (upd f_8 (Int32.toNatClampNeg 128001) 0))), (h0_heap, .inl (k0_heap, 4, .inl f_2)), (h0, .inr (8, [.ref a0_marks, .ref a0_classes, .int 0, .ref a0_isSort, .ref h0_nodes, .ref h0_many, .int 0, .ref a0_in, .int 20, .int 0, .int 0, .ref a0_asked, .ref a0_turned, .int 0, .int (-1), .int (-1), .ref h0_heap, .ref a0_heapYes, .ref a0_path, .ref a0_bestWrong, .ref a0_bestAsked, .ref a0_bestMark, .ref a0_bestV]))] H := hP
  have hD : va_D A [(h0_many, .inl (k0_many, 21, .inl f0_many)), (h0_nodes, .inl (k0_nodes, 134400, .inl (upd f_8 (Int32.toNatClampNeg 128001) 0))), (h0_heap, .inl (k0_heap, 4, .inl f_2)), (h0, .inr (8, [.ref a0_marks, .ref a0_classes, .int 0, .ref a0_isSort, .ref h0_nodes, .ref h0_many, .int 0, .ref a0_in, .int 20, .int 0, .int 0, .ref a0_asked, .ref a0_turned, .int 0, .int (-1), .int (-1), .ref h0_heap, .ref a0_heapYes, .ref a0_path, .ref a0_bestWrong, .ref a0_bestAsked, .ref a0_bestMark, .ref a0_bestV]))] := hD
  generalize hf_12 : upd f_8 (Int32.toNatClampNeg 128001) 0 = f_11 at hP hD
  have hk_13 : f_11 128001 = 0 := by rw [← hf_12]; exact up_s (by decide)
  have hk_14 : f_11 128000 = (-1) := by rw [← hf_12]; exact up_n (k := 128001) (by decide) (by decide) hk_10
  clear hf_12
  refine lv_aload_n hx hb dX8_newNode_41 rfl (lv_at hl 2 rfl) ?_
  refine va_get (D := (dC, dI)) (ci := 8) (v := .ref h0_nodes) (C := RX8) (T := TX8) (N := 23) hx hb hts hi8 hown hK hP 3 rfl rfl 4 (by decide) (hts (.fieldLink RX8 21 "AskTreeModel" "nodes" "[I") (by decide +kernel)) (fun _ h9 => h9) rfl dX8_newNode_42 ?_
  refine lv_iload_n hx hb dX8_newNode_45 rfl (lv_at hl 0 rfl) ?_
  refine lv_iconst (v := 2) hx hb dX8_newNode_46 (by decide) ?_
  refine lv_iadd hx hb dX8_newNode_47 ?_
  refine tvv (v := .int 128002) (congrArg Value.int (by decide)) ?_
  refine lv_iconst (v := (-1)) hx hb dX8_newNode_48 (by decide) ?_
  refine va_iast hx hb hK hP hD hS 1 2 rfl rfl (vi _ _ (by decide)) dX8_newNode_49 (fun H locs hP hD hS => ?_)
  have hP : va_P (dC, dI) vwCl [(h0_many, .inl (k0_many, 21, .inl f0_many)), (h0_nodes, .inl (k0_nodes, 134400, .inl (upd f_11 (Int32.toNatClampNeg 128002) (-1)))), (h0_heap, .inl (k0_heap, 4, .inl f_2)), (h0, .inr (8, [.ref a0_marks, .ref a0_classes, .int 0, .ref a0_isSort, .ref h0_nodes, .ref h0_many, .int 0, .ref a0_in, .int 20, .int 0, .int 0, .ref a0_asked, .ref a0_turned, .int 0, .int (-1), .int (-1), .ref h0_heap, .ref a0_heapYes, .ref a0_path, .ref a0_bestWrong, .ref a0_bestAsked, .ref a0_bestMark, .ref a0_bestV]))] H := hP
  have hD : va_D A [(h0_many, .inl (k0_many, 21, .inl f0_many)), (h0_nodes, .inl (k0_nodes, 134400, .inl (upd f_11 (Int32.toNatClampNeg 128002) (-1)))), (h0_heap, .inl (k0_heap, 4, .inl f_2)), (h0, .inr (8, [.ref a0_marks, .ref a0_classes, .int 0, .ref a0_isSort, .ref h0_nodes, .ref h0_many, .int 0, .ref a0_in, .int 20, .int 0, .int 0, .ref a0_asked, .ref a0_turned, .int 0, .int (-1), .int (-1), .ref h0_heap, .ref a0_heapYes, .ref a0_path, .ref a0_bestWrong, .ref a0_bestAsked, .ref a0_bestMark, .ref a0_bestV]))] := hD
  generalize hf_16 : upd f_11 (Int32.toNatClampNeg 128002) (-1) = f_15 at hP hD
  have hk_17 : f_15 128002 = (-1) := by rw [← hf_16]; exact up_s (by decide)
  have hk_18 : f_15 128001 = 0 := by rw [← hf_16]; exact up_n (k := 128002) (by decide) (by decide) hk_13
  have hk_19 : f_15 128000 = (-1) := by rw [← hf_16]; exact up_n (k := 128002) (by decide) (by decide) hk_14
  clear hf_16
  refine lv_aload_n hx hb dX8_newNode_50 rfl (lv_at hl 2 rfl) ?_
  refine va_get (D := (dC, dI)) (ci := 8) (v := .ref h0_nodes) (C := RX8) (T := TX8) (N := 23) hx hb hts hi8 hown hK hP 3 rfl rfl 4 (by decide) (hts (.fieldLink RX8 21 "AskTreeModel" "nodes" "[I") (by decide +kernel)) (fun _ h9 => h9) rfl dX8_newNode_51 ?_
  refine lv_iload_n hx hb dX8_newNode_54 rfl (lv_at hl 0 rfl) ?_
  refine lv_iconst (v := 3) hx hb dX8_newNode_55 (by decide) ?_
  refine lv_iadd hx hb dX8_newNode_56 ?_
  refine tvv (v := .int 128003) (congrArg Value.int (by decide)) ?_
  refine lv_iconst (v := (-1)) hx hb dX8_newNode_57 (by decide) ?_
  refine va_iast hx hb hK hP hD hS 1 2 rfl rfl (vi _ _ (by decide)) dX8_newNode_58 (fun H locs hP hD hS => ?_)
  have hP : va_P (dC, dI) vwCl [(h0_many, .inl (k0_many, 21, .inl f0_many)), (h0_nodes, .inl (k0_nodes, 134400, .inl (upd f_15 (Int32.toNatClampNeg 128003) (-1)))), (h0_heap, .inl (k0_heap, 4, .inl f_2)), (h0, .inr (8, [.ref a0_marks, .ref a0_classes, .int 0, .ref a0_isSort, .ref h0_nodes, .ref h0_many, .int 0, .ref a0_in, .int 20, .int 0, .int 0, .ref a0_asked, .ref a0_turned, .int 0, .int (-1), .int (-1), .ref h0_heap, .ref a0_heapYes, .ref a0_path, .ref a0_bestWrong, .ref a0_bestAsked, .ref a0_bestMark, .ref a0_bestV]))] H := hP
  have hD : va_D A [(h0_many, .inl (k0_many, 21, .inl f0_many)), (h0_nodes, .inl (k0_nodes, 134400, .inl (upd f_15 (Int32.toNatClampNeg 128003) (-1)))), (h0_heap, .inl (k0_heap, 4, .inl f_2)), (h0, .inr (8, [.ref a0_marks, .ref a0_classes, .int 0, .ref a0_isSort, .ref h0_nodes, .ref h0_many, .int 0, .ref a0_in, .int 20, .int 0, .int 0, .ref a0_asked, .ref a0_turned, .int 0, .int (-1), .int (-1), .ref h0_heap, .ref a0_heapYes, .ref a0_path, .ref a0_bestWrong, .ref a0_bestAsked, .ref a0_bestMark, .ref a0_bestV]))] := hD
  generalize hf_21 : upd f_15 (Int32.toNatClampNeg 128003) (-1) = f_20 at hP hD
  have hk_22 : f_20 128003 = (-1) := by rw [← hf_21]; exact up_s (by decide)
  have hk_23 : f_20 128002 = (-1) := by rw [← hf_21]; exact up_n (k := 128003) (by decide) (by decide) hk_17
  have hk_24 : f_20 128001 = 0 := by rw [← hf_21]; exact up_n (k := 128003) (by decide) (by decide) hk_18
  have hk_25 : f_20 128000 = (-1) := by rw [← hf_21]; exact up_n (k := 128003) (by decide) (by decide) hk_19
  clear hf_21
  refine lv_aload_n hx hb dX8_newNode_59 rfl (lv_at hl 2 rfl) ?_
  refine va_get (D := (dC, dI)) (ci := 8) (v := .ref h0_nodes) (C := RX8) (T := TX8) (N := 23) hx hb hts hi8 hown hK hP 3 rfl rfl 4 (by decide) (hts (.fieldLink RX8 21 "AskTreeModel" "nodes" "[I") (by decide +kernel)) (fun _ h9 => h9) rfl dX8_newNode_60 ?_
  refine lv_iload_n hx hb dX8_newNode_63 rfl (lv_at hl 0 rfl) ?_
  refine lv_iconst (v := 4) hx hb dX8_newNode_64 (by decide) ?_
  refine lv_iadd hx hb dX8_newNode_65 ?_
  refine tvv (v := .int 128004) (congrArg Value.int (by decide)) ?_
  refine lv_iload_n hx hb dX8_newNode_66 rfl (lv_at hl 3 rfl) ?_
  refine va_iast hx hb hK hP hD hS 1 2 rfl rfl (vi _ _ (by decide)) dX8_newNode_67 (fun H locs hP hD hS => ?_)
  have hP : va_P (dC, dI) vwCl [(h0_many, .inl (k0_many, 21, .inl f0_many)), (h0_nodes, .inl (k0_nodes, 134400, .inl (upd f_20 (Int32.toNatClampNeg 128004) 0))), (h0_heap, .inl (k0_heap, 4, .inl f_2)), (h0, .inr (8, [.ref a0_marks, .ref a0_classes, .int 0, .ref a0_isSort, .ref h0_nodes, .ref h0_many, .int 0, .ref a0_in, .int 20, .int 0, .int 0, .ref a0_asked, .ref a0_turned, .int 0, .int (-1), .int (-1), .ref h0_heap, .ref a0_heapYes, .ref a0_path, .ref a0_bestWrong, .ref a0_bestAsked, .ref a0_bestMark, .ref a0_bestV]))] H := hP
  have hD : va_D A [(h0_many, .inl (k0_many, 21, .inl f0_many)), (h0_nodes, .inl (k0_nodes, 134400, .inl (upd f_20 (Int32.toNatClampNeg 128004) 0))), (h0_heap, .inl (k0_heap, 4, .inl f_2)), (h0, .inr (8, [.ref a0_marks, .ref a0_classes, .int 0, .ref a0_isSort, .ref h0_nodes, .ref h0_many, .int 0, .ref a0_in, .int 20, .int 0, .int 0, .ref a0_asked, .ref a0_turned, .int 0, .int (-1), .int (-1), .ref h0_heap, .ref a0_heapYes, .ref a0_path, .ref a0_bestWrong, .ref a0_bestAsked, .ref a0_bestMark, .ref a0_bestV]))] := hD
  generalize hf_27 : upd f_20 (Int32.toNatClampNeg 128004) 0 = f_26 at hP hD
  have hk_28 : f_26 128004 = 0 := by rw [← hf_27]; exact up_s (by decide)
  have hk_29 : f_26 128003 = (-1) := by rw [← hf_27]; exact up_n (k := 128004) (by decide) (by decide) hk_22
  have hk_30 : f_26 128002 = (-1) := by rw [← hf_27]; exact up_n (k := 128004) (by decide) (by decide) hk_23
  have hk_31 : f_26 128001 = 0 := by rw [← hf_27]; exact up_n (k := 128004) (by decide) (by decide) hk_24
  have hk_32 : f_26 128000 = (-1) := by rw [← hf_27]; exact up_n (k := 128004) (by decide) (by decide) hk_25
  clear hf_27
  refine lv_aload_n hx hb dX8_newNode_68 rfl (lv_at hl 2 rfl) ?_
  refine va_get (D := (dC, dI)) (ci := 8) (v := .ref h0_nodes) (C := RX8) (T := TX8) (N := 23) hx hb hts hi8 hown hK hP 3 rfl rfl 4 (by decide) (hts (.fieldLink RX8 21 "AskTreeModel" "nodes" "[I") (by decide +kernel)) (fun _ h9 => h9) rfl dX8_newNode_69 ?_
  refine lv_iload_n hx hb dX8_newNode_72 rfl (lv_at hl 0 rfl) ?_
  refine lv_iconst (v := 5) hx hb dX8_newNode_73 (by decide) ?_
  refine lv_iadd hx hb dX8_newNode_74 ?_
  refine tvv (v := .int 128005) (congrArg Value.int (by decide)) ?_
  refine lv_iconst (v := 0) hx hb dX8_newNode_75 (by decide) ?_
  refine va_iast hx hb hK hP hD hS 1 2 rfl rfl (vi _ _ (by decide)) dX8_newNode_76 (fun H locs hP hD hS => ?_)
  have hP : va_P (dC, dI) vwCl [(h0_many, .inl (k0_many, 21, .inl f0_many)), (h0_nodes, .inl (k0_nodes, 134400, .inl (upd f_26 (Int32.toNatClampNeg 128005) 0))), (h0_heap, .inl (k0_heap, 4, .inl f_2)), (h0, .inr (8, [.ref a0_marks, .ref a0_classes, .int 0, .ref a0_isSort, .ref h0_nodes, .ref h0_many, .int 0, .ref a0_in, .int 20, .int 0, .int 0, .ref a0_asked, .ref a0_turned, .int 0, .int (-1), .int (-1), .ref h0_heap, .ref a0_heapYes, .ref a0_path, .ref a0_bestWrong, .ref a0_bestAsked, .ref a0_bestMark, .ref a0_bestV]))] H := hP
  have hD : va_D A [(h0_many, .inl (k0_many, 21, .inl f0_many)), (h0_nodes, .inl (k0_nodes, 134400, .inl (upd f_26 (Int32.toNatClampNeg 128005) 0))), (h0_heap, .inl (k0_heap, 4, .inl f_2)), (h0, .inr (8, [.ref a0_marks, .ref a0_classes, .int 0, .ref a0_isSort, .ref h0_nodes, .ref h0_many, .int 0, .ref a0_in, .int 20, .int 0, .int 0, .ref a0_asked, .ref a0_turned, .int 0, .int (-1), .int (-1), .ref h0_heap, .ref a0_heapYes, .ref a0_path, .ref a0_bestWrong, .ref a0_bestAsked, .ref a0_bestMark, .ref a0_bestV]))] := hD
  generalize hf_34 : upd f_26 (Int32.toNatClampNeg 128005) 0 = f_33 at hP hD
  have hk_35 : f_33 128005 = 0 := by rw [← hf_34]; exact up_s (by decide)
  have hk_36 : f_33 128004 = 0 := by rw [← hf_34]; exact up_n (k := 128005) (by decide) (by decide) hk_28
  have hk_37 : f_33 128003 = (-1) := by rw [← hf_34]; exact up_n (k := 128005) (by decide) (by decide) hk_29
  have hk_38 : f_33 128002 = (-1) := by rw [← hf_34]; exact up_n (k := 128005) (by decide) (by decide) hk_30
  have hk_39 : f_33 128001 = 0 := by rw [← hf_34]; exact up_n (k := 128005) (by decide) (by decide) hk_31
  have hk_40 : f_33 128000 = (-1) := by rw [← hf_34]; exact up_n (k := 128005) (by decide) (by decide) hk_32
  clear hf_34
  refine lv_iconst (v := 0) hx hb dX8_newNode_77 (by decide) ?_
  refine lv_istore (lv' := [(4, .int 0), (3, .int 128000), (2, .int 0), (0, .ref h0), (1, .int 0)]) hx hb dX8_newNode_78 hl (by decide) rfl (fun ls hl => ?_)
  refine lv_iload hx hb dX8_newNode_80 (lv_at hl 0 rfl) ?_
  refine lv_iconst (v := 4) hx hb dX8_newNode_82 (by decide) ?_
  refine lv_icmp_ge (tgt := 111) hx hb dX8_newNode_83 (by decide) (fun c_41 => ?_) (fun c_41 => ?_)
  · exact absurd c_41 (by decide)
  refine lv_aload_n hx hb dX8_newNode_86 rfl (lv_at hl 3 rfl) ?_
  refine va_get (D := (dC, dI)) (ci := 8) (v := .ref h0_nodes) (C := RX8) (T := TX8) (N := 23) hx hb hts hi8 hown hK hP 3 rfl rfl 4 (by decide) (hts (.fieldLink RX8 21 "AskTreeModel" "nodes" "[I") (by decide +kernel)) (fun _ h9 => h9) rfl dX8_newNode_87 ?_
  refine lv_iload_n hx hb dX8_newNode_90 rfl (lv_at hl 1 rfl) ?_
  refine lv_bipush (v := 6) hx hb dX8_newNode_91 (by decide) ?_
  refine lv_iadd hx hb dX8_newNode_93 ?_
  refine tvv (v := .int 128006) (congrArg Value.int (by decide)) ?_
  refine lv_iload hx hb dX8_newNode_94 (lv_at hl 0 rfl) ?_
  refine lv_iadd hx hb dX8_newNode_96 ?_
  refine tvv (v := .int 128006) (congrArg Value.int (by decide)) ?_
  refine lv_aload_n hx hb dX8_newNode_97 rfl (lv_at hl 3 rfl) ?_
  refine va_get (D := (dC, dI)) (ci := 8) (v := .ref h0_heap) (C := RX8) (T := TX8) (N := 23) hx hb hts hi8 hown hK hP 3 rfl rfl 16 (by decide) (hts (.fieldLink RX8 43 "AskTreeModel" "heap" "[I") (by decide +kernel)) (fun _ h9 => h9) rfl dX8_newNode_98 ?_
  refine lv_iload hx hb dX8_newNode_101 (lv_at hl 0 rfl) ?_
  refine va_iald hx hb hK hP 2 0 rfl rfl (vi _ _ (by decide)) dX8_newNode_103 ?_
  refine tvv (v := .int 0) (ci f_2 (k := 0) (by decide) hk_3) ?_
  refine va_iast hx hb hK hP hD hS 1 2 rfl rfl (vi _ _ (by decide)) dX8_newNode_104 (fun H locs hP hD hS => ?_)
  have hP : va_P (dC, dI) vwCl [(h0_many, .inl (k0_many, 21, .inl f0_many)), (h0_nodes, .inl (k0_nodes, 134400, .inl (upd f_33 (Int32.toNatClampNeg 128006) 0))), (h0_heap, .inl (k0_heap, 4, .inl f_2)), (h0, .inr (8, [.ref a0_marks, .ref a0_classes, .int 0, .ref a0_isSort, .ref h0_nodes, .ref h0_many, .int 0, .ref a0_in, .int 20, .int 0, .int 0, .ref a0_asked, .ref a0_turned, .int 0, .int (-1), .int (-1), .ref h0_heap, .ref a0_heapYes, .ref a0_path, .ref a0_bestWrong, .ref a0_bestAsked, .ref a0_bestMark, .ref a0_bestV]))] H := hP
  have hD : va_D A [(h0_many, .inl (k0_many, 21, .inl f0_many)), (h0_nodes, .inl (k0_nodes, 134400, .inl (upd f_33 (Int32.toNatClampNeg 128006) 0))), (h0_heap, .inl (k0_heap, 4, .inl f_2)), (h0, .inr (8, [.ref a0_marks, .ref a0_classes, .int 0, .ref a0_isSort, .ref h0_nodes, .ref h0_many, .int 0, .ref a0_in, .int 20, .int 0, .int 0, .ref a0_asked, .ref a0_turned, .int 0, .int (-1), .int (-1), .ref h0_heap, .ref a0_heapYes, .ref a0_path, .ref a0_bestWrong, .ref a0_bestAsked, .ref a0_bestMark, .ref a0_bestV]))] := hD
  generalize hf_43 : upd f_33 (Int32.toNatClampNeg 128006) 0 = f_42 at hP hD
  have hk_44 : f_42 128006 = 0 := by rw [← hf_43]; exact up_s (by decide)
  have hk_45 : f_42 128005 = 0 := by rw [← hf_43]; exact up_n (k := 128006) (by decide) (by decide) hk_35
  have hk_46 : f_42 128004 = 0 := by rw [← hf_43]; exact up_n (k := 128006) (by decide) (by decide) hk_36
  have hk_47 : f_42 128003 = (-1) := by rw [← hf_43]; exact up_n (k := 128006) (by decide) (by decide) hk_37
  have hk_48 : f_42 128002 = (-1) := by rw [← hf_43]; exact up_n (k := 128006) (by decide) (by decide) hk_38
  have hk_49 : f_42 128001 = 0 := by rw [← hf_43]; exact up_n (k := 128006) (by decide) (by decide) hk_39
  have hk_50 : f_42 128000 = (-1) := by rw [← hf_43]; exact up_n (k := 128006) (by decide) (by decide) hk_40
  clear hf_43
  refine lv_iinc (v := 1) (lv' := [(4, .int 1), (3, .int 128000), (2, .int 0), (0, .ref h0), (1, .int 0)]) hx hb dX8_newNode_105 hl (k := 0) rfl (by decide) (by decide) rfl (fun ls hl => ?_)
  refine lv_goto (tgt := 80) hx hb dX8_newNode_108 (by decide) ?_
  refine lv_iload hx hb dX8_newNode_80 (lv_at hl 0 rfl) ?_
  refine lv_iconst (v := 4) hx hb dX8_newNode_82 (by decide) ?_
  refine lv_icmp_ge (tgt := 111) hx hb dX8_newNode_83 (by decide) (fun c_51 => ?_) (fun c_51 => ?_)
  · exact absurd c_51 (by decide)
  refine lv_aload_n hx hb dX8_newNode_86 rfl (lv_at hl 3 rfl) ?_
  refine va_get (D := (dC, dI)) (ci := 8) (v := .ref h0_nodes) (C := RX8) (T := TX8) (N := 23) hx hb hts hi8 hown hK hP 3 rfl rfl 4 (by decide) (hts (.fieldLink RX8 21 "AskTreeModel" "nodes" "[I") (by decide +kernel)) (fun _ h9 => h9) rfl dX8_newNode_87 ?_
  refine lv_iload_n hx hb dX8_newNode_90 rfl (lv_at hl 1 rfl) ?_
  refine lv_bipush (v := 6) hx hb dX8_newNode_91 (by decide) ?_
  refine lv_iadd hx hb dX8_newNode_93 ?_
  refine tvv (v := .int 128006) (congrArg Value.int (by decide)) ?_
  refine lv_iload hx hb dX8_newNode_94 (lv_at hl 0 rfl) ?_
  refine lv_iadd hx hb dX8_newNode_96 ?_
  refine tvv (v := .int 128007) (congrArg Value.int (by decide)) ?_
  refine lv_aload_n hx hb dX8_newNode_97 rfl (lv_at hl 3 rfl) ?_
  refine va_get (D := (dC, dI)) (ci := 8) (v := .ref h0_heap) (C := RX8) (T := TX8) (N := 23) hx hb hts hi8 hown hK hP 3 rfl rfl 16 (by decide) (hts (.fieldLink RX8 43 "AskTreeModel" "heap" "[I") (by decide +kernel)) (fun _ h9 => h9) rfl dX8_newNode_98 ?_
  refine lv_iload hx hb dX8_newNode_101 (lv_at hl 0 rfl) ?_
  refine va_iald hx hb hK hP 2 0 rfl rfl (vi _ _ (by decide)) dX8_newNode_103 ?_
  refine tvv (v := .int 0) (ci f_2 (k := 1) (by decide) hk_4) ?_
  refine va_iast hx hb hK hP hD hS 1 2 rfl rfl (vi _ _ (by decide)) dX8_newNode_104 (fun H locs hP hD hS => ?_)
  have hP : va_P (dC, dI) vwCl [(h0_many, .inl (k0_many, 21, .inl f0_many)), (h0_nodes, .inl (k0_nodes, 134400, .inl (upd f_42 (Int32.toNatClampNeg 128007) 0))), (h0_heap, .inl (k0_heap, 4, .inl f_2)), (h0, .inr (8, [.ref a0_marks, .ref a0_classes, .int 0, .ref a0_isSort, .ref h0_nodes, .ref h0_many, .int 0, .ref a0_in, .int 20, .int 0, .int 0, .ref a0_asked, .ref a0_turned, .int 0, .int (-1), .int (-1), .ref h0_heap, .ref a0_heapYes, .ref a0_path, .ref a0_bestWrong, .ref a0_bestAsked, .ref a0_bestMark, .ref a0_bestV]))] H := hP
  have hD : va_D A [(h0_many, .inl (k0_many, 21, .inl f0_many)), (h0_nodes, .inl (k0_nodes, 134400, .inl (upd f_42 (Int32.toNatClampNeg 128007) 0))), (h0_heap, .inl (k0_heap, 4, .inl f_2)), (h0, .inr (8, [.ref a0_marks, .ref a0_classes, .int 0, .ref a0_isSort, .ref h0_nodes, .ref h0_many, .int 0, .ref a0_in, .int 20, .int 0, .int 0, .ref a0_asked, .ref a0_turned, .int 0, .int (-1), .int (-1), .ref h0_heap, .ref a0_heapYes, .ref a0_path, .ref a0_bestWrong, .ref a0_bestAsked, .ref a0_bestMark, .ref a0_bestV]))] := hD
  generalize hf_53 : upd f_42 (Int32.toNatClampNeg 128007) 0 = f_52 at hP hD
  have hk_54 : f_52 128007 = 0 := by rw [← hf_53]; exact up_s (by decide)
  have hk_55 : f_52 128006 = 0 := by rw [← hf_53]; exact up_n (k := 128007) (by decide) (by decide) hk_44
  have hk_56 : f_52 128005 = 0 := by rw [← hf_53]; exact up_n (k := 128007) (by decide) (by decide) hk_45
  have hk_57 : f_52 128004 = 0 := by rw [← hf_53]; exact up_n (k := 128007) (by decide) (by decide) hk_46
  have hk_58 : f_52 128003 = (-1) := by rw [← hf_53]; exact up_n (k := 128007) (by decide) (by decide) hk_47
  have hk_59 : f_52 128002 = (-1) := by rw [← hf_53]; exact up_n (k := 128007) (by decide) (by decide) hk_48
  have hk_60 : f_52 128001 = 0 := by rw [← hf_53]; exact up_n (k := 128007) (by decide) (by decide) hk_49
  have hk_61 : f_52 128000 = (-1) := by rw [← hf_53]; exact up_n (k := 128007) (by decide) (by decide) hk_50
  clear hf_53
  refine lv_iinc (v := 2) (lv' := [(4, .int 2), (3, .int 128000), (2, .int 0), (0, .ref h0), (1, .int 0)]) hx hb dX8_newNode_105 hl (k := 0) rfl (by decide) (by decide) rfl (fun ls hl => ?_)
  refine lv_goto (tgt := 80) hx hb dX8_newNode_108 (by decide) ?_
  refine lv_iload hx hb dX8_newNode_80 (lv_at hl 0 rfl) ?_
  refine lv_iconst (v := 4) hx hb dX8_newNode_82 (by decide) ?_
  refine lv_icmp_ge (tgt := 111) hx hb dX8_newNode_83 (by decide) (fun c_62 => ?_) (fun c_62 => ?_)
  · exact absurd c_62 (by decide)
  refine lv_aload_n hx hb dX8_newNode_86 rfl (lv_at hl 3 rfl) ?_
  refine va_get (D := (dC, dI)) (ci := 8) (v := .ref h0_nodes) (C := RX8) (T := TX8) (N := 23) hx hb hts hi8 hown hK hP 3 rfl rfl 4 (by decide) (hts (.fieldLink RX8 21 "AskTreeModel" "nodes" "[I") (by decide +kernel)) (fun _ h9 => h9) rfl dX8_newNode_87 ?_
  refine lv_iload_n hx hb dX8_newNode_90 rfl (lv_at hl 1 rfl) ?_
  refine lv_bipush (v := 6) hx hb dX8_newNode_91 (by decide) ?_
  refine lv_iadd hx hb dX8_newNode_93 ?_
  refine tvv (v := .int 128006) (congrArg Value.int (by decide)) ?_
  refine lv_iload hx hb dX8_newNode_94 (lv_at hl 0 rfl) ?_
  refine lv_iadd hx hb dX8_newNode_96 ?_
  refine tvv (v := .int 128008) (congrArg Value.int (by decide)) ?_
  refine lv_aload_n hx hb dX8_newNode_97 rfl (lv_at hl 3 rfl) ?_
  refine va_get (D := (dC, dI)) (ci := 8) (v := .ref h0_heap) (C := RX8) (T := TX8) (N := 23) hx hb hts hi8 hown hK hP 3 rfl rfl 16 (by decide) (hts (.fieldLink RX8 43 "AskTreeModel" "heap" "[I") (by decide +kernel)) (fun _ h9 => h9) rfl dX8_newNode_98 ?_
  refine lv_iload hx hb dX8_newNode_101 (lv_at hl 0 rfl) ?_
  refine va_iald hx hb hK hP 2 0 rfl rfl (vi _ _ (by decide)) dX8_newNode_103 ?_
  refine tvv (v := .int 0) (ci f_2 (k := 2) (by decide) hk_5) ?_
  refine va_iast hx hb hK hP hD hS 1 2 rfl rfl (vi _ _ (by decide)) dX8_newNode_104 (fun H locs hP hD hS => ?_)
  have hP : va_P (dC, dI) vwCl [(h0_many, .inl (k0_many, 21, .inl f0_many)), (h0_nodes, .inl (k0_nodes, 134400, .inl (upd f_52 (Int32.toNatClampNeg 128008) 0))), (h0_heap, .inl (k0_heap, 4, .inl f_2)), (h0, .inr (8, [.ref a0_marks, .ref a0_classes, .int 0, .ref a0_isSort, .ref h0_nodes, .ref h0_many, .int 0, .ref a0_in, .int 20, .int 0, .int 0, .ref a0_asked, .ref a0_turned, .int 0, .int (-1), .int (-1), .ref h0_heap, .ref a0_heapYes, .ref a0_path, .ref a0_bestWrong, .ref a0_bestAsked, .ref a0_bestMark, .ref a0_bestV]))] H := hP
  have hD : va_D A [(h0_many, .inl (k0_many, 21, .inl f0_many)), (h0_nodes, .inl (k0_nodes, 134400, .inl (upd f_52 (Int32.toNatClampNeg 128008) 0))), (h0_heap, .inl (k0_heap, 4, .inl f_2)), (h0, .inr (8, [.ref a0_marks, .ref a0_classes, .int 0, .ref a0_isSort, .ref h0_nodes, .ref h0_many, .int 0, .ref a0_in, .int 20, .int 0, .int 0, .ref a0_asked, .ref a0_turned, .int 0, .int (-1), .int (-1), .ref h0_heap, .ref a0_heapYes, .ref a0_path, .ref a0_bestWrong, .ref a0_bestAsked, .ref a0_bestMark, .ref a0_bestV]))] := hD
  generalize hf_64 : upd f_52 (Int32.toNatClampNeg 128008) 0 = f_63 at hP hD
  have hk_65 : f_63 128008 = 0 := by rw [← hf_64]; exact up_s (by decide)
  have hk_66 : f_63 128007 = 0 := by rw [← hf_64]; exact up_n (k := 128008) (by decide) (by decide) hk_54
  have hk_67 : f_63 128006 = 0 := by rw [← hf_64]; exact up_n (k := 128008) (by decide) (by decide) hk_55
  have hk_68 : f_63 128005 = 0 := by rw [← hf_64]; exact up_n (k := 128008) (by decide) (by decide) hk_56
  have hk_69 : f_63 128004 = 0 := by rw [← hf_64]; exact up_n (k := 128008) (by decide) (by decide) hk_57
  have hk_70 : f_63 128003 = (-1) := by rw [← hf_64]; exact up_n (k := 128008) (by decide) (by decide) hk_58
  have hk_71 : f_63 128002 = (-1) := by rw [← hf_64]; exact up_n (k := 128008) (by decide) (by decide) hk_59
  have hk_72 : f_63 128001 = 0 := by rw [← hf_64]; exact up_n (k := 128008) (by decide) (by decide) hk_60
  have hk_73 : f_63 128000 = (-1) := by rw [← hf_64]; exact up_n (k := 128008) (by decide) (by decide) hk_61
  clear hf_64
  refine lv_iinc (v := 3) (lv' := [(4, .int 3), (3, .int 128000), (2, .int 0), (0, .ref h0), (1, .int 0)]) hx hb dX8_newNode_105 hl (k := 0) rfl (by decide) (by decide) rfl (fun ls hl => ?_)
  refine lv_goto (tgt := 80) hx hb dX8_newNode_108 (by decide) ?_
  refine lv_iload hx hb dX8_newNode_80 (lv_at hl 0 rfl) ?_
  refine lv_iconst (v := 4) hx hb dX8_newNode_82 (by decide) ?_
  refine lv_icmp_ge (tgt := 111) hx hb dX8_newNode_83 (by decide) (fun c_74 => ?_) (fun c_74 => ?_)
  · exact absurd c_74 (by decide)
  refine lv_aload_n hx hb dX8_newNode_86 rfl (lv_at hl 3 rfl) ?_
  refine va_get (D := (dC, dI)) (ci := 8) (v := .ref h0_nodes) (C := RX8) (T := TX8) (N := 23) hx hb hts hi8 hown hK hP 3 rfl rfl 4 (by decide) (hts (.fieldLink RX8 21 "AskTreeModel" "nodes" "[I") (by decide +kernel)) (fun _ h9 => h9) rfl dX8_newNode_87 ?_
  refine lv_iload_n hx hb dX8_newNode_90 rfl (lv_at hl 1 rfl) ?_
  refine lv_bipush (v := 6) hx hb dX8_newNode_91 (by decide) ?_
  refine lv_iadd hx hb dX8_newNode_93 ?_
  refine tvv (v := .int 128006) (congrArg Value.int (by decide)) ?_
  refine lv_iload hx hb dX8_newNode_94 (lv_at hl 0 rfl) ?_
  refine lv_iadd hx hb dX8_newNode_96 ?_
  refine tvv (v := .int 128009) (congrArg Value.int (by decide)) ?_
  refine lv_aload_n hx hb dX8_newNode_97 rfl (lv_at hl 3 rfl) ?_
  refine va_get (D := (dC, dI)) (ci := 8) (v := .ref h0_heap) (C := RX8) (T := TX8) (N := 23) hx hb hts hi8 hown hK hP 3 rfl rfl 16 (by decide) (hts (.fieldLink RX8 43 "AskTreeModel" "heap" "[I") (by decide +kernel)) (fun _ h9 => h9) rfl dX8_newNode_98 ?_
  refine lv_iload hx hb dX8_newNode_101 (lv_at hl 0 rfl) ?_
  refine va_iald hx hb hK hP 2 0 rfl rfl (vi _ _ (by decide)) dX8_newNode_103 ?_
  refine tvv (v := .int 0) (ci f_2 (k := 3) (by decide) hk_6) ?_
  refine va_iast hx hb hK hP hD hS 1 2 rfl rfl (vi _ _ (by decide)) dX8_newNode_104 (fun H locs hP hD hS => ?_)
  have hP : va_P (dC, dI) vwCl [(h0_many, .inl (k0_many, 21, .inl f0_many)), (h0_nodes, .inl (k0_nodes, 134400, .inl (upd f_63 (Int32.toNatClampNeg 128009) 0))), (h0_heap, .inl (k0_heap, 4, .inl f_2)), (h0, .inr (8, [.ref a0_marks, .ref a0_classes, .int 0, .ref a0_isSort, .ref h0_nodes, .ref h0_many, .int 0, .ref a0_in, .int 20, .int 0, .int 0, .ref a0_asked, .ref a0_turned, .int 0, .int (-1), .int (-1), .ref h0_heap, .ref a0_heapYes, .ref a0_path, .ref a0_bestWrong, .ref a0_bestAsked, .ref a0_bestMark, .ref a0_bestV]))] H := hP
  have hD : va_D A [(h0_many, .inl (k0_many, 21, .inl f0_many)), (h0_nodes, .inl (k0_nodes, 134400, .inl (upd f_63 (Int32.toNatClampNeg 128009) 0))), (h0_heap, .inl (k0_heap, 4, .inl f_2)), (h0, .inr (8, [.ref a0_marks, .ref a0_classes, .int 0, .ref a0_isSort, .ref h0_nodes, .ref h0_many, .int 0, .ref a0_in, .int 20, .int 0, .int 0, .ref a0_asked, .ref a0_turned, .int 0, .int (-1), .int (-1), .ref h0_heap, .ref a0_heapYes, .ref a0_path, .ref a0_bestWrong, .ref a0_bestAsked, .ref a0_bestMark, .ref a0_bestV]))] := hD
  generalize hf_76 : upd f_63 (Int32.toNatClampNeg 128009) 0 = f_75 at hP hD
  have hk_77 : f_75 128009 = 0 := by rw [← hf_76]; exact up_s (by decide)
  have hk_78 : f_75 128008 = 0 := by rw [← hf_76]; exact up_n (k := 128009) (by decide) (by decide) hk_65
  have hk_79 : f_75 128007 = 0 := by rw [← hf_76]; exact up_n (k := 128009) (by decide) (by decide) hk_66
  have hk_80 : f_75 128006 = 0 := by rw [← hf_76]; exact up_n (k := 128009) (by decide) (by decide) hk_67
  have hk_81 : f_75 128005 = 0 := by rw [← hf_76]; exact up_n (k := 128009) (by decide) (by decide) hk_68
  have hk_82 : f_75 128004 = 0 := by rw [← hf_76]; exact up_n (k := 128009) (by decide) (by decide) hk_69
  have hk_83 : f_75 128003 = (-1) := by rw [← hf_76]; exact up_n (k := 128009) (by decide) (by decide) hk_70
  have hk_84 : f_75 128002 = (-1) := by rw [← hf_76]; exact up_n (k := 128009) (by decide) (by decide) hk_71
  have hk_85 : f_75 128001 = 0 := by rw [← hf_76]; exact up_n (k := 128009) (by decide) (by decide) hk_72
  have hk_86 : f_75 128000 = (-1) := by rw [← hf_76]; exact up_n (k := 128009) (by decide) (by decide) hk_73
  clear hf_76
  refine lv_iinc (v := 4) (lv' := [(4, .int 4), (3, .int 128000), (2, .int 0), (0, .ref h0), (1, .int 0)]) hx hb dX8_newNode_105 hl (k := 0) rfl (by decide) (by decide) rfl (fun ls hl => ?_)
  refine lv_goto (tgt := 80) hx hb dX8_newNode_108 (by decide) ?_
  refine lv_iload hx hb dX8_newNode_80 (lv_at hl 0 rfl) ?_
  refine lv_iconst (v := 4) hx hb dX8_newNode_82 (by decide) ?_
  refine lv_icmp_ge (tgt := 111) hx hb dX8_newNode_83 (by decide) (fun c_87 => ?_) (fun c_87 => ?_)
  rotate_left
  · exact absurd c_87 (by decide)
  refine lv_aload_n hx hb dX8_newNode_111 rfl (lv_at hl 3 rfl) ?_
  refine va_get (D := (dC, dI)) (ci := 8) (v := .ref h0_many) (C := RX8) (T := TX8) (N := 23) hx hb hts hi8 hown hK hP 3 rfl rfl 5 (by decide) (hts (.fieldLink RX8 24 "AskTreeModel" "many" "[I") (by decide +kernel)) (fun _ h9 => h9) rfl dX8_newNode_112 ?_
  refine lv_aload_n hx hb dX8_newNode_115 rfl (lv_at hl 3 rfl) ?_
  refine va_get (D := (dC, dI)) (ci := 8) (v := .int 20) (C := RX8) (T := TX8) (N := 23) hx hb hts hi8 hown hK hP 3 rfl rfl 8 (by decide) (hts (.fieldLink RX8 111 "AskTreeModel" "making" "I") (by decide +kernel)) (fun _ h9 => h9) rfl dX8_newNode_116 ?_
  refine lv_dup2_11 hx hb dX8_newNode_119 rfl rfl ?_
  refine va_iald hx hb hK hP 0 1 rfl rfl (vi _ _ (by decide)) dX8_newNode_120 ?_
  refine tvv (v := .int 0) (ci f0_many (k := 20) (by decide) hy0_many_20) ?_
  refine lv_iconst (v := 1) hx hb dX8_newNode_121 (by decide) ?_
  refine lv_iadd hx hb dX8_newNode_122 ?_
  refine tvv (v := .int 1) (congrArg Value.int (by decide)) ?_
  refine va_iast hx hb hK hP hD hS 0 1 rfl rfl (vi _ _ (by decide)) dX8_newNode_123 (fun H locs hP hD hS => ?_)
  have hP : va_P (dC, dI) vwCl [(h0_many, .inl (k0_many, 21, .inl (upd f0_many (Int32.toNatClampNeg 20) 1))), (h0_nodes, .inl (k0_nodes, 134400, .inl f_75)), (h0_heap, .inl (k0_heap, 4, .inl f_2)), (h0, .inr (8, [.ref a0_marks, .ref a0_classes, .int 0, .ref a0_isSort, .ref h0_nodes, .ref h0_many, .int 0, .ref a0_in, .int 20, .int 0, .int 0, .ref a0_asked, .ref a0_turned, .int 0, .int (-1), .int (-1), .ref h0_heap, .ref a0_heapYes, .ref a0_path, .ref a0_bestWrong, .ref a0_bestAsked, .ref a0_bestMark, .ref a0_bestV]))] H := hP
  have hD : va_D A [(h0_many, .inl (k0_many, 21, .inl (upd f0_many (Int32.toNatClampNeg 20) 1))), (h0_nodes, .inl (k0_nodes, 134400, .inl f_75)), (h0_heap, .inl (k0_heap, 4, .inl f_2)), (h0, .inr (8, [.ref a0_marks, .ref a0_classes, .int 0, .ref a0_isSort, .ref h0_nodes, .ref h0_many, .int 0, .ref a0_in, .int 20, .int 0, .int 0, .ref a0_asked, .ref a0_turned, .int 0, .int (-1), .int (-1), .ref h0_heap, .ref a0_heapYes, .ref a0_path, .ref a0_bestWrong, .ref a0_bestAsked, .ref a0_bestMark, .ref a0_bestV]))] := hD
  generalize hf_89 : upd f0_many (Int32.toNatClampNeg 20) 1 = f_88 at hP hD
  have hk_90 : f_88 20 = 1 := by rw [← hf_89]; exact up_s (by decide)
  clear hf_89
  refine lv_iload_n hx hb dX8_newNode_124 rfl (lv_at hl 2 rfl) ?_
  have hP9 := hP.sub (ws' := [(h0, .inr (8, [.ref a0_marks, .ref a0_classes, .int 0, .ref a0_isSort, .ref h0_nodes, .ref h0_many, .int 0, .ref a0_in, .int 20, .int 0, .int 0, .ref a0_asked, .ref a0_turned, .int 0, .int (-1), .int (-1), .ref h0_heap, .ref a0_heapYes, .ref a0_path, .ref a0_bestWrong, .ref a0_bestAsked, .ref a0_bestMark, .ref a0_bestV])), (h0_heap, .inl (k0_heap, 4, .inl f_2)), (h0_many, .inl (k0_many, 21, .inl f_88)), (h0_nodes, .inl (k0_nodes, 134400, .inl f_75))]) [3, 2, 0, 1] rfl
  have hD9 := hD.sub (ws' := [(h0, .inr (8, [.ref a0_marks, .ref a0_classes, .int 0, .ref a0_isSort, .ref h0_nodes, .ref h0_many, .int 0, .ref a0_in, .int 20, .int 0, .int 0, .ref a0_asked, .ref a0_turned, .int 0, .int (-1), .int (-1), .ref h0_heap, .ref a0_heapYes, .ref a0_path, .ref a0_bestWrong, .ref a0_bestAsked, .ref a0_bestMark, .ref a0_bestV])), (h0_heap, .inl (k0_heap, 4, .inl f_2)), (h0_many, .inl (k0_many, 21, .inl f_88)), (h0_nodes, .inl (k0_nodes, 134400, .inl f_75))]) [3, 2, 0, 1] (by decide) rfl
  have hK9 := hK.sub (tys' := []) [] rfl
  exact W.iret (v := 0) hx hb hr (fun t ht hW => ⟨⟨0, ([(h0, .inr (8, [.ref a0_marks, .ref a0_classes, .int 0, .ref a0_isSort, .ref h0_nodes, .ref h0_many, .int 0, .ref a0_in, .int 20, .int 0, .int 0, .ref a0_asked, .ref a0_turned, .int 0, .int (-1), .int (-1), .ref h0_heap, .ref a0_heapYes, .ref a0_path, .ref a0_bestWrong, .ref a0_bestAsked, .ref a0_bestMark, .ref a0_bestV])), (h0_heap, .inl (k0_heap, 4, .inl f_2)), (h0_many, .inl (k0_many, 21, .inl f_88)), (h0_nodes, .inl (k0_nodes, 134400, .inl f_75))], []), rfl, ⟨f_2, f_88, f_75, rfl, hk_3, hk_4, hk_5, hk_6, hk_86, hk_85, hk_84, hk_83, hk_82, hk_81, hk_80, hk_79, hk_78, hk_77, rfl⟩, (by rw [ht]; exact hP9), va_K.moved hW.alike hK9, hD9⟩, hS.F ht⟩) hS.2.2 dX8_newNode_125

set_option maxHeartbeats 4000000 in
set_option maxRecDepth 100000 in
theorem c_countAt20 (l : Launch) (dC : Nat → ClassId) (dI : Nat → Nat → Nat) (sz : Nat) (h0 : Nat) (h0_nodes : Nat) (a0_marks : Nat) (a0_classes : Nat) (a0_isSort : Nat) (a0_many : Nat) (a0_in : Nat) (a0_asked : Nat) (a0_turned : Nat) (a0_heap : Nat) (a0_heapYes : Nat) (a0_path : Nat) (a0_bestWrong : Nat) (a0_bestAsked : Nat) (a0_bestMark : Nat) (a0_bestV : Nat) (k0_nodes : ClassId) (f0_nodes : Nat → Int32) (hy0_nodes_128006 : f0_nodes 128006 = 0) (hy0_nodes_128007 : f0_nodes 128007 = 0) (hy0_nodes_128008 : f0_nodes 128008 = 0) (hy0_nodes_128009 : f0_nodes 128009 = 0)  : Met l yX8_countAt wsX8_countAt ({ frames := 1, cells := 0, slots := 0, locals := 60 }) (va_Pc [.ref h0, .int 128000] (pw (dC, dI) [(k0_nodes, .int)] [(h0, .inr (8, [.ref a0_marks, .ref a0_classes, .int 0, .ref a0_isSort, .ref h0_nodes, .ref a0_many, .int 0, .ref a0_in, .int 20, .int 0, .int 0, .ref a0_asked, .ref a0_turned, .int 0, .int (-1), .int (-1), .ref a0_heap, .ref a0_heapYes, .ref a0_path, .ref a0_bestWrong, .ref a0_bestAsked, .ref a0_bestMark, .ref a0_bestV])), (h0_nodes, .inl (k0_nodes, 134400, .inl f0_nodes))] sz)) (va_Qi (fun (r : Int32) (u : vu) => (u = ([(h0, .inr (8, [.ref a0_marks, .ref a0_classes, .int 0, .ref a0_isSort, .ref h0_nodes, .ref a0_many, .int 0, .ref a0_in, .int 20, .int 0, .int 0, .ref a0_asked, .ref a0_turned, .int 0, .int (-1), .int (-1), .ref a0_heap, .ref a0_heapYes, .ref a0_path, .ref a0_bestWrong, .ref a0_bestAsked, .ref a0_bestMark, .ref a0_bestV])), (h0_nodes, .inl (k0_nodes, 134400, .inl f0_nodes))], []) ∧ r = 0)) (fun u t => qw (dC, dI) u.2 (va_A [(h0, .inr (8, [.ref a0_marks, .ref a0_classes, .int 0, .ref a0_isSort, .ref h0_nodes, .ref a0_many, .int 0, .ref a0_in, .int 20, .int 0, .int 0, .ref a0_asked, .ref a0_turned, .int 0, .int (-1), .int (-1), .ref a0_heap, .ref a0_heapYes, .ref a0_path, .ref a0_bestWrong, .ref a0_bestAsked, .ref a0_bestMark, .ref a0_bestV])), (h0_nodes, .inl (k0_nodes, 134400, .inl f0_nodes))] sz) u.1 t) (va_A [(h0, .inr (8, [.ref a0_marks, .ref a0_classes, .int 0, .ref a0_isSort, .ref h0_nodes, .ref a0_many, .int 0, .ref a0_in, .int 20, .int 0, .int 0, .ref a0_asked, .ref a0_turned, .int 0, .int (-1), .int (-1), .ref a0_heap, .ref a0_heapYes, .ref a0_path, .ref a0_bestWrong, .ref a0_bestAsked, .ref a0_bestMark, .ref a0_bestV])), (h0_nodes, .inl (k0_nodes, 134400, .inl f0_nodes))] sz)) 0 0 (va_A [(h0, .inr (8, [.ref a0_marks, .ref a0_classes, .int 0, .ref a0_isSort, .ref h0_nodes, .ref a0_many, .int 0, .ref a0_in, .int 20, .int 0, .int 0, .ref a0_asked, .ref a0_turned, .int 0, .int (-1), .int (-1), .ref a0_heap, .ref a0_heapYes, .ref a0_path, .ref a0_bestWrong, .ref a0_bestAsked, .ref a0_bestMark, .ref a0_bestV])), (h0_nodes, .inl (k0_nodes, 134400, .inl f0_nodes))] sz) := by
  refine Met.ofW (cc := cX8_countAt) (maxL := 2) (ret := (some .int)) (by decide) rfl ?_
  intro p e s m args below meth c s₁ B hml hv
  obtain ⟨rfl, hsz, hP, hK, hD0, hN⟩ := hv
  have hx := B.exec
  have hb := B.bytes
  have hr := B.returns
  have hts := atoms_spec (ws := wsX8_countAt) B.pre
  have hown : s.vm.findClass RX8 = some m.cls := findClass_of_methodNamed B.named
  have hlocks := B.notSynchronized
  have hi8 : ∀ w ∈ u_ws RX8 TX8 23, w ∈ wsX8_countAt := fun _ h => List.mem_cons_of_mem _ (List.mem_append_right _ h)
  subst hsz
  have hD := hD0.self (sz := s.heap.size)
  generalize hAe : va_A [(h0, .inr (8, [.ref a0_marks, .ref a0_classes, .int 0, .ref a0_isSort, .ref h0_nodes, .ref a0_many, .int 0, .ref a0_in, .int 20, .int 0, .int 0, .ref a0_asked, .ref a0_turned, .int 0, .int (-1), .int (-1), .ref a0_heap, .ref a0_heapYes, .ref a0_path, .ref a0_bestWrong, .ref a0_bestAsked, .ref a0_bestMark, .ref a0_bestV])), (h0_nodes, .inl (k0_nodes, 134400, .inl f0_nodes))] s.heap.size = A at hD ⊢
  have hA : ∀ q : Nat, s.heap.size ≤ q → A q := fun q h => by rw [← hAe]; exact Or.inr h
  have hS : va_S A s.heap s.heap [] := va_S.rf
  have hl := lv_entry ([.ref h0, .int 128000]) (n := 2) (Nat.le_of_ble_eq_true rfl)
  rw [lg_entry_eq]
  generalize (lg_sl ([.ref h0, .int 128000]) ++ List.replicate (2 - (lg_sl ([.ref h0, .int 128000])).length) Slot.unset).toArray = ls at hl ⊢
  have hl : lv_has ls 2 [(0, .ref h0), (1, .int 128000)] := hl
  have hP : va_P (dC, dI) vwCl [(h0, .inr (8, [.ref a0_marks, .ref a0_classes, .int 0, .ref a0_isSort, .ref h0_nodes, .ref a0_many, .int 0, .ref a0_in, .int 20, .int 0, .int 0, .ref a0_asked, .ref a0_turned, .int 0, .int (-1), .int (-1), .ref a0_heap, .ref a0_heapYes, .ref a0_path, .ref a0_bestWrong, .ref a0_bestAsked, .ref a0_bestMark, .ref a0_bestV])), (h0_nodes, .inl (k0_nodes, 134400, .inl f0_nodes))] s.heap := hP
  refine lv_aload_n hx hb dX8_countAt_0 rfl (lv_at hl 0 rfl) ?_
  refine va_get (D := (dC, dI)) (ci := 8) (v := .ref h0_nodes) (C := RX8) (T := TX8) (N := 23) hx hb hts hi8 hown hK hP 0 rfl rfl 4 (by decide) (hts (.fieldLink RX8 21 "AskTreeModel" "nodes" "[I") (by decide +kernel)) (fun _ h9 => h9) rfl dX8_countAt_1 ?_
  refine lv_iload_n hx hb dX8_countAt_4 rfl (lv_at hl 1 rfl) ?_
  refine lv_bipush (v := 6) hx hb dX8_countAt_5 (by decide) ?_
  refine lv_iadd hx hb dX8_countAt_7 ?_
  refine tvv (v := .int 128006) (congrArg Value.int (by decide)) ?_
  refine va_iald hx hb hK hP 1 0 rfl rfl (vi _ _ (by decide)) dX8_countAt_8 ?_
  refine tvv (v := .int 0) (ci f0_nodes (k := 128006) (by decide) hy0_nodes_128006) ?_
  refine lv_aload_n hx hb dX8_countAt_9 rfl (lv_at hl 0 rfl) ?_
  refine va_get (D := (dC, dI)) (ci := 8) (v := .ref h0_nodes) (C := RX8) (T := TX8) (N := 23) hx hb hts hi8 hown hK hP 0 rfl rfl 4 (by decide) (hts (.fieldLink RX8 21 "AskTreeModel" "nodes" "[I") (by decide +kernel)) (fun _ h9 => h9) rfl dX8_countAt_10 ?_
  refine lv_iload_n hx hb dX8_countAt_13 rfl (lv_at hl 1 rfl) ?_
  refine lv_bipush (v := 7) hx hb dX8_countAt_14 (by decide) ?_
  refine lv_iadd hx hb dX8_countAt_16 ?_
  refine tvv (v := .int 128007) (congrArg Value.int (by decide)) ?_
  refine va_iald hx hb hK hP 1 0 rfl rfl (vi _ _ (by decide)) dX8_countAt_17 ?_
  refine tvv (v := .int 0) (ci f0_nodes (k := 128007) (by decide) hy0_nodes_128007) ?_
  refine lv_iadd hx hb dX8_countAt_18 ?_
  refine tvv (v := .int 0) (congrArg Value.int (by decide)) ?_
  refine lv_aload_n hx hb dX8_countAt_19 rfl (lv_at hl 0 rfl) ?_
  refine va_get (D := (dC, dI)) (ci := 8) (v := .ref h0_nodes) (C := RX8) (T := TX8) (N := 23) hx hb hts hi8 hown hK hP 0 rfl rfl 4 (by decide) (hts (.fieldLink RX8 21 "AskTreeModel" "nodes" "[I") (by decide +kernel)) (fun _ h9 => h9) rfl dX8_countAt_20 ?_
  refine lv_iload_n hx hb dX8_countAt_23 rfl (lv_at hl 1 rfl) ?_
  refine lv_bipush (v := 8) hx hb dX8_countAt_24 (by decide) ?_
  refine lv_iadd hx hb dX8_countAt_26 ?_
  refine tvv (v := .int 128008) (congrArg Value.int (by decide)) ?_
  refine va_iald hx hb hK hP 1 0 rfl rfl (vi _ _ (by decide)) dX8_countAt_27 ?_
  refine tvv (v := .int 0) (ci f0_nodes (k := 128008) (by decide) hy0_nodes_128008) ?_
  refine lv_iadd hx hb dX8_countAt_28 ?_
  refine tvv (v := .int 0) (congrArg Value.int (by decide)) ?_
  refine lv_aload_n hx hb dX8_countAt_29 rfl (lv_at hl 0 rfl) ?_
  refine va_get (D := (dC, dI)) (ci := 8) (v := .ref h0_nodes) (C := RX8) (T := TX8) (N := 23) hx hb hts hi8 hown hK hP 0 rfl rfl 4 (by decide) (hts (.fieldLink RX8 21 "AskTreeModel" "nodes" "[I") (by decide +kernel)) (fun _ h9 => h9) rfl dX8_countAt_30 ?_
  refine lv_iload_n hx hb dX8_countAt_33 rfl (lv_at hl 1 rfl) ?_
  refine lv_bipush (v := 9) hx hb dX8_countAt_34 (by decide) ?_
  refine lv_iadd hx hb dX8_countAt_36 ?_
  refine tvv (v := .int 128009) (congrArg Value.int (by decide)) ?_
  refine va_iald hx hb hK hP 1 0 rfl rfl (vi _ _ (by decide)) dX8_countAt_37 ?_
  refine tvv (v := .int 0) (ci f0_nodes (k := 128009) (by decide) hy0_nodes_128009) ?_
  refine lv_iadd hx hb dX8_countAt_38 ?_
  refine tvv (v := .int 0) (congrArg Value.int (by decide)) ?_
  have hP9 := hP.sub (ws' := [(h0, .inr (8, [.ref a0_marks, .ref a0_classes, .int 0, .ref a0_isSort, .ref h0_nodes, .ref a0_many, .int 0, .ref a0_in, .int 20, .int 0, .int 0, .ref a0_asked, .ref a0_turned, .int 0, .int (-1), .int (-1), .ref a0_heap, .ref a0_heapYes, .ref a0_path, .ref a0_bestWrong, .ref a0_bestAsked, .ref a0_bestMark, .ref a0_bestV])), (h0_nodes, .inl (k0_nodes, 134400, .inl f0_nodes))]) [0, 1] rfl
  have hD9 := hD.sub (ws' := [(h0, .inr (8, [.ref a0_marks, .ref a0_classes, .int 0, .ref a0_isSort, .ref h0_nodes, .ref a0_many, .int 0, .ref a0_in, .int 20, .int 0, .int 0, .ref a0_asked, .ref a0_turned, .int 0, .int (-1), .int (-1), .ref a0_heap, .ref a0_heapYes, .ref a0_path, .ref a0_bestWrong, .ref a0_bestAsked, .ref a0_bestMark, .ref a0_bestV])), (h0_nodes, .inl (k0_nodes, 134400, .inl f0_nodes))]) [0, 1] (by decide) rfl
  have hK9 := hK.sub (tys' := []) [] rfl
  exact W.iret (v := 0) hx hb hr (fun t ht hW => ⟨⟨0, ([(h0, .inr (8, [.ref a0_marks, .ref a0_classes, .int 0, .ref a0_isSort, .ref h0_nodes, .ref a0_many, .int 0, .ref a0_in, .int 20, .int 0, .int 0, .ref a0_asked, .ref a0_turned, .int 0, .int (-1), .int (-1), .ref a0_heap, .ref a0_heapYes, .ref a0_path, .ref a0_bestWrong, .ref a0_bestAsked, .ref a0_bestMark, .ref a0_bestV])), (h0_nodes, .inl (k0_nodes, 134400, .inl f0_nodes))], []), rfl, ⟨rfl, rfl⟩, (by rw [ht]; exact hP9), va_K.moved hW.alike hK9, hD9⟩, hS.F ht⟩) hS.2.2 dX8_countAt_39

set_option maxHeartbeats 4000000 in
set_option maxRecDepth 100000 in
theorem c_classAt20 (l : Launch) (dC : Nat → ClassId) (dI : Nat → Nat → Nat) (sz : Nat) (h0 : Nat) (h0_nodes : Nat) (a0_marks : Nat) (a0_classes : Nat) (a0_isSort : Nat) (a0_many : Nat) (a0_in : Nat) (a0_asked : Nat) (a0_turned : Nat) (a0_heap : Nat) (a0_heapYes : Nat) (a0_path : Nat) (a0_bestWrong : Nat) (a0_bestAsked : Nat) (a0_bestMark : Nat) (a0_bestV : Nat) (k0_nodes : ClassId) (f0_nodes : Nat → Int32) (hy0_nodes_128006 : f0_nodes 128006 = 0) (hy0_nodes_128007 : f0_nodes 128007 = 0) (hy0_nodes_128008 : f0_nodes 128008 = 0) (hy0_nodes_128009 : f0_nodes 128009 = 0)  : Met l yX8_classAt wsX8_classAt ({ frames := 1, cells := 0, slots := 0, locals := 60 }) (va_Pc [.ref h0, .int 128000] (pw (dC, dI) [(k0_nodes, .int)] [(h0, .inr (8, [.ref a0_marks, .ref a0_classes, .int 0, .ref a0_isSort, .ref h0_nodes, .ref a0_many, .int 0, .ref a0_in, .int 20, .int 0, .int 0, .ref a0_asked, .ref a0_turned, .int 0, .int (-1), .int (-1), .ref a0_heap, .ref a0_heapYes, .ref a0_path, .ref a0_bestWrong, .ref a0_bestAsked, .ref a0_bestMark, .ref a0_bestV])), (h0_nodes, .inl (k0_nodes, 134400, .inl f0_nodes))] sz)) (va_Qi (fun (r : Int32) (u : vu) => (u = ([(h0, .inr (8, [.ref a0_marks, .ref a0_classes, .int 0, .ref a0_isSort, .ref h0_nodes, .ref a0_many, .int 0, .ref a0_in, .int 20, .int 0, .int 0, .ref a0_asked, .ref a0_turned, .int 0, .int (-1), .int (-1), .ref a0_heap, .ref a0_heapYes, .ref a0_path, .ref a0_bestWrong, .ref a0_bestAsked, .ref a0_bestMark, .ref a0_bestV])), (h0_nodes, .inl (k0_nodes, 134400, .inl f0_nodes))], []) ∧ r = 0)) (fun u t => qw (dC, dI) u.2 (va_A [(h0, .inr (8, [.ref a0_marks, .ref a0_classes, .int 0, .ref a0_isSort, .ref h0_nodes, .ref a0_many, .int 0, .ref a0_in, .int 20, .int 0, .int 0, .ref a0_asked, .ref a0_turned, .int 0, .int (-1), .int (-1), .ref a0_heap, .ref a0_heapYes, .ref a0_path, .ref a0_bestWrong, .ref a0_bestAsked, .ref a0_bestMark, .ref a0_bestV])), (h0_nodes, .inl (k0_nodes, 134400, .inl f0_nodes))] sz) u.1 t) (va_A [(h0, .inr (8, [.ref a0_marks, .ref a0_classes, .int 0, .ref a0_isSort, .ref h0_nodes, .ref a0_many, .int 0, .ref a0_in, .int 20, .int 0, .int 0, .ref a0_asked, .ref a0_turned, .int 0, .int (-1), .int (-1), .ref a0_heap, .ref a0_heapYes, .ref a0_path, .ref a0_bestWrong, .ref a0_bestAsked, .ref a0_bestMark, .ref a0_bestV])), (h0_nodes, .inl (k0_nodes, 134400, .inl f0_nodes))] sz)) 0 0 (va_A [(h0, .inr (8, [.ref a0_marks, .ref a0_classes, .int 0, .ref a0_isSort, .ref h0_nodes, .ref a0_many, .int 0, .ref a0_in, .int 20, .int 0, .int 0, .ref a0_asked, .ref a0_turned, .int 0, .int (-1), .int (-1), .ref a0_heap, .ref a0_heapYes, .ref a0_path, .ref a0_bestWrong, .ref a0_bestAsked, .ref a0_bestMark, .ref a0_bestV])), (h0_nodes, .inl (k0_nodes, 134400, .inl f0_nodes))] sz) := by
  refine Met.ofW (cc := cX8_classAt) (maxL := 4) (ret := (some .int)) (by decide) rfl ?_
  intro p e s m args below meth c s₁ B hml hv
  obtain ⟨rfl, hsz, hP, hK, hD0, hN⟩ := hv
  have hx := B.exec
  have hb := B.bytes
  have hr := B.returns
  have hts := atoms_spec (ws := wsX8_classAt) B.pre
  have hown : s.vm.findClass RX8 = some m.cls := findClass_of_methodNamed B.named
  have hlocks := B.notSynchronized
  have hi8 : ∀ w ∈ u_ws RX8 TX8 23, w ∈ wsX8_classAt := fun _ h => List.mem_cons_of_mem _ (List.mem_append_right _ h)
  subst hsz
  have hD := hD0.self (sz := s.heap.size)
  generalize hAe : va_A [(h0, .inr (8, [.ref a0_marks, .ref a0_classes, .int 0, .ref a0_isSort, .ref h0_nodes, .ref a0_many, .int 0, .ref a0_in, .int 20, .int 0, .int 0, .ref a0_asked, .ref a0_turned, .int 0, .int (-1), .int (-1), .ref a0_heap, .ref a0_heapYes, .ref a0_path, .ref a0_bestWrong, .ref a0_bestAsked, .ref a0_bestMark, .ref a0_bestV])), (h0_nodes, .inl (k0_nodes, 134400, .inl f0_nodes))] s.heap.size = A at hD ⊢
  have hA : ∀ q : Nat, s.heap.size ≤ q → A q := fun q h => by rw [← hAe]; exact Or.inr h
  have hS : va_S A s.heap s.heap [] := va_S.rf
  have hl := lv_entry ([.ref h0, .int 128000]) (n := 4) (Nat.le_of_ble_eq_true rfl)
  rw [lg_entry_eq]
  generalize (lg_sl ([.ref h0, .int 128000]) ++ List.replicate (4 - (lg_sl ([.ref h0, .int 128000])).length) Slot.unset).toArray = ls at hl ⊢
  have hl : lv_has ls 4 [(0, .ref h0), (1, .int 128000)] := hl
  have hP : va_P (dC, dI) vwCl [(h0, .inr (8, [.ref a0_marks, .ref a0_classes, .int 0, .ref a0_isSort, .ref h0_nodes, .ref a0_many, .int 0, .ref a0_in, .int 20, .int 0, .int 0, .ref a0_asked, .ref a0_turned, .int 0, .int (-1), .int (-1), .ref a0_heap, .ref a0_heapYes, .ref a0_path, .ref a0_bestWrong, .ref a0_bestAsked, .ref a0_bestMark, .ref a0_bestV])), (h0_nodes, .inl (k0_nodes, 134400, .inl f0_nodes))] s.heap := hP
  refine lv_iconst (v := 0) hx hb dX8_classAt_0 (by decide) ?_
  refine lv_istore_n (lv' := [(2, .int 0), (0, .ref h0), (1, .int 128000)]) hx hb dX8_classAt_1 rfl hl (by decide) rfl (fun ls hl => ?_)
  refine lv_iconst (v := 1) hx hb dX8_classAt_2 (by decide) ?_
  refine lv_istore_n (lv' := [(3, .int 1), (2, .int 0), (0, .ref h0), (1, .int 128000)]) hx hb dX8_classAt_3 rfl hl (by decide) rfl (fun ls hl => ?_)
  refine lv_iload_n hx hb dX8_classAt_4 rfl (lv_at hl 0 rfl) ?_
  refine lv_iconst (v := 4) hx hb dX8_classAt_5 (by decide) ?_
  refine lv_icmp_ge (tgt := 46) hx hb dX8_classAt_6 (by decide) (fun c_1 => ?_) (fun c_1 => ?_)
  · exact absurd c_1 (by decide)
  refine lv_aload_n hx hb dX8_classAt_9 rfl (lv_at hl 2 rfl) ?_
  refine va_get (D := (dC, dI)) (ci := 8) (v := .ref h0_nodes) (C := RX8) (T := TX8) (N := 23) hx hb hts hi8 hown hK hP 0 rfl rfl 4 (by decide) (hts (.fieldLink RX8 21 "AskTreeModel" "nodes" "[I") (by decide +kernel)) (fun _ h9 => h9) rfl dX8_classAt_10 ?_
  refine lv_iload_n hx hb dX8_classAt_13 rfl (lv_at hl 3 rfl) ?_
  refine lv_bipush (v := 6) hx hb dX8_classAt_14 (by decide) ?_
  refine lv_iadd hx hb dX8_classAt_16 ?_
  refine tvv (v := .int 128006) (congrArg Value.int (by decide)) ?_
  refine lv_iload_n hx hb dX8_classAt_17 rfl (lv_at hl 0 rfl) ?_
  refine lv_iadd hx hb dX8_classAt_18 ?_
  refine tvv (v := .int 128007) (congrArg Value.int (by decide)) ?_
  refine va_iald hx hb hK hP 1 0 rfl rfl (vi _ _ (by decide)) dX8_classAt_19 ?_
  refine tvv (v := .int 0) (ci f0_nodes (k := 128007) (by decide) hy0_nodes_128007) ?_
  refine lv_aload_n hx hb dX8_classAt_20 rfl (lv_at hl 2 rfl) ?_
  refine va_get (D := (dC, dI)) (ci := 8) (v := .ref h0_nodes) (C := RX8) (T := TX8) (N := 23) hx hb hts hi8 hown hK hP 0 rfl rfl 4 (by decide) (hts (.fieldLink RX8 21 "AskTreeModel" "nodes" "[I") (by decide +kernel)) (fun _ h9 => h9) rfl dX8_classAt_21 ?_
  refine lv_iload_n hx hb dX8_classAt_24 rfl (lv_at hl 3 rfl) ?_
  refine lv_bipush (v := 6) hx hb dX8_classAt_25 (by decide) ?_
  refine lv_iadd hx hb dX8_classAt_27 ?_
  refine tvv (v := .int 128006) (congrArg Value.int (by decide)) ?_
  refine lv_iload_n hx hb dX8_classAt_28 rfl (lv_at hl 1 rfl) ?_
  refine lv_iadd hx hb dX8_classAt_29 ?_
  refine tvv (v := .int 128006) (congrArg Value.int (by decide)) ?_
  refine va_iald hx hb hK hP 1 0 rfl rfl (vi _ _ (by decide)) dX8_classAt_30 ?_
  refine tvv (v := .int 0) (ci f0_nodes (k := 128006) (by decide) hy0_nodes_128006) ?_
  refine lv_icmp_le (tgt := 38) hx hb dX8_classAt_31 (by decide) (fun c_2 => ?_) (fun c_2 => ?_)
  rotate_left
  · exact absurd c_2 (by decide)
  refine lv_iload_n hx hb dX8_classAt_38 rfl (lv_at hl 1 rfl) ?_
  refine lv_istore_n (lv' := [(2, .int 0), (3, .int 1), (0, .ref h0), (1, .int 128000)]) hx hb dX8_classAt_39 rfl hl (by decide) rfl (fun ls hl => ?_)
  refine lv_iinc (v := 2) (lv' := [(3, .int 2), (2, .int 0), (0, .ref h0), (1, .int 128000)]) hx hb dX8_classAt_40 hl (k := 1) rfl (by decide) (by decide) rfl (fun ls hl => ?_)
  refine lv_goto (tgt := 4) hx hb dX8_classAt_43 (by decide) ?_
  refine lv_iload_n hx hb dX8_classAt_4 rfl (lv_at hl 0 rfl) ?_
  refine lv_iconst (v := 4) hx hb dX8_classAt_5 (by decide) ?_
  refine lv_icmp_ge (tgt := 46) hx hb dX8_classAt_6 (by decide) (fun c_3 => ?_) (fun c_3 => ?_)
  · exact absurd c_3 (by decide)
  refine lv_aload_n hx hb dX8_classAt_9 rfl (lv_at hl 2 rfl) ?_
  refine va_get (D := (dC, dI)) (ci := 8) (v := .ref h0_nodes) (C := RX8) (T := TX8) (N := 23) hx hb hts hi8 hown hK hP 0 rfl rfl 4 (by decide) (hts (.fieldLink RX8 21 "AskTreeModel" "nodes" "[I") (by decide +kernel)) (fun _ h9 => h9) rfl dX8_classAt_10 ?_
  refine lv_iload_n hx hb dX8_classAt_13 rfl (lv_at hl 3 rfl) ?_
  refine lv_bipush (v := 6) hx hb dX8_classAt_14 (by decide) ?_
  refine lv_iadd hx hb dX8_classAt_16 ?_
  refine tvv (v := .int 128006) (congrArg Value.int (by decide)) ?_
  refine lv_iload_n hx hb dX8_classAt_17 rfl (lv_at hl 0 rfl) ?_
  refine lv_iadd hx hb dX8_classAt_18 ?_
  refine tvv (v := .int 128008) (congrArg Value.int (by decide)) ?_
  refine va_iald hx hb hK hP 1 0 rfl rfl (vi _ _ (by decide)) dX8_classAt_19 ?_
  refine tvv (v := .int 0) (ci f0_nodes (k := 128008) (by decide) hy0_nodes_128008) ?_
  refine lv_aload_n hx hb dX8_classAt_20 rfl (lv_at hl 2 rfl) ?_
  refine va_get (D := (dC, dI)) (ci := 8) (v := .ref h0_nodes) (C := RX8) (T := TX8) (N := 23) hx hb hts hi8 hown hK hP 0 rfl rfl 4 (by decide) (hts (.fieldLink RX8 21 "AskTreeModel" "nodes" "[I") (by decide +kernel)) (fun _ h9 => h9) rfl dX8_classAt_21 ?_
  refine lv_iload_n hx hb dX8_classAt_24 rfl (lv_at hl 3 rfl) ?_
  refine lv_bipush (v := 6) hx hb dX8_classAt_25 (by decide) ?_
  refine lv_iadd hx hb dX8_classAt_27 ?_
  refine tvv (v := .int 128006) (congrArg Value.int (by decide)) ?_
  refine lv_iload_n hx hb dX8_classAt_28 rfl (lv_at hl 1 rfl) ?_
  refine lv_iadd hx hb dX8_classAt_29 ?_
  refine tvv (v := .int 128006) (congrArg Value.int (by decide)) ?_
  refine va_iald hx hb hK hP 1 0 rfl rfl (vi _ _ (by decide)) dX8_classAt_30 ?_
  refine tvv (v := .int 0) (ci f0_nodes (k := 128006) (by decide) hy0_nodes_128006) ?_
  refine lv_icmp_le (tgt := 38) hx hb dX8_classAt_31 (by decide) (fun c_4 => ?_) (fun c_4 => ?_)
  rotate_left
  · exact absurd c_4 (by decide)
  refine lv_iload_n hx hb dX8_classAt_38 rfl (lv_at hl 1 rfl) ?_
  refine lv_istore_n (lv' := [(2, .int 0), (3, .int 2), (0, .ref h0), (1, .int 128000)]) hx hb dX8_classAt_39 rfl hl (by decide) rfl (fun ls hl => ?_)
  refine lv_iinc (v := 3) (lv' := [(3, .int 3), (2, .int 0), (0, .ref h0), (1, .int 128000)]) hx hb dX8_classAt_40 hl (k := 1) rfl (by decide) (by decide) rfl (fun ls hl => ?_)
  refine lv_goto (tgt := 4) hx hb dX8_classAt_43 (by decide) ?_
  refine lv_iload_n hx hb dX8_classAt_4 rfl (lv_at hl 0 rfl) ?_
  refine lv_iconst (v := 4) hx hb dX8_classAt_5 (by decide) ?_
  refine lv_icmp_ge (tgt := 46) hx hb dX8_classAt_6 (by decide) (fun c_5 => ?_) (fun c_5 => ?_)
  · exact absurd c_5 (by decide)
  refine lv_aload_n hx hb dX8_classAt_9 rfl (lv_at hl 2 rfl) ?_
  refine va_get (D := (dC, dI)) (ci := 8) (v := .ref h0_nodes) (C := RX8) (T := TX8) (N := 23) hx hb hts hi8 hown hK hP 0 rfl rfl 4 (by decide) (hts (.fieldLink RX8 21 "AskTreeModel" "nodes" "[I") (by decide +kernel)) (fun _ h9 => h9) rfl dX8_classAt_10 ?_
  refine lv_iload_n hx hb dX8_classAt_13 rfl (lv_at hl 3 rfl) ?_
  refine lv_bipush (v := 6) hx hb dX8_classAt_14 (by decide) ?_
  refine lv_iadd hx hb dX8_classAt_16 ?_
  refine tvv (v := .int 128006) (congrArg Value.int (by decide)) ?_
  refine lv_iload_n hx hb dX8_classAt_17 rfl (lv_at hl 0 rfl) ?_
  refine lv_iadd hx hb dX8_classAt_18 ?_
  refine tvv (v := .int 128009) (congrArg Value.int (by decide)) ?_
  refine va_iald hx hb hK hP 1 0 rfl rfl (vi _ _ (by decide)) dX8_classAt_19 ?_
  refine tvv (v := .int 0) (ci f0_nodes (k := 128009) (by decide) hy0_nodes_128009) ?_
  refine lv_aload_n hx hb dX8_classAt_20 rfl (lv_at hl 2 rfl) ?_
  refine va_get (D := (dC, dI)) (ci := 8) (v := .ref h0_nodes) (C := RX8) (T := TX8) (N := 23) hx hb hts hi8 hown hK hP 0 rfl rfl 4 (by decide) (hts (.fieldLink RX8 21 "AskTreeModel" "nodes" "[I") (by decide +kernel)) (fun _ h9 => h9) rfl dX8_classAt_21 ?_
  refine lv_iload_n hx hb dX8_classAt_24 rfl (lv_at hl 3 rfl) ?_
  refine lv_bipush (v := 6) hx hb dX8_classAt_25 (by decide) ?_
  refine lv_iadd hx hb dX8_classAt_27 ?_
  refine tvv (v := .int 128006) (congrArg Value.int (by decide)) ?_
  refine lv_iload_n hx hb dX8_classAt_28 rfl (lv_at hl 1 rfl) ?_
  refine lv_iadd hx hb dX8_classAt_29 ?_
  refine tvv (v := .int 128006) (congrArg Value.int (by decide)) ?_
  refine va_iald hx hb hK hP 1 0 rfl rfl (vi _ _ (by decide)) dX8_classAt_30 ?_
  refine tvv (v := .int 0) (ci f0_nodes (k := 128006) (by decide) hy0_nodes_128006) ?_
  refine lv_icmp_le (tgt := 38) hx hb dX8_classAt_31 (by decide) (fun c_6 => ?_) (fun c_6 => ?_)
  rotate_left
  · exact absurd c_6 (by decide)
  refine lv_iload_n hx hb dX8_classAt_38 rfl (lv_at hl 1 rfl) ?_
  refine lv_istore_n (lv' := [(2, .int 0), (3, .int 3), (0, .ref h0), (1, .int 128000)]) hx hb dX8_classAt_39 rfl hl (by decide) rfl (fun ls hl => ?_)
  refine lv_iinc (v := 4) (lv' := [(3, .int 4), (2, .int 0), (0, .ref h0), (1, .int 128000)]) hx hb dX8_classAt_40 hl (k := 1) rfl (by decide) (by decide) rfl (fun ls hl => ?_)
  refine lv_goto (tgt := 4) hx hb dX8_classAt_43 (by decide) ?_
  refine lv_iload_n hx hb dX8_classAt_4 rfl (lv_at hl 0 rfl) ?_
  refine lv_iconst (v := 4) hx hb dX8_classAt_5 (by decide) ?_
  refine lv_icmp_ge (tgt := 46) hx hb dX8_classAt_6 (by decide) (fun c_7 => ?_) (fun c_7 => ?_)
  rotate_left
  · exact absurd c_7 (by decide)
  refine lv_iload_n hx hb dX8_classAt_46 rfl (lv_at hl 1 rfl) ?_
  have hP9 := hP.sub (ws' := [(h0, .inr (8, [.ref a0_marks, .ref a0_classes, .int 0, .ref a0_isSort, .ref h0_nodes, .ref a0_many, .int 0, .ref a0_in, .int 20, .int 0, .int 0, .ref a0_asked, .ref a0_turned, .int 0, .int (-1), .int (-1), .ref a0_heap, .ref a0_heapYes, .ref a0_path, .ref a0_bestWrong, .ref a0_bestAsked, .ref a0_bestMark, .ref a0_bestV])), (h0_nodes, .inl (k0_nodes, 134400, .inl f0_nodes))]) [0, 1] rfl
  have hD9 := hD.sub (ws' := [(h0, .inr (8, [.ref a0_marks, .ref a0_classes, .int 0, .ref a0_isSort, .ref h0_nodes, .ref a0_many, .int 0, .ref a0_in, .int 20, .int 0, .int 0, .ref a0_asked, .ref a0_turned, .int 0, .int (-1), .int (-1), .ref a0_heap, .ref a0_heapYes, .ref a0_path, .ref a0_bestWrong, .ref a0_bestAsked, .ref a0_bestMark, .ref a0_bestV])), (h0_nodes, .inl (k0_nodes, 134400, .inl f0_nodes))]) [0, 1] (by decide) rfl
  have hK9 := hK.sub (tys' := []) [] rfl
  exact W.iret (v := 0) hx hb hr (fun t ht hW => ⟨⟨0, ([(h0, .inr (8, [.ref a0_marks, .ref a0_classes, .int 0, .ref a0_isSort, .ref h0_nodes, .ref a0_many, .int 0, .ref a0_in, .int 20, .int 0, .int 0, .ref a0_asked, .ref a0_turned, .int 0, .int (-1), .int (-1), .ref a0_heap, .ref a0_heapYes, .ref a0_path, .ref a0_bestWrong, .ref a0_bestAsked, .ref a0_bestMark, .ref a0_bestV])), (h0_nodes, .inl (k0_nodes, 134400, .inl f0_nodes))], []), rfl, ⟨rfl, rfl⟩, (by rw [ht]; exact hP9), va_K.moved hW.alike hK9, hD9⟩, hS.F ht⟩) hS.2.2 dX8_classAt_47

set_option maxHeartbeats 4000000 in
set_option maxRecDepth 100000 in
theorem c_wrongAt20 (l : Launch) (dC : Nat → ClassId) (dI : Nat → Nat → Nat) (sz : Nat) (h0 : Nat) (h0_nodes : Nat) (a0_marks : Nat) (a0_classes : Nat) (a0_isSort : Nat) (a0_many : Nat) (a0_in : Nat) (a0_asked : Nat) (a0_turned : Nat) (a0_heap : Nat) (a0_heapYes : Nat) (a0_path : Nat) (a0_bestWrong : Nat) (a0_bestAsked : Nat) (a0_bestMark : Nat) (a0_bestV : Nat) (k0_nodes : ClassId) (f0_nodes : Nat → Int32) (hy0_nodes_128006 : f0_nodes 128006 = 0) (hy0_nodes_128007 : f0_nodes 128007 = 0) (hy0_nodes_128008 : f0_nodes 128008 = 0) (hy0_nodes_128009 : f0_nodes 128009 = 0)  : Met l yX8_wrongAt wsX8_wrongAt ({ frames := 2, cells := 0, slots := 0, locals := 83 }) (va_Pc [.ref h0, .int 128000] (pw (dC, dI) [(k0_nodes, .int)] [(h0, .inr (8, [.ref a0_marks, .ref a0_classes, .int 0, .ref a0_isSort, .ref h0_nodes, .ref a0_many, .int 0, .ref a0_in, .int 20, .int 0, .int 0, .ref a0_asked, .ref a0_turned, .int 0, .int (-1), .int (-1), .ref a0_heap, .ref a0_heapYes, .ref a0_path, .ref a0_bestWrong, .ref a0_bestAsked, .ref a0_bestMark, .ref a0_bestV])), (h0_nodes, .inl (k0_nodes, 134400, .inl f0_nodes))] sz)) (va_Qi (fun (r : Int32) (u : vu) => (u = ([(h0, .inr (8, [.ref a0_marks, .ref a0_classes, .int 0, .ref a0_isSort, .ref h0_nodes, .ref a0_many, .int 0, .ref a0_in, .int 20, .int 0, .int 0, .ref a0_asked, .ref a0_turned, .int 0, .int (-1), .int (-1), .ref a0_heap, .ref a0_heapYes, .ref a0_path, .ref a0_bestWrong, .ref a0_bestAsked, .ref a0_bestMark, .ref a0_bestV])), (h0_nodes, .inl (k0_nodes, 134400, .inl f0_nodes))], []) ∧ r = 0)) (fun u t => qw (dC, dI) u.2 (va_A [(h0, .inr (8, [.ref a0_marks, .ref a0_classes, .int 0, .ref a0_isSort, .ref h0_nodes, .ref a0_many, .int 0, .ref a0_in, .int 20, .int 0, .int 0, .ref a0_asked, .ref a0_turned, .int 0, .int (-1), .int (-1), .ref a0_heap, .ref a0_heapYes, .ref a0_path, .ref a0_bestWrong, .ref a0_bestAsked, .ref a0_bestMark, .ref a0_bestV])), (h0_nodes, .inl (k0_nodes, 134400, .inl f0_nodes))] sz) u.1 t) (va_A [(h0, .inr (8, [.ref a0_marks, .ref a0_classes, .int 0, .ref a0_isSort, .ref h0_nodes, .ref a0_many, .int 0, .ref a0_in, .int 20, .int 0, .int 0, .ref a0_asked, .ref a0_turned, .int 0, .int (-1), .int (-1), .ref a0_heap, .ref a0_heapYes, .ref a0_path, .ref a0_bestWrong, .ref a0_bestAsked, .ref a0_bestMark, .ref a0_bestV])), (h0_nodes, .inl (k0_nodes, 134400, .inl f0_nodes))] sz)) 0 0 (va_A [(h0, .inr (8, [.ref a0_marks, .ref a0_classes, .int 0, .ref a0_isSort, .ref h0_nodes, .ref a0_many, .int 0, .ref a0_in, .int 20, .int 0, .int 0, .ref a0_asked, .ref a0_turned, .int 0, .int (-1), .int (-1), .ref a0_heap, .ref a0_heapYes, .ref a0_path, .ref a0_bestWrong, .ref a0_bestAsked, .ref a0_bestMark, .ref a0_bestV])), (h0_nodes, .inl (k0_nodes, 134400, .inl f0_nodes))] sz) := by
  refine Met.ofW (cc := cX8_wrongAt) (maxL := 2) (ret := (some .int)) (by decide) rfl ?_
  intro p e s m args below meth c s₁ B hml hv
  obtain ⟨rfl, hsz, hP, hK, hD0, hN⟩ := hv
  have hx := B.exec
  have hb := B.bytes
  have hr := B.returns
  have hts := atoms_spec (ws := wsX8_wrongAt) B.pre
  have hown : s.vm.findClass RX8 = some m.cls := findClass_of_methodNamed B.named
  have hlocks := B.notSynchronized
  have hi8 : ∀ w ∈ u_ws RX8 TX8 23, w ∈ wsX8_wrongAt := fun _ h => List.mem_cons_of_mem _ (List.mem_append_right _ h)
  subst hsz
  have hD := hD0.self (sz := s.heap.size)
  generalize hAe : va_A [(h0, .inr (8, [.ref a0_marks, .ref a0_classes, .int 0, .ref a0_isSort, .ref h0_nodes, .ref a0_many, .int 0, .ref a0_in, .int 20, .int 0, .int 0, .ref a0_asked, .ref a0_turned, .int 0, .int (-1), .int (-1), .ref a0_heap, .ref a0_heapYes, .ref a0_path, .ref a0_bestWrong, .ref a0_bestAsked, .ref a0_bestMark, .ref a0_bestV])), (h0_nodes, .inl (k0_nodes, 134400, .inl f0_nodes))] s.heap.size = A at hD ⊢
  have hA : ∀ q : Nat, s.heap.size ≤ q → A q := fun q h => by rw [← hAe]; exact Or.inr h
  have hS : va_S A s.heap s.heap [] := va_S.rf
  have hl := lv_entry ([.ref h0, .int 128000]) (n := 2) (Nat.le_of_ble_eq_true rfl)
  rw [lg_entry_eq]
  generalize (lg_sl ([.ref h0, .int 128000]) ++ List.replicate (2 - (lg_sl ([.ref h0, .int 128000])).length) Slot.unset).toArray = ls at hl ⊢
  have hl : lv_has ls 2 [(0, .ref h0), (1, .int 128000)] := hl
  have hP : va_P (dC, dI) vwCl [(h0, .inr (8, [.ref a0_marks, .ref a0_classes, .int 0, .ref a0_isSort, .ref h0_nodes, .ref a0_many, .int 0, .ref a0_in, .int 20, .int 0, .int 0, .ref a0_asked, .ref a0_turned, .int 0, .int (-1), .int (-1), .ref a0_heap, .ref a0_heapYes, .ref a0_path, .ref a0_bestWrong, .ref a0_bestAsked, .ref a0_bestMark, .ref a0_bestV])), (h0_nodes, .inl (k0_nodes, 134400, .inl f0_nodes))] s.heap := hP
  refine lv_aload_n hx hb dX8_wrongAt_0 rfl (lv_at hl 0 rfl) ?_
  refine lv_iload_n hx hb dX8_wrongAt_1 rfl (lv_at hl 1 rfl) ?_
  have hPc := hP.sub (ws' := [(h0, .inr (8, [.ref a0_marks, .ref a0_classes, .int 0, .ref a0_isSort, .ref h0_nodes, .ref a0_many, .int 0, .ref a0_in, .int 20, .int 0, .int 0, .ref a0_asked, .ref a0_turned, .int 0, .int (-1), .int (-1), .ref a0_heap, .ref a0_heapYes, .ref a0_path, .ref a0_bestWrong, .ref a0_bestAsked, .ref a0_bestMark, .ref a0_bestV])), (h0_nodes, .inl (k0_nodes, 134400, .inl f0_nodes))]) [0, 1] rfl
  have hDc := hD.sub (ws' := [(h0, .inr (8, [.ref a0_marks, .ref a0_classes, .int 0, .ref a0_isSort, .ref h0_nodes, .ref a0_many, .int 0, .ref a0_in, .int 20, .int 0, .int 0, .ref a0_asked, .ref a0_turned, .int 0, .int (-1), .int (-1), .ref a0_heap, .ref a0_heapYes, .ref a0_path, .ref a0_bestWrong, .ref a0_bestAsked, .ref a0_bestMark, .ref a0_bestV])), (h0_nodes, .inl (k0_nodes, 134400, .inl f0_nodes))]) [0, 1] (by decide) rfl
  have hKc := hK.sub (tys' := [(k0_nodes, .int)]) [0] rfl
  have hFc := va_free (wc := [(h0, .inr (8, [.ref a0_marks, .ref a0_classes, .int 0, .ref a0_isSort, .ref h0_nodes, .ref a0_many, .int 0, .ref a0_in, .int 20, .int 0, .int 0, .ref a0_asked, .ref a0_turned, .int 0, .int (-1), .int (-1), .ref a0_heap, .ref a0_heapYes, .ref a0_path, .ref a0_bestWrong, .ref a0_bestAsked, .ref a0_bestMark, .ref a0_bestV])), (h0_nodes, .inl (k0_nodes, 134400, .inl f0_nodes))]) hD hS hA [0, 1] rfl
  refine va_calli (va_runV (As := [.int 128000]) (rest := []) ⟨hx, hb, hml, hown, hts⟩ (c_countAt20 l dC dI s.heap.size h0 h0_nodes a0_marks a0_classes a0_isSort a0_many a0_in a0_asked a0_turned a0_heap a0_heapYes a0_path a0_bestWrong a0_bestAsked a0_bestMark a0_bestV k0_nodes f0_nodes hy0_nodes_128006 hy0_nodes_128007 hy0_nodes_128008 hy0_nodes_128009) (cwV 1 hts gX8_wrongAt_X8_countAt rfl rfl rfl (by decide +kernel) ⟨Nat.le_of_ble_eq_true rfl, Nat.le_of_ble_eq_true rfl⟩) (pre_V hPc hKc hDc hN (ci := 8) (q0 := 0) rfl rfl) rfl rfl hl.1 rfl (lv_room (Nat.le_of_ble_eq_true rfl)) dX8_wrongAt_2 ⟨Nat.le_of_ble_eq_true rfl, Nat.le_of_ble_eq_true rfl⟩) hS (fun q _ h => hFc q h) hFc (fun r_1 u t H1 locs ht hvm hw hB hz1 hk1 hS => ?_)
  clear hPc hDc hKc
  obtain ⟨rfl, rfl⟩ := hw
  obtain ⟨hP1, hK1, hD1⟩ := hB
  rw [ht] at hP1
  obtain ⟨hP, hD⟩ := va_join (wr := []) (w1 := [(h0, .inr (8, [.ref a0_marks, .ref a0_classes, .int 0, .ref a0_isSort, .ref h0_nodes, .ref a0_many, .int 0, .ref a0_in, .int 20, .int 0, .int 0, .ref a0_asked, .ref a0_turned, .int 0, .int (-1), .int (-1), .ref a0_heap, .ref a0_heapYes, .ref a0_path, .ref a0_bestWrong, .ref a0_bestAsked, .ref a0_bestMark, .ref a0_bestV])), (h0_nodes, .inl (k0_nodes, 134400, .inl f0_nodes))]) hP hD [0, 1] [] rfl rfl (by decide) (by decide) hk1 hFc hP1 hD1
  generalize H1 = H at hP hS ⊢
  clear hP1 hD1 hFc hk1 hz1 ht hvm hK1
  have hP : va_P (dC, dI) vwCl [(h0, .inr (8, [.ref a0_marks, .ref a0_classes, .int 0, .ref a0_isSort, .ref h0_nodes, .ref a0_many, .int 0, .ref a0_in, .int 20, .int 0, .int 0, .ref a0_asked, .ref a0_turned, .int 0, .int (-1), .int (-1), .ref a0_heap, .ref a0_heapYes, .ref a0_path, .ref a0_bestWrong, .ref a0_bestAsked, .ref a0_bestMark, .ref a0_bestV])), (h0_nodes, .inl (k0_nodes, 134400, .inl f0_nodes))] H := hP
  have hD : va_D A [(h0, .inr (8, [.ref a0_marks, .ref a0_classes, .int 0, .ref a0_isSort, .ref h0_nodes, .ref a0_many, .int 0, .ref a0_in, .int 20, .int 0, .int 0, .ref a0_asked, .ref a0_turned, .int 0, .int (-1), .int (-1), .ref a0_heap, .ref a0_heapYes, .ref a0_path, .ref a0_bestWrong, .ref a0_bestAsked, .ref a0_bestMark, .ref a0_bestV])), (h0_nodes, .inl (k0_nodes, 134400, .inl f0_nodes))] := hD
  refine lv_aload_n hx hb dX8_wrongAt_5 rfl (lv_at hl 0 rfl) ?_
  refine va_get (D := (dC, dI)) (ci := 8) (v := .ref h0_nodes) (C := RX8) (T := TX8) (N := 23) hx hb hts hi8 hown hK hP 0 rfl rfl 4 (by decide) (hts (.fieldLink RX8 21 "AskTreeModel" "nodes" "[I") (by decide +kernel)) (fun _ h9 => h9) rfl dX8_wrongAt_6 ?_
  refine lv_iload_n hx hb dX8_wrongAt_9 rfl (lv_at hl 1 rfl) ?_
  refine lv_bipush (v := 6) hx hb dX8_wrongAt_10 (by decide) ?_
  refine lv_iadd hx hb dX8_wrongAt_12 ?_
  refine tvv (v := .int 128006) (congrArg Value.int (by decide)) ?_
  refine lv_aload_n hx hb dX8_wrongAt_13 rfl (lv_at hl 0 rfl) ?_
  refine lv_iload_n hx hb dX8_wrongAt_14 rfl (lv_at hl 1 rfl) ?_
  have hPc := hP.sub (ws' := [(h0, .inr (8, [.ref a0_marks, .ref a0_classes, .int 0, .ref a0_isSort, .ref h0_nodes, .ref a0_many, .int 0, .ref a0_in, .int 20, .int 0, .int 0, .ref a0_asked, .ref a0_turned, .int 0, .int (-1), .int (-1), .ref a0_heap, .ref a0_heapYes, .ref a0_path, .ref a0_bestWrong, .ref a0_bestAsked, .ref a0_bestMark, .ref a0_bestV])), (h0_nodes, .inl (k0_nodes, 134400, .inl f0_nodes))]) [0, 1] rfl
  have hDc := hD.sub (ws' := [(h0, .inr (8, [.ref a0_marks, .ref a0_classes, .int 0, .ref a0_isSort, .ref h0_nodes, .ref a0_many, .int 0, .ref a0_in, .int 20, .int 0, .int 0, .ref a0_asked, .ref a0_turned, .int 0, .int (-1), .int (-1), .ref a0_heap, .ref a0_heapYes, .ref a0_path, .ref a0_bestWrong, .ref a0_bestAsked, .ref a0_bestMark, .ref a0_bestV])), (h0_nodes, .inl (k0_nodes, 134400, .inl f0_nodes))]) [0, 1] (by decide) rfl
  have hKc := hK.sub (tys' := [(k0_nodes, .int)]) [0] rfl
  have hFc := va_free (wc := [(h0, .inr (8, [.ref a0_marks, .ref a0_classes, .int 0, .ref a0_isSort, .ref h0_nodes, .ref a0_many, .int 0, .ref a0_in, .int 20, .int 0, .int 0, .ref a0_asked, .ref a0_turned, .int 0, .int (-1), .int (-1), .ref a0_heap, .ref a0_heapYes, .ref a0_path, .ref a0_bestWrong, .ref a0_bestAsked, .ref a0_bestMark, .ref a0_bestV])), (h0_nodes, .inl (k0_nodes, 134400, .inl f0_nodes))]) hD hS hA [0, 1] rfl
  refine va_calli (va_runV (As := [.int 128000]) (rest := [.int 128006, .ref h0_nodes, .int 0]) ⟨hx, hb, hml, hown, hts⟩ (c_classAt20 l dC dI H.size h0 h0_nodes a0_marks a0_classes a0_isSort a0_many a0_in a0_asked a0_turned a0_heap a0_heapYes a0_path a0_bestWrong a0_bestAsked a0_bestMark a0_bestV k0_nodes f0_nodes hy0_nodes_128006 hy0_nodes_128007 hy0_nodes_128008 hy0_nodes_128009) (cwV 1 hts gX8_wrongAt_X8_classAt rfl rfl rfl (by decide +kernel) ⟨Nat.le_of_ble_eq_true rfl, Nat.le_of_ble_eq_true rfl⟩) (pre_V hPc hKc hDc hN (ci := 8) (q0 := 0) rfl rfl) rfl rfl hl.1 rfl (lv_room (Nat.le_of_ble_eq_true rfl)) dX8_wrongAt_15 ⟨Nat.le_of_ble_eq_true rfl, Nat.le_of_ble_eq_true rfl⟩) hS (fun q _ h => hFc q h) hFc (fun r_2 u t H1 locs ht hvm hw hB hz1 hk1 hS => ?_)
  clear hPc hDc hKc
  obtain ⟨rfl, rfl⟩ := hw
  obtain ⟨hP1, hK1, hD1⟩ := hB
  rw [ht] at hP1
  obtain ⟨hP, hD⟩ := va_join (wr := []) (w1 := [(h0, .inr (8, [.ref a0_marks, .ref a0_classes, .int 0, .ref a0_isSort, .ref h0_nodes, .ref a0_many, .int 0, .ref a0_in, .int 20, .int 0, .int 0, .ref a0_asked, .ref a0_turned, .int 0, .int (-1), .int (-1), .ref a0_heap, .ref a0_heapYes, .ref a0_path, .ref a0_bestWrong, .ref a0_bestAsked, .ref a0_bestMark, .ref a0_bestV])), (h0_nodes, .inl (k0_nodes, 134400, .inl f0_nodes))]) hP hD [0, 1] [] rfl rfl (by decide) (by decide) hk1 hFc hP1 hD1
  generalize H1 = H at hP hS ⊢
  clear hP1 hD1 hFc hk1 hz1 ht hvm hK1
  have hP : va_P (dC, dI) vwCl [(h0, .inr (8, [.ref a0_marks, .ref a0_classes, .int 0, .ref a0_isSort, .ref h0_nodes, .ref a0_many, .int 0, .ref a0_in, .int 20, .int 0, .int 0, .ref a0_asked, .ref a0_turned, .int 0, .int (-1), .int (-1), .ref a0_heap, .ref a0_heapYes, .ref a0_path, .ref a0_bestWrong, .ref a0_bestAsked, .ref a0_bestMark, .ref a0_bestV])), (h0_nodes, .inl (k0_nodes, 134400, .inl f0_nodes))] H := hP
  have hD : va_D A [(h0, .inr (8, [.ref a0_marks, .ref a0_classes, .int 0, .ref a0_isSort, .ref h0_nodes, .ref a0_many, .int 0, .ref a0_in, .int 20, .int 0, .int 0, .ref a0_asked, .ref a0_turned, .int 0, .int (-1), .int (-1), .ref a0_heap, .ref a0_heapYes, .ref a0_path, .ref a0_bestWrong, .ref a0_bestAsked, .ref a0_bestMark, .ref a0_bestV])), (h0_nodes, .inl (k0_nodes, 134400, .inl f0_nodes))] := hD
  refine lv_iadd hx hb dX8_wrongAt_18 ?_
  refine tvv (v := .int 128006) (congrArg Value.int (by decide)) ?_
  refine va_iald hx hb hK hP 1 0 rfl rfl (vi _ _ (by decide)) dX8_wrongAt_19 ?_
  refine tvv (v := .int 0) (ci f0_nodes (k := 128006) (by decide) hy0_nodes_128006) ?_
  refine lv_isub hx hb dX8_wrongAt_20 ?_
  refine tvv (v := .int 0) (congrArg Value.int (by decide)) ?_
  have hP9 := hP.sub (ws' := [(h0, .inr (8, [.ref a0_marks, .ref a0_classes, .int 0, .ref a0_isSort, .ref h0_nodes, .ref a0_many, .int 0, .ref a0_in, .int 20, .int 0, .int 0, .ref a0_asked, .ref a0_turned, .int 0, .int (-1), .int (-1), .ref a0_heap, .ref a0_heapYes, .ref a0_path, .ref a0_bestWrong, .ref a0_bestAsked, .ref a0_bestMark, .ref a0_bestV])), (h0_nodes, .inl (k0_nodes, 134400, .inl f0_nodes))]) [0, 1] rfl
  have hD9 := hD.sub (ws' := [(h0, .inr (8, [.ref a0_marks, .ref a0_classes, .int 0, .ref a0_isSort, .ref h0_nodes, .ref a0_many, .int 0, .ref a0_in, .int 20, .int 0, .int 0, .ref a0_asked, .ref a0_turned, .int 0, .int (-1), .int (-1), .ref a0_heap, .ref a0_heapYes, .ref a0_path, .ref a0_bestWrong, .ref a0_bestAsked, .ref a0_bestMark, .ref a0_bestV])), (h0_nodes, .inl (k0_nodes, 134400, .inl f0_nodes))]) [0, 1] (by decide) rfl
  have hK9 := hK.sub (tys' := []) [] rfl
  exact W.iret (v := 0) hx hb hr (fun t ht hW => ⟨⟨0, ([(h0, .inr (8, [.ref a0_marks, .ref a0_classes, .int 0, .ref a0_isSort, .ref h0_nodes, .ref a0_many, .int 0, .ref a0_in, .int 20, .int 0, .int 0, .ref a0_asked, .ref a0_turned, .int 0, .int (-1), .int (-1), .ref a0_heap, .ref a0_heapYes, .ref a0_path, .ref a0_bestWrong, .ref a0_bestAsked, .ref a0_bestMark, .ref a0_bestV])), (h0_nodes, .inl (k0_nodes, 134400, .inl f0_nodes))], []), rfl, ⟨rfl, rfl⟩, (by rw [ht]; exact hP9), va_K.moved hW.alike hK9, hD9⟩, hS.F ht⟩) hS.2.2 dX8_wrongAt_21

set_option maxHeartbeats 4000000 in
set_option maxRecDepth 100000 in
theorem c_growNode20 (l : Launch) (dC : Nat → ClassId) (dI : Nat → Nat → Nat) (sz : Nat) (h0 : Nat) (p2 : Int32) (p3 : Int32) (h0_heap : Nat) (h0_many : Nat) (h0_nodes : Nat) (a0_marks : Nat) (a0_classes : Nat) (a0_isSort : Nat) (a0_in : Nat) (a0_asked : Nat) (a0_turned : Nat) (a0_heapYes : Nat) (a0_path : Nat) (a0_bestWrong : Nat) (a0_bestAsked : Nat) (a0_bestMark : Nat) (a0_bestV : Nat) (k0_heap : ClassId) (f0_heap : Nat → Int32) (k0_many : ClassId) (f0_many : Nat → Int32) (k0_nodes : ClassId) (f0_nodes : Nat → Int32) (hy0_many_20 : f0_many 20 = 0)  : Met l yX8_growNode wsX8_growNode ({ frames := 3, cells := 0, slots := 0, locals := 106 }) (va_Pc [.ref h0, .int 0, .int p2, .int p3] (pw (dC, dI) [(k0_heap, .int), (k0_many, .int), (k0_nodes, .int)] [(h0, .inr (8, [.ref a0_marks, .ref a0_classes, .int 0, .ref a0_isSort, .ref h0_nodes, .ref h0_many, .int 0, .ref a0_in, .int 20, .int 0, .int 0, .ref a0_asked, .ref a0_turned, .int 0, .int (-1), .int (-1), .ref h0_heap, .ref a0_heapYes, .ref a0_path, .ref a0_bestWrong, .ref a0_bestAsked, .ref a0_bestMark, .ref a0_bestV])), (h0_heap, .inl (k0_heap, 4, .inl f0_heap)), (h0_many, .inl (k0_many, 21, .inl f0_many)), (h0_nodes, .inl (k0_nodes, 134400, .inl f0_nodes))] sz)) (va_Qi (fun (r : Int32) (u : vu) => (∃ (f_2 : Nat → Int32) (f_3 : Nat → Int32) (f_4 : Nat → Int32), u = ([(h0, .inr (8, [.ref a0_marks, .ref a0_classes, .int 0, .ref a0_isSort, .ref h0_nodes, .ref h0_many, .int 0, .ref a0_in, .int 20, .int 0, .int 0, .ref a0_asked, .ref a0_turned, .int 0, .int (-1), .int (-1), .ref h0_heap, .ref a0_heapYes, .ref a0_path, .ref a0_bestWrong, .ref a0_bestAsked, .ref a0_bestMark, .ref a0_bestV])), (h0_heap, .inl (k0_heap, 4, .inl f_2)), (h0_many, .inl (k0_many, 21, .inl f_3)), (h0_nodes, .inl (k0_nodes, 134400, .inl f_4))], []) ∧ f_2 0 = 0 ∧ f_2 1 = 0 ∧ f_2 2 = 0 ∧ f_2 3 = 0 ∧ r = 0)) (fun u t => qw (dC, dI) u.2 (va_A [(h0, .inr (8, [.ref a0_marks, .ref a0_classes, .int 0, .ref a0_isSort, .ref h0_nodes, .ref h0_many, .int 0, .ref a0_in, .int 20, .int 0, .int 0, .ref a0_asked, .ref a0_turned, .int 0, .int (-1), .int (-1), .ref h0_heap, .ref a0_heapYes, .ref a0_path, .ref a0_bestWrong, .ref a0_bestAsked, .ref a0_bestMark, .ref a0_bestV])), (h0_heap, .inl (k0_heap, 4, .inl f0_heap)), (h0_many, .inl (k0_many, 21, .inl f0_many)), (h0_nodes, .inl (k0_nodes, 134400, .inl f0_nodes))] sz) u.1 t) (va_A [(h0, .inr (8, [.ref a0_marks, .ref a0_classes, .int 0, .ref a0_isSort, .ref h0_nodes, .ref h0_many, .int 0, .ref a0_in, .int 20, .int 0, .int 0, .ref a0_asked, .ref a0_turned, .int 0, .int (-1), .int (-1), .ref h0_heap, .ref a0_heapYes, .ref a0_path, .ref a0_bestWrong, .ref a0_bestAsked, .ref a0_bestMark, .ref a0_bestV])), (h0_heap, .inl (k0_heap, 4, .inl f0_heap)), (h0_many, .inl (k0_many, 21, .inl f0_many)), (h0_nodes, .inl (k0_nodes, 134400, .inl f0_nodes))] sz)) 0 0 (va_A [(h0, .inr (8, [.ref a0_marks, .ref a0_classes, .int 0, .ref a0_isSort, .ref h0_nodes, .ref h0_many, .int 0, .ref a0_in, .int 20, .int 0, .int 0, .ref a0_asked, .ref a0_turned, .int 0, .int (-1), .int (-1), .ref h0_heap, .ref a0_heapYes, .ref a0_path, .ref a0_bestWrong, .ref a0_bestAsked, .ref a0_bestMark, .ref a0_bestV])), (h0_heap, .inl (k0_heap, 4, .inl f0_heap)), (h0_many, .inl (k0_many, 21, .inl f0_many)), (h0_nodes, .inl (k0_nodes, 134400, .inl f0_nodes))] sz) := by
  refine Met.ofW (cc := cX8_growNode) (maxL := 9) (ret := (some .int)) (by decide) rfl ?_
  intro p e s m args below meth c s₁ B hml hv
  obtain ⟨rfl, hsz, hP, hK, hD0, hN⟩ := hv
  have hx := B.exec
  have hb := B.bytes
  have hr := B.returns
  have hts := atoms_spec (ws := wsX8_growNode) B.pre
  have hown : s.vm.findClass RX8 = some m.cls := findClass_of_methodNamed B.named
  have hlocks := B.notSynchronized
  have hi8 : ∀ w ∈ u_ws RX8 TX8 23, w ∈ wsX8_growNode := fun _ h => List.mem_cons_of_mem _ (List.mem_append_right _ h)
  subst hsz
  have hD := hD0.self (sz := s.heap.size)
  generalize hAe : va_A [(h0, .inr (8, [.ref a0_marks, .ref a0_classes, .int 0, .ref a0_isSort, .ref h0_nodes, .ref h0_many, .int 0, .ref a0_in, .int 20, .int 0, .int 0, .ref a0_asked, .ref a0_turned, .int 0, .int (-1), .int (-1), .ref h0_heap, .ref a0_heapYes, .ref a0_path, .ref a0_bestWrong, .ref a0_bestAsked, .ref a0_bestMark, .ref a0_bestV])), (h0_heap, .inl (k0_heap, 4, .inl f0_heap)), (h0_many, .inl (k0_many, 21, .inl f0_many)), (h0_nodes, .inl (k0_nodes, 134400, .inl f0_nodes))] s.heap.size = A at hD ⊢
  have hA : ∀ q : Nat, s.heap.size ≤ q → A q := fun q h => by rw [← hAe]; exact Or.inr h
  have hS : va_S A s.heap s.heap [] := va_S.rf
  have hl := lv_entry ([.ref h0, .int 0, .int p2, .int p3]) (n := 9) (Nat.le_of_ble_eq_true rfl)
  rw [lg_entry_eq]
  generalize (lg_sl ([.ref h0, .int 0, .int p2, .int p3]) ++ List.replicate (9 - (lg_sl ([.ref h0, .int 0, .int p2, .int p3])).length) Slot.unset).toArray = ls at hl ⊢
  have hl : lv_has ls 9 [(0, .ref h0), (1, .int 0), (2, .int p2), (3, .int p3)] := hl
  have hP : va_P (dC, dI) vwCl [(h0, .inr (8, [.ref a0_marks, .ref a0_classes, .int 0, .ref a0_isSort, .ref h0_nodes, .ref h0_many, .int 0, .ref a0_in, .int 20, .int 0, .int 0, .ref a0_asked, .ref a0_turned, .int 0, .int (-1), .int (-1), .ref h0_heap, .ref a0_heapYes, .ref a0_path, .ref a0_bestWrong, .ref a0_bestAsked, .ref a0_bestMark, .ref a0_bestV])), (h0_heap, .inl (k0_heap, 4, .inl f0_heap)), (h0_many, .inl (k0_many, 21, .inl f0_many)), (h0_nodes, .inl (k0_nodes, 134400, .inl f0_nodes))] s.heap := hP
  refine lv_aload_n hx hb dX8_growNode_0 rfl (lv_at hl 0 rfl) ?_
  refine lv_iload_n hx hb dX8_growNode_1 rfl (lv_at hl 1 rfl) ?_
  have hPc := hP.sub (ws' := [(h0, .inr (8, [.ref a0_marks, .ref a0_classes, .int 0, .ref a0_isSort, .ref h0_nodes, .ref h0_many, .int 0, .ref a0_in, .int 20, .int 0, .int 0, .ref a0_asked, .ref a0_turned, .int 0, .int (-1), .int (-1), .ref h0_heap, .ref a0_heapYes, .ref a0_path, .ref a0_bestWrong, .ref a0_bestAsked, .ref a0_bestMark, .ref a0_bestV])), (h0_heap, .inl (k0_heap, 4, .inl f0_heap)), (h0_many, .inl (k0_many, 21, .inl f0_many)), (h0_nodes, .inl (k0_nodes, 134400, .inl f0_nodes))]) [0, 1, 2, 3] rfl
  have hDc := hD.sub (ws' := [(h0, .inr (8, [.ref a0_marks, .ref a0_classes, .int 0, .ref a0_isSort, .ref h0_nodes, .ref h0_many, .int 0, .ref a0_in, .int 20, .int 0, .int 0, .ref a0_asked, .ref a0_turned, .int 0, .int (-1), .int (-1), .ref h0_heap, .ref a0_heapYes, .ref a0_path, .ref a0_bestWrong, .ref a0_bestAsked, .ref a0_bestMark, .ref a0_bestV])), (h0_heap, .inl (k0_heap, 4, .inl f0_heap)), (h0_many, .inl (k0_many, 21, .inl f0_many)), (h0_nodes, .inl (k0_nodes, 134400, .inl f0_nodes))]) [0, 1, 2, 3] (by decide) rfl
  have hKc := hK.sub (tys' := [(k0_heap, .int), (k0_many, .int), (k0_nodes, .int)]) [0, 1, 2] rfl
  have hFc := va_free (wc := [(h0, .inr (8, [.ref a0_marks, .ref a0_classes, .int 0, .ref a0_isSort, .ref h0_nodes, .ref h0_many, .int 0, .ref a0_in, .int 20, .int 0, .int 0, .ref a0_asked, .ref a0_turned, .int 0, .int (-1), .int (-1), .ref h0_heap, .ref a0_heapYes, .ref a0_path, .ref a0_bestWrong, .ref a0_bestAsked, .ref a0_bestMark, .ref a0_bestV])), (h0_heap, .inl (k0_heap, 4, .inl f0_heap)), (h0_many, .inl (k0_many, 21, .inl f0_many)), (h0_nodes, .inl (k0_nodes, 134400, .inl f0_nodes))]) hD hS hA [0, 1, 2, 3] rfl
  refine va_calli (va_runV (As := [.int 0]) (rest := []) ⟨hx, hb, hml, hown, hts⟩ (c_newNode20 l dC dI s.heap.size h0 h0_heap h0_many h0_nodes a0_marks a0_classes a0_isSort a0_in a0_asked a0_turned a0_heapYes a0_path a0_bestWrong a0_bestAsked a0_bestMark a0_bestV k0_heap f0_heap k0_many f0_many k0_nodes f0_nodes hy0_many_20) (cwV 1 hts gX8_growNode_X8_newNode rfl rfl rfl (by decide +kernel) ⟨Nat.le_of_ble_eq_true rfl, Nat.le_of_ble_eq_true rfl⟩) (pre_V hPc hKc hDc hN (ci := 8) (q0 := 0) rfl rfl) rfl rfl hl.1 rfl (lv_room (Nat.le_of_ble_eq_true rfl)) dX8_growNode_2 ⟨Nat.le_of_ble_eq_true rfl, Nat.le_of_ble_eq_true rfl⟩) hS (fun q _ h => hFc q h) hFc (fun r_1 u t H1 locs ht hvm hw hB hz1 hk1 hS => ?_)
  clear hPc hDc hKc
  obtain ⟨f_2, f_3, f_4, rfl, hk_5, hk_6, hk_7, hk_8, hk_9, hk_10, hk_11, hk_12, hk_13, hk_14, hk_15, hk_16, hk_17, hk_18, rfl⟩ := hw
  obtain ⟨hP1, hK1, hD1⟩ := hB
  rw [ht] at hP1
  obtain ⟨hP, hD⟩ := va_join (wr := []) (w1 := [(h0, .inr (8, [.ref a0_marks, .ref a0_classes, .int 0, .ref a0_isSort, .ref h0_nodes, .ref h0_many, .int 0, .ref a0_in, .int 20, .int 0, .int 0, .ref a0_asked, .ref a0_turned, .int 0, .int (-1), .int (-1), .ref h0_heap, .ref a0_heapYes, .ref a0_path, .ref a0_bestWrong, .ref a0_bestAsked, .ref a0_bestMark, .ref a0_bestV])), (h0_heap, .inl (k0_heap, 4, .inl f_2)), (h0_many, .inl (k0_many, 21, .inl f_3)), (h0_nodes, .inl (k0_nodes, 134400, .inl f_4))]) hP hD [0, 1, 2, 3] [] rfl rfl (by decide) (by decide) hk1 hFc hP1 hD1
  generalize H1 = H at hP hS ⊢
  clear hP1 hD1 hFc hk1 hz1 ht hvm hK1
  have hP : va_P (dC, dI) vwCl [(h0, .inr (8, [.ref a0_marks, .ref a0_classes, .int 0, .ref a0_isSort, .ref h0_nodes, .ref h0_many, .int 0, .ref a0_in, .int 20, .int 0, .int 0, .ref a0_asked, .ref a0_turned, .int 0, .int (-1), .int (-1), .ref h0_heap, .ref a0_heapYes, .ref a0_path, .ref a0_bestWrong, .ref a0_bestAsked, .ref a0_bestMark, .ref a0_bestV])), (h0_heap, .inl (k0_heap, 4, .inl f_2)), (h0_many, .inl (k0_many, 21, .inl f_3)), (h0_nodes, .inl (k0_nodes, 134400, .inl f_4))] H := hP
  have hD : va_D A [(h0, .inr (8, [.ref a0_marks, .ref a0_classes, .int 0, .ref a0_isSort, .ref h0_nodes, .ref h0_many, .int 0, .ref a0_in, .int 20, .int 0, .int 0, .ref a0_asked, .ref a0_turned, .int 0, .int (-1), .int (-1), .ref h0_heap, .ref a0_heapYes, .ref a0_path, .ref a0_bestWrong, .ref a0_bestAsked, .ref a0_bestMark, .ref a0_bestV])), (h0_heap, .inl (k0_heap, 4, .inl f_2)), (h0_many, .inl (k0_many, 21, .inl f_3)), (h0_nodes, .inl (k0_nodes, 134400, .inl f_4))] := hD
  refine lv_istore (lv' := [(4, .int 0), (0, .ref h0), (1, .int 0), (2, .int p2), (3, .int p3)]) hx hb dX8_growNode_5 hl (by decide) rfl (fun ls hl => ?_)
  refine lv_aload_n hx hb dX8_growNode_7 rfl (lv_at hl 1 rfl) ?_
  refine lv_aload_n hx hb dX8_growNode_8 rfl (lv_at hl 1 rfl) ?_
  refine va_get (D := (dC, dI)) (ci := 8) (v := .int 20) (C := RX8) (T := TX8) (N := 23) hx hb hts hi8 hown hK hP 0 rfl rfl 8 (by decide) (hts (.fieldLink RX8 111 "AskTreeModel" "making" "I") (by decide +kernel)) (fun _ h9 => h9) rfl dX8_growNode_9 ?_
  refine lv_iload hx hb dX8_growNode_12 (lv_at hl 0 rfl) ?_
  have hPc := hP.sub (ws' := [(h0, .inr (8, [.ref a0_marks, .ref a0_classes, .int 0, .ref a0_isSort, .ref h0_nodes, .ref h0_many, .int 0, .ref a0_in, .int 20, .int 0, .int 0, .ref a0_asked, .ref a0_turned, .int 0, .int (-1), .int (-1), .ref h0_heap, .ref a0_heapYes, .ref a0_path, .ref a0_bestWrong, .ref a0_bestAsked, .ref a0_bestMark, .ref a0_bestV]))]) [0] rfl
  have hDc := hD.sub (ws' := [(h0, .inr (8, [.ref a0_marks, .ref a0_classes, .int 0, .ref a0_isSort, .ref h0_nodes, .ref h0_many, .int 0, .ref a0_in, .int 20, .int 0, .int 0, .ref a0_asked, .ref a0_turned, .int 0, .int (-1), .int (-1), .ref h0_heap, .ref a0_heapYes, .ref a0_path, .ref a0_bestWrong, .ref a0_bestAsked, .ref a0_bestMark, .ref a0_bestV]))]) [0] (by decide) rfl
  have hKc := hK.sub (tys' := []) [] rfl
  have hFc := va_free (wc := [(h0, .inr (8, [.ref a0_marks, .ref a0_classes, .int 0, .ref a0_isSort, .ref h0_nodes, .ref h0_many, .int 0, .ref a0_in, .int 20, .int 0, .int 0, .ref a0_asked, .ref a0_turned, .int 0, .int (-1), .int (-1), .ref h0_heap, .ref a0_heapYes, .ref a0_path, .ref a0_bestWrong, .ref a0_bestAsked, .ref a0_bestMark, .ref a0_bestV]))]) hD hS hA [0] rfl
  refine va_calli (va_runV (As := [.int 20, .int 0]) (rest := []) ⟨hx, hb, hml, hown, hts⟩ (c_place20 l dC dI H.size h0 a0_marks a0_classes a0_isSort h0_nodes h0_many a0_in a0_asked a0_turned h0_heap a0_heapYes a0_path a0_bestWrong a0_bestAsked a0_bestMark a0_bestV ) (cwV 2 hts gX8_growNode_X8_place rfl rfl rfl (by decide +kernel) ⟨Nat.le_of_ble_eq_true rfl, Nat.le_of_ble_eq_true rfl⟩) (pre_V hPc hKc hDc hN (ci := 8) (q0 := 0) rfl rfl) rfl rfl hl.1 rfl (lv_room (Nat.le_of_ble_eq_true rfl)) dX8_growNode_14 ⟨Nat.le_of_ble_eq_true rfl, Nat.le_of_ble_eq_true rfl⟩) hS (fun q _ h => hFc q h) hFc (fun r_19 u t H1 locs ht hvm hw hB hz1 hk1 hS => ?_)
  clear hPc hDc hKc
  obtain ⟨rfl, rfl⟩ := hw
  obtain ⟨hP1, hK1, hD1⟩ := hB
  rw [ht] at hP1
  obtain ⟨hP, hD⟩ := va_join (wr := [(h0_heap, .inl (k0_heap, 4, .inl f_2)), (h0_many, .inl (k0_many, 21, .inl f_3)), (h0_nodes, .inl (k0_nodes, 134400, .inl f_4))]) (w1 := [(h0, .inr (8, [.ref a0_marks, .ref a0_classes, .int 0, .ref a0_isSort, .ref h0_nodes, .ref h0_many, .int 0, .ref a0_in, .int 20, .int 0, .int 0, .ref a0_asked, .ref a0_turned, .int 0, .int (-1), .int (-1), .ref h0_heap, .ref a0_heapYes, .ref a0_path, .ref a0_bestWrong, .ref a0_bestAsked, .ref a0_bestMark, .ref a0_bestV]))]) hP hD [0] [1, 2, 3] rfl rfl (by decide) (by decide) hk1 hFc hP1 hD1
  generalize H1 = H at hP hS ⊢
  clear hP1 hD1 hFc hk1 hz1 ht hvm hK1
  have hP : va_P (dC, dI) vwCl [(h0_heap, .inl (k0_heap, 4, .inl f_2)), (h0_many, .inl (k0_many, 21, .inl f_3)), (h0_nodes, .inl (k0_nodes, 134400, .inl f_4)), (h0, .inr (8, [.ref a0_marks, .ref a0_classes, .int 0, .ref a0_isSort, .ref h0_nodes, .ref h0_many, .int 0, .ref a0_in, .int 20, .int 0, .int 0, .ref a0_asked, .ref a0_turned, .int 0, .int (-1), .int (-1), .ref h0_heap, .ref a0_heapYes, .ref a0_path, .ref a0_bestWrong, .ref a0_bestAsked, .ref a0_bestMark, .ref a0_bestV]))] H := hP
  have hD : va_D A [(h0_heap, .inl (k0_heap, 4, .inl f_2)), (h0_many, .inl (k0_many, 21, .inl f_3)), (h0_nodes, .inl (k0_nodes, 134400, .inl f_4)), (h0, .inr (8, [.ref a0_marks, .ref a0_classes, .int 0, .ref a0_isSort, .ref h0_nodes, .ref h0_many, .int 0, .ref a0_in, .int 20, .int 0, .int 0, .ref a0_asked, .ref a0_turned, .int 0, .int (-1), .int (-1), .ref h0_heap, .ref a0_heapYes, .ref a0_path, .ref a0_bestWrong, .ref a0_bestAsked, .ref a0_bestMark, .ref a0_bestV]))] := hD
  refine lv_istore (lv' := [(5, .int 128000), (4, .int 0), (0, .ref h0), (1, .int 0), (2, .int p2), (3, .int p3)]) hx hb dX8_growNode_17 hl (by decide) rfl (fun ls hl => ?_)
  refine lv_iload_n hx hb dX8_growNode_19 rfl (lv_at hl 3 rfl) ?_
  refine lv_iload_n hx hb dX8_growNode_20 rfl (lv_at hl 4 rfl) ?_
  refine lv_icmp_eq (tgt := 42) hx hb dX8_growNode_21 (by decide) (fun c_20 => ?_) (fun c_20 => ?_)
  · skip
    refine lv_iload hx hb dX8_growNode_42 (lv_at hl 1 rfl) ?_
    have hP9 := hP.sub (ws' := [(h0, .inr (8, [.ref a0_marks, .ref a0_classes, .int 0, .ref a0_isSort, .ref h0_nodes, .ref h0_many, .int 0, .ref a0_in, .int 20, .int 0, .int 0, .ref a0_asked, .ref a0_turned, .int 0, .int (-1), .int (-1), .ref h0_heap, .ref a0_heapYes, .ref a0_path, .ref a0_bestWrong, .ref a0_bestAsked, .ref a0_bestMark, .ref a0_bestV])), (h0_heap, .inl (k0_heap, 4, .inl f_2)), (h0_many, .inl (k0_many, 21, .inl f_3)), (h0_nodes, .inl (k0_nodes, 134400, .inl f_4))]) [3, 0, 1, 2] rfl
    have hD9 := hD.sub (ws' := [(h0, .inr (8, [.ref a0_marks, .ref a0_classes, .int 0, .ref a0_isSort, .ref h0_nodes, .ref h0_many, .int 0, .ref a0_in, .int 20, .int 0, .int 0, .ref a0_asked, .ref a0_turned, .int 0, .int (-1), .int (-1), .ref h0_heap, .ref a0_heapYes, .ref a0_path, .ref a0_bestWrong, .ref a0_bestAsked, .ref a0_bestMark, .ref a0_bestV])), (h0_heap, .inl (k0_heap, 4, .inl f_2)), (h0_many, .inl (k0_many, 21, .inl f_3)), (h0_nodes, .inl (k0_nodes, 134400, .inl f_4))]) [3, 0, 1, 2] (by decide) rfl
    have hK9 := hK.sub (tys' := []) [] rfl
    exact W.iret (v := 0) hx hb hr (fun t ht hW => ⟨⟨0, ([(h0, .inr (8, [.ref a0_marks, .ref a0_classes, .int 0, .ref a0_isSort, .ref h0_nodes, .ref h0_many, .int 0, .ref a0_in, .int 20, .int 0, .int 0, .ref a0_asked, .ref a0_turned, .int 0, .int (-1), .int (-1), .ref h0_heap, .ref a0_heapYes, .ref a0_path, .ref a0_bestWrong, .ref a0_bestAsked, .ref a0_bestMark, .ref a0_bestV])), (h0_heap, .inl (k0_heap, 4, .inl f_2)), (h0_many, .inl (k0_many, 21, .inl f_3)), (h0_nodes, .inl (k0_nodes, 134400, .inl f_4))], []), rfl, ⟨f_2, f_3, f_4, rfl, hk_5, hk_6, hk_7, hk_8, rfl⟩, (by rw [ht]; exact hP9), va_K.moved hW.alike hK9, hD9⟩, hS.F ht⟩) hS.2.2 dX8_growNode_44
  · skip
    refine lv_aload_n hx hb dX8_growNode_24 rfl (lv_at hl 2 rfl) ?_
    refine lv_iload hx hb dX8_growNode_25 (lv_at hl 0 rfl) ?_
    have hPc := hP.sub (ws' := [(h0, .inr (8, [.ref a0_marks, .ref a0_classes, .int 0, .ref a0_isSort, .ref h0_nodes, .ref h0_many, .int 0, .ref a0_in, .int 20, .int 0, .int 0, .ref a0_asked, .ref a0_turned, .int 0, .int (-1), .int (-1), .ref h0_heap, .ref a0_heapYes, .ref a0_path, .ref a0_bestWrong, .ref a0_bestAsked, .ref a0_bestMark, .ref a0_bestV])), (h0_nodes, .inl (k0_nodes, 134400, .inl f_4))]) [3, 2] rfl
    have hDc := hD.sub (ws' := [(h0, .inr (8, [.ref a0_marks, .ref a0_classes, .int 0, .ref a0_isSort, .ref h0_nodes, .ref h0_many, .int 0, .ref a0_in, .int 20, .int 0, .int 0, .ref a0_asked, .ref a0_turned, .int 0, .int (-1), .int (-1), .ref h0_heap, .ref a0_heapYes, .ref a0_path, .ref a0_bestWrong, .ref a0_bestAsked, .ref a0_bestMark, .ref a0_bestV])), (h0_nodes, .inl (k0_nodes, 134400, .inl f_4))]) [3, 2] (by decide) rfl
    have hKc := hK.sub (tys' := [(k0_nodes, .int)]) [2] rfl
    have hFc := va_free (wc := [(h0, .inr (8, [.ref a0_marks, .ref a0_classes, .int 0, .ref a0_isSort, .ref h0_nodes, .ref h0_many, .int 0, .ref a0_in, .int 20, .int 0, .int 0, .ref a0_asked, .ref a0_turned, .int 0, .int (-1), .int (-1), .ref h0_heap, .ref a0_heapYes, .ref a0_path, .ref a0_bestWrong, .ref a0_bestAsked, .ref a0_bestMark, .ref a0_bestV])), (h0_nodes, .inl (k0_nodes, 134400, .inl f_4))]) hD hS hA [3, 2] rfl
    refine va_calli (va_runV (As := [.int 128000]) (rest := []) ⟨hx, hb, hml, hown, hts⟩ (c_wrongAt20 l dC dI H.size h0 h0_nodes a0_marks a0_classes a0_isSort h0_many a0_in a0_asked a0_turned h0_heap a0_heapYes a0_path a0_bestWrong a0_bestAsked a0_bestMark a0_bestV k0_nodes f_4 hk_15 hk_16 hk_17 hk_18) (cwV 1 hts gX8_growNode_X8_wrongAt rfl rfl rfl (by decide +kernel) ⟨Nat.le_of_ble_eq_true rfl, Nat.le_of_ble_eq_true rfl⟩) (pre_V hPc hKc hDc hN (ci := 8) (q0 := 0) rfl rfl) rfl rfl hl.1 rfl (lv_room (Nat.le_of_ble_eq_true rfl)) dX8_growNode_27 ⟨Nat.le_of_ble_eq_true rfl, Nat.le_of_ble_eq_true rfl⟩) hS (fun q _ h => hFc q h) hFc (fun r_21 u t H1 locs ht hvm hw hB hz1 hk1 hS => ?_)
    clear hPc hDc hKc
    obtain ⟨rfl, rfl⟩ := hw
    obtain ⟨hP1, hK1, hD1⟩ := hB
    rw [ht] at hP1
    obtain ⟨hP, hD⟩ := va_join (wr := [(h0_heap, .inl (k0_heap, 4, .inl f_2)), (h0_many, .inl (k0_many, 21, .inl f_3))]) (w1 := [(h0, .inr (8, [.ref a0_marks, .ref a0_classes, .int 0, .ref a0_isSort, .ref h0_nodes, .ref h0_many, .int 0, .ref a0_in, .int 20, .int 0, .int 0, .ref a0_asked, .ref a0_turned, .int 0, .int (-1), .int (-1), .ref h0_heap, .ref a0_heapYes, .ref a0_path, .ref a0_bestWrong, .ref a0_bestAsked, .ref a0_bestMark, .ref a0_bestV])), (h0_nodes, .inl (k0_nodes, 134400, .inl f_4))]) hP hD [3, 2] [0, 1] rfl rfl (by decide) (by decide) hk1 hFc hP1 hD1
    generalize H1 = H at hP hS ⊢
    clear hP1 hD1 hFc hk1 hz1 ht hvm hK1
    have hP : va_P (dC, dI) vwCl [(h0_heap, .inl (k0_heap, 4, .inl f_2)), (h0_many, .inl (k0_many, 21, .inl f_3)), (h0, .inr (8, [.ref a0_marks, .ref a0_classes, .int 0, .ref a0_isSort, .ref h0_nodes, .ref h0_many, .int 0, .ref a0_in, .int 20, .int 0, .int 0, .ref a0_asked, .ref a0_turned, .int 0, .int (-1), .int (-1), .ref h0_heap, .ref a0_heapYes, .ref a0_path, .ref a0_bestWrong, .ref a0_bestAsked, .ref a0_bestMark, .ref a0_bestV])), (h0_nodes, .inl (k0_nodes, 134400, .inl f_4))] H := hP
    have hD : va_D A [(h0_heap, .inl (k0_heap, 4, .inl f_2)), (h0_many, .inl (k0_many, 21, .inl f_3)), (h0, .inr (8, [.ref a0_marks, .ref a0_classes, .int 0, .ref a0_isSort, .ref h0_nodes, .ref h0_many, .int 0, .ref a0_in, .int 20, .int 0, .int 0, .ref a0_asked, .ref a0_turned, .int 0, .int (-1), .int (-1), .ref h0_heap, .ref a0_heapYes, .ref a0_path, .ref a0_bestWrong, .ref a0_bestAsked, .ref a0_bestMark, .ref a0_bestV])), (h0_nodes, .inl (k0_nodes, 134400, .inl f_4))] := hD
    refine lv_if_eq (tgt := 42) hx hb dX8_growNode_30 (by decide) (fun c_22 => ?_) (fun c_22 => ?_)
    rotate_left
    · exact absurd c_22 (by decide)
    refine lv_iload hx hb dX8_growNode_42 (lv_at hl 1 rfl) ?_
    have hP9 := hP.sub (ws' := [(h0, .inr (8, [.ref a0_marks, .ref a0_classes, .int 0, .ref a0_isSort, .ref h0_nodes, .ref h0_many, .int 0, .ref a0_in, .int 20, .int 0, .int 0, .ref a0_asked, .ref a0_turned, .int 0, .int (-1), .int (-1), .ref h0_heap, .ref a0_heapYes, .ref a0_path, .ref a0_bestWrong, .ref a0_bestAsked, .ref a0_bestMark, .ref a0_bestV])), (h0_heap, .inl (k0_heap, 4, .inl f_2)), (h0_many, .inl (k0_many, 21, .inl f_3)), (h0_nodes, .inl (k0_nodes, 134400, .inl f_4))]) [2, 0, 1, 3] rfl
    have hD9 := hD.sub (ws' := [(h0, .inr (8, [.ref a0_marks, .ref a0_classes, .int 0, .ref a0_isSort, .ref h0_nodes, .ref h0_many, .int 0, .ref a0_in, .int 20, .int 0, .int 0, .ref a0_asked, .ref a0_turned, .int 0, .int (-1), .int (-1), .ref h0_heap, .ref a0_heapYes, .ref a0_path, .ref a0_bestWrong, .ref a0_bestAsked, .ref a0_bestMark, .ref a0_bestV])), (h0_heap, .inl (k0_heap, 4, .inl f_2)), (h0_many, .inl (k0_many, 21, .inl f_3)), (h0_nodes, .inl (k0_nodes, 134400, .inl f_4))]) [2, 0, 1, 3] (by decide) rfl
    have hK9 := hK.sub (tys' := []) [] rfl
    exact W.iret (v := 0) hx hb hr (fun t ht hW => ⟨⟨0, ([(h0, .inr (8, [.ref a0_marks, .ref a0_classes, .int 0, .ref a0_isSort, .ref h0_nodes, .ref h0_many, .int 0, .ref a0_in, .int 20, .int 0, .int 0, .ref a0_asked, .ref a0_turned, .int 0, .int (-1), .int (-1), .ref h0_heap, .ref a0_heapYes, .ref a0_path, .ref a0_bestWrong, .ref a0_bestAsked, .ref a0_bestMark, .ref a0_bestV])), (h0_heap, .inl (k0_heap, 4, .inl f_2)), (h0_many, .inl (k0_many, 21, .inl f_3)), (h0_nodes, .inl (k0_nodes, 134400, .inl f_4))], []), rfl, ⟨f_2, f_3, f_4, rfl, hk_5, hk_6, hk_7, hk_8, rfl⟩, (by rw [ht]; exact hP9), va_K.moved hW.alike hK9, hD9⟩, hS.F ht⟩) hS.2.2 dX8_growNode_44

theorem lf_search_1 (p2 : Int32) (e0 : ¬ p2 ≤ 0) (e1 : p2 ≤ 0) : False := by
  (try simp only [Int32.lt_iff_toInt_lt, Int32.le_iff_toInt_le, ← Int32.toInt_inj, ln_0, ln_1, ln_2, ln_3, ln_4, ln_6, ln_8, ln_10, ln_50, ln_100, ln_300, ln_1000, ln_m1000, ln_m32768, ln_m1, ln_m2, ln_m40000, ln_20] at *)
  all_goals omega
theorem lf_search_2 (p2 : Int32) (e0 : ¬ p2 ≤ 0) (e1 : p2 ≤ 0) : False := by
  (try simp only [Int32.lt_iff_toInt_lt, Int32.le_iff_toInt_le, ← Int32.toInt_inj, ln_0, ln_1, ln_2, ln_3, ln_4, ln_6, ln_8, ln_10, ln_50, ln_100, ln_300, ln_1000, ln_m1000, ln_m32768, ln_m1, ln_m2, ln_m40000, ln_20] at *)
  all_goals omega
theorem lf_search_3 (p2 : Int32) (e0 : ¬ p2 ≤ 0) (e1 : p2 ≤ 0) : False := by
  (try simp only [Int32.lt_iff_toInt_lt, Int32.le_iff_toInt_le, ← Int32.toInt_inj, ln_0, ln_1, ln_2, ln_3, ln_4, ln_6, ln_8, ln_10, ln_50, ln_100, ln_300, ln_1000, ln_m1000, ln_m32768, ln_m1, ln_m2, ln_m40000, ln_20] at *)
  all_goals omega
theorem lf_search_4 (p2 : Int32) (e0 : ¬ p2 ≤ 0) (e1 : p2 ≤ 0) : False := by
  (try simp only [Int32.lt_iff_toInt_lt, Int32.le_iff_toInt_le, ← Int32.toInt_inj, ln_0, ln_1, ln_2, ln_3, ln_4, ln_6, ln_8, ln_10, ln_50, ln_100, ln_300, ln_1000, ln_m1000, ln_m32768, ln_m1, ln_m2, ln_m40000, ln_20] at *)
  all_goals omega
theorem lf_search_5 (p2 : Int32) (e0 : ¬ p2 ≤ 0) (e1 : p2 ≤ 0) : False := by
  (try simp only [Int32.lt_iff_toInt_lt, Int32.le_iff_toInt_le, ← Int32.toInt_inj, ln_0, ln_1, ln_2, ln_3, ln_4, ln_6, ln_8, ln_10, ln_50, ln_100, ln_300, ln_1000, ln_m1000, ln_m32768, ln_m1, ln_m2, ln_m40000, ln_20] at *)
  all_goals omega
theorem lf_search_6 (p2 : Int32) (e0 : ¬ p2 ≤ 0) (e1 : p2 ≤ 0) : False := by
  (try simp only [Int32.lt_iff_toInt_lt, Int32.le_iff_toInt_le, ← Int32.toInt_inj, ln_0, ln_1, ln_2, ln_3, ln_4, ln_6, ln_8, ln_10, ln_50, ln_100, ln_300, ln_1000, ln_m1000, ln_m32768, ln_m1, ln_m2, ln_m40000, ln_20] at *)
  all_goals omega
theorem lf_search_7 (p2 : Int32) (e0 : ¬ p2 ≤ 0) (e1 : p2 ≤ 0) : False := by
  (try simp only [Int32.lt_iff_toInt_lt, Int32.le_iff_toInt_le, ← Int32.toInt_inj, ln_0, ln_1, ln_2, ln_3, ln_4, ln_6, ln_8, ln_10, ln_50, ln_100, ln_300, ln_1000, ln_m1000, ln_m32768, ln_m1, ln_m2, ln_m40000, ln_20] at *)
  all_goals omega
set_option maxHeartbeats 4000000 in
set_option maxRecDepth 100000 in
theorem c_search (l : Launch) (dC : Nat → ClassId) (dI : Nat → Nat → Nat) (sz : Nat) (h0 : Nat) (p2 : Int32) (h0_heap : Nat) (h0_bestWrong : Nat) (h0_bestAsked : Nat) (h0_bestMark : Nat) (h0_bestV : Nat) (a0_marks : Nat) (a0_classes : Nat) (a0_isSort : Nat) (a0_nodes : Nat) (a0_many : Nat) (a0_in : Nat) (a0_asked : Nat) (a0_turned : Nat) (a0_heapYes : Nat) (a0_path : Nat) (k0_heap : ClassId) (f0_heap : Nat → Int32) (k0_bestWrong : ClassId) (f0_bestWrong : Nat → Int32) (k0_bestAsked : ClassId) (f0_bestAsked : Nat → Int32) (k0_bestMark : ClassId) (f0_bestMark : Nat → Int32) (k0_bestV : ClassId) (f0_bestV : Nat → Int32)   : Met l yX8_search wsX8_search ({ frames := 2, cells := 0, slots := 0, locals := 82 }) (va_Pc [.ref h0, .int 0, .int p2] (pw (dC, dI) [(k0_heap, .int), (k0_bestWrong, .int), (k0_bestAsked, .int), (k0_bestMark, .int), (k0_bestV, .int)] [(h0, .inr (8, [.ref a0_marks, .ref a0_classes, .int 0, .ref a0_isSort, .ref a0_nodes, .ref a0_many, .int 0, .ref a0_in, .int 0, .int 0, .int 0, .ref a0_asked, .ref a0_turned, .int 0, .int (-1), .int (-1), .ref h0_heap, .ref a0_heapYes, .ref a0_path, .ref h0_bestWrong, .ref h0_bestAsked, .ref h0_bestMark, .ref h0_bestV])), (h0_heap, .inl (k0_heap, 4, .inl f0_heap)), (h0_bestWrong, .inl (k0_bestWrong, 4, .inl f0_bestWrong)), (h0_bestAsked, .inl (k0_bestAsked, 4, .inl f0_bestAsked)), (h0_bestMark, .inl (k0_bestMark, 4, .inl f0_bestMark)), (h0_bestV, .inl (k0_bestV, 4, .inl f0_bestV))] sz)) (va_Qv (fun (u : vu) => (∃ (f_2 : Nat → Int32) (f_18 : Nat → Int32) (f_21 : Nat → Int32) (f_24 : Nat → Int32) (f_27 : Nat → Int32), u = ([(h0, .inr (8, [.ref a0_marks, .ref a0_classes, .int 0, .ref a0_isSort, .ref a0_nodes, .ref a0_many, .int 0, .ref a0_in, .int 0, .int 0, .int 0, .ref a0_asked, .ref a0_turned, .int 0, .int (-1), .int (-1), .ref h0_heap, .ref a0_heapYes, .ref a0_path, .ref h0_bestWrong, .ref h0_bestAsked, .ref h0_bestMark, .ref h0_bestV])), (h0_heap, .inl (k0_heap, 4, .inl f_2)), (h0_bestWrong, .inl (k0_bestWrong, 4, .inl f_18)), (h0_bestAsked, .inl (k0_bestAsked, 4, .inl f_21)), (h0_bestMark, .inl (k0_bestMark, 4, .inl f_24)), (h0_bestV, .inl (k0_bestV, 4, .inl f_27))], []) ∧ f_2 0 = 0 ∧ f_2 1 = 0 ∧ f_2 2 = 0 ∧ f_2 3 = 0 ∧ f_18 0 = 0 ∧ f_21 0 = 0 ∧ f_24 0 = (-1) ∧ f_27 0 = 0)) (fun u t => qw (dC, dI) u.2 (va_A [(h0, .inr (8, [.ref a0_marks, .ref a0_classes, .int 0, .ref a0_isSort, .ref a0_nodes, .ref a0_many, .int 0, .ref a0_in, .int 0, .int 0, .int 0, .ref a0_asked, .ref a0_turned, .int 0, .int (-1), .int (-1), .ref h0_heap, .ref a0_heapYes, .ref a0_path, .ref h0_bestWrong, .ref h0_bestAsked, .ref h0_bestMark, .ref h0_bestV])), (h0_heap, .inl (k0_heap, 4, .inl f0_heap)), (h0_bestWrong, .inl (k0_bestWrong, 4, .inl f0_bestWrong)), (h0_bestAsked, .inl (k0_bestAsked, 4, .inl f0_bestAsked)), (h0_bestMark, .inl (k0_bestMark, 4, .inl f0_bestMark)), (h0_bestV, .inl (k0_bestV, 4, .inl f0_bestV))] sz) u.1 t) (va_A [(h0, .inr (8, [.ref a0_marks, .ref a0_classes, .int 0, .ref a0_isSort, .ref a0_nodes, .ref a0_many, .int 0, .ref a0_in, .int 0, .int 0, .int 0, .ref a0_asked, .ref a0_turned, .int 0, .int (-1), .int (-1), .ref h0_heap, .ref a0_heapYes, .ref a0_path, .ref h0_bestWrong, .ref h0_bestAsked, .ref h0_bestMark, .ref h0_bestV])), (h0_heap, .inl (k0_heap, 4, .inl f0_heap)), (h0_bestWrong, .inl (k0_bestWrong, 4, .inl f0_bestWrong)), (h0_bestAsked, .inl (k0_bestAsked, 4, .inl f0_bestAsked)), (h0_bestMark, .inl (k0_bestMark, 4, .inl f0_bestMark)), (h0_bestV, .inl (k0_bestV, 4, .inl f0_bestV))] sz)) 0 0 (va_A [(h0, .inr (8, [.ref a0_marks, .ref a0_classes, .int 0, .ref a0_isSort, .ref a0_nodes, .ref a0_many, .int 0, .ref a0_in, .int 0, .int 0, .int 0, .ref a0_asked, .ref a0_turned, .int 0, .int (-1), .int (-1), .ref h0_heap, .ref a0_heapYes, .ref a0_path, .ref h0_bestWrong, .ref h0_bestAsked, .ref h0_bestMark, .ref h0_bestV])), (h0_heap, .inl (k0_heap, 4, .inl f0_heap)), (h0_bestWrong, .inl (k0_bestWrong, 4, .inl f0_bestWrong)), (h0_bestAsked, .inl (k0_bestAsked, 4, .inl f0_bestAsked)), (h0_bestMark, .inl (k0_bestMark, 4, .inl f0_bestMark)), (h0_bestV, .inl (k0_bestV, 4, .inl f0_bestV))] sz) := by
  refine Met.ofW (cc := cX8_search) (maxL := 15) (ret := none) (by decide) rfl ?_
  intro p e s m args below meth c s₁ B hml hv
  obtain ⟨rfl, hsz, hP, hK, hD0, hN⟩ := hv
  have hx := B.exec
  have hb := B.bytes
  have hr := B.returns
  have hts := atoms_spec (ws := wsX8_search) B.pre
  have hown : s.vm.findClass RX8 = some m.cls := findClass_of_methodNamed B.named
  have hlocks := B.notSynchronized
  have hi8 : ∀ w ∈ u_ws RX8 TX8 23, w ∈ wsX8_search := fun _ h => List.mem_cons_of_mem _ (List.mem_append_right _ h)
  subst hsz
  have hD := hD0.self (sz := s.heap.size)
  generalize hAe : va_A [(h0, .inr (8, [.ref a0_marks, .ref a0_classes, .int 0, .ref a0_isSort, .ref a0_nodes, .ref a0_many, .int 0, .ref a0_in, .int 0, .int 0, .int 0, .ref a0_asked, .ref a0_turned, .int 0, .int (-1), .int (-1), .ref h0_heap, .ref a0_heapYes, .ref a0_path, .ref h0_bestWrong, .ref h0_bestAsked, .ref h0_bestMark, .ref h0_bestV])), (h0_heap, .inl (k0_heap, 4, .inl f0_heap)), (h0_bestWrong, .inl (k0_bestWrong, 4, .inl f0_bestWrong)), (h0_bestAsked, .inl (k0_bestAsked, 4, .inl f0_bestAsked)), (h0_bestMark, .inl (k0_bestMark, 4, .inl f0_bestMark)), (h0_bestV, .inl (k0_bestV, 4, .inl f0_bestV))] s.heap.size = A at hD ⊢
  have hA : ∀ q : Nat, s.heap.size ≤ q → A q := fun q h => by rw [← hAe]; exact Or.inr h
  have hS : va_S A s.heap s.heap [] := va_S.rf
  have hl := lv_entry ([.ref h0, .int 0, .int p2]) (n := 15) (Nat.le_of_ble_eq_true rfl)
  rw [lg_entry_eq]
  generalize (lg_sl ([.ref h0, .int 0, .int p2]) ++ List.replicate (15 - (lg_sl ([.ref h0, .int 0, .int p2])).length) Slot.unset).toArray = ls at hl ⊢
  have hl : lv_has ls 15 [(0, .ref h0), (1, .int 0), (2, .int p2)] := hl
  have hP : va_P (dC, dI) vwCl [(h0, .inr (8, [.ref a0_marks, .ref a0_classes, .int 0, .ref a0_isSort, .ref a0_nodes, .ref a0_many, .int 0, .ref a0_in, .int 0, .int 0, .int 0, .ref a0_asked, .ref a0_turned, .int 0, .int (-1), .int (-1), .ref h0_heap, .ref a0_heapYes, .ref a0_path, .ref h0_bestWrong, .ref h0_bestAsked, .ref h0_bestMark, .ref h0_bestV])), (h0_heap, .inl (k0_heap, 4, .inl f0_heap)), (h0_bestWrong, .inl (k0_bestWrong, 4, .inl f0_bestWrong)), (h0_bestAsked, .inl (k0_bestAsked, 4, .inl f0_bestAsked)), (h0_bestMark, .inl (k0_bestMark, 4, .inl f0_bestMark)), (h0_bestV, .inl (k0_bestV, 4, .inl f0_bestV))] s.heap := hP
  refine lv_aload_n hx hb dX8_search_0 rfl (lv_at hl 0 rfl) ?_
  refine lv_iload_n hx hb dX8_search_1 rfl (lv_at hl 1 rfl) ?_
  have hPc := hP.sub (ws' := [(h0, .inr (8, [.ref a0_marks, .ref a0_classes, .int 0, .ref a0_isSort, .ref a0_nodes, .ref a0_many, .int 0, .ref a0_in, .int 0, .int 0, .int 0, .ref a0_asked, .ref a0_turned, .int 0, .int (-1), .int (-1), .ref h0_heap, .ref a0_heapYes, .ref a0_path, .ref h0_bestWrong, .ref h0_bestAsked, .ref h0_bestMark, .ref h0_bestV])), (h0_heap, .inl (k0_heap, 4, .inl f0_heap))]) [0, 1] rfl
  have hDc := hD.sub (ws' := [(h0, .inr (8, [.ref a0_marks, .ref a0_classes, .int 0, .ref a0_isSort, .ref a0_nodes, .ref a0_many, .int 0, .ref a0_in, .int 0, .int 0, .int 0, .ref a0_asked, .ref a0_turned, .int 0, .int (-1), .int (-1), .ref h0_heap, .ref a0_heapYes, .ref a0_path, .ref h0_bestWrong, .ref h0_bestAsked, .ref h0_bestMark, .ref h0_bestV])), (h0_heap, .inl (k0_heap, 4, .inl f0_heap))]) [0, 1] (by decide) rfl
  have hKc := hK.sub (tys' := [(k0_heap, .int)]) [0] rfl
  have hFc := va_free (wc := [(h0, .inr (8, [.ref a0_marks, .ref a0_classes, .int 0, .ref a0_isSort, .ref a0_nodes, .ref a0_many, .int 0, .ref a0_in, .int 0, .int 0, .int 0, .ref a0_asked, .ref a0_turned, .int 0, .int (-1), .int (-1), .ref h0_heap, .ref a0_heapYes, .ref a0_path, .ref h0_bestWrong, .ref h0_bestAsked, .ref h0_bestMark, .ref h0_bestV])), (h0_heap, .inl (k0_heap, 4, .inl f0_heap))]) hD hS hA [0, 1] rfl
  refine va_callv (va_runV (As := [.int 0]) (rest := []) ⟨hx, hb, hml, hown, hts⟩ (c_countRow0 l dC dI s.heap.size h0 h0_heap a0_marks a0_classes a0_isSort a0_nodes a0_many a0_in a0_asked a0_turned a0_heapYes a0_path h0_bestWrong h0_bestAsked h0_bestMark h0_bestV k0_heap f0_heap ) (cwV 1 hts gX8_search_X8_countRow rfl rfl rfl (by decide +kernel) ⟨Nat.le_of_ble_eq_true rfl, Nat.le_of_ble_eq_true rfl⟩) (pre_V hPc hKc hDc hN (ci := 8) (q0 := 0) rfl rfl) rfl rfl hl.1 rfl (lv_room (Nat.le_of_ble_eq_true rfl)) dX8_search_2 ⟨Nat.le_of_ble_eq_true rfl, Nat.le_of_ble_eq_true rfl⟩) hS (fun q _ h => hFc q h) hFc (fun u t H1 locs ht hvm hw hB hz1 hk1 hS => ?_)
  clear hPc hDc hKc
  obtain ⟨f_2, rfl, hk_3, hk_4, hk_5, hk_6⟩ := hw
  obtain ⟨hP1, hK1, hD1⟩ := hB
  rw [ht] at hP1
  obtain ⟨hP, hD⟩ := va_join (wr := [(h0_bestWrong, .inl (k0_bestWrong, 4, .inl f0_bestWrong)), (h0_bestAsked, .inl (k0_bestAsked, 4, .inl f0_bestAsked)), (h0_bestMark, .inl (k0_bestMark, 4, .inl f0_bestMark)), (h0_bestV, .inl (k0_bestV, 4, .inl f0_bestV))]) (w1 := [(h0, .inr (8, [.ref a0_marks, .ref a0_classes, .int 0, .ref a0_isSort, .ref a0_nodes, .ref a0_many, .int 0, .ref a0_in, .int 0, .int 0, .int 0, .ref a0_asked, .ref a0_turned, .int 0, .int (-1), .int (-1), .ref h0_heap, .ref a0_heapYes, .ref a0_path, .ref h0_bestWrong, .ref h0_bestAsked, .ref h0_bestMark, .ref h0_bestV])), (h0_heap, .inl (k0_heap, 4, .inl f_2))]) hP hD [0, 1] [2, 3, 4, 5] rfl rfl (by decide) (by decide) hk1 hFc hP1 hD1
  generalize H1 = H at hP hS ⊢
  clear hP1 hD1 hFc hk1 hz1 ht hvm hK1
  have hP : va_P (dC, dI) vwCl [(h0_bestWrong, .inl (k0_bestWrong, 4, .inl f0_bestWrong)), (h0_bestAsked, .inl (k0_bestAsked, 4, .inl f0_bestAsked)), (h0_bestMark, .inl (k0_bestMark, 4, .inl f0_bestMark)), (h0_bestV, .inl (k0_bestV, 4, .inl f0_bestV)), (h0, .inr (8, [.ref a0_marks, .ref a0_classes, .int 0, .ref a0_isSort, .ref a0_nodes, .ref a0_many, .int 0, .ref a0_in, .int 0, .int 0, .int 0, .ref a0_asked, .ref a0_turned, .int 0, .int (-1), .int (-1), .ref h0_heap, .ref a0_heapYes, .ref a0_path, .ref h0_bestWrong, .ref h0_bestAsked, .ref h0_bestMark, .ref h0_bestV])), (h0_heap, .inl (k0_heap, 4, .inl f_2))] H := hP
  have hD : va_D A [(h0_bestWrong, .inl (k0_bestWrong, 4, .inl f0_bestWrong)), (h0_bestAsked, .inl (k0_bestAsked, 4, .inl f0_bestAsked)), (h0_bestMark, .inl (k0_bestMark, 4, .inl f0_bestMark)), (h0_bestV, .inl (k0_bestV, 4, .inl f0_bestV)), (h0, .inr (8, [.ref a0_marks, .ref a0_classes, .int 0, .ref a0_isSort, .ref a0_nodes, .ref a0_many, .int 0, .ref a0_in, .int 0, .int 0, .int 0, .ref a0_asked, .ref a0_turned, .int 0, .int (-1), .int (-1), .ref h0_heap, .ref a0_heapYes, .ref a0_path, .ref h0_bestWrong, .ref h0_bestAsked, .ref h0_bestMark, .ref h0_bestV])), (h0_heap, .inl (k0_heap, 4, .inl f_2))] := hD
  refine lv_aload_n hx hb dX8_search_5 rfl (lv_at hl 0 rfl) ?_
  refine va_get (D := (dC, dI)) (ci := 8) (v := .ref h0_heap) (C := RX8) (T := TX8) (N := 23) hx hb hts hi8 hown hK hP 4 rfl rfl 16 (by decide) (hts (.fieldLink RX8 43 "AskTreeModel" "heap" "[I") (by decide +kernel)) (fun _ h9 => h9) rfl dX8_search_6 ?_
  refine lv_iconst (v := 0) hx hb dX8_search_9 (by decide) ?_
  refine va_iald hx hb hK hP 5 0 rfl rfl (vi _ _ (by decide)) dX8_search_10 ?_
  refine tvv (v := .int 0) (ci f_2 (k := 0) (by decide) hk_3) ?_
  refine lv_aload_n hx hb dX8_search_11 rfl (lv_at hl 0 rfl) ?_
  refine va_get (D := (dC, dI)) (ci := 8) (v := .ref h0_heap) (C := RX8) (T := TX8) (N := 23) hx hb hts hi8 hown hK hP 4 rfl rfl 16 (by decide) (hts (.fieldLink RX8 43 "AskTreeModel" "heap" "[I") (by decide +kernel)) (fun _ h9 => h9) rfl dX8_search_12 ?_
  refine lv_iconst (v := 1) hx hb dX8_search_15 (by decide) ?_
  refine va_iald hx hb hK hP 5 0 rfl rfl (vi _ _ (by decide)) dX8_search_16 ?_
  refine tvv (v := .int 0) (ci f_2 (k := 1) (by decide) hk_4) ?_
  refine lv_iadd hx hb dX8_search_17 ?_
  refine tvv (v := .int 0) (congrArg Value.int (by decide)) ?_
  refine lv_aload_n hx hb dX8_search_18 rfl (lv_at hl 0 rfl) ?_
  refine va_get (D := (dC, dI)) (ci := 8) (v := .ref h0_heap) (C := RX8) (T := TX8) (N := 23) hx hb hts hi8 hown hK hP 4 rfl rfl 16 (by decide) (hts (.fieldLink RX8 43 "AskTreeModel" "heap" "[I") (by decide +kernel)) (fun _ h9 => h9) rfl dX8_search_19 ?_
  refine lv_iconst (v := 2) hx hb dX8_search_22 (by decide) ?_
  refine va_iald hx hb hK hP 5 0 rfl rfl (vi _ _ (by decide)) dX8_search_23 ?_
  refine tvv (v := .int 0) (ci f_2 (k := 2) (by decide) hk_5) ?_
  refine lv_iadd hx hb dX8_search_24 ?_
  refine tvv (v := .int 0) (congrArg Value.int (by decide)) ?_
  refine lv_aload_n hx hb dX8_search_25 rfl (lv_at hl 0 rfl) ?_
  refine va_get (D := (dC, dI)) (ci := 8) (v := .ref h0_heap) (C := RX8) (T := TX8) (N := 23) hx hb hts hi8 hown hK hP 4 rfl rfl 16 (by decide) (hts (.fieldLink RX8 43 "AskTreeModel" "heap" "[I") (by decide +kernel)) (fun _ h9 => h9) rfl dX8_search_26 ?_
  refine lv_iconst (v := 3) hx hb dX8_search_29 (by decide) ?_
  refine va_iald hx hb hK hP 5 0 rfl rfl (vi _ _ (by decide)) dX8_search_30 ?_
  refine tvv (v := .int 0) (ci f_2 (k := 3) (by decide) hk_6) ?_
  refine lv_iadd hx hb dX8_search_31 ?_
  refine tvv (v := .int 0) (congrArg Value.int (by decide)) ?_
  refine lv_istore_n (lv' := [(3, .int 0), (0, .ref h0), (1, .int 0), (2, .int p2)]) hx hb dX8_search_32 rfl hl (by decide) rfl (fun ls hl => ?_)
  refine lv_iconst (v := 0) hx hb dX8_search_33 (by decide) ?_
  refine lv_istore (lv' := [(4, .int 0), (3, .int 0), (0, .ref h0), (1, .int 0), (2, .int p2)]) hx hb dX8_search_34 hl (by decide) rfl (fun ls hl => ?_)
  refine lv_iconst (v := 0) hx hb dX8_search_36 (by decide) ?_
  refine lv_istore (lv' := [(5, .int 0), (4, .int 0), (3, .int 0), (0, .ref h0), (1, .int 0), (2, .int p2)]) hx hb dX8_search_37 hl (by decide) rfl (fun ls hl => ?_)
  refine lv_iload hx hb dX8_search_39 (lv_at hl 0 rfl) ?_
  refine lv_iconst (v := 4) hx hb dX8_search_41 (by decide) ?_
  refine lv_icmp_ge (tgt := 77) hx hb dX8_search_42 (by decide) (fun c_7 => ?_) (fun c_7 => ?_)
  · exact absurd c_7 (by decide)
  refine lv_aload_n hx hb dX8_search_45 rfl (lv_at hl 3 rfl) ?_
  refine va_get (D := (dC, dI)) (ci := 8) (v := .ref h0_heap) (C := RX8) (T := TX8) (N := 23) hx hb hts hi8 hown hK hP 4 rfl rfl 16 (by decide) (hts (.fieldLink RX8 43 "AskTreeModel" "heap" "[I") (by decide +kernel)) (fun _ h9 => h9) rfl dX8_search_46 ?_
  refine lv_iload hx hb dX8_search_49 (lv_at hl 0 rfl) ?_
  refine va_iald hx hb hK hP 5 0 rfl rfl (vi _ _ (by decide)) dX8_search_51 ?_
  refine tvv (v := .int 0) (ci f_2 (k := 0) (by decide) hk_3) ?_
  refine lv_iload hx hb dX8_search_52 (lv_at hl 1 rfl) ?_
  refine lv_icmp_le (tgt := 67) hx hb dX8_search_54 (by decide) (fun c_8 => ?_) (fun c_8 => ?_)
  rotate_left
  · exact absurd c_8 (by decide)
  refine lv_iload hx hb dX8_search_67 (lv_at hl 1 rfl) ?_
  refine lv_istore (lv' := [(4, .int 0), (5, .int 0), (3, .int 0), (0, .ref h0), (1, .int 0), (2, .int p2)]) hx hb dX8_search_69 hl (by decide) rfl (fun ls hl => ?_)
  refine lv_iinc (v := 1) (lv' := [(5, .int 1), (4, .int 0), (3, .int 0), (0, .ref h0), (1, .int 0), (2, .int p2)]) hx hb dX8_search_71 hl (k := 1) rfl (by decide) (by decide) rfl (fun ls hl => ?_)
  refine lv_goto (tgt := 39) hx hb dX8_search_74 (by decide) ?_
  refine lv_iload hx hb dX8_search_39 (lv_at hl 0 rfl) ?_
  refine lv_iconst (v := 4) hx hb dX8_search_41 (by decide) ?_
  refine lv_icmp_ge (tgt := 77) hx hb dX8_search_42 (by decide) (fun c_9 => ?_) (fun c_9 => ?_)
  · exact absurd c_9 (by decide)
  refine lv_aload_n hx hb dX8_search_45 rfl (lv_at hl 3 rfl) ?_
  refine va_get (D := (dC, dI)) (ci := 8) (v := .ref h0_heap) (C := RX8) (T := TX8) (N := 23) hx hb hts hi8 hown hK hP 4 rfl rfl 16 (by decide) (hts (.fieldLink RX8 43 "AskTreeModel" "heap" "[I") (by decide +kernel)) (fun _ h9 => h9) rfl dX8_search_46 ?_
  refine lv_iload hx hb dX8_search_49 (lv_at hl 0 rfl) ?_
  refine va_iald hx hb hK hP 5 0 rfl rfl (vi _ _ (by decide)) dX8_search_51 ?_
  refine tvv (v := .int 0) (ci f_2 (k := 1) (by decide) hk_4) ?_
  refine lv_iload hx hb dX8_search_52 (lv_at hl 1 rfl) ?_
  refine lv_icmp_le (tgt := 67) hx hb dX8_search_54 (by decide) (fun c_10 => ?_) (fun c_10 => ?_)
  rotate_left
  · exact absurd c_10 (by decide)
  refine lv_iload hx hb dX8_search_67 (lv_at hl 1 rfl) ?_
  refine lv_istore (lv' := [(4, .int 0), (5, .int 1), (3, .int 0), (0, .ref h0), (1, .int 0), (2, .int p2)]) hx hb dX8_search_69 hl (by decide) rfl (fun ls hl => ?_)
  refine lv_iinc (v := 2) (lv' := [(5, .int 2), (4, .int 0), (3, .int 0), (0, .ref h0), (1, .int 0), (2, .int p2)]) hx hb dX8_search_71 hl (k := 1) rfl (by decide) (by decide) rfl (fun ls hl => ?_)
  refine lv_goto (tgt := 39) hx hb dX8_search_74 (by decide) ?_
  refine lv_iload hx hb dX8_search_39 (lv_at hl 0 rfl) ?_
  refine lv_iconst (v := 4) hx hb dX8_search_41 (by decide) ?_
  refine lv_icmp_ge (tgt := 77) hx hb dX8_search_42 (by decide) (fun c_11 => ?_) (fun c_11 => ?_)
  · exact absurd c_11 (by decide)
  refine lv_aload_n hx hb dX8_search_45 rfl (lv_at hl 3 rfl) ?_
  refine va_get (D := (dC, dI)) (ci := 8) (v := .ref h0_heap) (C := RX8) (T := TX8) (N := 23) hx hb hts hi8 hown hK hP 4 rfl rfl 16 (by decide) (hts (.fieldLink RX8 43 "AskTreeModel" "heap" "[I") (by decide +kernel)) (fun _ h9 => h9) rfl dX8_search_46 ?_
  refine lv_iload hx hb dX8_search_49 (lv_at hl 0 rfl) ?_
  refine va_iald hx hb hK hP 5 0 rfl rfl (vi _ _ (by decide)) dX8_search_51 ?_
  refine tvv (v := .int 0) (ci f_2 (k := 2) (by decide) hk_5) ?_
  refine lv_iload hx hb dX8_search_52 (lv_at hl 1 rfl) ?_
  refine lv_icmp_le (tgt := 67) hx hb dX8_search_54 (by decide) (fun c_12 => ?_) (fun c_12 => ?_)
  rotate_left
  · exact absurd c_12 (by decide)
  refine lv_iload hx hb dX8_search_67 (lv_at hl 1 rfl) ?_
  refine lv_istore (lv' := [(4, .int 0), (5, .int 2), (3, .int 0), (0, .ref h0), (1, .int 0), (2, .int p2)]) hx hb dX8_search_69 hl (by decide) rfl (fun ls hl => ?_)
  refine lv_iinc (v := 3) (lv' := [(5, .int 3), (4, .int 0), (3, .int 0), (0, .ref h0), (1, .int 0), (2, .int p2)]) hx hb dX8_search_71 hl (k := 1) rfl (by decide) (by decide) rfl (fun ls hl => ?_)
  refine lv_goto (tgt := 39) hx hb dX8_search_74 (by decide) ?_
  refine lv_iload hx hb dX8_search_39 (lv_at hl 0 rfl) ?_
  refine lv_iconst (v := 4) hx hb dX8_search_41 (by decide) ?_
  refine lv_icmp_ge (tgt := 77) hx hb dX8_search_42 (by decide) (fun c_13 => ?_) (fun c_13 => ?_)
  · exact absurd c_13 (by decide)
  refine lv_aload_n hx hb dX8_search_45 rfl (lv_at hl 3 rfl) ?_
  refine va_get (D := (dC, dI)) (ci := 8) (v := .ref h0_heap) (C := RX8) (T := TX8) (N := 23) hx hb hts hi8 hown hK hP 4 rfl rfl 16 (by decide) (hts (.fieldLink RX8 43 "AskTreeModel" "heap" "[I") (by decide +kernel)) (fun _ h9 => h9) rfl dX8_search_46 ?_
  refine lv_iload hx hb dX8_search_49 (lv_at hl 0 rfl) ?_
  refine va_iald hx hb hK hP 5 0 rfl rfl (vi _ _ (by decide)) dX8_search_51 ?_
  refine tvv (v := .int 0) (ci f_2 (k := 3) (by decide) hk_6) ?_
  refine lv_iload hx hb dX8_search_52 (lv_at hl 1 rfl) ?_
  refine lv_icmp_le (tgt := 67) hx hb dX8_search_54 (by decide) (fun c_14 => ?_) (fun c_14 => ?_)
  rotate_left
  · exact absurd c_14 (by decide)
  refine lv_iload hx hb dX8_search_67 (lv_at hl 1 rfl) ?_
  refine lv_istore (lv' := [(4, .int 0), (5, .int 3), (3, .int 0), (0, .ref h0), (1, .int 0), (2, .int p2)]) hx hb dX8_search_69 hl (by decide) rfl (fun ls hl => ?_)
  refine lv_iinc (v := 4) (lv' := [(5, .int 4), (4, .int 0), (3, .int 0), (0, .ref h0), (1, .int 0), (2, .int p2)]) hx hb dX8_search_71 hl (k := 1) rfl (by decide) (by decide) rfl (fun ls hl => ?_)
  refine lv_goto (tgt := 39) hx hb dX8_search_74 (by decide) ?_
  refine lv_iload hx hb dX8_search_39 (lv_at hl 0 rfl) ?_
  refine lv_iconst (v := 4) hx hb dX8_search_41 (by decide) ?_
  refine lv_icmp_ge (tgt := 77) hx hb dX8_search_42 (by decide) (fun c_15 => ?_) (fun c_15 => ?_)
  rotate_left
  · exact absurd c_15 (by decide)
  refine lv_iload_n hx hb dX8_search_77 rfl (lv_at hl 2 rfl) ?_
  refine lv_iload hx hb dX8_search_78 (lv_at hl 1 rfl) ?_
  refine lv_isub hx hb dX8_search_80 ?_
  refine tvv (v := .int 0) (congrArg Value.int (by decide)) ?_
  refine lv_istore (lv' := [(5, .int 0), (4, .int 0), (3, .int 0), (0, .ref h0), (1, .int 0), (2, .int p2)]) hx hb dX8_search_81 hl (by decide) rfl (fun ls hl => ?_)
  refine lv_iconst (v := 0) hx hb dX8_search_83 (by decide) ?_
  refine lv_istore (lv' := [(6, .int 0), (5, .int 0), (4, .int 0), (3, .int 0), (0, .ref h0), (1, .int 0), (2, .int p2)]) hx hb dX8_search_84 hl (by decide) rfl (fun ls hl => ?_)
  refine lv_iconst (v := (-1)) hx hb dX8_search_86 (by decide) ?_
  refine lv_istore (lv' := [(7, .int (-1)), (6, .int 0), (5, .int 0), (4, .int 0), (3, .int 0), (0, .ref h0), (1, .int 0), (2, .int p2)]) hx hb dX8_search_87 hl (by decide) rfl (fun ls hl => ?_)
  refine lv_iconst (v := 0) hx hb dX8_search_89 (by decide) ?_
  refine lv_istore (lv' := [(8, .int 0), (7, .int (-1)), (6, .int 0), (5, .int 0), (4, .int 0), (3, .int 0), (0, .ref h0), (1, .int 0), (2, .int p2)]) hx hb dX8_search_90 hl (by decide) rfl (fun ls hl => ?_)
  refine lv_iconst (v := 0) hx hb dX8_search_92 (by decide) ?_
  refine lv_istore (lv' := [(9, .int 0), (8, .int 0), (7, .int (-1)), (6, .int 0), (5, .int 0), (4, .int 0), (3, .int 0), (0, .ref h0), (1, .int 0), (2, .int p2)]) hx hb dX8_search_93 hl (by decide) rfl (fun ls hl => ?_)
  refine lv_iload hx hb dX8_search_95 (lv_at hl 0 rfl) ?_
  refine lv_bipush (v := 8) hx hb dX8_search_97 (by decide) ?_
  refine lv_icmp_ge (tgt := 333) hx hb dX8_search_99 (by decide) (fun c_16 => ?_) (fun c_16 => ?_)
  · exact absurd c_16 (by decide)
  refine lv_iload_n hx hb dX8_search_102 rfl (lv_at hl 9 rfl) ?_
  refine lv_if_le (tgt := 333) hx hb dX8_search_103 (by decide) (fun c_17 => ?_) (fun c_17 => ?_)
  · skip
    refine lv_aload_n hx hb dX8_search_333 rfl (lv_at hl 7 rfl) ?_
    refine va_get (D := (dC, dI)) (ci := 8) (v := .ref h0_bestWrong) (C := RX8) (T := TX8) (N := 23) hx hb hts hi8 hown hK hP 4 rfl rfl 19 (by decide) (hts (.fieldLink RX8 52 "AskTreeModel" "bestWrong" "[I") (by decide +kernel)) (fun _ h9 => h9) rfl dX8_search_334 ?_
    refine lv_iload_n hx hb dX8_search_337 rfl (lv_at hl 8 rfl) ?_
    refine lv_iload hx hb dX8_search_338 (lv_at hl 4 rfl) ?_
    refine va_iast hx hb hK hP hD hS 0 1 rfl rfl (vi _ _ (by decide)) dX8_search_340 (fun H locs hP hD hS => ?_)
    have hP : va_P (dC, dI) vwCl [(h0_bestWrong, .inl (k0_bestWrong, 4, .inl (upd f0_bestWrong (Int32.toNatClampNeg 0) 0))), (h0_bestAsked, .inl (k0_bestAsked, 4, .inl f0_bestAsked)), (h0_bestMark, .inl (k0_bestMark, 4, .inl f0_bestMark)), (h0_bestV, .inl (k0_bestV, 4, .inl f0_bestV)), (h0, .inr (8, [.ref a0_marks, .ref a0_classes, .int 0, .ref a0_isSort, .ref a0_nodes, .ref a0_many, .int 0, .ref a0_in, .int 0, .int 0, .int 0, .ref a0_asked, .ref a0_turned, .int 0, .int (-1), .int (-1), .ref h0_heap, .ref a0_heapYes, .ref a0_path, .ref h0_bestWrong, .ref h0_bestAsked, .ref h0_bestMark, .ref h0_bestV])), (h0_heap, .inl (k0_heap, 4, .inl f_2))] H := hP
    have hD : va_D A [(h0_bestWrong, .inl (k0_bestWrong, 4, .inl (upd f0_bestWrong (Int32.toNatClampNeg 0) 0))), (h0_bestAsked, .inl (k0_bestAsked, 4, .inl f0_bestAsked)), (h0_bestMark, .inl (k0_bestMark, 4, .inl f0_bestMark)), (h0_bestV, .inl (k0_bestV, 4, .inl f0_bestV)), (h0, .inr (8, [.ref a0_marks, .ref a0_classes, .int 0, .ref a0_isSort, .ref a0_nodes, .ref a0_many, .int 0, .ref a0_in, .int 0, .int 0, .int 0, .ref a0_asked, .ref a0_turned, .int 0, .int (-1), .int (-1), .ref h0_heap, .ref a0_heapYes, .ref a0_path, .ref h0_bestWrong, .ref h0_bestAsked, .ref h0_bestMark, .ref h0_bestV])), (h0_heap, .inl (k0_heap, 4, .inl f_2))] := hD
    generalize hf_19 : upd f0_bestWrong (Int32.toNatClampNeg 0) 0 = f_18 at hP hD
    have hk_20 : f_18 0 = 0 := by rw [← hf_19]; exact up_s (by decide)
    clear hf_19
    refine lv_aload_n hx hb dX8_search_341 rfl (lv_at hl 7 rfl) ?_
    refine va_get (D := (dC, dI)) (ci := 8) (v := .ref h0_bestAsked) (C := RX8) (T := TX8) (N := 23) hx hb hts hi8 hown hK hP 4 rfl rfl 20 (by decide) (hts (.fieldLink RX8 55 "AskTreeModel" "bestAsked" "[I") (by decide +kernel)) (fun _ h9 => h9) rfl dX8_search_342 ?_
    refine lv_iload_n hx hb dX8_search_345 rfl (lv_at hl 8 rfl) ?_
    refine lv_iload hx hb dX8_search_346 (lv_at hl 3 rfl) ?_
    refine va_iast hx hb hK hP hD hS 1 2 rfl rfl (vi _ _ (by decide)) dX8_search_348 (fun H locs hP hD hS => ?_)
    have hP : va_P (dC, dI) vwCl [(h0_bestWrong, .inl (k0_bestWrong, 4, .inl f_18)), (h0_bestAsked, .inl (k0_bestAsked, 4, .inl (upd f0_bestAsked (Int32.toNatClampNeg 0) 0))), (h0_bestMark, .inl (k0_bestMark, 4, .inl f0_bestMark)), (h0_bestV, .inl (k0_bestV, 4, .inl f0_bestV)), (h0, .inr (8, [.ref a0_marks, .ref a0_classes, .int 0, .ref a0_isSort, .ref a0_nodes, .ref a0_many, .int 0, .ref a0_in, .int 0, .int 0, .int 0, .ref a0_asked, .ref a0_turned, .int 0, .int (-1), .int (-1), .ref h0_heap, .ref a0_heapYes, .ref a0_path, .ref h0_bestWrong, .ref h0_bestAsked, .ref h0_bestMark, .ref h0_bestV])), (h0_heap, .inl (k0_heap, 4, .inl f_2))] H := hP
    have hD : va_D A [(h0_bestWrong, .inl (k0_bestWrong, 4, .inl f_18)), (h0_bestAsked, .inl (k0_bestAsked, 4, .inl (upd f0_bestAsked (Int32.toNatClampNeg 0) 0))), (h0_bestMark, .inl (k0_bestMark, 4, .inl f0_bestMark)), (h0_bestV, .inl (k0_bestV, 4, .inl f0_bestV)), (h0, .inr (8, [.ref a0_marks, .ref a0_classes, .int 0, .ref a0_isSort, .ref a0_nodes, .ref a0_many, .int 0, .ref a0_in, .int 0, .int 0, .int 0, .ref a0_asked, .ref a0_turned, .int 0, .int (-1), .int (-1), .ref h0_heap, .ref a0_heapYes, .ref a0_path, .ref h0_bestWrong, .ref h0_bestAsked, .ref h0_bestMark, .ref h0_bestV])), (h0_heap, .inl (k0_heap, 4, .inl f_2))] := hD
    generalize hf_22 : upd f0_bestAsked (Int32.toNatClampNeg 0) 0 = f_21 at hP hD
    have hk_23 : f_21 0 = 0 := by rw [← hf_22]; exact up_s (by decide)
    clear hf_22
    refine lv_aload_n hx hb dX8_search_349 rfl (lv_at hl 7 rfl) ?_
    refine va_get (D := (dC, dI)) (ci := 8) (v := .ref h0_bestMark) (C := RX8) (T := TX8) (N := 23) hx hb hts hi8 hown hK hP 4 rfl rfl 21 (by decide) (hts (.fieldLink RX8 58 "AskTreeModel" "bestMark" "[I") (by decide +kernel)) (fun _ h9 => h9) rfl dX8_search_350 ?_
    refine lv_iload_n hx hb dX8_search_353 rfl (lv_at hl 8 rfl) ?_
    refine lv_iload hx hb dX8_search_354 (lv_at hl 2 rfl) ?_
    refine va_iast hx hb hK hP hD hS 2 3 rfl rfl (vi _ _ (by decide)) dX8_search_356 (fun H locs hP hD hS => ?_)
    have hP : va_P (dC, dI) vwCl [(h0_bestWrong, .inl (k0_bestWrong, 4, .inl f_18)), (h0_bestAsked, .inl (k0_bestAsked, 4, .inl f_21)), (h0_bestMark, .inl (k0_bestMark, 4, .inl (upd f0_bestMark (Int32.toNatClampNeg 0) (-1)))), (h0_bestV, .inl (k0_bestV, 4, .inl f0_bestV)), (h0, .inr (8, [.ref a0_marks, .ref a0_classes, .int 0, .ref a0_isSort, .ref a0_nodes, .ref a0_many, .int 0, .ref a0_in, .int 0, .int 0, .int 0, .ref a0_asked, .ref a0_turned, .int 0, .int (-1), .int (-1), .ref h0_heap, .ref a0_heapYes, .ref a0_path, .ref h0_bestWrong, .ref h0_bestAsked, .ref h0_bestMark, .ref h0_bestV])), (h0_heap, .inl (k0_heap, 4, .inl f_2))] H := hP
    have hD : va_D A [(h0_bestWrong, .inl (k0_bestWrong, 4, .inl f_18)), (h0_bestAsked, .inl (k0_bestAsked, 4, .inl f_21)), (h0_bestMark, .inl (k0_bestMark, 4, .inl (upd f0_bestMark (Int32.toNatClampNeg 0) (-1)))), (h0_bestV, .inl (k0_bestV, 4, .inl f0_bestV)), (h0, .inr (8, [.ref a0_marks, .ref a0_classes, .int 0, .ref a0_isSort, .ref a0_nodes, .ref a0_many, .int 0, .ref a0_in, .int 0, .int 0, .int 0, .ref a0_asked, .ref a0_turned, .int 0, .int (-1), .int (-1), .ref h0_heap, .ref a0_heapYes, .ref a0_path, .ref h0_bestWrong, .ref h0_bestAsked, .ref h0_bestMark, .ref h0_bestV])), (h0_heap, .inl (k0_heap, 4, .inl f_2))] := hD
    generalize hf_25 : upd f0_bestMark (Int32.toNatClampNeg 0) (-1) = f_24 at hP hD
    have hk_26 : f_24 0 = (-1) := by rw [← hf_25]; exact up_s (by decide)
    clear hf_25
    refine lv_aload_n hx hb dX8_search_357 rfl (lv_at hl 7 rfl) ?_
    refine va_get (D := (dC, dI)) (ci := 8) (v := .ref h0_bestV) (C := RX8) (T := TX8) (N := 23) hx hb hts hi8 hown hK hP 4 rfl rfl 22 (by decide) (hts (.fieldLink RX8 61 "AskTreeModel" "bestV" "[I") (by decide +kernel)) (fun _ h9 => h9) rfl dX8_search_358 ?_
    refine lv_iload_n hx hb dX8_search_361 rfl (lv_at hl 8 rfl) ?_
    refine lv_iload hx hb dX8_search_362 (lv_at hl 1 rfl) ?_
    refine va_iast hx hb hK hP hD hS 3 4 rfl rfl (vi _ _ (by decide)) dX8_search_364 (fun H locs hP hD hS => ?_)
    have hP : va_P (dC, dI) vwCl [(h0_bestWrong, .inl (k0_bestWrong, 4, .inl f_18)), (h0_bestAsked, .inl (k0_bestAsked, 4, .inl f_21)), (h0_bestMark, .inl (k0_bestMark, 4, .inl f_24)), (h0_bestV, .inl (k0_bestV, 4, .inl (upd f0_bestV (Int32.toNatClampNeg 0) 0))), (h0, .inr (8, [.ref a0_marks, .ref a0_classes, .int 0, .ref a0_isSort, .ref a0_nodes, .ref a0_many, .int 0, .ref a0_in, .int 0, .int 0, .int 0, .ref a0_asked, .ref a0_turned, .int 0, .int (-1), .int (-1), .ref h0_heap, .ref a0_heapYes, .ref a0_path, .ref h0_bestWrong, .ref h0_bestAsked, .ref h0_bestMark, .ref h0_bestV])), (h0_heap, .inl (k0_heap, 4, .inl f_2))] H := hP
    have hD : va_D A [(h0_bestWrong, .inl (k0_bestWrong, 4, .inl f_18)), (h0_bestAsked, .inl (k0_bestAsked, 4, .inl f_21)), (h0_bestMark, .inl (k0_bestMark, 4, .inl f_24)), (h0_bestV, .inl (k0_bestV, 4, .inl (upd f0_bestV (Int32.toNatClampNeg 0) 0))), (h0, .inr (8, [.ref a0_marks, .ref a0_classes, .int 0, .ref a0_isSort, .ref a0_nodes, .ref a0_many, .int 0, .ref a0_in, .int 0, .int 0, .int 0, .ref a0_asked, .ref a0_turned, .int 0, .int (-1), .int (-1), .ref h0_heap, .ref a0_heapYes, .ref a0_path, .ref h0_bestWrong, .ref h0_bestAsked, .ref h0_bestMark, .ref h0_bestV])), (h0_heap, .inl (k0_heap, 4, .inl f_2))] := hD
    generalize hf_28 : upd f0_bestV (Int32.toNatClampNeg 0) 0 = f_27 at hP hD
    have hk_29 : f_27 0 = 0 := by rw [← hf_28]; exact up_s (by decide)
    clear hf_28
    have hP9 := hP.sub (ws' := [(h0, .inr (8, [.ref a0_marks, .ref a0_classes, .int 0, .ref a0_isSort, .ref a0_nodes, .ref a0_many, .int 0, .ref a0_in, .int 0, .int 0, .int 0, .ref a0_asked, .ref a0_turned, .int 0, .int (-1), .int (-1), .ref h0_heap, .ref a0_heapYes, .ref a0_path, .ref h0_bestWrong, .ref h0_bestAsked, .ref h0_bestMark, .ref h0_bestV])), (h0_heap, .inl (k0_heap, 4, .inl f_2)), (h0_bestWrong, .inl (k0_bestWrong, 4, .inl f_18)), (h0_bestAsked, .inl (k0_bestAsked, 4, .inl f_21)), (h0_bestMark, .inl (k0_bestMark, 4, .inl f_24)), (h0_bestV, .inl (k0_bestV, 4, .inl f_27))]) [4, 5, 0, 1, 2, 3] rfl
    have hD9 := hD.sub (ws' := [(h0, .inr (8, [.ref a0_marks, .ref a0_classes, .int 0, .ref a0_isSort, .ref a0_nodes, .ref a0_many, .int 0, .ref a0_in, .int 0, .int 0, .int 0, .ref a0_asked, .ref a0_turned, .int 0, .int (-1), .int (-1), .ref h0_heap, .ref a0_heapYes, .ref a0_path, .ref h0_bestWrong, .ref h0_bestAsked, .ref h0_bestMark, .ref h0_bestV])), (h0_heap, .inl (k0_heap, 4, .inl f_2)), (h0_bestWrong, .inl (k0_bestWrong, 4, .inl f_18)), (h0_bestAsked, .inl (k0_bestAsked, 4, .inl f_21)), (h0_bestMark, .inl (k0_bestMark, 4, .inl f_24)), (h0_bestV, .inl (k0_bestV, 4, .inl f_27))]) [4, 5, 0, 1, 2, 3] (by decide) rfl
    have hK9 := hK.sub (tys' := []) [] rfl
    exact W.vret hx hb hr (fun t ht hW => ⟨⟨([(h0, .inr (8, [.ref a0_marks, .ref a0_classes, .int 0, .ref a0_isSort, .ref a0_nodes, .ref a0_many, .int 0, .ref a0_in, .int 0, .int 0, .int 0, .ref a0_asked, .ref a0_turned, .int 0, .int (-1), .int (-1), .ref h0_heap, .ref a0_heapYes, .ref a0_path, .ref h0_bestWrong, .ref h0_bestAsked, .ref h0_bestMark, .ref h0_bestV])), (h0_heap, .inl (k0_heap, 4, .inl f_2)), (h0_bestWrong, .inl (k0_bestWrong, 4, .inl f_18)), (h0_bestAsked, .inl (k0_bestAsked, 4, .inl f_21)), (h0_bestMark, .inl (k0_bestMark, 4, .inl f_24)), (h0_bestV, .inl (k0_bestV, 4, .inl f_27))], []), rfl, ⟨f_2, f_18, f_21, f_24, f_27, rfl, hk_3, hk_4, hk_5, hk_6, hk_20, hk_23, hk_26, hk_29⟩, (by rw [ht]; exact hP9), va_K.moved hW.alike hK9, hD9⟩, hS.F ht⟩) hS.2.2 dX8_search_365
  · skip
    refine lv_iconst (v := 0) hx hb dX8_search_106 (by decide) ?_
    refine lv_istore (lv' := [(10, .int 0), (9, .int 0), (8, .int 0), (7, .int (-1)), (6, .int 0), (5, .int 0), (4, .int 0), (3, .int 0), (0, .ref h0), (1, .int 0), (2, .int p2)]) hx hb dX8_search_107 hl (by decide) rfl (fun ls hl => ?_)
    refine lv_iload hx hb dX8_search_109 (lv_at hl 0 rfl) ?_
    refine lv_aload_n hx hb dX8_search_111 rfl (lv_at hl 8 rfl) ?_
    refine va_get (D := (dC, dI)) (ci := 8) (v := .int 0) (C := RX8) (T := TX8) (N := 23) hx hb hts hi8 hown hK hP 4 rfl rfl 2 (by decide) (hts (.fieldLink RX8 64 "AskTreeModel" "cases" "I") (by decide +kernel)) (fun _ h9 => h9) rfl dX8_search_112 ?_
    refine lv_icmp_ge (tgt := 327) hx hb dX8_search_115 (by decide) (fun c_30 => ?_) (fun c_30 => ?_)
    rotate_left
    · exact absurd c_30 (by decide)
    refine lv_iinc (v := 1) (lv' := [(9, .int 1), (10, .int 0), (8, .int 0), (7, .int (-1)), (6, .int 0), (5, .int 0), (4, .int 0), (3, .int 0), (0, .ref h0), (1, .int 0), (2, .int p2)]) hx hb dX8_search_327 hl (k := 1) rfl (by decide) (by decide) rfl (fun ls hl => ?_)
    refine lv_goto (tgt := 95) hx hb dX8_search_330 (by decide) ?_
    refine lv_iload hx hb dX8_search_95 (lv_at hl 0 rfl) ?_
    refine lv_bipush (v := 8) hx hb dX8_search_97 (by decide) ?_
    refine lv_icmp_ge (tgt := 333) hx hb dX8_search_99 (by decide) (fun c_31 => ?_) (fun c_31 => ?_)
    · exact absurd c_31 (by decide)
    refine lv_iload_n hx hb dX8_search_102 rfl (lv_at hl 10 rfl) ?_
    refine lv_if_le (tgt := 333) hx hb dX8_search_103 (by decide) (fun c_32 => ?_) (fun c_32 => ?_)
    · exact False.elim (lf_search_1 p2 c_17 c_32)
    refine lv_iconst (v := 0) hx hb dX8_search_106 (by decide) ?_
    refine lv_istore (lv' := [(10, .int 0), (9, .int 1), (8, .int 0), (7, .int (-1)), (6, .int 0), (5, .int 0), (4, .int 0), (3, .int 0), (0, .ref h0), (1, .int 0), (2, .int p2)]) hx hb dX8_search_107 hl (by decide) rfl (fun ls hl => ?_)
    refine lv_iload hx hb dX8_search_109 (lv_at hl 0 rfl) ?_
    refine lv_aload_n hx hb dX8_search_111 rfl (lv_at hl 8 rfl) ?_
    refine va_get (D := (dC, dI)) (ci := 8) (v := .int 0) (C := RX8) (T := TX8) (N := 23) hx hb hts hi8 hown hK hP 4 rfl rfl 2 (by decide) (hts (.fieldLink RX8 64 "AskTreeModel" "cases" "I") (by decide +kernel)) (fun _ h9 => h9) rfl dX8_search_112 ?_
    refine lv_icmp_ge (tgt := 327) hx hb dX8_search_115 (by decide) (fun c_33 => ?_) (fun c_33 => ?_)
    rotate_left
    · exact absurd c_33 (by decide)
    refine lv_iinc (v := 2) (lv' := [(9, .int 2), (10, .int 0), (8, .int 0), (7, .int (-1)), (6, .int 0), (5, .int 0), (4, .int 0), (3, .int 0), (0, .ref h0), (1, .int 0), (2, .int p2)]) hx hb dX8_search_327 hl (k := 1) rfl (by decide) (by decide) rfl (fun ls hl => ?_)
    refine lv_goto (tgt := 95) hx hb dX8_search_330 (by decide) ?_
    refine lv_iload hx hb dX8_search_95 (lv_at hl 0 rfl) ?_
    refine lv_bipush (v := 8) hx hb dX8_search_97 (by decide) ?_
    refine lv_icmp_ge (tgt := 333) hx hb dX8_search_99 (by decide) (fun c_34 => ?_) (fun c_34 => ?_)
    · exact absurd c_34 (by decide)
    refine lv_iload_n hx hb dX8_search_102 rfl (lv_at hl 10 rfl) ?_
    refine lv_if_le (tgt := 333) hx hb dX8_search_103 (by decide) (fun c_35 => ?_) (fun c_35 => ?_)
    · exact False.elim (lf_search_2 p2 c_17 c_35)
    refine lv_iconst (v := 0) hx hb dX8_search_106 (by decide) ?_
    refine lv_istore (lv' := [(10, .int 0), (9, .int 2), (8, .int 0), (7, .int (-1)), (6, .int 0), (5, .int 0), (4, .int 0), (3, .int 0), (0, .ref h0), (1, .int 0), (2, .int p2)]) hx hb dX8_search_107 hl (by decide) rfl (fun ls hl => ?_)
    refine lv_iload hx hb dX8_search_109 (lv_at hl 0 rfl) ?_
    refine lv_aload_n hx hb dX8_search_111 rfl (lv_at hl 8 rfl) ?_
    refine va_get (D := (dC, dI)) (ci := 8) (v := .int 0) (C := RX8) (T := TX8) (N := 23) hx hb hts hi8 hown hK hP 4 rfl rfl 2 (by decide) (hts (.fieldLink RX8 64 "AskTreeModel" "cases" "I") (by decide +kernel)) (fun _ h9 => h9) rfl dX8_search_112 ?_
    refine lv_icmp_ge (tgt := 327) hx hb dX8_search_115 (by decide) (fun c_36 => ?_) (fun c_36 => ?_)
    rotate_left
    · exact absurd c_36 (by decide)
    refine lv_iinc (v := 3) (lv' := [(9, .int 3), (10, .int 0), (8, .int 0), (7, .int (-1)), (6, .int 0), (5, .int 0), (4, .int 0), (3, .int 0), (0, .ref h0), (1, .int 0), (2, .int p2)]) hx hb dX8_search_327 hl (k := 1) rfl (by decide) (by decide) rfl (fun ls hl => ?_)
    refine lv_goto (tgt := 95) hx hb dX8_search_330 (by decide) ?_
    refine lv_iload hx hb dX8_search_95 (lv_at hl 0 rfl) ?_
    refine lv_bipush (v := 8) hx hb dX8_search_97 (by decide) ?_
    refine lv_icmp_ge (tgt := 333) hx hb dX8_search_99 (by decide) (fun c_37 => ?_) (fun c_37 => ?_)
    · exact absurd c_37 (by decide)
    refine lv_iload_n hx hb dX8_search_102 rfl (lv_at hl 10 rfl) ?_
    refine lv_if_le (tgt := 333) hx hb dX8_search_103 (by decide) (fun c_38 => ?_) (fun c_38 => ?_)
    · exact False.elim (lf_search_3 p2 c_17 c_38)
    refine lv_iconst (v := 0) hx hb dX8_search_106 (by decide) ?_
    refine lv_istore (lv' := [(10, .int 0), (9, .int 3), (8, .int 0), (7, .int (-1)), (6, .int 0), (5, .int 0), (4, .int 0), (3, .int 0), (0, .ref h0), (1, .int 0), (2, .int p2)]) hx hb dX8_search_107 hl (by decide) rfl (fun ls hl => ?_)
    refine lv_iload hx hb dX8_search_109 (lv_at hl 0 rfl) ?_
    refine lv_aload_n hx hb dX8_search_111 rfl (lv_at hl 8 rfl) ?_
    refine va_get (D := (dC, dI)) (ci := 8) (v := .int 0) (C := RX8) (T := TX8) (N := 23) hx hb hts hi8 hown hK hP 4 rfl rfl 2 (by decide) (hts (.fieldLink RX8 64 "AskTreeModel" "cases" "I") (by decide +kernel)) (fun _ h9 => h9) rfl dX8_search_112 ?_
    refine lv_icmp_ge (tgt := 327) hx hb dX8_search_115 (by decide) (fun c_39 => ?_) (fun c_39 => ?_)
    rotate_left
    · exact absurd c_39 (by decide)
    refine lv_iinc (v := 4) (lv' := [(9, .int 4), (10, .int 0), (8, .int 0), (7, .int (-1)), (6, .int 0), (5, .int 0), (4, .int 0), (3, .int 0), (0, .ref h0), (1, .int 0), (2, .int p2)]) hx hb dX8_search_327 hl (k := 1) rfl (by decide) (by decide) rfl (fun ls hl => ?_)
    refine lv_goto (tgt := 95) hx hb dX8_search_330 (by decide) ?_
    refine lv_iload hx hb dX8_search_95 (lv_at hl 0 rfl) ?_
    refine lv_bipush (v := 8) hx hb dX8_search_97 (by decide) ?_
    refine lv_icmp_ge (tgt := 333) hx hb dX8_search_99 (by decide) (fun c_40 => ?_) (fun c_40 => ?_)
    · exact absurd c_40 (by decide)
    refine lv_iload_n hx hb dX8_search_102 rfl (lv_at hl 10 rfl) ?_
    refine lv_if_le (tgt := 333) hx hb dX8_search_103 (by decide) (fun c_41 => ?_) (fun c_41 => ?_)
    · exact False.elim (lf_search_4 p2 c_17 c_41)
    refine lv_iconst (v := 0) hx hb dX8_search_106 (by decide) ?_
    refine lv_istore (lv' := [(10, .int 0), (9, .int 4), (8, .int 0), (7, .int (-1)), (6, .int 0), (5, .int 0), (4, .int 0), (3, .int 0), (0, .ref h0), (1, .int 0), (2, .int p2)]) hx hb dX8_search_107 hl (by decide) rfl (fun ls hl => ?_)
    refine lv_iload hx hb dX8_search_109 (lv_at hl 0 rfl) ?_
    refine lv_aload_n hx hb dX8_search_111 rfl (lv_at hl 8 rfl) ?_
    refine va_get (D := (dC, dI)) (ci := 8) (v := .int 0) (C := RX8) (T := TX8) (N := 23) hx hb hts hi8 hown hK hP 4 rfl rfl 2 (by decide) (hts (.fieldLink RX8 64 "AskTreeModel" "cases" "I") (by decide +kernel)) (fun _ h9 => h9) rfl dX8_search_112 ?_
    refine lv_icmp_ge (tgt := 327) hx hb dX8_search_115 (by decide) (fun c_42 => ?_) (fun c_42 => ?_)
    rotate_left
    · exact absurd c_42 (by decide)
    refine lv_iinc (v := 5) (lv' := [(9, .int 5), (10, .int 0), (8, .int 0), (7, .int (-1)), (6, .int 0), (5, .int 0), (4, .int 0), (3, .int 0), (0, .ref h0), (1, .int 0), (2, .int p2)]) hx hb dX8_search_327 hl (k := 1) rfl (by decide) (by decide) rfl (fun ls hl => ?_)
    refine lv_goto (tgt := 95) hx hb dX8_search_330 (by decide) ?_
    refine lv_iload hx hb dX8_search_95 (lv_at hl 0 rfl) ?_
    refine lv_bipush (v := 8) hx hb dX8_search_97 (by decide) ?_
    refine lv_icmp_ge (tgt := 333) hx hb dX8_search_99 (by decide) (fun c_43 => ?_) (fun c_43 => ?_)
    · exact absurd c_43 (by decide)
    refine lv_iload_n hx hb dX8_search_102 rfl (lv_at hl 10 rfl) ?_
    refine lv_if_le (tgt := 333) hx hb dX8_search_103 (by decide) (fun c_44 => ?_) (fun c_44 => ?_)
    · exact False.elim (lf_search_5 p2 c_17 c_44)
    refine lv_iconst (v := 0) hx hb dX8_search_106 (by decide) ?_
    refine lv_istore (lv' := [(10, .int 0), (9, .int 5), (8, .int 0), (7, .int (-1)), (6, .int 0), (5, .int 0), (4, .int 0), (3, .int 0), (0, .ref h0), (1, .int 0), (2, .int p2)]) hx hb dX8_search_107 hl (by decide) rfl (fun ls hl => ?_)
    refine lv_iload hx hb dX8_search_109 (lv_at hl 0 rfl) ?_
    refine lv_aload_n hx hb dX8_search_111 rfl (lv_at hl 8 rfl) ?_
    refine va_get (D := (dC, dI)) (ci := 8) (v := .int 0) (C := RX8) (T := TX8) (N := 23) hx hb hts hi8 hown hK hP 4 rfl rfl 2 (by decide) (hts (.fieldLink RX8 64 "AskTreeModel" "cases" "I") (by decide +kernel)) (fun _ h9 => h9) rfl dX8_search_112 ?_
    refine lv_icmp_ge (tgt := 327) hx hb dX8_search_115 (by decide) (fun c_45 => ?_) (fun c_45 => ?_)
    rotate_left
    · exact absurd c_45 (by decide)
    refine lv_iinc (v := 6) (lv' := [(9, .int 6), (10, .int 0), (8, .int 0), (7, .int (-1)), (6, .int 0), (5, .int 0), (4, .int 0), (3, .int 0), (0, .ref h0), (1, .int 0), (2, .int p2)]) hx hb dX8_search_327 hl (k := 1) rfl (by decide) (by decide) rfl (fun ls hl => ?_)
    refine lv_goto (tgt := 95) hx hb dX8_search_330 (by decide) ?_
    refine lv_iload hx hb dX8_search_95 (lv_at hl 0 rfl) ?_
    refine lv_bipush (v := 8) hx hb dX8_search_97 (by decide) ?_
    refine lv_icmp_ge (tgt := 333) hx hb dX8_search_99 (by decide) (fun c_46 => ?_) (fun c_46 => ?_)
    · exact absurd c_46 (by decide)
    refine lv_iload_n hx hb dX8_search_102 rfl (lv_at hl 10 rfl) ?_
    refine lv_if_le (tgt := 333) hx hb dX8_search_103 (by decide) (fun c_47 => ?_) (fun c_47 => ?_)
    · exact False.elim (lf_search_6 p2 c_17 c_47)
    refine lv_iconst (v := 0) hx hb dX8_search_106 (by decide) ?_
    refine lv_istore (lv' := [(10, .int 0), (9, .int 6), (8, .int 0), (7, .int (-1)), (6, .int 0), (5, .int 0), (4, .int 0), (3, .int 0), (0, .ref h0), (1, .int 0), (2, .int p2)]) hx hb dX8_search_107 hl (by decide) rfl (fun ls hl => ?_)
    refine lv_iload hx hb dX8_search_109 (lv_at hl 0 rfl) ?_
    refine lv_aload_n hx hb dX8_search_111 rfl (lv_at hl 8 rfl) ?_
    refine va_get (D := (dC, dI)) (ci := 8) (v := .int 0) (C := RX8) (T := TX8) (N := 23) hx hb hts hi8 hown hK hP 4 rfl rfl 2 (by decide) (hts (.fieldLink RX8 64 "AskTreeModel" "cases" "I") (by decide +kernel)) (fun _ h9 => h9) rfl dX8_search_112 ?_
    refine lv_icmp_ge (tgt := 327) hx hb dX8_search_115 (by decide) (fun c_48 => ?_) (fun c_48 => ?_)
    rotate_left
    · exact absurd c_48 (by decide)
    refine lv_iinc (v := 7) (lv' := [(9, .int 7), (10, .int 0), (8, .int 0), (7, .int (-1)), (6, .int 0), (5, .int 0), (4, .int 0), (3, .int 0), (0, .ref h0), (1, .int 0), (2, .int p2)]) hx hb dX8_search_327 hl (k := 1) rfl (by decide) (by decide) rfl (fun ls hl => ?_)
    refine lv_goto (tgt := 95) hx hb dX8_search_330 (by decide) ?_
    refine lv_iload hx hb dX8_search_95 (lv_at hl 0 rfl) ?_
    refine lv_bipush (v := 8) hx hb dX8_search_97 (by decide) ?_
    refine lv_icmp_ge (tgt := 333) hx hb dX8_search_99 (by decide) (fun c_49 => ?_) (fun c_49 => ?_)
    · exact absurd c_49 (by decide)
    refine lv_iload_n hx hb dX8_search_102 rfl (lv_at hl 10 rfl) ?_
    refine lv_if_le (tgt := 333) hx hb dX8_search_103 (by decide) (fun c_50 => ?_) (fun c_50 => ?_)
    · exact False.elim (lf_search_7 p2 c_17 c_50)
    refine lv_iconst (v := 0) hx hb dX8_search_106 (by decide) ?_
    refine lv_istore (lv' := [(10, .int 0), (9, .int 7), (8, .int 0), (7, .int (-1)), (6, .int 0), (5, .int 0), (4, .int 0), (3, .int 0), (0, .ref h0), (1, .int 0), (2, .int p2)]) hx hb dX8_search_107 hl (by decide) rfl (fun ls hl => ?_)
    refine lv_iload hx hb dX8_search_109 (lv_at hl 0 rfl) ?_
    refine lv_aload_n hx hb dX8_search_111 rfl (lv_at hl 8 rfl) ?_
    refine va_get (D := (dC, dI)) (ci := 8) (v := .int 0) (C := RX8) (T := TX8) (N := 23) hx hb hts hi8 hown hK hP 4 rfl rfl 2 (by decide) (hts (.fieldLink RX8 64 "AskTreeModel" "cases" "I") (by decide +kernel)) (fun _ h9 => h9) rfl dX8_search_112 ?_
    refine lv_icmp_ge (tgt := 327) hx hb dX8_search_115 (by decide) (fun c_51 => ?_) (fun c_51 => ?_)
    rotate_left
    · exact absurd c_51 (by decide)
    refine lv_iinc (v := 8) (lv' := [(9, .int 8), (10, .int 0), (8, .int 0), (7, .int (-1)), (6, .int 0), (5, .int 0), (4, .int 0), (3, .int 0), (0, .ref h0), (1, .int 0), (2, .int p2)]) hx hb dX8_search_327 hl (k := 1) rfl (by decide) (by decide) rfl (fun ls hl => ?_)
    refine lv_goto (tgt := 95) hx hb dX8_search_330 (by decide) ?_
    refine lv_iload hx hb dX8_search_95 (lv_at hl 0 rfl) ?_
    refine lv_bipush (v := 8) hx hb dX8_search_97 (by decide) ?_
    refine lv_icmp_ge (tgt := 333) hx hb dX8_search_99 (by decide) (fun c_52 => ?_) (fun c_52 => ?_)
    rotate_left
    · exact absurd c_52 (by decide)
    refine lv_aload_n hx hb dX8_search_333 rfl (lv_at hl 8 rfl) ?_
    refine va_get (D := (dC, dI)) (ci := 8) (v := .ref h0_bestWrong) (C := RX8) (T := TX8) (N := 23) hx hb hts hi8 hown hK hP 4 rfl rfl 19 (by decide) (hts (.fieldLink RX8 52 "AskTreeModel" "bestWrong" "[I") (by decide +kernel)) (fun _ h9 => h9) rfl dX8_search_334 ?_
    refine lv_iload_n hx hb dX8_search_337 rfl (lv_at hl 9 rfl) ?_
    refine lv_iload hx hb dX8_search_338 (lv_at hl 5 rfl) ?_
    refine va_iast hx hb hK hP hD hS 0 1 rfl rfl (vi _ _ (by decide)) dX8_search_340 (fun H locs hP hD hS => ?_)
    have hP : va_P (dC, dI) vwCl [(h0_bestWrong, .inl (k0_bestWrong, 4, .inl (upd f0_bestWrong (Int32.toNatClampNeg 0) 0))), (h0_bestAsked, .inl (k0_bestAsked, 4, .inl f0_bestAsked)), (h0_bestMark, .inl (k0_bestMark, 4, .inl f0_bestMark)), (h0_bestV, .inl (k0_bestV, 4, .inl f0_bestV)), (h0, .inr (8, [.ref a0_marks, .ref a0_classes, .int 0, .ref a0_isSort, .ref a0_nodes, .ref a0_many, .int 0, .ref a0_in, .int 0, .int 0, .int 0, .ref a0_asked, .ref a0_turned, .int 0, .int (-1), .int (-1), .ref h0_heap, .ref a0_heapYes, .ref a0_path, .ref h0_bestWrong, .ref h0_bestAsked, .ref h0_bestMark, .ref h0_bestV])), (h0_heap, .inl (k0_heap, 4, .inl f_2))] H := hP
    have hD : va_D A [(h0_bestWrong, .inl (k0_bestWrong, 4, .inl (upd f0_bestWrong (Int32.toNatClampNeg 0) 0))), (h0_bestAsked, .inl (k0_bestAsked, 4, .inl f0_bestAsked)), (h0_bestMark, .inl (k0_bestMark, 4, .inl f0_bestMark)), (h0_bestV, .inl (k0_bestV, 4, .inl f0_bestV)), (h0, .inr (8, [.ref a0_marks, .ref a0_classes, .int 0, .ref a0_isSort, .ref a0_nodes, .ref a0_many, .int 0, .ref a0_in, .int 0, .int 0, .int 0, .ref a0_asked, .ref a0_turned, .int 0, .int (-1), .int (-1), .ref h0_heap, .ref a0_heapYes, .ref a0_path, .ref h0_bestWrong, .ref h0_bestAsked, .ref h0_bestMark, .ref h0_bestV])), (h0_heap, .inl (k0_heap, 4, .inl f_2))] := hD
    generalize hf_54 : upd f0_bestWrong (Int32.toNatClampNeg 0) 0 = f_53 at hP hD
    have hk_55 : f_53 0 = 0 := by rw [← hf_54]; exact up_s (by decide)
    clear hf_54
    refine lv_aload_n hx hb dX8_search_341 rfl (lv_at hl 8 rfl) ?_
    refine va_get (D := (dC, dI)) (ci := 8) (v := .ref h0_bestAsked) (C := RX8) (T := TX8) (N := 23) hx hb hts hi8 hown hK hP 4 rfl rfl 20 (by decide) (hts (.fieldLink RX8 55 "AskTreeModel" "bestAsked" "[I") (by decide +kernel)) (fun _ h9 => h9) rfl dX8_search_342 ?_
    refine lv_iload_n hx hb dX8_search_345 rfl (lv_at hl 9 rfl) ?_
    refine lv_iload hx hb dX8_search_346 (lv_at hl 4 rfl) ?_
    refine va_iast hx hb hK hP hD hS 1 2 rfl rfl (vi _ _ (by decide)) dX8_search_348 (fun H locs hP hD hS => ?_)
    have hP : va_P (dC, dI) vwCl [(h0_bestWrong, .inl (k0_bestWrong, 4, .inl f_53)), (h0_bestAsked, .inl (k0_bestAsked, 4, .inl (upd f0_bestAsked (Int32.toNatClampNeg 0) 0))), (h0_bestMark, .inl (k0_bestMark, 4, .inl f0_bestMark)), (h0_bestV, .inl (k0_bestV, 4, .inl f0_bestV)), (h0, .inr (8, [.ref a0_marks, .ref a0_classes, .int 0, .ref a0_isSort, .ref a0_nodes, .ref a0_many, .int 0, .ref a0_in, .int 0, .int 0, .int 0, .ref a0_asked, .ref a0_turned, .int 0, .int (-1), .int (-1), .ref h0_heap, .ref a0_heapYes, .ref a0_path, .ref h0_bestWrong, .ref h0_bestAsked, .ref h0_bestMark, .ref h0_bestV])), (h0_heap, .inl (k0_heap, 4, .inl f_2))] H := hP
    have hD : va_D A [(h0_bestWrong, .inl (k0_bestWrong, 4, .inl f_53)), (h0_bestAsked, .inl (k0_bestAsked, 4, .inl (upd f0_bestAsked (Int32.toNatClampNeg 0) 0))), (h0_bestMark, .inl (k0_bestMark, 4, .inl f0_bestMark)), (h0_bestV, .inl (k0_bestV, 4, .inl f0_bestV)), (h0, .inr (8, [.ref a0_marks, .ref a0_classes, .int 0, .ref a0_isSort, .ref a0_nodes, .ref a0_many, .int 0, .ref a0_in, .int 0, .int 0, .int 0, .ref a0_asked, .ref a0_turned, .int 0, .int (-1), .int (-1), .ref h0_heap, .ref a0_heapYes, .ref a0_path, .ref h0_bestWrong, .ref h0_bestAsked, .ref h0_bestMark, .ref h0_bestV])), (h0_heap, .inl (k0_heap, 4, .inl f_2))] := hD
    generalize hf_57 : upd f0_bestAsked (Int32.toNatClampNeg 0) 0 = f_56 at hP hD
    have hk_58 : f_56 0 = 0 := by rw [← hf_57]; exact up_s (by decide)
    clear hf_57
    refine lv_aload_n hx hb dX8_search_349 rfl (lv_at hl 8 rfl) ?_
    refine va_get (D := (dC, dI)) (ci := 8) (v := .ref h0_bestMark) (C := RX8) (T := TX8) (N := 23) hx hb hts hi8 hown hK hP 4 rfl rfl 21 (by decide) (hts (.fieldLink RX8 58 "AskTreeModel" "bestMark" "[I") (by decide +kernel)) (fun _ h9 => h9) rfl dX8_search_350 ?_
    refine lv_iload_n hx hb dX8_search_353 rfl (lv_at hl 9 rfl) ?_
    refine lv_iload hx hb dX8_search_354 (lv_at hl 3 rfl) ?_
    refine va_iast hx hb hK hP hD hS 2 3 rfl rfl (vi _ _ (by decide)) dX8_search_356 (fun H locs hP hD hS => ?_)
    have hP : va_P (dC, dI) vwCl [(h0_bestWrong, .inl (k0_bestWrong, 4, .inl f_53)), (h0_bestAsked, .inl (k0_bestAsked, 4, .inl f_56)), (h0_bestMark, .inl (k0_bestMark, 4, .inl (upd f0_bestMark (Int32.toNatClampNeg 0) (-1)))), (h0_bestV, .inl (k0_bestV, 4, .inl f0_bestV)), (h0, .inr (8, [.ref a0_marks, .ref a0_classes, .int 0, .ref a0_isSort, .ref a0_nodes, .ref a0_many, .int 0, .ref a0_in, .int 0, .int 0, .int 0, .ref a0_asked, .ref a0_turned, .int 0, .int (-1), .int (-1), .ref h0_heap, .ref a0_heapYes, .ref a0_path, .ref h0_bestWrong, .ref h0_bestAsked, .ref h0_bestMark, .ref h0_bestV])), (h0_heap, .inl (k0_heap, 4, .inl f_2))] H := hP
    have hD : va_D A [(h0_bestWrong, .inl (k0_bestWrong, 4, .inl f_53)), (h0_bestAsked, .inl (k0_bestAsked, 4, .inl f_56)), (h0_bestMark, .inl (k0_bestMark, 4, .inl (upd f0_bestMark (Int32.toNatClampNeg 0) (-1)))), (h0_bestV, .inl (k0_bestV, 4, .inl f0_bestV)), (h0, .inr (8, [.ref a0_marks, .ref a0_classes, .int 0, .ref a0_isSort, .ref a0_nodes, .ref a0_many, .int 0, .ref a0_in, .int 0, .int 0, .int 0, .ref a0_asked, .ref a0_turned, .int 0, .int (-1), .int (-1), .ref h0_heap, .ref a0_heapYes, .ref a0_path, .ref h0_bestWrong, .ref h0_bestAsked, .ref h0_bestMark, .ref h0_bestV])), (h0_heap, .inl (k0_heap, 4, .inl f_2))] := hD
    generalize hf_60 : upd f0_bestMark (Int32.toNatClampNeg 0) (-1) = f_59 at hP hD
    have hk_61 : f_59 0 = (-1) := by rw [← hf_60]; exact up_s (by decide)
    clear hf_60
    refine lv_aload_n hx hb dX8_search_357 rfl (lv_at hl 8 rfl) ?_
    refine va_get (D := (dC, dI)) (ci := 8) (v := .ref h0_bestV) (C := RX8) (T := TX8) (N := 23) hx hb hts hi8 hown hK hP 4 rfl rfl 22 (by decide) (hts (.fieldLink RX8 61 "AskTreeModel" "bestV" "[I") (by decide +kernel)) (fun _ h9 => h9) rfl dX8_search_358 ?_
    refine lv_iload_n hx hb dX8_search_361 rfl (lv_at hl 9 rfl) ?_
    refine lv_iload hx hb dX8_search_362 (lv_at hl 2 rfl) ?_
    refine va_iast hx hb hK hP hD hS 3 4 rfl rfl (vi _ _ (by decide)) dX8_search_364 (fun H locs hP hD hS => ?_)
    have hP : va_P (dC, dI) vwCl [(h0_bestWrong, .inl (k0_bestWrong, 4, .inl f_53)), (h0_bestAsked, .inl (k0_bestAsked, 4, .inl f_56)), (h0_bestMark, .inl (k0_bestMark, 4, .inl f_59)), (h0_bestV, .inl (k0_bestV, 4, .inl (upd f0_bestV (Int32.toNatClampNeg 0) 0))), (h0, .inr (8, [.ref a0_marks, .ref a0_classes, .int 0, .ref a0_isSort, .ref a0_nodes, .ref a0_many, .int 0, .ref a0_in, .int 0, .int 0, .int 0, .ref a0_asked, .ref a0_turned, .int 0, .int (-1), .int (-1), .ref h0_heap, .ref a0_heapYes, .ref a0_path, .ref h0_bestWrong, .ref h0_bestAsked, .ref h0_bestMark, .ref h0_bestV])), (h0_heap, .inl (k0_heap, 4, .inl f_2))] H := hP
    have hD : va_D A [(h0_bestWrong, .inl (k0_bestWrong, 4, .inl f_53)), (h0_bestAsked, .inl (k0_bestAsked, 4, .inl f_56)), (h0_bestMark, .inl (k0_bestMark, 4, .inl f_59)), (h0_bestV, .inl (k0_bestV, 4, .inl (upd f0_bestV (Int32.toNatClampNeg 0) 0))), (h0, .inr (8, [.ref a0_marks, .ref a0_classes, .int 0, .ref a0_isSort, .ref a0_nodes, .ref a0_many, .int 0, .ref a0_in, .int 0, .int 0, .int 0, .ref a0_asked, .ref a0_turned, .int 0, .int (-1), .int (-1), .ref h0_heap, .ref a0_heapYes, .ref a0_path, .ref h0_bestWrong, .ref h0_bestAsked, .ref h0_bestMark, .ref h0_bestV])), (h0_heap, .inl (k0_heap, 4, .inl f_2))] := hD
    generalize hf_63 : upd f0_bestV (Int32.toNatClampNeg 0) 0 = f_62 at hP hD
    have hk_64 : f_62 0 = 0 := by rw [← hf_63]; exact up_s (by decide)
    clear hf_63
    have hP9 := hP.sub (ws' := [(h0, .inr (8, [.ref a0_marks, .ref a0_classes, .int 0, .ref a0_isSort, .ref a0_nodes, .ref a0_many, .int 0, .ref a0_in, .int 0, .int 0, .int 0, .ref a0_asked, .ref a0_turned, .int 0, .int (-1), .int (-1), .ref h0_heap, .ref a0_heapYes, .ref a0_path, .ref h0_bestWrong, .ref h0_bestAsked, .ref h0_bestMark, .ref h0_bestV])), (h0_heap, .inl (k0_heap, 4, .inl f_2)), (h0_bestWrong, .inl (k0_bestWrong, 4, .inl f_53)), (h0_bestAsked, .inl (k0_bestAsked, 4, .inl f_56)), (h0_bestMark, .inl (k0_bestMark, 4, .inl f_59)), (h0_bestV, .inl (k0_bestV, 4, .inl f_62))]) [4, 5, 0, 1, 2, 3] rfl
    have hD9 := hD.sub (ws' := [(h0, .inr (8, [.ref a0_marks, .ref a0_classes, .int 0, .ref a0_isSort, .ref a0_nodes, .ref a0_many, .int 0, .ref a0_in, .int 0, .int 0, .int 0, .ref a0_asked, .ref a0_turned, .int 0, .int (-1), .int (-1), .ref h0_heap, .ref a0_heapYes, .ref a0_path, .ref h0_bestWrong, .ref h0_bestAsked, .ref h0_bestMark, .ref h0_bestV])), (h0_heap, .inl (k0_heap, 4, .inl f_2)), (h0_bestWrong, .inl (k0_bestWrong, 4, .inl f_53)), (h0_bestAsked, .inl (k0_bestAsked, 4, .inl f_56)), (h0_bestMark, .inl (k0_bestMark, 4, .inl f_59)), (h0_bestV, .inl (k0_bestV, 4, .inl f_62))]) [4, 5, 0, 1, 2, 3] (by decide) rfl
    have hK9 := hK.sub (tys' := []) [] rfl
    exact W.vret hx hb hr (fun t ht hW => ⟨⟨([(h0, .inr (8, [.ref a0_marks, .ref a0_classes, .int 0, .ref a0_isSort, .ref a0_nodes, .ref a0_many, .int 0, .ref a0_in, .int 0, .int 0, .int 0, .ref a0_asked, .ref a0_turned, .int 0, .int (-1), .int (-1), .ref h0_heap, .ref a0_heapYes, .ref a0_path, .ref h0_bestWrong, .ref h0_bestAsked, .ref h0_bestMark, .ref h0_bestV])), (h0_heap, .inl (k0_heap, 4, .inl f_2)), (h0_bestWrong, .inl (k0_bestWrong, 4, .inl f_53)), (h0_bestAsked, .inl (k0_bestAsked, 4, .inl f_56)), (h0_bestMark, .inl (k0_bestMark, 4, .inl f_59)), (h0_bestV, .inl (k0_bestV, 4, .inl f_62))], []), rfl, ⟨f_2, f_53, f_56, f_59, f_62, rfl, hk_3, hk_4, hk_5, hk_6, hk_55, hk_58, hk_61, hk_64⟩, (by rw [ht]; exact hP9), va_K.moved hW.alike hK9, hD9⟩, hS.F ht⟩) hS.2.2 dX8_search_365

set_option maxHeartbeats 4000000 in
set_option maxRecDepth 100000 in
theorem c_bestNode (l : Launch) (dC : Nat → ClassId) (dI : Nat → Nat → Nat) (sz : Nat) (h0 : Nat) (p2 : Int32) (h0_heap : Nat) (h0_many : Nat) (h0_nodes : Nat) (h0_bestWrong : Nat) (h0_bestAsked : Nat) (h0_bestMark : Nat) (h0_bestV : Nat) (a0_marks : Nat) (a0_classes : Nat) (a0_isSort : Nat) (a0_in : Nat) (a0_asked : Nat) (a0_turned : Nat) (a0_heapYes : Nat) (a0_path : Nat) (k0_heap : ClassId) (f0_heap : Nat → Int32) (k0_many : ClassId) (f0_many : Nat → Int32) (k0_nodes : ClassId) (f0_nodes : Nat → Int32) (k0_bestWrong : ClassId) (f0_bestWrong : Nat → Int32) (k0_bestAsked : ClassId) (f0_bestAsked : Nat → Int32) (k0_bestMark : ClassId) (f0_bestMark : Nat → Int32) (k0_bestV : ClassId) (f0_bestV : Nat → Int32) (hy0_many_0 : f0_many 0 = 0)  : Met l yX8_bestNode wsX8_bestNode ({ frames := 3, cells := 0, slots := 0, locals := 116 }) (va_Pc [.ref h0, .int 0, .int p2] (pw (dC, dI) [(k0_heap, .int), (k0_many, .int), (k0_nodes, .int), (k0_bestWrong, .int), (k0_bestAsked, .int), (k0_bestMark, .int), (k0_bestV, .int)] [(h0, .inr (8, [.ref a0_marks, .ref a0_classes, .int 0, .ref a0_isSort, .ref h0_nodes, .ref h0_many, .int 0, .ref a0_in, .int 0, .int 0, .int 0, .ref a0_asked, .ref a0_turned, .int 0, .int (-1), .int (-1), .ref h0_heap, .ref a0_heapYes, .ref a0_path, .ref h0_bestWrong, .ref h0_bestAsked, .ref h0_bestMark, .ref h0_bestV])), (h0_heap, .inl (k0_heap, 4, .inl f0_heap)), (h0_many, .inl (k0_many, 21, .inl f0_many)), (h0_nodes, .inl (k0_nodes, 134400, .inl f0_nodes)), (h0_bestWrong, .inl (k0_bestWrong, 4, .inl f0_bestWrong)), (h0_bestAsked, .inl (k0_bestAsked, 4, .inl f0_bestAsked)), (h0_bestMark, .inl (k0_bestMark, 4, .inl f0_bestMark)), (h0_bestV, .inl (k0_bestV, 4, .inl f0_bestV))] sz)) (va_Qi (fun (r : Int32) (u : vu) => (∃ (f_20 : Nat → Int32) (f_3 : Nat → Int32) (f_4 : Nat → Int32) (f_21 : Nat → Int32) (f_22 : Nat → Int32) (f_23 : Nat → Int32) (f_24 : Nat → Int32), u = ([(h0, .inr (8, [.ref a0_marks, .ref a0_classes, .int 0, .ref a0_isSort, .ref h0_nodes, .ref h0_many, .int 0, .ref a0_in, .int 0, .int 0, .int 0, .ref a0_asked, .ref a0_turned, .int 0, .int (-1), .int (-1), .ref h0_heap, .ref a0_heapYes, .ref a0_path, .ref h0_bestWrong, .ref h0_bestAsked, .ref h0_bestMark, .ref h0_bestV])), (h0_heap, .inl (k0_heap, 4, .inl f_20)), (h0_many, .inl (k0_many, 21, .inl f_3)), (h0_nodes, .inl (k0_nodes, 134400, .inl f_4)), (h0_bestWrong, .inl (k0_bestWrong, 4, .inl f_21)), (h0_bestAsked, .inl (k0_bestAsked, 4, .inl f_22)), (h0_bestMark, .inl (k0_bestMark, 4, .inl f_23)), (h0_bestV, .inl (k0_bestV, 4, .inl f_24))], []) ∧ f_20 0 = 0 ∧ f_20 1 = 0 ∧ f_20 2 = 0 ∧ f_20 3 = 0 ∧ f_21 0 = 0 ∧ f_22 0 = 0 ∧ f_23 0 = (-1) ∧ f_24 0 = 0 ∧ r = 0)) (fun u t => qw (dC, dI) u.2 (va_A [(h0, .inr (8, [.ref a0_marks, .ref a0_classes, .int 0, .ref a0_isSort, .ref h0_nodes, .ref h0_many, .int 0, .ref a0_in, .int 0, .int 0, .int 0, .ref a0_asked, .ref a0_turned, .int 0, .int (-1), .int (-1), .ref h0_heap, .ref a0_heapYes, .ref a0_path, .ref h0_bestWrong, .ref h0_bestAsked, .ref h0_bestMark, .ref h0_bestV])), (h0_heap, .inl (k0_heap, 4, .inl f0_heap)), (h0_many, .inl (k0_many, 21, .inl f0_many)), (h0_nodes, .inl (k0_nodes, 134400, .inl f0_nodes)), (h0_bestWrong, .inl (k0_bestWrong, 4, .inl f0_bestWrong)), (h0_bestAsked, .inl (k0_bestAsked, 4, .inl f0_bestAsked)), (h0_bestMark, .inl (k0_bestMark, 4, .inl f0_bestMark)), (h0_bestV, .inl (k0_bestV, 4, .inl f0_bestV))] sz) u.1 t) (va_A [(h0, .inr (8, [.ref a0_marks, .ref a0_classes, .int 0, .ref a0_isSort, .ref h0_nodes, .ref h0_many, .int 0, .ref a0_in, .int 0, .int 0, .int 0, .ref a0_asked, .ref a0_turned, .int 0, .int (-1), .int (-1), .ref h0_heap, .ref a0_heapYes, .ref a0_path, .ref h0_bestWrong, .ref h0_bestAsked, .ref h0_bestMark, .ref h0_bestV])), (h0_heap, .inl (k0_heap, 4, .inl f0_heap)), (h0_many, .inl (k0_many, 21, .inl f0_many)), (h0_nodes, .inl (k0_nodes, 134400, .inl f0_nodes)), (h0_bestWrong, .inl (k0_bestWrong, 4, .inl f0_bestWrong)), (h0_bestAsked, .inl (k0_bestAsked, 4, .inl f0_bestAsked)), (h0_bestMark, .inl (k0_bestMark, 4, .inl f0_bestMark)), (h0_bestV, .inl (k0_bestV, 4, .inl f0_bestV))] sz)) 0 0 (va_A [(h0, .inr (8, [.ref a0_marks, .ref a0_classes, .int 0, .ref a0_isSort, .ref h0_nodes, .ref h0_many, .int 0, .ref a0_in, .int 0, .int 0, .int 0, .ref a0_asked, .ref a0_turned, .int 0, .int (-1), .int (-1), .ref h0_heap, .ref a0_heapYes, .ref a0_path, .ref h0_bestWrong, .ref h0_bestAsked, .ref h0_bestMark, .ref h0_bestV])), (h0_heap, .inl (k0_heap, 4, .inl f0_heap)), (h0_many, .inl (k0_many, 21, .inl f0_many)), (h0_nodes, .inl (k0_nodes, 134400, .inl f0_nodes)), (h0_bestWrong, .inl (k0_bestWrong, 4, .inl f0_bestWrong)), (h0_bestAsked, .inl (k0_bestAsked, 4, .inl f0_bestAsked)), (h0_bestMark, .inl (k0_bestMark, 4, .inl f0_bestMark)), (h0_bestV, .inl (k0_bestV, 4, .inl f0_bestV))] sz) := by
  refine Met.ofW (cc := cX8_bestNode) (maxL := 7) (ret := (some .int)) (by decide) rfl ?_
  intro p e s m args below meth c s₁ B hml hv
  obtain ⟨rfl, hsz, hP, hK, hD0, hN⟩ := hv
  have hx := B.exec
  have hb := B.bytes
  have hr := B.returns
  have hts := atoms_spec (ws := wsX8_bestNode) B.pre
  have hown : s.vm.findClass RX8 = some m.cls := findClass_of_methodNamed B.named
  have hlocks := B.notSynchronized
  have hi8 : ∀ w ∈ u_ws RX8 TX8 23, w ∈ wsX8_bestNode := fun _ h => List.mem_cons_of_mem _ (List.mem_append_right _ h)
  subst hsz
  have hD := hD0.self (sz := s.heap.size)
  generalize hAe : va_A [(h0, .inr (8, [.ref a0_marks, .ref a0_classes, .int 0, .ref a0_isSort, .ref h0_nodes, .ref h0_many, .int 0, .ref a0_in, .int 0, .int 0, .int 0, .ref a0_asked, .ref a0_turned, .int 0, .int (-1), .int (-1), .ref h0_heap, .ref a0_heapYes, .ref a0_path, .ref h0_bestWrong, .ref h0_bestAsked, .ref h0_bestMark, .ref h0_bestV])), (h0_heap, .inl (k0_heap, 4, .inl f0_heap)), (h0_many, .inl (k0_many, 21, .inl f0_many)), (h0_nodes, .inl (k0_nodes, 134400, .inl f0_nodes)), (h0_bestWrong, .inl (k0_bestWrong, 4, .inl f0_bestWrong)), (h0_bestAsked, .inl (k0_bestAsked, 4, .inl f0_bestAsked)), (h0_bestMark, .inl (k0_bestMark, 4, .inl f0_bestMark)), (h0_bestV, .inl (k0_bestV, 4, .inl f0_bestV))] s.heap.size = A at hD ⊢
  have hA : ∀ q : Nat, s.heap.size ≤ q → A q := fun q h => by rw [← hAe]; exact Or.inr h
  have hS : va_S A s.heap s.heap [] := va_S.rf
  have hl := lv_entry ([.ref h0, .int 0, .int p2]) (n := 7) (Nat.le_of_ble_eq_true rfl)
  rw [lg_entry_eq]
  generalize (lg_sl ([.ref h0, .int 0, .int p2]) ++ List.replicate (7 - (lg_sl ([.ref h0, .int 0, .int p2])).length) Slot.unset).toArray = ls at hl ⊢
  have hl : lv_has ls 7 [(0, .ref h0), (1, .int 0), (2, .int p2)] := hl
  have hP : va_P (dC, dI) vwCl [(h0, .inr (8, [.ref a0_marks, .ref a0_classes, .int 0, .ref a0_isSort, .ref h0_nodes, .ref h0_many, .int 0, .ref a0_in, .int 0, .int 0, .int 0, .ref a0_asked, .ref a0_turned, .int 0, .int (-1), .int (-1), .ref h0_heap, .ref a0_heapYes, .ref a0_path, .ref h0_bestWrong, .ref h0_bestAsked, .ref h0_bestMark, .ref h0_bestV])), (h0_heap, .inl (k0_heap, 4, .inl f0_heap)), (h0_many, .inl (k0_many, 21, .inl f0_many)), (h0_nodes, .inl (k0_nodes, 134400, .inl f0_nodes)), (h0_bestWrong, .inl (k0_bestWrong, 4, .inl f0_bestWrong)), (h0_bestAsked, .inl (k0_bestAsked, 4, .inl f0_bestAsked)), (h0_bestMark, .inl (k0_bestMark, 4, .inl f0_bestMark)), (h0_bestV, .inl (k0_bestV, 4, .inl f0_bestV))] s.heap := hP
  refine lv_aload_n hx hb dX8_bestNode_0 rfl (lv_at hl 0 rfl) ?_
  refine lv_iload_n hx hb dX8_bestNode_1 rfl (lv_at hl 1 rfl) ?_
  have hPc := hP.sub (ws' := [(h0, .inr (8, [.ref a0_marks, .ref a0_classes, .int 0, .ref a0_isSort, .ref h0_nodes, .ref h0_many, .int 0, .ref a0_in, .int 0, .int 0, .int 0, .ref a0_asked, .ref a0_turned, .int 0, .int (-1), .int (-1), .ref h0_heap, .ref a0_heapYes, .ref a0_path, .ref h0_bestWrong, .ref h0_bestAsked, .ref h0_bestMark, .ref h0_bestV])), (h0_heap, .inl (k0_heap, 4, .inl f0_heap)), (h0_many, .inl (k0_many, 21, .inl f0_many)), (h0_nodes, .inl (k0_nodes, 134400, .inl f0_nodes))]) [0, 1, 2, 3] rfl
  have hDc := hD.sub (ws' := [(h0, .inr (8, [.ref a0_marks, .ref a0_classes, .int 0, .ref a0_isSort, .ref h0_nodes, .ref h0_many, .int 0, .ref a0_in, .int 0, .int 0, .int 0, .ref a0_asked, .ref a0_turned, .int 0, .int (-1), .int (-1), .ref h0_heap, .ref a0_heapYes, .ref a0_path, .ref h0_bestWrong, .ref h0_bestAsked, .ref h0_bestMark, .ref h0_bestV])), (h0_heap, .inl (k0_heap, 4, .inl f0_heap)), (h0_many, .inl (k0_many, 21, .inl f0_many)), (h0_nodes, .inl (k0_nodes, 134400, .inl f0_nodes))]) [0, 1, 2, 3] (by decide) rfl
  have hKc := hK.sub (tys' := [(k0_heap, .int), (k0_many, .int), (k0_nodes, .int)]) [0, 1, 2] rfl
  have hFc := va_free (wc := [(h0, .inr (8, [.ref a0_marks, .ref a0_classes, .int 0, .ref a0_isSort, .ref h0_nodes, .ref h0_many, .int 0, .ref a0_in, .int 0, .int 0, .int 0, .ref a0_asked, .ref a0_turned, .int 0, .int (-1), .int (-1), .ref h0_heap, .ref a0_heapYes, .ref a0_path, .ref h0_bestWrong, .ref h0_bestAsked, .ref h0_bestMark, .ref h0_bestV])), (h0_heap, .inl (k0_heap, 4, .inl f0_heap)), (h0_many, .inl (k0_many, 21, .inl f0_many)), (h0_nodes, .inl (k0_nodes, 134400, .inl f0_nodes))]) hD hS hA [0, 1, 2, 3] rfl
  refine va_calli (va_runV (As := [.int 0]) (rest := []) ⟨hx, hb, hml, hown, hts⟩ (c_newNode0 l dC dI s.heap.size h0 h0_heap h0_many h0_nodes a0_marks a0_classes a0_isSort a0_in a0_asked a0_turned a0_heapYes a0_path h0_bestWrong h0_bestAsked h0_bestMark h0_bestV k0_heap f0_heap k0_many f0_many k0_nodes f0_nodes hy0_many_0) (cwV 1 hts gX8_bestNode_X8_newNode rfl rfl rfl (by decide +kernel) ⟨Nat.le_of_ble_eq_true rfl, Nat.le_of_ble_eq_true rfl⟩) (pre_V hPc hKc hDc hN (ci := 8) (q0 := 0) rfl rfl) rfl rfl hl.1 rfl (lv_room (Nat.le_of_ble_eq_true rfl)) dX8_bestNode_2 ⟨Nat.le_of_ble_eq_true rfl, Nat.le_of_ble_eq_true rfl⟩) hS (fun q _ h => hFc q h) hFc (fun r_1 u t H1 locs ht hvm hw hB hz1 hk1 hS => ?_)
  clear hPc hDc hKc
  obtain ⟨f_2, f_3, f_4, rfl, hk_5, hk_6, hk_7, hk_8, hk_9, hk_10, hk_11, hk_12, hk_13, hk_14, hk_15, hk_16, hk_17, hk_18, rfl⟩ := hw
  obtain ⟨hP1, hK1, hD1⟩ := hB
  rw [ht] at hP1
  obtain ⟨hP, hD⟩ := va_join (wr := [(h0_bestWrong, .inl (k0_bestWrong, 4, .inl f0_bestWrong)), (h0_bestAsked, .inl (k0_bestAsked, 4, .inl f0_bestAsked)), (h0_bestMark, .inl (k0_bestMark, 4, .inl f0_bestMark)), (h0_bestV, .inl (k0_bestV, 4, .inl f0_bestV))]) (w1 := [(h0, .inr (8, [.ref a0_marks, .ref a0_classes, .int 0, .ref a0_isSort, .ref h0_nodes, .ref h0_many, .int 0, .ref a0_in, .int 0, .int 0, .int 0, .ref a0_asked, .ref a0_turned, .int 0, .int (-1), .int (-1), .ref h0_heap, .ref a0_heapYes, .ref a0_path, .ref h0_bestWrong, .ref h0_bestAsked, .ref h0_bestMark, .ref h0_bestV])), (h0_heap, .inl (k0_heap, 4, .inl f_2)), (h0_many, .inl (k0_many, 21, .inl f_3)), (h0_nodes, .inl (k0_nodes, 134400, .inl f_4))]) hP hD [0, 1, 2, 3] [4, 5, 6, 7] rfl rfl (by decide) (by decide) hk1 hFc hP1 hD1
  generalize H1 = H at hP hS ⊢
  clear hP1 hD1 hFc hk1 hz1 ht hvm hK1
  have hP : va_P (dC, dI) vwCl [(h0_bestWrong, .inl (k0_bestWrong, 4, .inl f0_bestWrong)), (h0_bestAsked, .inl (k0_bestAsked, 4, .inl f0_bestAsked)), (h0_bestMark, .inl (k0_bestMark, 4, .inl f0_bestMark)), (h0_bestV, .inl (k0_bestV, 4, .inl f0_bestV)), (h0, .inr (8, [.ref a0_marks, .ref a0_classes, .int 0, .ref a0_isSort, .ref h0_nodes, .ref h0_many, .int 0, .ref a0_in, .int 0, .int 0, .int 0, .ref a0_asked, .ref a0_turned, .int 0, .int (-1), .int (-1), .ref h0_heap, .ref a0_heapYes, .ref a0_path, .ref h0_bestWrong, .ref h0_bestAsked, .ref h0_bestMark, .ref h0_bestV])), (h0_heap, .inl (k0_heap, 4, .inl f_2)), (h0_many, .inl (k0_many, 21, .inl f_3)), (h0_nodes, .inl (k0_nodes, 134400, .inl f_4))] H := hP
  have hD : va_D A [(h0_bestWrong, .inl (k0_bestWrong, 4, .inl f0_bestWrong)), (h0_bestAsked, .inl (k0_bestAsked, 4, .inl f0_bestAsked)), (h0_bestMark, .inl (k0_bestMark, 4, .inl f0_bestMark)), (h0_bestV, .inl (k0_bestV, 4, .inl f0_bestV)), (h0, .inr (8, [.ref a0_marks, .ref a0_classes, .int 0, .ref a0_isSort, .ref h0_nodes, .ref h0_many, .int 0, .ref a0_in, .int 0, .int 0, .int 0, .ref a0_asked, .ref a0_turned, .int 0, .int (-1), .int (-1), .ref h0_heap, .ref a0_heapYes, .ref a0_path, .ref h0_bestWrong, .ref h0_bestAsked, .ref h0_bestMark, .ref h0_bestV])), (h0_heap, .inl (k0_heap, 4, .inl f_2)), (h0_many, .inl (k0_many, 21, .inl f_3)), (h0_nodes, .inl (k0_nodes, 134400, .inl f_4))] := hD
  refine lv_istore_n (lv' := [(3, .int 0), (0, .ref h0), (1, .int 0), (2, .int p2)]) hx hb dX8_bestNode_5 rfl hl (by decide) rfl (fun ls hl => ?_)
  refine lv_aload_n hx hb dX8_bestNode_6 rfl (lv_at hl 1 rfl) ?_
  refine lv_iload_n hx hb dX8_bestNode_7 rfl (lv_at hl 2 rfl) ?_
  refine lv_iload_n hx hb dX8_bestNode_8 rfl (lv_at hl 3 rfl) ?_
  have hPc := hP.sub (ws' := [(h0, .inr (8, [.ref a0_marks, .ref a0_classes, .int 0, .ref a0_isSort, .ref h0_nodes, .ref h0_many, .int 0, .ref a0_in, .int 0, .int 0, .int 0, .ref a0_asked, .ref a0_turned, .int 0, .int (-1), .int (-1), .ref h0_heap, .ref a0_heapYes, .ref a0_path, .ref h0_bestWrong, .ref h0_bestAsked, .ref h0_bestMark, .ref h0_bestV])), (h0_heap, .inl (k0_heap, 4, .inl f_2)), (h0_bestWrong, .inl (k0_bestWrong, 4, .inl f0_bestWrong)), (h0_bestAsked, .inl (k0_bestAsked, 4, .inl f0_bestAsked)), (h0_bestMark, .inl (k0_bestMark, 4, .inl f0_bestMark)), (h0_bestV, .inl (k0_bestV, 4, .inl f0_bestV))]) [4, 5, 0, 1, 2, 3] rfl
  have hDc := hD.sub (ws' := [(h0, .inr (8, [.ref a0_marks, .ref a0_classes, .int 0, .ref a0_isSort, .ref h0_nodes, .ref h0_many, .int 0, .ref a0_in, .int 0, .int 0, .int 0, .ref a0_asked, .ref a0_turned, .int 0, .int (-1), .int (-1), .ref h0_heap, .ref a0_heapYes, .ref a0_path, .ref h0_bestWrong, .ref h0_bestAsked, .ref h0_bestMark, .ref h0_bestV])), (h0_heap, .inl (k0_heap, 4, .inl f_2)), (h0_bestWrong, .inl (k0_bestWrong, 4, .inl f0_bestWrong)), (h0_bestAsked, .inl (k0_bestAsked, 4, .inl f0_bestAsked)), (h0_bestMark, .inl (k0_bestMark, 4, .inl f0_bestMark)), (h0_bestV, .inl (k0_bestV, 4, .inl f0_bestV))]) [4, 5, 0, 1, 2, 3] (by decide) rfl
  have hKc := hK.sub (tys' := [(k0_heap, .int), (k0_bestWrong, .int), (k0_bestAsked, .int), (k0_bestMark, .int), (k0_bestV, .int)]) [0, 3, 4, 5, 6] rfl
  have hFc := va_free (wc := [(h0, .inr (8, [.ref a0_marks, .ref a0_classes, .int 0, .ref a0_isSort, .ref h0_nodes, .ref h0_many, .int 0, .ref a0_in, .int 0, .int 0, .int 0, .ref a0_asked, .ref a0_turned, .int 0, .int (-1), .int (-1), .ref h0_heap, .ref a0_heapYes, .ref a0_path, .ref h0_bestWrong, .ref h0_bestAsked, .ref h0_bestMark, .ref h0_bestV])), (h0_heap, .inl (k0_heap, 4, .inl f_2)), (h0_bestWrong, .inl (k0_bestWrong, 4, .inl f0_bestWrong)), (h0_bestAsked, .inl (k0_bestAsked, 4, .inl f0_bestAsked)), (h0_bestMark, .inl (k0_bestMark, 4, .inl f0_bestMark)), (h0_bestV, .inl (k0_bestV, 4, .inl f0_bestV))]) hD hS hA [4, 5, 0, 1, 2, 3] rfl
  refine va_callv (va_runV (As := [.int 0, .int p2]) (rest := []) ⟨hx, hb, hml, hown, hts⟩ (c_search l dC dI H.size h0 p2 h0_heap h0_bestWrong h0_bestAsked h0_bestMark h0_bestV a0_marks a0_classes a0_isSort h0_nodes h0_many a0_in a0_asked a0_turned a0_heapYes a0_path k0_heap f_2 k0_bestWrong f0_bestWrong k0_bestAsked f0_bestAsked k0_bestMark f0_bestMark k0_bestV f0_bestV ) (cwV 2 hts gX8_bestNode_X8_search rfl rfl rfl (by decide +kernel) ⟨Nat.le_of_ble_eq_true rfl, Nat.le_of_ble_eq_true rfl⟩) (pre_V hPc hKc hDc hN (ci := 8) (q0 := 0) rfl rfl) rfl rfl hl.1 rfl (lv_room (Nat.le_of_ble_eq_true rfl)) dX8_bestNode_9 ⟨Nat.le_of_ble_eq_true rfl, Nat.le_of_ble_eq_true rfl⟩) hS (fun q _ h => hFc q h) hFc (fun u t H1 locs ht hvm hw hB hz1 hk1 hS => ?_)
  clear hPc hDc hKc
  obtain ⟨f_20, f_21, f_22, f_23, f_24, rfl, hk_25, hk_26, hk_27, hk_28, hk_29, hk_30, hk_31, hk_32⟩ := hw
  obtain ⟨hP1, hK1, hD1⟩ := hB
  rw [ht] at hP1
  obtain ⟨hP, hD⟩ := va_join (wr := [(h0_many, .inl (k0_many, 21, .inl f_3)), (h0_nodes, .inl (k0_nodes, 134400, .inl f_4))]) (w1 := [(h0, .inr (8, [.ref a0_marks, .ref a0_classes, .int 0, .ref a0_isSort, .ref h0_nodes, .ref h0_many, .int 0, .ref a0_in, .int 0, .int 0, .int 0, .ref a0_asked, .ref a0_turned, .int 0, .int (-1), .int (-1), .ref h0_heap, .ref a0_heapYes, .ref a0_path, .ref h0_bestWrong, .ref h0_bestAsked, .ref h0_bestMark, .ref h0_bestV])), (h0_heap, .inl (k0_heap, 4, .inl f_20)), (h0_bestWrong, .inl (k0_bestWrong, 4, .inl f_21)), (h0_bestAsked, .inl (k0_bestAsked, 4, .inl f_22)), (h0_bestMark, .inl (k0_bestMark, 4, .inl f_23)), (h0_bestV, .inl (k0_bestV, 4, .inl f_24))]) hP hD [4, 5, 0, 1, 2, 3] [6, 7] rfl rfl (by decide) (by decide) hk1 hFc hP1 hD1
  generalize H1 = H at hP hS ⊢
  clear hP1 hD1 hFc hk1 hz1 ht hvm hK1
  have hP : va_P (dC, dI) vwCl [(h0_many, .inl (k0_many, 21, .inl f_3)), (h0_nodes, .inl (k0_nodes, 134400, .inl f_4)), (h0, .inr (8, [.ref a0_marks, .ref a0_classes, .int 0, .ref a0_isSort, .ref h0_nodes, .ref h0_many, .int 0, .ref a0_in, .int 0, .int 0, .int 0, .ref a0_asked, .ref a0_turned, .int 0, .int (-1), .int (-1), .ref h0_heap, .ref a0_heapYes, .ref a0_path, .ref h0_bestWrong, .ref h0_bestAsked, .ref h0_bestMark, .ref h0_bestV])), (h0_heap, .inl (k0_heap, 4, .inl f_20)), (h0_bestWrong, .inl (k0_bestWrong, 4, .inl f_21)), (h0_bestAsked, .inl (k0_bestAsked, 4, .inl f_22)), (h0_bestMark, .inl (k0_bestMark, 4, .inl f_23)), (h0_bestV, .inl (k0_bestV, 4, .inl f_24))] H := hP
  have hD : va_D A [(h0_many, .inl (k0_many, 21, .inl f_3)), (h0_nodes, .inl (k0_nodes, 134400, .inl f_4)), (h0, .inr (8, [.ref a0_marks, .ref a0_classes, .int 0, .ref a0_isSort, .ref h0_nodes, .ref h0_many, .int 0, .ref a0_in, .int 0, .int 0, .int 0, .ref a0_asked, .ref a0_turned, .int 0, .int (-1), .int (-1), .ref h0_heap, .ref a0_heapYes, .ref a0_path, .ref h0_bestWrong, .ref h0_bestAsked, .ref h0_bestMark, .ref h0_bestV])), (h0_heap, .inl (k0_heap, 4, .inl f_20)), (h0_bestWrong, .inl (k0_bestWrong, 4, .inl f_21)), (h0_bestAsked, .inl (k0_bestAsked, 4, .inl f_22)), (h0_bestMark, .inl (k0_bestMark, 4, .inl f_23)), (h0_bestV, .inl (k0_bestV, 4, .inl f_24))] := hD
  refine lv_aload_n hx hb dX8_bestNode_12 rfl (lv_at hl 1 rfl) ?_
  refine va_get (D := (dC, dI)) (ci := 8) (v := .ref h0_bestMark) (C := RX8) (T := TX8) (N := 23) hx hb hts hi8 hown hK hP 2 rfl rfl 21 (by decide) (hts (.fieldLink RX8 58 "AskTreeModel" "bestMark" "[I") (by decide +kernel)) (fun _ h9 => h9) rfl dX8_bestNode_13 ?_
  refine lv_iload_n hx hb dX8_bestNode_16 rfl (lv_at hl 2 rfl) ?_
  refine va_iald hx hb hK hP 6 5 rfl rfl (vi _ _ (by decide)) dX8_bestNode_17 ?_
  refine tvv (v := .int (-1)) (ci f_23 (k := 0) (by decide) hk_31) ?_
  refine lv_istore (lv' := [(4, .int (-1)), (3, .int 0), (0, .ref h0), (1, .int 0), (2, .int p2)]) hx hb dX8_bestNode_18 hl (by decide) rfl (fun ls hl => ?_)
  refine lv_aload_n hx hb dX8_bestNode_20 rfl (lv_at hl 2 rfl) ?_
  refine va_get (D := (dC, dI)) (ci := 8) (v := .ref h0_bestV) (C := RX8) (T := TX8) (N := 23) hx hb hts hi8 hown hK hP 2 rfl rfl 22 (by decide) (hts (.fieldLink RX8 61 "AskTreeModel" "bestV" "[I") (by decide +kernel)) (fun _ h9 => h9) rfl dX8_bestNode_21 ?_
  refine lv_iload_n hx hb dX8_bestNode_24 rfl (lv_at hl 3 rfl) ?_
  refine va_iald hx hb hK hP 7 6 rfl rfl (vi _ _ (by decide)) dX8_bestNode_25 ?_
  refine tvv (v := .int 0) (ci f_24 (k := 0) (by decide) hk_32) ?_
  refine lv_istore (lv' := [(5, .int 0), (4, .int (-1)), (3, .int 0), (0, .ref h0), (1, .int 0), (2, .int p2)]) hx hb dX8_bestNode_26 hl (by decide) rfl (fun ls hl => ?_)
  refine lv_iload hx hb dX8_bestNode_28 (lv_at hl 1 rfl) ?_
  refine lv_if_ge (tgt := 35) hx hb dX8_bestNode_30 (by decide) (fun c_33 => ?_) (fun c_33 => ?_)
  · exact absurd c_33 (by decide)
  refine lv_iload_n hx hb dX8_bestNode_33 rfl (lv_at hl 2 rfl) ?_
  have hP9 := hP.sub (ws' := [(h0, .inr (8, [.ref a0_marks, .ref a0_classes, .int 0, .ref a0_isSort, .ref h0_nodes, .ref h0_many, .int 0, .ref a0_in, .int 0, .int 0, .int 0, .ref a0_asked, .ref a0_turned, .int 0, .int (-1), .int (-1), .ref h0_heap, .ref a0_heapYes, .ref a0_path, .ref h0_bestWrong, .ref h0_bestAsked, .ref h0_bestMark, .ref h0_bestV])), (h0_heap, .inl (k0_heap, 4, .inl f_20)), (h0_many, .inl (k0_many, 21, .inl f_3)), (h0_nodes, .inl (k0_nodes, 134400, .inl f_4)), (h0_bestWrong, .inl (k0_bestWrong, 4, .inl f_21)), (h0_bestAsked, .inl (k0_bestAsked, 4, .inl f_22)), (h0_bestMark, .inl (k0_bestMark, 4, .inl f_23)), (h0_bestV, .inl (k0_bestV, 4, .inl f_24))]) [2, 3, 0, 1, 4, 5, 6, 7] rfl
  have hD9 := hD.sub (ws' := [(h0, .inr (8, [.ref a0_marks, .ref a0_classes, .int 0, .ref a0_isSort, .ref h0_nodes, .ref h0_many, .int 0, .ref a0_in, .int 0, .int 0, .int 0, .ref a0_asked, .ref a0_turned, .int 0, .int (-1), .int (-1), .ref h0_heap, .ref a0_heapYes, .ref a0_path, .ref h0_bestWrong, .ref h0_bestAsked, .ref h0_bestMark, .ref h0_bestV])), (h0_heap, .inl (k0_heap, 4, .inl f_20)), (h0_many, .inl (k0_many, 21, .inl f_3)), (h0_nodes, .inl (k0_nodes, 134400, .inl f_4)), (h0_bestWrong, .inl (k0_bestWrong, 4, .inl f_21)), (h0_bestAsked, .inl (k0_bestAsked, 4, .inl f_22)), (h0_bestMark, .inl (k0_bestMark, 4, .inl f_23)), (h0_bestV, .inl (k0_bestV, 4, .inl f_24))]) [2, 3, 0, 1, 4, 5, 6, 7] (by decide) rfl
  have hK9 := hK.sub (tys' := []) [] rfl
  exact W.iret (v := 0) hx hb hr (fun t ht hW => ⟨⟨0, ([(h0, .inr (8, [.ref a0_marks, .ref a0_classes, .int 0, .ref a0_isSort, .ref h0_nodes, .ref h0_many, .int 0, .ref a0_in, .int 0, .int 0, .int 0, .ref a0_asked, .ref a0_turned, .int 0, .int (-1), .int (-1), .ref h0_heap, .ref a0_heapYes, .ref a0_path, .ref h0_bestWrong, .ref h0_bestAsked, .ref h0_bestMark, .ref h0_bestV])), (h0_heap, .inl (k0_heap, 4, .inl f_20)), (h0_many, .inl (k0_many, 21, .inl f_3)), (h0_nodes, .inl (k0_nodes, 134400, .inl f_4)), (h0_bestWrong, .inl (k0_bestWrong, 4, .inl f_21)), (h0_bestAsked, .inl (k0_bestAsked, 4, .inl f_22)), (h0_bestMark, .inl (k0_bestMark, 4, .inl f_23)), (h0_bestV, .inl (k0_bestV, 4, .inl f_24))], []), rfl, ⟨f_20, f_3, f_4, f_21, f_22, f_23, f_24, rfl, hk_25, hk_26, hk_27, hk_28, hk_29, hk_30, hk_31, hk_32, rfl⟩, (by rw [ht]; exact hP9), va_K.moved hW.alike hK9, hD9⟩, hS.F ht⟩) hS.2.2 dX8_bestNode_34
