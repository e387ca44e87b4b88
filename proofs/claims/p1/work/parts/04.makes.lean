set_option maxHeartbeats 4000000 in
set_option maxRecDepth 100000 in
theorem c_cases_init (l : Launch) (dC : Nat → ClassId) (dI : Nat → Nat → Nat) (sz : Nat) (h0 : Nat)   : Met l yX0_init wsX0_init ({ frames := 1, cells := 4, slots := 5108, locals := 60 }) (va_Pc [.ref h0] (pw (dC, dI) [] [(h0, .inr (0, [.null, .null, .null, .null, .int 0]))] sz)) (va_Qv (fun (u : vu) => (∃ (q_1 : Nat) (q_3 : Nat) (q_5 : Nat) (q_7 : Nat) (c_2 : ClassId) (c_4 : ClassId) (c_6 : ClassId) (c_8 : ClassId), u = ([(h0, .inr (0, [.ref q_1, .ref q_3, .ref q_5, .ref q_7, .int 0])), (q_1, .inl (c_2, 8, .inl (fun _ => 0))), (q_3, .inl (c_4, 300, .inl (fun _ => 0))), (q_5, .inl (c_6, 2400, .inl (fun _ => 0))), (q_7, .inl (c_8, 2400, .inl (fun _ => 0)))], [(c_2, .int), (c_4, .int), (c_6, .int), (c_8, .int)]))) (fun u t => qw (dC, dI) u.2 (va_A [(h0, .inr (0, [.null, .null, .null, .null, .int 0]))] sz) u.1 t) (va_A [(h0, .inr (0, [.null, .null, .null, .null, .int 0]))] sz)) 4 5108 (va_A [(h0, .inr (0, [.null, .null, .null, .null, .int 0]))] sz) := by
  refine Met.ofW (cc := cX0_init) (maxL := 1) (ret := none) (by decide) rfl ?_
  intro p e s m args below meth c s₁ B hml hv
  obtain ⟨rfl, hsz, hP, hK, hD0, hN⟩ := hv
  have hx := B.exec
  have hb := B.bytes
  have hr := B.returns
  have hts := atoms_spec (ws := wsX0_init) B.pre
  have hown : s.vm.findClass RX0 = some m.cls := findClass_of_methodNamed B.named
  have hlocks := B.notSynchronized
  have hin : meth.name = "<init>" := (name_of_methodNamed B.named B.method).1
  have hi0 : ∀ w ∈ u_ws RX0 TX0 5, w ∈ wsX0_init := fun _ h => List.mem_cons_of_mem _ (List.mem_append_right _ h)
  subst hsz
  have hD := hD0.self (sz := s.heap.size)
  generalize hAe : va_A [(h0, .inr (0, [.null, .null, .null, .null, .int 0]))] s.heap.size = A at hD ⊢
  have hA : ∀ q : Nat, s.heap.size ≤ q → A q := fun q h => by rw [← hAe]; exact Or.inr h
  have hS : va_S A s.heap s.heap [] := va_S.rf
  have hl := lv_entry ([.ref h0]) (n := 1) (Nat.le_of_ble_eq_true rfl)
  rw [lg_entry_eq]
  generalize (lg_sl ([.ref h0]) ++ List.replicate (1 - (lg_sl ([.ref h0])).length) Slot.unset).toArray = ls at hl ⊢
  have hl : lv_has ls 1 [(0, .ref h0)] := hl
  have hP : va_P (dC, dI) vwCl [(h0, .inr (0, [.null, .null, .null, .null, .int 0]))] s.heap := hP
  refine lv_aload_n hx hb dX0_init_0 rfl (lv_at hl 0 rfl) ?_
  refine W.objInit hx hb hown (hts (.methodLink RX0 3 objectInit) (by decide +kernel)) (hts (.instanceMethod objectInit) (by decide +kernel)) (hts _ (List.mem_of_getElem? (i := 3) rfl)) rfl (by rw [hml]; exact hl.1) rfl dX0_init_1 (Nat.le_of_ble_eq_true rfl) (Nat.le_of_ble_eq_true rfl) ?_
  refine W.eq (g2 := F0 m 4 ls []) rfl ?_
  refine lv_aload_n hx hb dX0_init_4 rfl (lv_at hl 0 rfl) ?_
  refine lv_bipush (v := 8) hx hb dX0_init_5 (by decide) ?_
  refine va_newa (atype := .int) (ty := .int) (N' := 8) (a0 := (8, .inl (fun _ => 0))) hx hb (hts (.arrayClass .int) (by decide +kernel)) rfl hK hP hD hS hA (na_I 8) (by decide +kernel) (by decide +kernel) (by decide +kernel) (Nat.le_of_ble_eq_true rfl) (Nat.le_of_ble_eq_true rfl) dX0_init_7 (fun q_1 c_2 H hK hP hD hS => ?_)
  have hP : va_P (dC, dI) vwCl [(h0, .inr (0, [.null, .null, .null, .null, .int 0])), (q_1, .inl (c_2, 8, .inl (fun _ => 0)))] H := hP
  have hD : va_D A [(h0, .inr (0, [.null, .null, .null, .null, .int 0])), (q_1, .inl (c_2, 8, .inl (fun _ => 0)))] := hD
  have hK : va_K (dC, dI) vwCl [(c_2, .int)] s := hK
  refine W.widen (k := 1) (n := 8) (Nat.le_of_ble_eq_true rfl) (Nat.le_of_ble_eq_true rfl) ?_
  refine va_putF (D := (dC, dI)) (ci := 0) (v := .ref q_1) (ty := .array .int) (C := RX0) (T := TX0) (N := 5) hx hb hts hi0 tyX0 tyX0_ok nmX0 hown hK hP hD hS 0 rfl rfl 0 (by decide) (hts (.fieldLink RX0 9 "AskTree$Cases" "kinds" "[I") (by decide +kernel)) (fun _ h9 => h9) rfl hin rfl (by decide +kernel) rfl rfl (Nat.le_of_ble_eq_true rfl) dX0_init_9 (fun H locs hP hD hS => ?_)
  have hP : va_P (dC, dI) vwCl [(h0, .inr (0, [.ref q_1, .null, .null, .null, .int 0])), (q_1, .inl (c_2, 8, .inl (fun _ => 0)))] H := hP
  have hD : va_D A [(h0, .inr (0, [.ref q_1, .null, .null, .null, .int 0])), (q_1, .inl (c_2, 8, .inl (fun _ => 0)))] := hD
  refine lv_aload_n hx hb dX0_init_12 rfl (lv_at hl 0 rfl) ?_
  refine lv_sipush (v := 300) hx hb dX0_init_13 (by decide) ?_
  refine va_newa (atype := .int) (ty := .int) (N' := 300) (a0 := (300, .inl (fun _ => 0))) hx hb (hts (.arrayClass .int) (by decide +kernel)) rfl hK hP hD hS hA (na_I 300) (by decide +kernel) (by decide +kernel) (by decide +kernel) (Nat.le_of_ble_eq_true rfl) (Nat.le_of_ble_eq_true rfl) dX0_init_16 (fun q_3 c_4 H hK hP hD hS => ?_)
  have hP : va_P (dC, dI) vwCl [(h0, .inr (0, [.ref q_1, .null, .null, .null, .int 0])), (q_1, .inl (c_2, 8, .inl (fun _ => 0))), (q_3, .inl (c_4, 300, .inl (fun _ => 0)))] H := hP
  have hD : va_D A [(h0, .inr (0, [.ref q_1, .null, .null, .null, .int 0])), (q_1, .inl (c_2, 8, .inl (fun _ => 0))), (q_3, .inl (c_4, 300, .inl (fun _ => 0)))] := hD
  have hK : va_K (dC, dI) vwCl [(c_2, .int), (c_4, .int)] s := hK
  refine W.widen (k := 2) (n := 308) (Nat.le_of_ble_eq_true rfl) (Nat.le_of_ble_eq_true rfl) ?_
  refine va_putF (D := (dC, dI)) (ci := 0) (v := .ref q_3) (ty := .array .int) (C := RX0) (T := TX0) (N := 5) hx hb hts hi0 tyX0 tyX0_ok nmX0 hown hK hP hD hS 0 rfl rfl 1 (by decide) (hts (.fieldLink RX0 15 "AskTree$Cases" "classes" "[I") (by decide +kernel)) (fun _ h9 => h9) rfl hin rfl (by decide +kernel) rfl rfl (Nat.le_of_ble_eq_true rfl) dX0_init_18 (fun H locs hP hD hS => ?_)
  have hP : va_P (dC, dI) vwCl [(h0, .inr (0, [.ref q_1, .ref q_3, .null, .null, .int 0])), (q_1, .inl (c_2, 8, .inl (fun _ => 0))), (q_3, .inl (c_4, 300, .inl (fun _ => 0)))] H := hP
  have hD : va_D A [(h0, .inr (0, [.ref q_1, .ref q_3, .null, .null, .int 0])), (q_1, .inl (c_2, 8, .inl (fun _ => 0))), (q_3, .inl (c_4, 300, .inl (fun _ => 0)))] := hD
  refine lv_aload_n hx hb dX0_init_21 rfl (lv_at hl 0 rfl) ?_
  refine lv_sipush (v := 2400) hx hb dX0_init_22 (by decide) ?_
  refine va_newa (atype := .int) (ty := .int) (N' := 2400) (a0 := (2400, .inl (fun _ => 0))) hx hb (hts (.arrayClass .int) (by decide +kernel)) rfl hK hP hD hS hA (na_I 2400) (by decide +kernel) (by decide +kernel) (by decide +kernel) (Nat.le_of_ble_eq_true rfl) (Nat.le_of_ble_eq_true rfl) dX0_init_25 (fun q_5 c_6 H hK hP hD hS => ?_)
  have hP : va_P (dC, dI) vwCl [(h0, .inr (0, [.ref q_1, .ref q_3, .null, .null, .int 0])), (q_1, .inl (c_2, 8, .inl (fun _ => 0))), (q_3, .inl (c_4, 300, .inl (fun _ => 0))), (q_5, .inl (c_6, 2400, .inl (fun _ => 0)))] H := hP
  have hD : va_D A [(h0, .inr (0, [.ref q_1, .ref q_3, .null, .null, .int 0])), (q_1, .inl (c_2, 8, .inl (fun _ => 0))), (q_3, .inl (c_4, 300, .inl (fun _ => 0))), (q_5, .inl (c_6, 2400, .inl (fun _ => 0)))] := hD
  have hK : va_K (dC, dI) vwCl [(c_2, .int), (c_4, .int), (c_6, .int)] s := hK
  refine W.widen (k := 3) (n := 2708) (Nat.le_of_ble_eq_true rfl) (Nat.le_of_ble_eq_true rfl) ?_
  refine va_putF (D := (dC, dI)) (ci := 0) (v := .ref q_5) (ty := .array .int) (C := RX0) (T := TX0) (N := 5) hx hb hts hi0 tyX0 tyX0_ok nmX0 hown hK hP hD hS 0 rfl rfl 2 (by decide) (hts (.fieldLink RX0 18 "AskTree$Cases" "marks" "[I") (by decide +kernel)) (fun _ h9 => h9) rfl hin rfl (by decide +kernel) rfl rfl (Nat.le_of_ble_eq_true rfl) dX0_init_27 (fun H locs hP hD hS => ?_)
  have hP : va_P (dC, dI) vwCl [(h0, .inr (0, [.ref q_1, .ref q_3, .ref q_5, .null, .int 0])), (q_1, .inl (c_2, 8, .inl (fun _ => 0))), (q_3, .inl (c_4, 300, .inl (fun _ => 0))), (q_5, .inl (c_6, 2400, .inl (fun _ => 0)))] H := hP
  have hD : va_D A [(h0, .inr (0, [.ref q_1, .ref q_3, .ref q_5, .null, .int 0])), (q_1, .inl (c_2, 8, .inl (fun _ => 0))), (q_3, .inl (c_4, 300, .inl (fun _ => 0))), (q_5, .inl (c_6, 2400, .inl (fun _ => 0)))] := hD
  refine lv_aload_n hx hb dX0_init_30 rfl (lv_at hl 0 rfl) ?_
  refine lv_sipush (v := 2400) hx hb dX0_init_31 (by decide) ?_
  refine va_newa (atype := .int) (ty := .int) (N' := 2400) (a0 := (2400, .inl (fun _ => 0))) hx hb (hts (.arrayClass .int) (by decide +kernel)) rfl hK hP hD hS hA (na_I 2400) (by decide +kernel) (by decide +kernel) (by decide +kernel) (Nat.le_of_ble_eq_true rfl) (Nat.le_of_ble_eq_true rfl) dX0_init_34 (fun q_7 c_8 H hK hP hD hS => ?_)
  have hP : va_P (dC, dI) vwCl [(h0, .inr (0, [.ref q_1, .ref q_3, .ref q_5, .null, .int 0])), (q_1, .inl (c_2, 8, .inl (fun _ => 0))), (q_3, .inl (c_4, 300, .inl (fun _ => 0))), (q_5, .inl (c_6, 2400, .inl (fun _ => 0))), (q_7, .inl (c_8, 2400, .inl (fun _ => 0)))] H := hP
  have hD : va_D A [(h0, .inr (0, [.ref q_1, .ref q_3, .ref q_5, .null, .int 0])), (q_1, .inl (c_2, 8, .inl (fun _ => 0))), (q_3, .inl (c_4, 300, .inl (fun _ => 0))), (q_5, .inl (c_6, 2400, .inl (fun _ => 0))), (q_7, .inl (c_8, 2400, .inl (fun _ => 0)))] := hD
  have hK : va_K (dC, dI) vwCl [(c_2, .int), (c_4, .int), (c_6, .int), (c_8, .int)] s := hK
  refine W.widen (k := 4) (n := 5108) (Nat.le_of_ble_eq_true rfl) (Nat.le_of_ble_eq_true rfl) ?_
  refine va_putF (D := (dC, dI)) (ci := 0) (v := .ref q_7) (ty := .array .int) (C := RX0) (T := TX0) (N := 5) hx hb hts hi0 tyX0 tyX0_ok nmX0 hown hK hP hD hS 0 rfl rfl 3 (by decide) (hts (.fieldLink RX0 21 "AskTree$Cases" "order" "[I") (by decide +kernel)) (fun _ h9 => h9) rfl hin rfl (by decide +kernel) rfl rfl (Nat.le_of_ble_eq_true rfl) dX0_init_36 (fun H locs hP hD hS => ?_)
  have hP : va_P (dC, dI) vwCl [(h0, .inr (0, [.ref q_1, .ref q_3, .ref q_5, .ref q_7, .int 0])), (q_1, .inl (c_2, 8, .inl (fun _ => 0))), (q_3, .inl (c_4, 300, .inl (fun _ => 0))), (q_5, .inl (c_6, 2400, .inl (fun _ => 0))), (q_7, .inl (c_8, 2400, .inl (fun _ => 0)))] H := hP
  have hD : va_D A [(h0, .inr (0, [.ref q_1, .ref q_3, .ref q_5, .ref q_7, .int 0])), (q_1, .inl (c_2, 8, .inl (fun _ => 0))), (q_3, .inl (c_4, 300, .inl (fun _ => 0))), (q_5, .inl (c_6, 2400, .inl (fun _ => 0))), (q_7, .inl (c_8, 2400, .inl (fun _ => 0)))] := hD
  refine lv_aload_n hx hb dX0_init_39 rfl (lv_at hl 0 rfl) ?_
  refine lv_iconst (v := 0) hx hb dX0_init_40 (by decide) ?_
  refine va_put (D := (dC, dI)) (ci := 0) (v := .int 0) (ty := .int) (C := RX0) (T := TX0) (N := 5) hx hb hts hi0 tyX0 tyX0_ok nmX0 hown hK hP hD hS 0 rfl rfl 4 (by decide) (hts (.fieldLink RX0 24 "AskTree$Cases" "size" "I") (by decide +kernel)) (fun _ h9 => h9) rfl (by decide +kernel) rfl rfl (Nat.le_of_ble_eq_true rfl) dX0_init_41 (fun H locs hP hD hS => ?_)
  have hP : va_P (dC, dI) vwCl [(h0, .inr (0, [.ref q_1, .ref q_3, .ref q_5, .ref q_7, .int 0])), (q_1, .inl (c_2, 8, .inl (fun _ => 0))), (q_3, .inl (c_4, 300, .inl (fun _ => 0))), (q_5, .inl (c_6, 2400, .inl (fun _ => 0))), (q_7, .inl (c_8, 2400, .inl (fun _ => 0)))] H := hP
  have hD : va_D A [(h0, .inr (0, [.ref q_1, .ref q_3, .ref q_5, .ref q_7, .int 0])), (q_1, .inl (c_2, 8, .inl (fun _ => 0))), (q_3, .inl (c_4, 300, .inl (fun _ => 0))), (q_5, .inl (c_6, 2400, .inl (fun _ => 0))), (q_7, .inl (c_8, 2400, .inl (fun _ => 0)))] := hD
  have hP9 := hP.sub (ws' := [(h0, .inr (0, [.ref q_1, .ref q_3, .ref q_5, .ref q_7, .int 0])), (q_1, .inl (c_2, 8, .inl (fun _ => 0))), (q_3, .inl (c_4, 300, .inl (fun _ => 0))), (q_5, .inl (c_6, 2400, .inl (fun _ => 0))), (q_7, .inl (c_8, 2400, .inl (fun _ => 0)))]) [0, 1, 2, 3, 4] rfl
  have hD9 := hD.sub (ws' := [(h0, .inr (0, [.ref q_1, .ref q_3, .ref q_5, .ref q_7, .int 0])), (q_1, .inl (c_2, 8, .inl (fun _ => 0))), (q_3, .inl (c_4, 300, .inl (fun _ => 0))), (q_5, .inl (c_6, 2400, .inl (fun _ => 0))), (q_7, .inl (c_8, 2400, .inl (fun _ => 0)))]) [0, 1, 2, 3, 4] (by decide) rfl
  have hK9 := hK.sub (tys' := [(c_2, .int), (c_4, .int), (c_6, .int), (c_8, .int)]) [0, 1, 2, 3] rfl
  refine W.widen (k := 4) (n := 5108) (Nat.le_of_ble_eq_true rfl) (Nat.le_of_ble_eq_true rfl) ?_
  exact W.vret hx hb hr (fun t ht hW => ⟨⟨([(h0, .inr (0, [.ref q_1, .ref q_3, .ref q_5, .ref q_7, .int 0])), (q_1, .inl (c_2, 8, .inl (fun _ => 0))), (q_3, .inl (c_4, 300, .inl (fun _ => 0))), (q_5, .inl (c_6, 2400, .inl (fun _ => 0))), (q_7, .inl (c_8, 2400, .inl (fun _ => 0)))], [(c_2, .int), (c_4, .int), (c_6, .int), (c_8, .int)]), rfl, ⟨q_1, q_3, q_5, q_7, c_2, c_4, c_6, c_8, rfl⟩, (by rw [ht]; exact hP9), va_K.moved hW.alike hK9, hD9⟩, hS.F ht⟩) hS.2.2 dX0_init_44

set_option maxHeartbeats 4000000 in
set_option maxRecDepth 100000 in
theorem c_rows_init (l : Launch) (dC : Nat → ClassId) (dI : Nat → Nat → Nat) (sz : Nat) (h0 : Nat) (h1 : Nat)   : Met l yX4_init wsX4_init ({ frames := 1, cells := 3, slots := 3000, locals := 60 }) (va_Pc [.ref h0, .ref h1] (pw (dC, dI) [] [(h0, .inr (4, [.null, .null, .null, .null, .int 0]))] sz)) (va_Qv (fun (u : vu) => (∃ (q_1 : Nat) (q_3 : Nat) (q_5 : Nat) (c_2 : ClassId) (c_4 : ClassId) (c_6 : ClassId), u = ([(h0, .inr (4, [.ref q_1, .ref q_3, .ref q_5, .ref h1, .int 0])), (q_1, .inl (c_2, 2400, .inl (fun _ => 0))), (q_3, .inl (c_4, 300, .inl (fun _ => 0))), (q_5, .inl (c_6, 300, .inl (fun _ => 0)))], [(c_2, .int), (c_4, .int), (c_6, .int)]))) (fun u t => qw (dC, dI) u.2 (va_A [(h0, .inr (4, [.null, .null, .null, .null, .int 0]))] sz) u.1 t) (va_A [(h0, .inr (4, [.null, .null, .null, .null, .int 0]))] sz)) 3 3000 (va_A [(h0, .inr (4, [.null, .null, .null, .null, .int 0]))] sz) := by
  refine Met.ofW (cc := cX4_init) (maxL := 2) (ret := none) (by decide) rfl ?_
  intro p e s m args below meth c s₁ B hml hv
  obtain ⟨rfl, hsz, hP, hK, hD0, hN⟩ := hv
  have hx := B.exec
  have hb := B.bytes
  have hr := B.returns
  have hts := atoms_spec (ws := wsX4_init) B.pre
  have hown : s.vm.findClass RX4 = some m.cls := findClass_of_methodNamed B.named
  have hlocks := B.notSynchronized
  have hin : meth.name = "<init>" := (name_of_methodNamed B.named B.method).1
  have hi4 : ∀ w ∈ u_ws RX4 TX4 5, w ∈ wsX4_init := fun _ h => List.mem_cons_of_mem _ (List.mem_append_right _ h)
  subst hsz
  have hD := hD0.self (sz := s.heap.size)
  generalize hAe : va_A [(h0, .inr (4, [.null, .null, .null, .null, .int 0]))] s.heap.size = A at hD ⊢
  have hA : ∀ q : Nat, s.heap.size ≤ q → A q := fun q h => by rw [← hAe]; exact Or.inr h
  have hS : va_S A s.heap s.heap [] := va_S.rf
  have hl := lv_entry ([.ref h0, .ref h1]) (n := 2) (Nat.le_of_ble_eq_true rfl)
  rw [lg_entry_eq]
  generalize (lg_sl ([.ref h0, .ref h1]) ++ List.replicate (2 - (lg_sl ([.ref h0, .ref h1])).length) Slot.unset).toArray = ls at hl ⊢
  have hl : lv_has ls 2 [(0, .ref h0), (1, .ref h1)] := hl
  have hP : va_P (dC, dI) vwCl [(h0, .inr (4, [.null, .null, .null, .null, .int 0]))] s.heap := hP
  refine lv_aload_n hx hb dX4_init_0 rfl (lv_at hl 0 rfl) ?_
  refine W.objInit hx hb hown (hts (.methodLink RX4 3 objectInit) (by decide +kernel)) (hts (.instanceMethod objectInit) (by decide +kernel)) (hts _ (List.mem_of_getElem? (i := 3) rfl)) rfl (by rw [hml]; exact hl.1) rfl dX4_init_1 (Nat.le_of_ble_eq_true rfl) (Nat.le_of_ble_eq_true rfl) ?_
  refine W.eq (g2 := F0 m 4 ls []) rfl ?_
  refine lv_aload_n hx hb dX4_init_4 rfl (lv_at hl 0 rfl) ?_
  refine lv_sipush (v := 2400) hx hb dX4_init_5 (by decide) ?_
  refine va_newa (atype := .int) (ty := .int) (N' := 2400) (a0 := (2400, .inl (fun _ => 0))) hx hb (hts (.arrayClass .int) (by decide +kernel)) rfl hK hP hD hS hA (na_I 2400) (by decide +kernel) (by decide +kernel) (by decide +kernel) (Nat.le_of_ble_eq_true rfl) (Nat.le_of_ble_eq_true rfl) dX4_init_8 (fun q_1 c_2 H hK hP hD hS => ?_)
  have hP : va_P (dC, dI) vwCl [(h0, .inr (4, [.null, .null, .null, .null, .int 0])), (q_1, .inl (c_2, 2400, .inl (fun _ => 0)))] H := hP
  have hD : va_D A [(h0, .inr (4, [.null, .null, .null, .null, .int 0])), (q_1, .inl (c_2, 2400, .inl (fun _ => 0)))] := hD
  have hK : va_K (dC, dI) vwCl [(c_2, .int)] s := hK
  refine W.widen (k := 1) (n := 2400) (Nat.le_of_ble_eq_true rfl) (Nat.le_of_ble_eq_true rfl) ?_
  refine va_putF (D := (dC, dI)) (ci := 4) (v := .ref q_1) (ty := .array .int) (C := RX4) (T := TX4) (N := 5) hx hb hts hi4 tyX4 tyX4_ok nmX4 hown hK hP hD hS 0 rfl rfl 0 (by decide) (hts (.fieldLink RX4 9 "AskTree$Rows" "row" "[I") (by decide +kernel)) (fun _ h9 => h9) rfl hin rfl (by decide +kernel) rfl rfl (Nat.le_of_ble_eq_true rfl) dX4_init_10 (fun H locs hP hD hS => ?_)
  have hP : va_P (dC, dI) vwCl [(h0, .inr (4, [.ref q_1, .null, .null, .null, .int 0])), (q_1, .inl (c_2, 2400, .inl (fun _ => 0)))] H := hP
  have hD : va_D A [(h0, .inr (4, [.ref q_1, .null, .null, .null, .int 0])), (q_1, .inl (c_2, 2400, .inl (fun _ => 0)))] := hD
  refine lv_aload_n hx hb dX4_init_13 rfl (lv_at hl 0 rfl) ?_
  refine lv_sipush (v := 300) hx hb dX4_init_14 (by decide) ?_
  refine va_newa (atype := .int) (ty := .int) (N' := 300) (a0 := (300, .inl (fun _ => 0))) hx hb (hts (.arrayClass .int) (by decide +kernel)) rfl hK hP hD hS hA (na_I 300) (by decide +kernel) (by decide +kernel) (by decide +kernel) (Nat.le_of_ble_eq_true rfl) (Nat.le_of_ble_eq_true rfl) dX4_init_17 (fun q_3 c_4 H hK hP hD hS => ?_)
  have hP : va_P (dC, dI) vwCl [(h0, .inr (4, [.ref q_1, .null, .null, .null, .int 0])), (q_1, .inl (c_2, 2400, .inl (fun _ => 0))), (q_3, .inl (c_4, 300, .inl (fun _ => 0)))] H := hP
  have hD : va_D A [(h0, .inr (4, [.ref q_1, .null, .null, .null, .int 0])), (q_1, .inl (c_2, 2400, .inl (fun _ => 0))), (q_3, .inl (c_4, 300, .inl (fun _ => 0)))] := hD
  have hK : va_K (dC, dI) vwCl [(c_2, .int), (c_4, .int)] s := hK
  refine W.widen (k := 2) (n := 2700) (Nat.le_of_ble_eq_true rfl) (Nat.le_of_ble_eq_true rfl) ?_
  refine va_putF (D := (dC, dI)) (ci := 4) (v := .ref q_3) (ty := .array .int) (C := RX4) (T := TX4) (N := 5) hx hb hts hi4 tyX4 tyX4_ok nmX4 hown hK hP hD hS 0 rfl rfl 1 (by decide) (hts (.fieldLink RX4 15 "AskTree$Rows" "sides" "[I") (by decide +kernel)) (fun _ h9 => h9) rfl hin rfl (by decide +kernel) rfl rfl (Nat.le_of_ble_eq_true rfl) dX4_init_19 (fun H locs hP hD hS => ?_)
  have hP : va_P (dC, dI) vwCl [(h0, .inr (4, [.ref q_1, .ref q_3, .null, .null, .int 0])), (q_1, .inl (c_2, 2400, .inl (fun _ => 0))), (q_3, .inl (c_4, 300, .inl (fun _ => 0)))] H := hP
  have hD : va_D A [(h0, .inr (4, [.ref q_1, .ref q_3, .null, .null, .int 0])), (q_1, .inl (c_2, 2400, .inl (fun _ => 0))), (q_3, .inl (c_4, 300, .inl (fun _ => 0)))] := hD
  refine lv_aload_n hx hb dX4_init_22 rfl (lv_at hl 0 rfl) ?_
  refine lv_sipush (v := 300) hx hb dX4_init_23 (by decide) ?_
  refine va_newa (atype := .int) (ty := .int) (N' := 300) (a0 := (300, .inl (fun _ => 0))) hx hb (hts (.arrayClass .int) (by decide +kernel)) rfl hK hP hD hS hA (na_I 300) (by decide +kernel) (by decide +kernel) (by decide +kernel) (Nat.le_of_ble_eq_true rfl) (Nat.le_of_ble_eq_true rfl) dX4_init_26 (fun q_5 c_6 H hK hP hD hS => ?_)
  have hP : va_P (dC, dI) vwCl [(h0, .inr (4, [.ref q_1, .ref q_3, .null, .null, .int 0])), (q_1, .inl (c_2, 2400, .inl (fun _ => 0))), (q_3, .inl (c_4, 300, .inl (fun _ => 0))), (q_5, .inl (c_6, 300, .inl (fun _ => 0)))] H := hP
  have hD : va_D A [(h0, .inr (4, [.ref q_1, .ref q_3, .null, .null, .int 0])), (q_1, .inl (c_2, 2400, .inl (fun _ => 0))), (q_3, .inl (c_4, 300, .inl (fun _ => 0))), (q_5, .inl (c_6, 300, .inl (fun _ => 0)))] := hD
  have hK : va_K (dC, dI) vwCl [(c_2, .int), (c_4, .int), (c_6, .int)] s := hK
  refine W.widen (k := 3) (n := 3000) (Nat.le_of_ble_eq_true rfl) (Nat.le_of_ble_eq_true rfl) ?_
  refine va_putF (D := (dC, dI)) (ci := 4) (v := .ref q_5) (ty := .array .int) (C := RX4) (T := TX4) (N := 5) hx hb hts hi4 tyX4 tyX4_ok nmX4 hown hK hP hD hS 0 rfl rfl 2 (by decide) (hts (.fieldLink RX4 18 "AskTree$Rows" "kept" "[I") (by decide +kernel)) (fun _ h9 => h9) rfl hin rfl (by decide +kernel) rfl rfl (Nat.le_of_ble_eq_true rfl) dX4_init_28 (fun H locs hP hD hS => ?_)
  have hP : va_P (dC, dI) vwCl [(h0, .inr (4, [.ref q_1, .ref q_3, .ref q_5, .null, .int 0])), (q_1, .inl (c_2, 2400, .inl (fun _ => 0))), (q_3, .inl (c_4, 300, .inl (fun _ => 0))), (q_5, .inl (c_6, 300, .inl (fun _ => 0)))] H := hP
  have hD : va_D A [(h0, .inr (4, [.ref q_1, .ref q_3, .ref q_5, .null, .int 0])), (q_1, .inl (c_2, 2400, .inl (fun _ => 0))), (q_3, .inl (c_4, 300, .inl (fun _ => 0))), (q_5, .inl (c_6, 300, .inl (fun _ => 0)))] := hD
  refine lv_aload_n hx hb dX4_init_31 rfl (lv_at hl 0 rfl) ?_
  refine lv_iconst (v := 0) hx hb dX4_init_32 (by decide) ?_
  refine va_put (D := (dC, dI)) (ci := 4) (v := .int 0) (ty := .int) (C := RX4) (T := TX4) (N := 5) hx hb hts hi4 tyX4 tyX4_ok nmX4 hown hK hP hD hS 0 rfl rfl 4 (by decide) (hts (.fieldLink RX4 21 "AskTree$Rows" "size" "I") (by decide +kernel)) (fun _ h9 => h9) rfl (by decide +kernel) rfl rfl (Nat.le_of_ble_eq_true rfl) dX4_init_33 (fun H locs hP hD hS => ?_)
  have hP : va_P (dC, dI) vwCl [(h0, .inr (4, [.ref q_1, .ref q_3, .ref q_5, .null, .int 0])), (q_1, .inl (c_2, 2400, .inl (fun _ => 0))), (q_3, .inl (c_4, 300, .inl (fun _ => 0))), (q_5, .inl (c_6, 300, .inl (fun _ => 0)))] H := hP
  have hD : va_D A [(h0, .inr (4, [.ref q_1, .ref q_3, .ref q_5, .null, .int 0])), (q_1, .inl (c_2, 2400, .inl (fun _ => 0))), (q_3, .inl (c_4, 300, .inl (fun _ => 0))), (q_5, .inl (c_6, 300, .inl (fun _ => 0)))] := hD
  refine lv_aload_n hx hb dX4_init_36 rfl (lv_at hl 0 rfl) ?_
  refine lv_aload_n hx hb dX4_init_37 rfl (lv_at hl 1 rfl) ?_
  refine va_putF (D := (dC, dI)) (ci := 4) (v := .ref h1) (ty := .object "AskTree$Cases") (C := RX4) (T := TX4) (N := 5) hx hb hts hi4 tyX4 tyX4_ok nmX4 hown hK hP hD hS 0 rfl rfl 3 (by decide) (hts (.fieldLink RX4 25 "AskTree$Rows" "cases" "LAskTree$Cases;") (by decide +kernel)) (fun _ h9 => h9) rfl hin rfl (by decide +kernel) rfl rfl (Nat.le_of_ble_eq_true rfl) dX4_init_38 (fun H locs hP hD hS => ?_)
  have hP : va_P (dC, dI) vwCl [(h0, .inr (4, [.ref q_1, .ref q_3, .ref q_5, .ref h1, .int 0])), (q_1, .inl (c_2, 2400, .inl (fun _ => 0))), (q_3, .inl (c_4, 300, .inl (fun _ => 0))), (q_5, .inl (c_6, 300, .inl (fun _ => 0)))] H := hP
  have hD : va_D A [(h0, .inr (4, [.ref q_1, .ref q_3, .ref q_5, .ref h1, .int 0])), (q_1, .inl (c_2, 2400, .inl (fun _ => 0))), (q_3, .inl (c_4, 300, .inl (fun _ => 0))), (q_5, .inl (c_6, 300, .inl (fun _ => 0)))] := hD
  have hP9 := hP.sub (ws' := [(h0, .inr (4, [.ref q_1, .ref q_3, .ref q_5, .ref h1, .int 0])), (q_1, .inl (c_2, 2400, .inl (fun _ => 0))), (q_3, .inl (c_4, 300, .inl (fun _ => 0))), (q_5, .inl (c_6, 300, .inl (fun _ => 0)))]) [0, 1, 2, 3] rfl
  have hD9 := hD.sub (ws' := [(h0, .inr (4, [.ref q_1, .ref q_3, .ref q_5, .ref h1, .int 0])), (q_1, .inl (c_2, 2400, .inl (fun _ => 0))), (q_3, .inl (c_4, 300, .inl (fun _ => 0))), (q_5, .inl (c_6, 300, .inl (fun _ => 0)))]) [0, 1, 2, 3] (by decide) rfl
  have hK9 := hK.sub (tys' := [(c_2, .int), (c_4, .int), (c_6, .int)]) [0, 1, 2] rfl
  refine W.widen (k := 3) (n := 3000) (Nat.le_of_ble_eq_true rfl) (Nat.le_of_ble_eq_true rfl) ?_
  exact W.vret hx hb hr (fun t ht hW => ⟨⟨([(h0, .inr (4, [.ref q_1, .ref q_3, .ref q_5, .ref h1, .int 0])), (q_1, .inl (c_2, 2400, .inl (fun _ => 0))), (q_3, .inl (c_4, 300, .inl (fun _ => 0))), (q_5, .inl (c_6, 300, .inl (fun _ => 0)))], [(c_2, .int), (c_4, .int), (c_6, .int)]), rfl, ⟨q_1, q_3, q_5, c_2, c_4, c_6, rfl⟩, (by rw [ht]; exact hP9), va_K.moved hW.alike hK9, hD9⟩, hS.F ht⟩) hS.2.2 dX4_init_41

set_option maxHeartbeats 4000000 in
set_option maxRecDepth 100000 in
theorem c_grower_init (l : Launch) (dC : Nat → ClassId) (dI : Nat → Nat → Nat) (sz : Nat) (h0 : Nat) (h1 : Nat) (h2 : Nat)   : Met l yX2_init wsX2_init ({ frames := 1, cells := 3, slots := 12, locals := 60 }) (va_Pc [.ref h0, .ref h1, .ref h2] (pw (dC, dI) [] [(h0, .inr (2, [.null, .null, .null, .null, .null, .int 0, .int 0, .int 0, .int 0, .int 0, .long 0, .long 0]))] sz)) (va_Qv (fun (u : vu) => (∃ (q_1 : Nat) (q_3 : Nat) (q_5 : Nat) (c_2 : ClassId) (c_4 : ClassId) (c_6 : ClassId), u = ([(h0, .inr (2, [.ref h1, .ref h2, .ref q_1, .ref q_3, .ref q_5, .int 0, .int 0, .int 0, .int 0, .int 0, .long 0, .long 0])), (q_1, .inl (c_2, 4, .inl (fun _ => 0))), (q_3, .inl (c_4, 4, .inl (fun _ => 0))), (q_5, .inl (c_6, 4, .inl (fun _ => 0)))], [(c_2, .int), (c_4, .int), (c_6, .int)]))) (fun u t => qw (dC, dI) u.2 (va_A [(h0, .inr (2, [.null, .null, .null, .null, .null, .int 0, .int 0, .int 0, .int 0, .int 0, .long 0, .long 0]))] sz) u.1 t) (va_A [(h0, .inr (2, [.null, .null, .null, .null, .null, .int 0, .int 0, .int 0, .int 0, .int 0, .long 0, .long 0]))] sz)) 3 12 (va_A [(h0, .inr (2, [.null, .null, .null, .null, .null, .int 0, .int 0, .int 0, .int 0, .int 0, .long 0, .long 0]))] sz) := by
  refine Met.ofW (cc := cX2_init) (maxL := 3) (ret := none) (by decide) rfl ?_
  intro p e s m args below meth c s₁ B hml hv
  obtain ⟨rfl, hsz, hP, hK, hD0, hN⟩ := hv
  have hx := B.exec
  have hb := B.bytes
  have hr := B.returns
  have hts := atoms_spec (ws := wsX2_init) B.pre
  have hown : s.vm.findClass RX2 = some m.cls := findClass_of_methodNamed B.named
  have hlocks := B.notSynchronized
  have hin : meth.name = "<init>" := (name_of_methodNamed B.named B.method).1
  have hi2 : ∀ w ∈ u_ws RX2 TX2 12, w ∈ wsX2_init := fun _ h => List.mem_cons_of_mem _ (List.mem_append_right _ h)
  subst hsz
  have hD := hD0.self (sz := s.heap.size)
  generalize hAe : va_A [(h0, .inr (2, [.null, .null, .null, .null, .null, .int 0, .int 0, .int 0, .int 0, .int 0, .long 0, .long 0]))] s.heap.size = A at hD ⊢
  have hA : ∀ q : Nat, s.heap.size ≤ q → A q := fun q h => by rw [← hAe]; exact Or.inr h
  have hS : va_S A s.heap s.heap [] := va_S.rf
  have hl := lv_entry ([.ref h0, .ref h1, .ref h2]) (n := 3) (Nat.le_of_ble_eq_true rfl)
  rw [lg_entry_eq]
  generalize (lg_sl ([.ref h0, .ref h1, .ref h2]) ++ List.replicate (3 - (lg_sl ([.ref h0, .ref h1, .ref h2])).length) Slot.unset).toArray = ls at hl ⊢
  have hl : lv_has ls 3 [(0, .ref h0), (1, .ref h1), (2, .ref h2)] := hl
  have hP : va_P (dC, dI) vwCl [(h0, .inr (2, [.null, .null, .null, .null, .null, .int 0, .int 0, .int 0, .int 0, .int 0, .long 0, .long 0]))] s.heap := hP
  refine lv_aload_n hx hb dX2_init_0 rfl (lv_at hl 0 rfl) ?_
  refine W.objInit hx hb hown (hts (.methodLink RX2 3 objectInit) (by decide +kernel)) (hts (.instanceMethod objectInit) (by decide +kernel)) (hts _ (List.mem_of_getElem? (i := 3) rfl)) rfl (by rw [hml]; exact hl.1) rfl dX2_init_1 (Nat.le_of_ble_eq_true rfl) (Nat.le_of_ble_eq_true rfl) ?_
  refine W.eq (g2 := F0 m 4 ls []) rfl ?_
  refine lv_aload_n hx hb dX2_init_4 rfl (lv_at hl 0 rfl) ?_
  refine lv_iconst (v := 4) hx hb dX2_init_5 (by decide) ?_
  refine va_newa (atype := .int) (ty := .int) (N' := 4) (a0 := (4, .inl (fun _ => 0))) hx hb (hts (.arrayClass .int) (by decide +kernel)) rfl hK hP hD hS hA (na_I 4) (by decide +kernel) (by decide +kernel) (by decide +kernel) (Nat.le_of_ble_eq_true rfl) (Nat.le_of_ble_eq_true rfl) dX2_init_6 (fun q_1 c_2 H hK hP hD hS => ?_)
  have hP : va_P (dC, dI) vwCl [(h0, .inr (2, [.null, .null, .null, .null, .null, .int 0, .int 0, .int 0, .int 0, .int 0, .long 0, .long 0])), (q_1, .inl (c_2, 4, .inl (fun _ => 0)))] H := hP
  have hD : va_D A [(h0, .inr (2, [.null, .null, .null, .null, .null, .int 0, .int 0, .int 0, .int 0, .int 0, .long 0, .long 0])), (q_1, .inl (c_2, 4, .inl (fun _ => 0)))] := hD
  have hK : va_K (dC, dI) vwCl [(c_2, .int)] s := hK
  refine W.widen (k := 1) (n := 4) (Nat.le_of_ble_eq_true rfl) (Nat.le_of_ble_eq_true rfl) ?_
  refine va_putF (D := (dC, dI)) (ci := 2) (v := .ref q_1) (ty := .array .int) (C := RX2) (T := TX2) (N := 12) hx hb hts hi2 tyX2 tyX2_ok nmX2 hown hK hP hD hS 0 rfl rfl 2 (by decide) (hts (.fieldLink RX2 9 "AskTree$Grower" "all" "[I") (by decide +kernel)) (fun _ h9 => h9) rfl hin rfl (by decide +kernel) rfl rfl (Nat.le_of_ble_eq_true rfl) dX2_init_8 (fun H locs hP hD hS => ?_)
  have hP : va_P (dC, dI) vwCl [(h0, .inr (2, [.null, .null, .ref q_1, .null, .null, .int 0, .int 0, .int 0, .int 0, .int 0, .long 0, .long 0])), (q_1, .inl (c_2, 4, .inl (fun _ => 0)))] H := hP
  have hD : va_D A [(h0, .inr (2, [.null, .null, .ref q_1, .null, .null, .int 0, .int 0, .int 0, .int 0, .int 0, .long 0, .long 0])), (q_1, .inl (c_2, 4, .inl (fun _ => 0)))] := hD
  refine lv_aload_n hx hb dX2_init_11 rfl (lv_at hl 0 rfl) ?_
  refine lv_iconst (v := 4) hx hb dX2_init_12 (by decide) ?_
  refine va_newa (atype := .int) (ty := .int) (N' := 4) (a0 := (4, .inl (fun _ => 0))) hx hb (hts (.arrayClass .int) (by decide +kernel)) rfl hK hP hD hS hA (na_I 4) (by decide +kernel) (by decide +kernel) (by decide +kernel) (Nat.le_of_ble_eq_true rfl) (Nat.le_of_ble_eq_true rfl) dX2_init_13 (fun q_3 c_4 H hK hP hD hS => ?_)
  have hP : va_P (dC, dI) vwCl [(h0, .inr (2, [.null, .null, .ref q_1, .null, .null, .int 0, .int 0, .int 0, .int 0, .int 0, .long 0, .long 0])), (q_1, .inl (c_2, 4, .inl (fun _ => 0))), (q_3, .inl (c_4, 4, .inl (fun _ => 0)))] H := hP
  have hD : va_D A [(h0, .inr (2, [.null, .null, .ref q_1, .null, .null, .int 0, .int 0, .int 0, .int 0, .int 0, .long 0, .long 0])), (q_1, .inl (c_2, 4, .inl (fun _ => 0))), (q_3, .inl (c_4, 4, .inl (fun _ => 0)))] := hD
  have hK : va_K (dC, dI) vwCl [(c_2, .int), (c_4, .int)] s := hK
  refine W.widen (k := 2) (n := 8) (Nat.le_of_ble_eq_true rfl) (Nat.le_of_ble_eq_true rfl) ?_
  refine va_putF (D := (dC, dI)) (ci := 2) (v := .ref q_3) (ty := .array .int) (C := RX2) (T := TX2) (N := 12) hx hb hts hi2 tyX2 tyX2_ok nmX2 hown hK hP hD hS 0 rfl rfl 3 (by decide) (hts (.fieldLink RX2 15 "AskTree$Grower" "gaps" "[I") (by decide +kernel)) (fun _ h9 => h9) rfl hin rfl (by decide +kernel) rfl rfl (Nat.le_of_ble_eq_true rfl) dX2_init_15 (fun H locs hP hD hS => ?_)
  have hP : va_P (dC, dI) vwCl [(h0, .inr (2, [.null, .null, .ref q_1, .ref q_3, .null, .int 0, .int 0, .int 0, .int 0, .int 0, .long 0, .long 0])), (q_1, .inl (c_2, 4, .inl (fun _ => 0))), (q_3, .inl (c_4, 4, .inl (fun _ => 0)))] H := hP
  have hD : va_D A [(h0, .inr (2, [.null, .null, .ref q_1, .ref q_3, .null, .int 0, .int 0, .int 0, .int 0, .int 0, .long 0, .long 0])), (q_1, .inl (c_2, 4, .inl (fun _ => 0))), (q_3, .inl (c_4, 4, .inl (fun _ => 0)))] := hD
  refine lv_aload_n hx hb dX2_init_18 rfl (lv_at hl 0 rfl) ?_
  refine lv_iconst (v := 4) hx hb dX2_init_19 (by decide) ?_
  refine va_newa (atype := .int) (ty := .int) (N' := 4) (a0 := (4, .inl (fun _ => 0))) hx hb (hts (.arrayClass .int) (by decide +kernel)) rfl hK hP hD hS hA (na_I 4) (by decide +kernel) (by decide +kernel) (by decide +kernel) (Nat.le_of_ble_eq_true rfl) (Nat.le_of_ble_eq_true rfl) dX2_init_20 (fun q_5 c_6 H hK hP hD hS => ?_)
  have hP : va_P (dC, dI) vwCl [(h0, .inr (2, [.null, .null, .ref q_1, .ref q_3, .null, .int 0, .int 0, .int 0, .int 0, .int 0, .long 0, .long 0])), (q_1, .inl (c_2, 4, .inl (fun _ => 0))), (q_3, .inl (c_4, 4, .inl (fun _ => 0))), (q_5, .inl (c_6, 4, .inl (fun _ => 0)))] H := hP
  have hD : va_D A [(h0, .inr (2, [.null, .null, .ref q_1, .ref q_3, .null, .int 0, .int 0, .int 0, .int 0, .int 0, .long 0, .long 0])), (q_1, .inl (c_2, 4, .inl (fun _ => 0))), (q_3, .inl (c_4, 4, .inl (fun _ => 0))), (q_5, .inl (c_6, 4, .inl (fun _ => 0)))] := hD
  have hK : va_K (dC, dI) vwCl [(c_2, .int), (c_4, .int), (c_6, .int)] s := hK
  refine W.widen (k := 3) (n := 12) (Nat.le_of_ble_eq_true rfl) (Nat.le_of_ble_eq_true rfl) ?_
  refine va_putF (D := (dC, dI)) (ci := 2) (v := .ref q_5) (ty := .array .int) (C := RX2) (T := TX2) (N := 12) hx hb hts hi2 tyX2 tyX2_ok nmX2 hown hK hP hD hS 0 rfl rfl 4 (by decide) (hts (.fieldLink RX2 18 "AskTree$Grower" "yes" "[I") (by decide +kernel)) (fun _ h9 => h9) rfl hin rfl (by decide +kernel) rfl rfl (Nat.le_of_ble_eq_true rfl) dX2_init_22 (fun H locs hP hD hS => ?_)
  have hP : va_P (dC, dI) vwCl [(h0, .inr (2, [.null, .null, .ref q_1, .ref q_3, .ref q_5, .int 0, .int 0, .int 0, .int 0, .int 0, .long 0, .long 0])), (q_1, .inl (c_2, 4, .inl (fun _ => 0))), (q_3, .inl (c_4, 4, .inl (fun _ => 0))), (q_5, .inl (c_6, 4, .inl (fun _ => 0)))] H := hP
  have hD : va_D A [(h0, .inr (2, [.null, .null, .ref q_1, .ref q_3, .ref q_5, .int 0, .int 0, .int 0, .int 0, .int 0, .long 0, .long 0])), (q_1, .inl (c_2, 4, .inl (fun _ => 0))), (q_3, .inl (c_4, 4, .inl (fun _ => 0))), (q_5, .inl (c_6, 4, .inl (fun _ => 0)))] := hD
  refine lv_aload_n hx hb dX2_init_25 rfl (lv_at hl 0 rfl) ?_
  refine lv_aload_n hx hb dX2_init_26 rfl (lv_at hl 1 rfl) ?_
  refine va_putF (D := (dC, dI)) (ci := 2) (v := .ref h1) (ty := .object "AskTree$Cases") (C := RX2) (T := TX2) (N := 12) hx hb hts hi2 tyX2 tyX2_ok nmX2 hown hK hP hD hS 0 rfl rfl 0 (by decide) (hts (.fieldLink RX2 21 "AskTree$Grower" "cases" "LAskTree$Cases;") (by decide +kernel)) (fun _ h9 => h9) rfl hin rfl (by decide +kernel) rfl rfl (Nat.le_of_ble_eq_true rfl) dX2_init_27 (fun H locs hP hD hS => ?_)
  have hP : va_P (dC, dI) vwCl [(h0, .inr (2, [.ref h1, .null, .ref q_1, .ref q_3, .ref q_5, .int 0, .int 0, .int 0, .int 0, .int 0, .long 0, .long 0])), (q_1, .inl (c_2, 4, .inl (fun _ => 0))), (q_3, .inl (c_4, 4, .inl (fun _ => 0))), (q_5, .inl (c_6, 4, .inl (fun _ => 0)))] H := hP
  have hD : va_D A [(h0, .inr (2, [.ref h1, .null, .ref q_1, .ref q_3, .ref q_5, .int 0, .int 0, .int 0, .int 0, .int 0, .long 0, .long 0])), (q_1, .inl (c_2, 4, .inl (fun _ => 0))), (q_3, .inl (c_4, 4, .inl (fun _ => 0))), (q_5, .inl (c_6, 4, .inl (fun _ => 0)))] := hD
  refine lv_aload_n hx hb dX2_init_30 rfl (lv_at hl 0 rfl) ?_
  refine lv_aload_n hx hb dX2_init_31 rfl (lv_at hl 2 rfl) ?_
  refine va_putF (D := (dC, dI)) (ci := 2) (v := .ref h2) (ty := .object "AskTree$Rows") (C := RX2) (T := TX2) (N := 12) hx hb hts hi2 tyX2 tyX2_ok nmX2 hown hK hP hD hS 0 rfl rfl 1 (by decide) (hts (.fieldLink RX2 25 "AskTree$Grower" "rows" "LAskTree$Rows;") (by decide +kernel)) (fun _ h9 => h9) rfl hin rfl (by decide +kernel) rfl rfl (Nat.le_of_ble_eq_true rfl) dX2_init_32 (fun H locs hP hD hS => ?_)
  have hP : va_P (dC, dI) vwCl [(h0, .inr (2, [.ref h1, .ref h2, .ref q_1, .ref q_3, .ref q_5, .int 0, .int 0, .int 0, .int 0, .int 0, .long 0, .long 0])), (q_1, .inl (c_2, 4, .inl (fun _ => 0))), (q_3, .inl (c_4, 4, .inl (fun _ => 0))), (q_5, .inl (c_6, 4, .inl (fun _ => 0)))] H := hP
  have hD : va_D A [(h0, .inr (2, [.ref h1, .ref h2, .ref q_1, .ref q_3, .ref q_5, .int 0, .int 0, .int 0, .int 0, .int 0, .long 0, .long 0])), (q_1, .inl (c_2, 4, .inl (fun _ => 0))), (q_3, .inl (c_4, 4, .inl (fun _ => 0))), (q_5, .inl (c_6, 4, .inl (fun _ => 0)))] := hD
  have hP9 := hP.sub (ws' := [(h0, .inr (2, [.ref h1, .ref h2, .ref q_1, .ref q_3, .ref q_5, .int 0, .int 0, .int 0, .int 0, .int 0, .long 0, .long 0])), (q_1, .inl (c_2, 4, .inl (fun _ => 0))), (q_3, .inl (c_4, 4, .inl (fun _ => 0))), (q_5, .inl (c_6, 4, .inl (fun _ => 0)))]) [0, 1, 2, 3] rfl
  have hD9 := hD.sub (ws' := [(h0, .inr (2, [.ref h1, .ref h2, .ref q_1, .ref q_3, .ref q_5, .int 0, .int 0, .int 0, .int 0, .int 0, .long 0, .long 0])), (q_1, .inl (c_2, 4, .inl (fun _ => 0))), (q_3, .inl (c_4, 4, .inl (fun _ => 0))), (q_5, .inl (c_6, 4, .inl (fun _ => 0)))]) [0, 1, 2, 3] (by decide) rfl
  have hK9 := hK.sub (tys' := [(c_2, .int), (c_4, .int), (c_6, .int)]) [0, 1, 2] rfl
  refine W.widen (k := 3) (n := 12) (Nat.le_of_ble_eq_true rfl) (Nat.le_of_ble_eq_true rfl) ?_
  exact W.vret hx hb hr (fun t ht hW => ⟨⟨([(h0, .inr (2, [.ref h1, .ref h2, .ref q_1, .ref q_3, .ref q_5, .int 0, .int 0, .int 0, .int 0, .int 0, .long 0, .long 0])), (q_1, .inl (c_2, 4, .inl (fun _ => 0))), (q_3, .inl (c_4, 4, .inl (fun _ => 0))), (q_5, .inl (c_6, 4, .inl (fun _ => 0)))], [(c_2, .int), (c_4, .int), (c_6, .int)]), rfl, ⟨q_1, q_3, q_5, c_2, c_4, c_6, rfl⟩, (by rw [ht]; exact hP9), va_K.moved hW.alike hK9, hD9⟩, hS.F ht⟩) hS.2.2 dX2_init_35

set_option maxHeartbeats 4000000 in
set_option maxRecDepth 100000 in
theorem c_finder_init (l : Launch) (dC : Nat → ClassId) (dI : Nat → Nat → Nat) (sz : Nat) (h0 : Nat) (h1 : Nat) (h2 : Nat)   : Met l yX1_init wsX1_init ({ frames := 1, cells := 2, slots := 8, locals := 60 }) (va_Pc [.ref h0, .ref h1, .ref h2] (pw (dC, dI) [] [(h0, .inr (1, [.null, .null, .null, .null, .int 0, .int 0, .int 0, .int 0, .int 0, .int 0, .int 0, .int 0]))] sz)) (va_Qv (fun (u : vu) => (∃ (q_1 : Nat) (q_3 : Nat) (c_2 : ClassId) (c_4 : ClassId), u = ([(h0, .inr (1, [.ref h1, .ref h2, .ref q_1, .ref q_3, .int 0, .int 0, .int 0, .int 0, .int 0, .int 0, .int 0, .int 0])), (q_1, .inl (c_2, 4, .inl (fun _ => 0))), (q_3, .inl (c_4, 4, .inl (fun _ => 0)))], [(c_2, .int), (c_4, .int)]))) (fun u t => qw (dC, dI) u.2 (va_A [(h0, .inr (1, [.null, .null, .null, .null, .int 0, .int 0, .int 0, .int 0, .int 0, .int 0, .int 0, .int 0]))] sz) u.1 t) (va_A [(h0, .inr (1, [.null, .null, .null, .null, .int 0, .int 0, .int 0, .int 0, .int 0, .int 0, .int 0, .int 0]))] sz)) 2 8 (va_A [(h0, .inr (1, [.null, .null, .null, .null, .int 0, .int 0, .int 0, .int 0, .int 0, .int 0, .int 0, .int 0]))] sz) := by
  refine Met.ofW (cc := cX1_init) (maxL := 3) (ret := none) (by decide) rfl ?_
  intro p e s m args below meth c s₁ B hml hv
  obtain ⟨rfl, hsz, hP, hK, hD0, hN⟩ := hv
  have hx := B.exec
  have hb := B.bytes
  have hr := B.returns
  have hts := atoms_spec (ws := wsX1_init) B.pre
  have hown : s.vm.findClass RX1 = some m.cls := findClass_of_methodNamed B.named
  have hlocks := B.notSynchronized
  have hin : meth.name = "<init>" := (name_of_methodNamed B.named B.method).1
  have hi1 : ∀ w ∈ u_ws RX1 TX1 12, w ∈ wsX1_init := fun _ h => List.mem_cons_of_mem _ (List.mem_append_right _ h)
  subst hsz
  have hD := hD0.self (sz := s.heap.size)
  generalize hAe : va_A [(h0, .inr (1, [.null, .null, .null, .null, .int 0, .int 0, .int 0, .int 0, .int 0, .int 0, .int 0, .int 0]))] s.heap.size = A at hD ⊢
  have hA : ∀ q : Nat, s.heap.size ≤ q → A q := fun q h => by rw [← hAe]; exact Or.inr h
  have hS : va_S A s.heap s.heap [] := va_S.rf
  have hl := lv_entry ([.ref h0, .ref h1, .ref h2]) (n := 3) (Nat.le_of_ble_eq_true rfl)
  rw [lg_entry_eq]
  generalize (lg_sl ([.ref h0, .ref h1, .ref h2]) ++ List.replicate (3 - (lg_sl ([.ref h0, .ref h1, .ref h2])).length) Slot.unset).toArray = ls at hl ⊢
  have hl : lv_has ls 3 [(0, .ref h0), (1, .ref h1), (2, .ref h2)] := hl
  have hP : va_P (dC, dI) vwCl [(h0, .inr (1, [.null, .null, .null, .null, .int 0, .int 0, .int 0, .int 0, .int 0, .int 0, .int 0, .int 0]))] s.heap := hP
  refine lv_aload_n hx hb dX1_init_0 rfl (lv_at hl 0 rfl) ?_
  refine W.objInit hx hb hown (hts (.methodLink RX1 3 objectInit) (by decide +kernel)) (hts (.instanceMethod objectInit) (by decide +kernel)) (hts _ (List.mem_of_getElem? (i := 3) rfl)) rfl (by rw [hml]; exact hl.1) rfl dX1_init_1 (Nat.le_of_ble_eq_true rfl) (Nat.le_of_ble_eq_true rfl) ?_
  refine W.eq (g2 := F0 m 4 ls []) rfl ?_
  refine lv_aload_n hx hb dX1_init_4 rfl (lv_at hl 0 rfl) ?_
  refine lv_iconst (v := 4) hx hb dX1_init_5 (by decide) ?_
  refine va_newa (atype := .int) (ty := .int) (N' := 4) (a0 := (4, .inl (fun _ => 0))) hx hb (hts (.arrayClass .int) (by decide +kernel)) rfl hK hP hD hS hA (na_I 4) (by decide +kernel) (by decide +kernel) (by decide +kernel) (Nat.le_of_ble_eq_true rfl) (Nat.le_of_ble_eq_true rfl) dX1_init_6 (fun q_1 c_2 H hK hP hD hS => ?_)
  have hP : va_P (dC, dI) vwCl [(h0, .inr (1, [.null, .null, .null, .null, .int 0, .int 0, .int 0, .int 0, .int 0, .int 0, .int 0, .int 0])), (q_1, .inl (c_2, 4, .inl (fun _ => 0)))] H := hP
  have hD : va_D A [(h0, .inr (1, [.null, .null, .null, .null, .int 0, .int 0, .int 0, .int 0, .int 0, .int 0, .int 0, .int 0])), (q_1, .inl (c_2, 4, .inl (fun _ => 0)))] := hD
  have hK : va_K (dC, dI) vwCl [(c_2, .int)] s := hK
  refine W.widen (k := 1) (n := 4) (Nat.le_of_ble_eq_true rfl) (Nat.le_of_ble_eq_true rfl) ?_
  refine va_putF (D := (dC, dI)) (ci := 1) (v := .ref q_1) (ty := .array .int) (C := RX1) (T := TX1) (N := 12) hx hb hts hi1 tyX1 tyX1_ok nmX1 hown hK hP hD hS 0 rfl rfl 2 (by decide) (hts (.fieldLink RX1 9 "AskTree$Finder" "all" "[I") (by decide +kernel)) (fun _ h9 => h9) rfl hin rfl (by decide +kernel) rfl rfl (Nat.le_of_ble_eq_true rfl) dX1_init_8 (fun H locs hP hD hS => ?_)
  have hP : va_P (dC, dI) vwCl [(h0, .inr (1, [.null, .null, .ref q_1, .null, .int 0, .int 0, .int 0, .int 0, .int 0, .int 0, .int 0, .int 0])), (q_1, .inl (c_2, 4, .inl (fun _ => 0)))] H := hP
  have hD : va_D A [(h0, .inr (1, [.null, .null, .ref q_1, .null, .int 0, .int 0, .int 0, .int 0, .int 0, .int 0, .int 0, .int 0])), (q_1, .inl (c_2, 4, .inl (fun _ => 0)))] := hD
  refine lv_aload_n hx hb dX1_init_11 rfl (lv_at hl 0 rfl) ?_
  refine lv_iconst (v := 4) hx hb dX1_init_12 (by decide) ?_
  refine va_newa (atype := .int) (ty := .int) (N' := 4) (a0 := (4, .inl (fun _ => 0))) hx hb (hts (.arrayClass .int) (by decide +kernel)) rfl hK hP hD hS hA (na_I 4) (by decide +kernel) (by decide +kernel) (by decide +kernel) (Nat.le_of_ble_eq_true rfl) (Nat.le_of_ble_eq_true rfl) dX1_init_13 (fun q_3 c_4 H hK hP hD hS => ?_)
  have hP : va_P (dC, dI) vwCl [(h0, .inr (1, [.null, .null, .ref q_1, .null, .int 0, .int 0, .int 0, .int 0, .int 0, .int 0, .int 0, .int 0])), (q_1, .inl (c_2, 4, .inl (fun _ => 0))), (q_3, .inl (c_4, 4, .inl (fun _ => 0)))] H := hP
  have hD : va_D A [(h0, .inr (1, [.null, .null, .ref q_1, .null, .int 0, .int 0, .int 0, .int 0, .int 0, .int 0, .int 0, .int 0])), (q_1, .inl (c_2, 4, .inl (fun _ => 0))), (q_3, .inl (c_4, 4, .inl (fun _ => 0)))] := hD
  have hK : va_K (dC, dI) vwCl [(c_2, .int), (c_4, .int)] s := hK
  refine W.widen (k := 2) (n := 8) (Nat.le_of_ble_eq_true rfl) (Nat.le_of_ble_eq_true rfl) ?_
  refine va_putF (D := (dC, dI)) (ci := 1) (v := .ref q_3) (ty := .array .int) (C := RX1) (T := TX1) (N := 12) hx hb hts hi1 tyX1 tyX1_ok nmX1 hown hK hP hD hS 0 rfl rfl 3 (by decide) (hts (.fieldLink RX1 15 "AskTree$Finder" "yes" "[I") (by decide +kernel)) (fun _ h9 => h9) rfl hin rfl (by decide +kernel) rfl rfl (Nat.le_of_ble_eq_true rfl) dX1_init_15 (fun H locs hP hD hS => ?_)
  have hP : va_P (dC, dI) vwCl [(h0, .inr (1, [.null, .null, .ref q_1, .ref q_3, .int 0, .int 0, .int 0, .int 0, .int 0, .int 0, .int 0, .int 0])), (q_1, .inl (c_2, 4, .inl (fun _ => 0))), (q_3, .inl (c_4, 4, .inl (fun _ => 0)))] H := hP
  have hD : va_D A [(h0, .inr (1, [.null, .null, .ref q_1, .ref q_3, .int 0, .int 0, .int 0, .int 0, .int 0, .int 0, .int 0, .int 0])), (q_1, .inl (c_2, 4, .inl (fun _ => 0))), (q_3, .inl (c_4, 4, .inl (fun _ => 0)))] := hD
  refine lv_aload_n hx hb dX1_init_18 rfl (lv_at hl 0 rfl) ?_
  refine lv_aload_n hx hb dX1_init_19 rfl (lv_at hl 1 rfl) ?_
  refine va_putF (D := (dC, dI)) (ci := 1) (v := .ref h1) (ty := .object "AskTree$Cases") (C := RX1) (T := TX1) (N := 12) hx hb hts hi1 tyX1 tyX1_ok nmX1 hown hK hP hD hS 0 rfl rfl 0 (by decide) (hts (.fieldLink RX1 18 "AskTree$Finder" "cases" "LAskTree$Cases;") (by decide +kernel)) (fun _ h9 => h9) rfl hin rfl (by decide +kernel) rfl rfl (Nat.le_of_ble_eq_true rfl) dX1_init_20 (fun H locs hP hD hS => ?_)
  have hP : va_P (dC, dI) vwCl [(h0, .inr (1, [.ref h1, .null, .ref q_1, .ref q_3, .int 0, .int 0, .int 0, .int 0, .int 0, .int 0, .int 0, .int 0])), (q_1, .inl (c_2, 4, .inl (fun _ => 0))), (q_3, .inl (c_4, 4, .inl (fun _ => 0)))] H := hP
  have hD : va_D A [(h0, .inr (1, [.ref h1, .null, .ref q_1, .ref q_3, .int 0, .int 0, .int 0, .int 0, .int 0, .int 0, .int 0, .int 0])), (q_1, .inl (c_2, 4, .inl (fun _ => 0))), (q_3, .inl (c_4, 4, .inl (fun _ => 0)))] := hD
  refine lv_aload_n hx hb dX1_init_23 rfl (lv_at hl 0 rfl) ?_
  refine lv_aload_n hx hb dX1_init_24 rfl (lv_at hl 2 rfl) ?_
  refine va_putF (D := (dC, dI)) (ci := 1) (v := .ref h2) (ty := .object "AskTree$Rows") (C := RX1) (T := TX1) (N := 12) hx hb hts hi1 tyX1 tyX1_ok nmX1 hown hK hP hD hS 0 rfl rfl 1 (by decide) (hts (.fieldLink RX1 22 "AskTree$Finder" "rows" "LAskTree$Rows;") (by decide +kernel)) (fun _ h9 => h9) rfl hin rfl (by decide +kernel) rfl rfl (Nat.le_of_ble_eq_true rfl) dX1_init_25 (fun H locs hP hD hS => ?_)
  have hP : va_P (dC, dI) vwCl [(h0, .inr (1, [.ref h1, .ref h2, .ref q_1, .ref q_3, .int 0, .int 0, .int 0, .int 0, .int 0, .int 0, .int 0, .int 0])), (q_1, .inl (c_2, 4, .inl (fun _ => 0))), (q_3, .inl (c_4, 4, .inl (fun _ => 0)))] H := hP
  have hD : va_D A [(h0, .inr (1, [.ref h1, .ref h2, .ref q_1, .ref q_3, .int 0, .int 0, .int 0, .int 0, .int 0, .int 0, .int 0, .int 0])), (q_1, .inl (c_2, 4, .inl (fun _ => 0))), (q_3, .inl (c_4, 4, .inl (fun _ => 0)))] := hD
  have hP9 := hP.sub (ws' := [(h0, .inr (1, [.ref h1, .ref h2, .ref q_1, .ref q_3, .int 0, .int 0, .int 0, .int 0, .int 0, .int 0, .int 0, .int 0])), (q_1, .inl (c_2, 4, .inl (fun _ => 0))), (q_3, .inl (c_4, 4, .inl (fun _ => 0)))]) [0, 1, 2] rfl
  have hD9 := hD.sub (ws' := [(h0, .inr (1, [.ref h1, .ref h2, .ref q_1, .ref q_3, .int 0, .int 0, .int 0, .int 0, .int 0, .int 0, .int 0, .int 0])), (q_1, .inl (c_2, 4, .inl (fun _ => 0))), (q_3, .inl (c_4, 4, .inl (fun _ => 0)))]) [0, 1, 2] (by decide) rfl
  have hK9 := hK.sub (tys' := [(c_2, .int), (c_4, .int)]) [0, 1] rfl
  refine W.widen (k := 2) (n := 8) (Nat.le_of_ble_eq_true rfl) (Nat.le_of_ble_eq_true rfl) ?_
  exact W.vret hx hb hr (fun t ht hW => ⟨⟨([(h0, .inr (1, [.ref h1, .ref h2, .ref q_1, .ref q_3, .int 0, .int 0, .int 0, .int 0, .int 0, .int 0, .int 0, .int 0])), (q_1, .inl (c_2, 4, .inl (fun _ => 0))), (q_3, .inl (c_4, 4, .inl (fun _ => 0)))], [(c_2, .int), (c_4, .int)]), rfl, ⟨q_1, q_3, c_2, c_4, rfl⟩, (by rw [ht]; exact hP9), va_K.moved hW.alike hK9, hD9⟩, hS.F ht⟩) hS.2.2 dX1_init_28

set_option maxHeartbeats 4000000 in
set_option maxRecDepth 100000 in
theorem c_pruner_init (l : Launch) (dC : Nat → ClassId) (dI : Nat → Nat → Nat) (sz : Nat) (h0 : Nat)   : Met l yX3_init wsX3_init ({ frames := 1, cells := 1, slots := 511, locals := 60 }) (va_Pc [.ref h0] (pw (dC, dI) [] [(h0, .inr (3, [.null, .int 0, .int 0, .int 0, .int 0]))] sz)) (va_Qv (fun (u : vu) => (∃ (q_1 : Nat) (c_2 : ClassId), u = ([(h0, .inr (3, [.ref q_1, .int 0, .int 0, .int 0, .int 1])), (q_1, .inl (c_2, 511, .inl (fun _ => 0)))], [(c_2, .int)]))) (fun u t => qw (dC, dI) u.2 (va_A [(h0, .inr (3, [.null, .int 0, .int 0, .int 0, .int 0]))] sz) u.1 t) (va_A [(h0, .inr (3, [.null, .int 0, .int 0, .int 0, .int 0]))] sz)) 1 511 (va_A [(h0, .inr (3, [.null, .int 0, .int 0, .int 0, .int 0]))] sz) := by
  refine Met.ofW (cc := cX3_init) (maxL := 1) (ret := none) (by decide) rfl ?_
  intro p e s m args below meth c s₁ B hml hv
  obtain ⟨rfl, hsz, hP, hK, hD0, hN⟩ := hv
  have hx := B.exec
  have hb := B.bytes
  have hr := B.returns
  have hts := atoms_spec (ws := wsX3_init) B.pre
  have hown : s.vm.findClass RX3 = some m.cls := findClass_of_methodNamed B.named
  have hlocks := B.notSynchronized
  have hin : meth.name = "<init>" := (name_of_methodNamed B.named B.method).1
  have hi3 : ∀ w ∈ u_ws RX3 TX3 5, w ∈ wsX3_init := fun _ h => List.mem_cons_of_mem _ (List.mem_append_right _ h)
  subst hsz
  have hD := hD0.self (sz := s.heap.size)
  generalize hAe : va_A [(h0, .inr (3, [.null, .int 0, .int 0, .int 0, .int 0]))] s.heap.size = A at hD ⊢
  have hA : ∀ q : Nat, s.heap.size ≤ q → A q := fun q h => by rw [← hAe]; exact Or.inr h
  have hS : va_S A s.heap s.heap [] := va_S.rf
  have hl := lv_entry ([.ref h0]) (n := 1) (Nat.le_of_ble_eq_true rfl)
  rw [lg_entry_eq]
  generalize (lg_sl ([.ref h0]) ++ List.replicate (1 - (lg_sl ([.ref h0])).length) Slot.unset).toArray = ls at hl ⊢
  have hl : lv_has ls 1 [(0, .ref h0)] := hl
  have hP : va_P (dC, dI) vwCl [(h0, .inr (3, [.null, .int 0, .int 0, .int 0, .int 0]))] s.heap := hP
  refine lv_aload_n hx hb dX3_init_0 rfl (lv_at hl 0 rfl) ?_
  refine W.objInit hx hb hown (hts (.methodLink RX3 3 objectInit) (by decide +kernel)) (hts (.instanceMethod objectInit) (by decide +kernel)) (hts _ (List.mem_of_getElem? (i := 3) rfl)) rfl (by rw [hml]; exact hl.1) rfl dX3_init_1 (Nat.le_of_ble_eq_true rfl) (Nat.le_of_ble_eq_true rfl) ?_
  refine W.eq (g2 := F0 m 4 ls []) rfl ?_
  refine lv_aload_n hx hb dX3_init_4 rfl (lv_at hl 0 rfl) ?_
  refine lv_sipush (v := 511) hx hb dX3_init_5 (by decide) ?_
  refine va_newa (atype := .int) (ty := .int) (N' := 511) (a0 := (511, .inl (fun _ => 0))) hx hb (hts (.arrayClass .int) (by decide +kernel)) rfl hK hP hD hS hA (na_I 511) (by decide +kernel) (by decide +kernel) (by decide +kernel) (Nat.le_of_ble_eq_true rfl) (Nat.le_of_ble_eq_true rfl) dX3_init_8 (fun q_1 c_2 H hK hP hD hS => ?_)
  have hP : va_P (dC, dI) vwCl [(h0, .inr (3, [.null, .int 0, .int 0, .int 0, .int 0])), (q_1, .inl (c_2, 511, .inl (fun _ => 0)))] H := hP
  have hD : va_D A [(h0, .inr (3, [.null, .int 0, .int 0, .int 0, .int 0])), (q_1, .inl (c_2, 511, .inl (fun _ => 0)))] := hD
  have hK : va_K (dC, dI) vwCl [(c_2, .int)] s := hK
  refine W.widen (k := 1) (n := 511) (Nat.le_of_ble_eq_true rfl) (Nat.le_of_ble_eq_true rfl) ?_
  refine va_putF (D := (dC, dI)) (ci := 3) (v := .ref q_1) (ty := .array .int) (C := RX3) (T := TX3) (N := 5) hx hb hts hi3 tyX3 tyX3_ok nmX3 hown hK hP hD hS 0 rfl rfl 0 (by decide) (hts (.fieldLink RX3 9 "AskTree$Pruner" "costs" "[I") (by decide +kernel)) (fun _ h9 => h9) rfl hin rfl (by decide +kernel) rfl rfl (Nat.le_of_ble_eq_true rfl) dX3_init_10 (fun H locs hP hD hS => ?_)
  have hP : va_P (dC, dI) vwCl [(h0, .inr (3, [.ref q_1, .int 0, .int 0, .int 0, .int 0])), (q_1, .inl (c_2, 511, .inl (fun _ => 0)))] H := hP
  have hD : va_D A [(h0, .inr (3, [.ref q_1, .int 0, .int 0, .int 0, .int 0])), (q_1, .inl (c_2, 511, .inl (fun _ => 0)))] := hD
  refine lv_aload_n hx hb dX3_init_13 rfl (lv_at hl 0 rfl) ?_
  refine lv_iconst (v := 0) hx hb dX3_init_14 (by decide) ?_
  refine va_put (D := (dC, dI)) (ci := 3) (v := .int 0) (ty := .int) (C := RX3) (T := TX3) (N := 5) hx hb hts hi3 tyX3 tyX3_ok nmX3 hown hK hP hD hS 0 rfl rfl 3 (by decide) (hts (.fieldLink RX3 15 "AskTree$Pruner" "upper" "I") (by decide +kernel)) (fun _ h9 => h9) rfl (by decide +kernel) rfl rfl (Nat.le_of_ble_eq_true rfl) dX3_init_15 (fun H locs hP hD hS => ?_)
  have hP : va_P (dC, dI) vwCl [(h0, .inr (3, [.ref q_1, .int 0, .int 0, .int 0, .int 0])), (q_1, .inl (c_2, 511, .inl (fun _ => 0)))] H := hP
  have hD : va_D A [(h0, .inr (3, [.ref q_1, .int 0, .int 0, .int 0, .int 0])), (q_1, .inl (c_2, 511, .inl (fun _ => 0)))] := hD
  refine lv_aload_n hx hb dX3_init_18 rfl (lv_at hl 0 rfl) ?_
  refine lv_iconst (v := 1) hx hb dX3_init_19 (by decide) ?_
  refine va_put (D := (dC, dI)) (ci := 3) (v := .int 1) (ty := .int) (C := RX3) (T := TX3) (N := 5) hx hb hts hi3 tyX3 tyX3_ok nmX3 hown hK hP hD hS 0 rfl rfl 4 (by decide) (hts (.fieldLink RX3 19 "AskTree$Pruner" "lower" "I") (by decide +kernel)) (fun _ h9 => h9) rfl (by decide +kernel) rfl rfl (Nat.le_of_ble_eq_true rfl) dX3_init_20 (fun H locs hP hD hS => ?_)
  have hP : va_P (dC, dI) vwCl [(h0, .inr (3, [.ref q_1, .int 0, .int 0, .int 0, .int 1])), (q_1, .inl (c_2, 511, .inl (fun _ => 0)))] H := hP
  have hD : va_D A [(h0, .inr (3, [.ref q_1, .int 0, .int 0, .int 0, .int 1])), (q_1, .inl (c_2, 511, .inl (fun _ => 0)))] := hD
  have hP9 := hP.sub (ws' := [(h0, .inr (3, [.ref q_1, .int 0, .int 0, .int 0, .int 1])), (q_1, .inl (c_2, 511, .inl (fun _ => 0)))]) [0, 1] rfl
  have hD9 := hD.sub (ws' := [(h0, .inr (3, [.ref q_1, .int 0, .int 0, .int 0, .int 1])), (q_1, .inl (c_2, 511, .inl (fun _ => 0)))]) [0, 1] (by decide) rfl
  have hK9 := hK.sub (tys' := [(c_2, .int)]) [0] rfl
  refine W.widen (k := 1) (n := 511) (Nat.le_of_ble_eq_true rfl) (Nat.le_of_ble_eq_true rfl) ?_
  exact W.vret hx hb hr (fun t ht hW => ⟨⟨([(h0, .inr (3, [.ref q_1, .int 0, .int 0, .int 0, .int 1])), (q_1, .inl (c_2, 511, .inl (fun _ => 0)))], [(c_2, .int)]), rfl, ⟨q_1, c_2, rfl⟩, (by rw [ht]; exact hP9), va_K.moved hW.alike hK9, hD9⟩, hS.F ht⟩) hS.2.2 dX3_init_23

set_option maxHeartbeats 4000000 in
set_option maxRecDepth 100000 in
theorem c_rules_init (l : Launch) (dC : Nat → ClassId) (dI : Nat → Nat → Nat) (sz : Nat) (h0 : Nat) (h1 : Nat)   : Met l yX5_init wsX5_init ({ frames := 1, cells := 6, slots := 104, locals := 60 }) (va_Pc [.ref h0, .ref h1] (pw (dC, dI) [] [(h0, .inr (5, [.null, .null, .null, .null, .null, .null, .null]))] sz)) (va_Qv (fun (u : vu) => (∃ (q_1 : Nat) (q_3 : Nat) (q_5 : Nat) (q_7 : Nat) (q_9 : Nat) (q_11 : Nat) (c_2 : ClassId) (c_4 : ClassId) (c_6 : ClassId) (c_8 : ClassId) (c_10 : ClassId) (c_12 : ClassId), u = ([(h0, .inr (5, [.ref h1, .ref q_1, .ref q_3, .ref q_5, .ref q_7, .ref q_9, .ref q_11])), (q_1, .inl (c_2, 8, .inl (fun _ => 0))), (q_3, .inl (c_4, 8, .inl (fun _ => 0))), (q_5, .inl (c_6, 8, .inl (fun _ => 0))), (q_7, .inl (c_8, 8, .inl (fun _ => 0))), (q_9, .inl (c_10, 64, .inl (fun _ => 0))), (q_11, .inl (c_12, 8, .inl (fun _ => 0)))], [(c_2, .int), (c_4, .int), (c_6, .int), (c_8, .int), (c_10, .int), (c_12, .boolean)]))) (fun u t => qw (dC, dI) u.2 (va_A [(h0, .inr (5, [.null, .null, .null, .null, .null, .null, .null]))] sz) u.1 t) (va_A [(h0, .inr (5, [.null, .null, .null, .null, .null, .null, .null]))] sz)) 6 104 (va_A [(h0, .inr (5, [.null, .null, .null, .null, .null, .null, .null]))] sz) := by
  refine Met.ofW (cc := cX5_init) (maxL := 2) (ret := none) (by decide) rfl ?_
  intro p e s m args below meth c s₁ B hml hv
  obtain ⟨rfl, hsz, hP, hK, hD0, hN⟩ := hv
  have hx := B.exec
  have hb := B.bytes
  have hr := B.returns
  have hts := atoms_spec (ws := wsX5_init) B.pre
  have hown : s.vm.findClass RX5 = some m.cls := findClass_of_methodNamed B.named
  have hlocks := B.notSynchronized
  have hin : meth.name = "<init>" := (name_of_methodNamed B.named B.method).1
  have hi5 : ∀ w ∈ u_ws RX5 TX5 7, w ∈ wsX5_init := fun _ h => List.mem_cons_of_mem _ (List.mem_append_right _ h)
  subst hsz
  have hD := hD0.self (sz := s.heap.size)
  generalize hAe : va_A [(h0, .inr (5, [.null, .null, .null, .null, .null, .null, .null]))] s.heap.size = A at hD ⊢
  have hA : ∀ q : Nat, s.heap.size ≤ q → A q := fun q h => by rw [← hAe]; exact Or.inr h
  have hS : va_S A s.heap s.heap [] := va_S.rf
  have hl := lv_entry ([.ref h0, .ref h1]) (n := 2) (Nat.le_of_ble_eq_true rfl)
  rw [lg_entry_eq]
  generalize (lg_sl ([.ref h0, .ref h1]) ++ List.replicate (2 - (lg_sl ([.ref h0, .ref h1])).length) Slot.unset).toArray = ls at hl ⊢
  have hl : lv_has ls 2 [(0, .ref h0), (1, .ref h1)] := hl
  have hP : va_P (dC, dI) vwCl [(h0, .inr (5, [.null, .null, .null, .null, .null, .null, .null]))] s.heap := hP
  refine lv_aload_n hx hb dX5_init_0 rfl (lv_at hl 0 rfl) ?_
  refine W.objInit hx hb hown (hts (.methodLink RX5 3 objectInit) (by decide +kernel)) (hts (.instanceMethod objectInit) (by decide +kernel)) (hts _ (List.mem_of_getElem? (i := 3) rfl)) rfl (by rw [hml]; exact hl.1) rfl dX5_init_1 (Nat.le_of_ble_eq_true rfl) (Nat.le_of_ble_eq_true rfl) ?_
  refine W.eq (g2 := F0 m 4 ls []) rfl ?_
  refine lv_aload_n hx hb dX5_init_4 rfl (lv_at hl 0 rfl) ?_
  refine lv_bipush (v := 8) hx hb dX5_init_5 (by decide) ?_
  refine va_newa (atype := .int) (ty := .int) (N' := 8) (a0 := (8, .inl (fun _ => 0))) hx hb (hts (.arrayClass .int) (by decide +kernel)) rfl hK hP hD hS hA (na_I 8) (by decide +kernel) (by decide +kernel) (by decide +kernel) (Nat.le_of_ble_eq_true rfl) (Nat.le_of_ble_eq_true rfl) dX5_init_7 (fun q_1 c_2 H hK hP hD hS => ?_)
  have hP : va_P (dC, dI) vwCl [(h0, .inr (5, [.null, .null, .null, .null, .null, .null, .null])), (q_1, .inl (c_2, 8, .inl (fun _ => 0)))] H := hP
  have hD : va_D A [(h0, .inr (5, [.null, .null, .null, .null, .null, .null, .null])), (q_1, .inl (c_2, 8, .inl (fun _ => 0)))] := hD
  have hK : va_K (dC, dI) vwCl [(c_2, .int)] s := hK
  refine W.widen (k := 1) (n := 8) (Nat.le_of_ble_eq_true rfl) (Nat.le_of_ble_eq_true rfl) ?_
  refine va_putF (D := (dC, dI)) (ci := 5) (v := .ref q_1) (ty := .array .int) (C := RX5) (T := TX5) (N := 7) hx hb hts hi5 tyX5 tyX5_ok nmX5 hown hK hP hD hS 0 rfl rfl 1 (by decide) (hts (.fieldLink RX5 9 "AskTree$Rules" "least" "[I") (by decide +kernel)) (fun _ h9 => h9) rfl hin rfl (by decide +kernel) rfl rfl (Nat.le_of_ble_eq_true rfl) dX5_init_9 (fun H locs hP hD hS => ?_)
  have hP : va_P (dC, dI) vwCl [(h0, .inr (5, [.null, .ref q_1, .null, .null, .null, .null, .null])), (q_1, .inl (c_2, 8, .inl (fun _ => 0)))] H := hP
  have hD : va_D A [(h0, .inr (5, [.null, .ref q_1, .null, .null, .null, .null, .null])), (q_1, .inl (c_2, 8, .inl (fun _ => 0)))] := hD
  refine lv_aload_n hx hb dX5_init_12 rfl (lv_at hl 0 rfl) ?_
  refine lv_bipush (v := 8) hx hb dX5_init_13 (by decide) ?_
  refine va_newa (atype := .int) (ty := .int) (N' := 8) (a0 := (8, .inl (fun _ => 0))) hx hb (hts (.arrayClass .int) (by decide +kernel)) rfl hK hP hD hS hA (na_I 8) (by decide +kernel) (by decide +kernel) (by decide +kernel) (Nat.le_of_ble_eq_true rfl) (Nat.le_of_ble_eq_true rfl) dX5_init_15 (fun q_3 c_4 H hK hP hD hS => ?_)
  have hP : va_P (dC, dI) vwCl [(h0, .inr (5, [.null, .ref q_1, .null, .null, .null, .null, .null])), (q_1, .inl (c_2, 8, .inl (fun _ => 0))), (q_3, .inl (c_4, 8, .inl (fun _ => 0)))] H := hP
  have hD : va_D A [(h0, .inr (5, [.null, .ref q_1, .null, .null, .null, .null, .null])), (q_1, .inl (c_2, 8, .inl (fun _ => 0))), (q_3, .inl (c_4, 8, .inl (fun _ => 0)))] := hD
  have hK : va_K (dC, dI) vwCl [(c_2, .int), (c_4, .int)] s := hK
  refine W.widen (k := 2) (n := 16) (Nat.le_of_ble_eq_true rfl) (Nat.le_of_ble_eq_true rfl) ?_
  refine va_putF (D := (dC, dI)) (ci := 5) (v := .ref q_3) (ty := .array .int) (C := RX5) (T := TX5) (N := 7) hx hb hts hi5 tyX5 tyX5_ok nmX5 hown hK hP hD hS 0 rfl rfl 2 (by decide) (hts (.fieldLink RX5 15 "AskTree$Rules" "greatest" "[I") (by decide +kernel)) (fun _ h9 => h9) rfl hin rfl (by decide +kernel) rfl rfl (Nat.le_of_ble_eq_true rfl) dX5_init_17 (fun H locs hP hD hS => ?_)
  have hP : va_P (dC, dI) vwCl [(h0, .inr (5, [.null, .ref q_1, .ref q_3, .null, .null, .null, .null])), (q_1, .inl (c_2, 8, .inl (fun _ => 0))), (q_3, .inl (c_4, 8, .inl (fun _ => 0)))] H := hP
  have hD : va_D A [(h0, .inr (5, [.null, .ref q_1, .ref q_3, .null, .null, .null, .null])), (q_1, .inl (c_2, 8, .inl (fun _ => 0))), (q_3, .inl (c_4, 8, .inl (fun _ => 0)))] := hD
  refine lv_aload_n hx hb dX5_init_20 rfl (lv_at hl 0 rfl) ?_
  refine lv_bipush (v := 8) hx hb dX5_init_21 (by decide) ?_
  refine va_newa (atype := .int) (ty := .int) (N' := 8) (a0 := (8, .inl (fun _ => 0))) hx hb (hts (.arrayClass .int) (by decide +kernel)) rfl hK hP hD hS hA (na_I 8) (by decide +kernel) (by decide +kernel) (by decide +kernel) (Nat.le_of_ble_eq_true rfl) (Nat.le_of_ble_eq_true rfl) dX5_init_23 (fun q_5 c_6 H hK hP hD hS => ?_)
  have hP : va_P (dC, dI) vwCl [(h0, .inr (5, [.null, .ref q_1, .ref q_3, .null, .null, .null, .null])), (q_1, .inl (c_2, 8, .inl (fun _ => 0))), (q_3, .inl (c_4, 8, .inl (fun _ => 0))), (q_5, .inl (c_6, 8, .inl (fun _ => 0)))] H := hP
  have hD : va_D A [(h0, .inr (5, [.null, .ref q_1, .ref q_3, .null, .null, .null, .null])), (q_1, .inl (c_2, 8, .inl (fun _ => 0))), (q_3, .inl (c_4, 8, .inl (fun _ => 0))), (q_5, .inl (c_6, 8, .inl (fun _ => 0)))] := hD
  have hK : va_K (dC, dI) vwCl [(c_2, .int), (c_4, .int), (c_6, .int)] s := hK
  refine W.widen (k := 3) (n := 24) (Nat.le_of_ble_eq_true rfl) (Nat.le_of_ble_eq_true rfl) ?_
  refine va_putF (D := (dC, dI)) (ci := 5) (v := .ref q_5) (ty := .array .int) (C := RX5) (T := TX5) (N := 7) hx hb hts hi5 tyX5 tyX5_ok nmX5 hown hK hP hD hS 0 rfl rfl 3 (by decide) (hts (.fieldLink RX5 18 "AskTree$Rules" "must" "[I") (by decide +kernel)) (fun _ h9 => h9) rfl hin rfl (by decide +kernel) rfl rfl (Nat.le_of_ble_eq_true rfl) dX5_init_25 (fun H locs hP hD hS => ?_)
  have hP : va_P (dC, dI) vwCl [(h0, .inr (5, [.null, .ref q_1, .ref q_3, .ref q_5, .null, .null, .null])), (q_1, .inl (c_2, 8, .inl (fun _ => 0))), (q_3, .inl (c_4, 8, .inl (fun _ => 0))), (q_5, .inl (c_6, 8, .inl (fun _ => 0)))] H := hP
  have hD : va_D A [(h0, .inr (5, [.null, .ref q_1, .ref q_3, .ref q_5, .null, .null, .null])), (q_1, .inl (c_2, 8, .inl (fun _ => 0))), (q_3, .inl (c_4, 8, .inl (fun _ => 0))), (q_5, .inl (c_6, 8, .inl (fun _ => 0)))] := hD
  refine lv_aload_n hx hb dX5_init_28 rfl (lv_at hl 0 rfl) ?_
  refine lv_bipush (v := 8) hx hb dX5_init_29 (by decide) ?_
  refine va_newa (atype := .int) (ty := .int) (N' := 8) (a0 := (8, .inl (fun _ => 0))) hx hb (hts (.arrayClass .int) (by decide +kernel)) rfl hK hP hD hS hA (na_I 8) (by decide +kernel) (by decide +kernel) (by decide +kernel) (Nat.le_of_ble_eq_true rfl) (Nat.le_of_ble_eq_true rfl) dX5_init_31 (fun q_7 c_8 H hK hP hD hS => ?_)
  have hP : va_P (dC, dI) vwCl [(h0, .inr (5, [.null, .ref q_1, .ref q_3, .ref q_5, .null, .null, .null])), (q_1, .inl (c_2, 8, .inl (fun _ => 0))), (q_3, .inl (c_4, 8, .inl (fun _ => 0))), (q_5, .inl (c_6, 8, .inl (fun _ => 0))), (q_7, .inl (c_8, 8, .inl (fun _ => 0)))] H := hP
  have hD : va_D A [(h0, .inr (5, [.null, .ref q_1, .ref q_3, .ref q_5, .null, .null, .null])), (q_1, .inl (c_2, 8, .inl (fun _ => 0))), (q_3, .inl (c_4, 8, .inl (fun _ => 0))), (q_5, .inl (c_6, 8, .inl (fun _ => 0))), (q_7, .inl (c_8, 8, .inl (fun _ => 0)))] := hD
  have hK : va_K (dC, dI) vwCl [(c_2, .int), (c_4, .int), (c_6, .int), (c_8, .int)] s := hK
  refine W.widen (k := 4) (n := 32) (Nat.le_of_ble_eq_true rfl) (Nat.le_of_ble_eq_true rfl) ?_
  refine va_putF (D := (dC, dI)) (ci := 5) (v := .ref q_7) (ty := .array .int) (C := RX5) (T := TX5) (N := 7) hx hb hts hi5 tyX5 tyX5_ok nmX5 hown hK hP hD hS 0 rfl rfl 4 (by decide) (hts (.fieldLink RX5 21 "AskTree$Rules" "barredCount" "[I") (by decide +kernel)) (fun _ h9 => h9) rfl hin rfl (by decide +kernel) rfl rfl (Nat.le_of_ble_eq_true rfl) dX5_init_33 (fun H locs hP hD hS => ?_)
  have hP : va_P (dC, dI) vwCl [(h0, .inr (5, [.null, .ref q_1, .ref q_3, .ref q_5, .ref q_7, .null, .null])), (q_1, .inl (c_2, 8, .inl (fun _ => 0))), (q_3, .inl (c_4, 8, .inl (fun _ => 0))), (q_5, .inl (c_6, 8, .inl (fun _ => 0))), (q_7, .inl (c_8, 8, .inl (fun _ => 0)))] H := hP
  have hD : va_D A [(h0, .inr (5, [.null, .ref q_1, .ref q_3, .ref q_5, .ref q_7, .null, .null])), (q_1, .inl (c_2, 8, .inl (fun _ => 0))), (q_3, .inl (c_4, 8, .inl (fun _ => 0))), (q_5, .inl (c_6, 8, .inl (fun _ => 0))), (q_7, .inl (c_8, 8, .inl (fun _ => 0)))] := hD
  refine lv_aload_n hx hb dX5_init_36 rfl (lv_at hl 0 rfl) ?_
  refine lv_bipush (v := 64) hx hb dX5_init_37 (by decide) ?_
  refine va_newa (atype := .int) (ty := .int) (N' := 64) (a0 := (64, .inl (fun _ => 0))) hx hb (hts (.arrayClass .int) (by decide +kernel)) rfl hK hP hD hS hA (na_I 64) (by decide +kernel) (by decide +kernel) (by decide +kernel) (Nat.le_of_ble_eq_true rfl) (Nat.le_of_ble_eq_true rfl) dX5_init_39 (fun q_9 c_10 H hK hP hD hS => ?_)
  have hP : va_P (dC, dI) vwCl [(h0, .inr (5, [.null, .ref q_1, .ref q_3, .ref q_5, .ref q_7, .null, .null])), (q_1, .inl (c_2, 8, .inl (fun _ => 0))), (q_3, .inl (c_4, 8, .inl (fun _ => 0))), (q_5, .inl (c_6, 8, .inl (fun _ => 0))), (q_7, .inl (c_8, 8, .inl (fun _ => 0))), (q_9, .inl (c_10, 64, .inl (fun _ => 0)))] H := hP
  have hD : va_D A [(h0, .inr (5, [.null, .ref q_1, .ref q_3, .ref q_5, .ref q_7, .null, .null])), (q_1, .inl (c_2, 8, .inl (fun _ => 0))), (q_3, .inl (c_4, 8, .inl (fun _ => 0))), (q_5, .inl (c_6, 8, .inl (fun _ => 0))), (q_7, .inl (c_8, 8, .inl (fun _ => 0))), (q_9, .inl (c_10, 64, .inl (fun _ => 0)))] := hD
  have hK : va_K (dC, dI) vwCl [(c_2, .int), (c_4, .int), (c_6, .int), (c_8, .int), (c_10, .int)] s := hK
  refine W.widen (k := 5) (n := 96) (Nat.le_of_ble_eq_true rfl) (Nat.le_of_ble_eq_true rfl) ?_
  refine va_putF (D := (dC, dI)) (ci := 5) (v := .ref q_9) (ty := .array .int) (C := RX5) (T := TX5) (N := 7) hx hb hts hi5 tyX5 tyX5_ok nmX5 hown hK hP hD hS 0 rfl rfl 5 (by decide) (hts (.fieldLink RX5 24 "AskTree$Rules" "barred" "[I") (by decide +kernel)) (fun _ h9 => h9) rfl hin rfl (by decide +kernel) rfl rfl (Nat.le_of_ble_eq_true rfl) dX5_init_41 (fun H locs hP hD hS => ?_)
  have hP : va_P (dC, dI) vwCl [(h0, .inr (5, [.null, .ref q_1, .ref q_3, .ref q_5, .ref q_7, .ref q_9, .null])), (q_1, .inl (c_2, 8, .inl (fun _ => 0))), (q_3, .inl (c_4, 8, .inl (fun _ => 0))), (q_5, .inl (c_6, 8, .inl (fun _ => 0))), (q_7, .inl (c_8, 8, .inl (fun _ => 0))), (q_9, .inl (c_10, 64, .inl (fun _ => 0)))] H := hP
  have hD : va_D A [(h0, .inr (5, [.null, .ref q_1, .ref q_3, .ref q_5, .ref q_7, .ref q_9, .null])), (q_1, .inl (c_2, 8, .inl (fun _ => 0))), (q_3, .inl (c_4, 8, .inl (fun _ => 0))), (q_5, .inl (c_6, 8, .inl (fun _ => 0))), (q_7, .inl (c_8, 8, .inl (fun _ => 0))), (q_9, .inl (c_10, 64, .inl (fun _ => 0)))] := hD
  refine lv_aload_n hx hb dX5_init_44 rfl (lv_at hl 0 rfl) ?_
  refine lv_bipush (v := 8) hx hb dX5_init_45 (by decide) ?_
  refine va_newa (atype := .boolean) (ty := .boolean) (N' := 8) (a0 := (8, .inl (fun _ => 0))) hx hb (hts (.arrayClass .boolean) (by decide +kernel)) rfl hK hP hD hS hA (na_Z 8) (by decide +kernel) (by decide +kernel) (by decide +kernel) (Nat.le_of_ble_eq_true rfl) (Nat.le_of_ble_eq_true rfl) dX5_init_47 (fun q_11 c_12 H hK hP hD hS => ?_)
  have hP : va_P (dC, dI) vwCl [(h0, .inr (5, [.null, .ref q_1, .ref q_3, .ref q_5, .ref q_7, .ref q_9, .null])), (q_1, .inl (c_2, 8, .inl (fun _ => 0))), (q_3, .inl (c_4, 8, .inl (fun _ => 0))), (q_5, .inl (c_6, 8, .inl (fun _ => 0))), (q_7, .inl (c_8, 8, .inl (fun _ => 0))), (q_9, .inl (c_10, 64, .inl (fun _ => 0))), (q_11, .inl (c_12, 8, .inl (fun _ => 0)))] H := hP
  have hD : va_D A [(h0, .inr (5, [.null, .ref q_1, .ref q_3, .ref q_5, .ref q_7, .ref q_9, .null])), (q_1, .inl (c_2, 8, .inl (fun _ => 0))), (q_3, .inl (c_4, 8, .inl (fun _ => 0))), (q_5, .inl (c_6, 8, .inl (fun _ => 0))), (q_7, .inl (c_8, 8, .inl (fun _ => 0))), (q_9, .inl (c_10, 64, .inl (fun _ => 0))), (q_11, .inl (c_12, 8, .inl (fun _ => 0)))] := hD
  have hK : va_K (dC, dI) vwCl [(c_2, .int), (c_4, .int), (c_6, .int), (c_8, .int), (c_10, .int), (c_12, .boolean)] s := hK
  refine W.widen (k := 6) (n := 104) (Nat.le_of_ble_eq_true rfl) (Nat.le_of_ble_eq_true rfl) ?_
  refine va_putF (D := (dC, dI)) (ci := 5) (v := .ref q_11) (ty := .array .boolean) (C := RX5) (T := TX5) (N := 7) hx hb hts hi5 tyX5 tyX5_ok nmX5 hown hK hP hD hS 0 rfl rfl 6 (by decide) (hts (.fieldLink RX5 27 "AskTree$Rules" "clashes" "[Z") (by decide +kernel)) (fun _ h9 => h9) rfl hin rfl (by decide +kernel) rfl rfl (Nat.le_of_ble_eq_true rfl) dX5_init_49 (fun H locs hP hD hS => ?_)
  have hP : va_P (dC, dI) vwCl [(h0, .inr (5, [.null, .ref q_1, .ref q_3, .ref q_5, .ref q_7, .ref q_9, .ref q_11])), (q_1, .inl (c_2, 8, .inl (fun _ => 0))), (q_3, .inl (c_4, 8, .inl (fun _ => 0))), (q_5, .inl (c_6, 8, .inl (fun _ => 0))), (q_7, .inl (c_8, 8, .inl (fun _ => 0))), (q_9, .inl (c_10, 64, .inl (fun _ => 0))), (q_11, .inl (c_12, 8, .inl (fun _ => 0)))] H := hP
  have hD : va_D A [(h0, .inr (5, [.null, .ref q_1, .ref q_3, .ref q_5, .ref q_7, .ref q_9, .ref q_11])), (q_1, .inl (c_2, 8, .inl (fun _ => 0))), (q_3, .inl (c_4, 8, .inl (fun _ => 0))), (q_5, .inl (c_6, 8, .inl (fun _ => 0))), (q_7, .inl (c_8, 8, .inl (fun _ => 0))), (q_9, .inl (c_10, 64, .inl (fun _ => 0))), (q_11, .inl (c_12, 8, .inl (fun _ => 0)))] := hD
  refine lv_aload_n hx hb dX5_init_52 rfl (lv_at hl 0 rfl) ?_
  refine lv_aload_n hx hb dX5_init_53 rfl (lv_at hl 1 rfl) ?_
  refine va_putF (D := (dC, dI)) (ci := 5) (v := .ref h1) (ty := .array .int) (C := RX5) (T := TX5) (N := 7) hx hb hts hi5 tyX5 tyX5_ok nmX5 hown hK hP hD hS 0 rfl rfl 0 (by decide) (hts (.fieldLink RX5 31 "AskTree$Rules" "kinds" "[I") (by decide +kernel)) (fun _ h9 => h9) rfl hin rfl (by decide +kernel) rfl rfl (Nat.le_of_ble_eq_true rfl) dX5_init_54 (fun H locs hP hD hS => ?_)
  have hP : va_P (dC, dI) vwCl [(h0, .inr (5, [.ref h1, .ref q_1, .ref q_3, .ref q_5, .ref q_7, .ref q_9, .ref q_11])), (q_1, .inl (c_2, 8, .inl (fun _ => 0))), (q_3, .inl (c_4, 8, .inl (fun _ => 0))), (q_5, .inl (c_6, 8, .inl (fun _ => 0))), (q_7, .inl (c_8, 8, .inl (fun _ => 0))), (q_9, .inl (c_10, 64, .inl (fun _ => 0))), (q_11, .inl (c_12, 8, .inl (fun _ => 0)))] H := hP
  have hD : va_D A [(h0, .inr (5, [.ref h1, .ref q_1, .ref q_3, .ref q_5, .ref q_7, .ref q_9, .ref q_11])), (q_1, .inl (c_2, 8, .inl (fun _ => 0))), (q_3, .inl (c_4, 8, .inl (fun _ => 0))), (q_5, .inl (c_6, 8, .inl (fun _ => 0))), (q_7, .inl (c_8, 8, .inl (fun _ => 0))), (q_9, .inl (c_10, 64, .inl (fun _ => 0))), (q_11, .inl (c_12, 8, .inl (fun _ => 0)))] := hD
  have hP9 := hP.sub (ws' := [(h0, .inr (5, [.ref h1, .ref q_1, .ref q_3, .ref q_5, .ref q_7, .ref q_9, .ref q_11])), (q_1, .inl (c_2, 8, .inl (fun _ => 0))), (q_3, .inl (c_4, 8, .inl (fun _ => 0))), (q_5, .inl (c_6, 8, .inl (fun _ => 0))), (q_7, .inl (c_8, 8, .inl (fun _ => 0))), (q_9, .inl (c_10, 64, .inl (fun _ => 0))), (q_11, .inl (c_12, 8, .inl (fun _ => 0)))]) [0, 1, 2, 3, 4, 5, 6] rfl
  have hD9 := hD.sub (ws' := [(h0, .inr (5, [.ref h1, .ref q_1, .ref q_3, .ref q_5, .ref q_7, .ref q_9, .ref q_11])), (q_1, .inl (c_2, 8, .inl (fun _ => 0))), (q_3, .inl (c_4, 8, .inl (fun _ => 0))), (q_5, .inl (c_6, 8, .inl (fun _ => 0))), (q_7, .inl (c_8, 8, .inl (fun _ => 0))), (q_9, .inl (c_10, 64, .inl (fun _ => 0))), (q_11, .inl (c_12, 8, .inl (fun _ => 0)))]) [0, 1, 2, 3, 4, 5, 6] (by decide) rfl
  have hK9 := hK.sub (tys' := [(c_2, .int), (c_4, .int), (c_6, .int), (c_8, .int), (c_10, .int), (c_12, .boolean)]) [0, 1, 2, 3, 4, 5] rfl
  refine W.widen (k := 6) (n := 104) (Nat.le_of_ble_eq_true rfl) (Nat.le_of_ble_eq_true rfl) ?_
  exact W.vret hx hb hr (fun t ht hW => ⟨⟨([(h0, .inr (5, [.ref h1, .ref q_1, .ref q_3, .ref q_5, .ref q_7, .ref q_9, .ref q_11])), (q_1, .inl (c_2, 8, .inl (fun _ => 0))), (q_3, .inl (c_4, 8, .inl (fun _ => 0))), (q_5, .inl (c_6, 8, .inl (fun _ => 0))), (q_7, .inl (c_8, 8, .inl (fun _ => 0))), (q_9, .inl (c_10, 64, .inl (fun _ => 0))), (q_11, .inl (c_12, 8, .inl (fun _ => 0)))], [(c_2, .int), (c_4, .int), (c_6, .int), (c_8, .int), (c_10, .int), (c_12, .boolean)]), rfl, ⟨q_1, q_3, q_5, q_7, q_9, q_11, c_2, c_4, c_6, c_8, c_10, c_12, rfl⟩, (by rw [ht]; exact hP9), va_K.moved hW.alike hK9, hD9⟩, hS.F ht⟩) hS.2.2 dX5_init_57

set_option maxHeartbeats 4000000 in
set_option maxRecDepth 100000 in
theorem c_tree_init (l : Launch) (dC : Nat → ClassId) (dI : Nat → Nat → Nat) (sz : Nat) (h0 : Nat)   : Met l yX6_init wsX6_init ({ frames := 1, cells := 6, slots := 4599, locals := 60 }) (va_Pc [.ref h0] (pw (dC, dI) [] [(h0, .inr (6, [.null, .null, .null, .null, .null, .null, .int 0]))] sz)) (va_Qv (fun (u : vu) => (∃ (q_1 : Nat) (q_3 : Nat) (q_5 : Nat) (q_7 : Nat) (q_9 : Nat) (q_11 : Nat) (c_2 : ClassId) (c_4 : ClassId) (c_6 : ClassId) (c_8 : ClassId) (c_10 : ClassId) (c_12 : ClassId), u = ([(h0, .inr (6, [.ref q_1, .ref q_3, .ref q_5, .ref q_7, .ref q_9, .ref q_11, .int 0])), (q_1, .inl (c_2, 511, .inl (fun _ => 0))), (q_3, .inl (c_4, 511, .inl (fun _ => 0))), (q_5, .inl (c_6, 511, .inl (fun _ => 0))), (q_7, .inl (c_8, 511, .inl (fun _ => 0))), (q_9, .inl (c_10, 511, .inl (fun _ => 0))), (q_11, .inl (c_12, 2044, .inl (fun _ => 0)))], [(c_2, .int), (c_4, .int), (c_6, .int), (c_8, .int), (c_10, .int), (c_12, .int)]))) (fun u t => qw (dC, dI) u.2 (va_A [(h0, .inr (6, [.null, .null, .null, .null, .null, .null, .int 0]))] sz) u.1 t) (va_A [(h0, .inr (6, [.null, .null, .null, .null, .null, .null, .int 0]))] sz)) 6 4599 (va_A [(h0, .inr (6, [.null, .null, .null, .null, .null, .null, .int 0]))] sz) := by
  refine Met.ofW (cc := cX6_init) (maxL := 1) (ret := none) (by decide) rfl ?_
  intro p e s m args below meth c s₁ B hml hv
  obtain ⟨rfl, hsz, hP, hK, hD0, hN⟩ := hv
  have hx := B.exec
  have hb := B.bytes
  have hr := B.returns
  have hts := atoms_spec (ws := wsX6_init) B.pre
  have hown : s.vm.findClass RX6 = some m.cls := findClass_of_methodNamed B.named
  have hlocks := B.notSynchronized
  have hin : meth.name = "<init>" := (name_of_methodNamed B.named B.method).1
  have hi6 : ∀ w ∈ u_ws RX6 TX6 7, w ∈ wsX6_init := fun _ h => List.mem_cons_of_mem _ (List.mem_append_right _ h)
  subst hsz
  have hD := hD0.self (sz := s.heap.size)
  generalize hAe : va_A [(h0, .inr (6, [.null, .null, .null, .null, .null, .null, .int 0]))] s.heap.size = A at hD ⊢
  have hA : ∀ q : Nat, s.heap.size ≤ q → A q := fun q h => by rw [← hAe]; exact Or.inr h
  have hS : va_S A s.heap s.heap [] := va_S.rf
  have hl := lv_entry ([.ref h0]) (n := 1) (Nat.le_of_ble_eq_true rfl)
  rw [lg_entry_eq]
  generalize (lg_sl ([.ref h0]) ++ List.replicate (1 - (lg_sl ([.ref h0])).length) Slot.unset).toArray = ls at hl ⊢
  have hl : lv_has ls 1 [(0, .ref h0)] := hl
  have hP : va_P (dC, dI) vwCl [(h0, .inr (6, [.null, .null, .null, .null, .null, .null, .int 0]))] s.heap := hP
  refine lv_aload_n hx hb dX6_init_0 rfl (lv_at hl 0 rfl) ?_
  refine W.objInit hx hb hown (hts (.methodLink RX6 3 objectInit) (by decide +kernel)) (hts (.instanceMethod objectInit) (by decide +kernel)) (hts _ (List.mem_of_getElem? (i := 3) rfl)) rfl (by rw [hml]; exact hl.1) rfl dX6_init_1 (Nat.le_of_ble_eq_true rfl) (Nat.le_of_ble_eq_true rfl) ?_
  refine W.eq (g2 := F0 m 4 ls []) rfl ?_
  refine lv_aload_n hx hb dX6_init_4 rfl (lv_at hl 0 rfl) ?_
  refine lv_sipush (v := 511) hx hb dX6_init_5 (by decide) ?_
  refine va_newa (atype := .int) (ty := .int) (N' := 511) (a0 := (511, .inl (fun _ => 0))) hx hb (hts (.arrayClass .int) (by decide +kernel)) rfl hK hP hD hS hA (na_I 511) (by decide +kernel) (by decide +kernel) (by decide +kernel) (Nat.le_of_ble_eq_true rfl) (Nat.le_of_ble_eq_true rfl) dX6_init_8 (fun q_1 c_2 H hK hP hD hS => ?_)
  have hP : va_P (dC, dI) vwCl [(h0, .inr (6, [.null, .null, .null, .null, .null, .null, .int 0])), (q_1, .inl (c_2, 511, .inl (fun _ => 0)))] H := hP
  have hD : va_D A [(h0, .inr (6, [.null, .null, .null, .null, .null, .null, .int 0])), (q_1, .inl (c_2, 511, .inl (fun _ => 0)))] := hD
  have hK : va_K (dC, dI) vwCl [(c_2, .int)] s := hK
  refine W.widen (k := 1) (n := 511) (Nat.le_of_ble_eq_true rfl) (Nat.le_of_ble_eq_true rfl) ?_
  refine va_putF (D := (dC, dI)) (ci := 6) (v := .ref q_1) (ty := .array .int) (C := RX6) (T := TX6) (N := 7) hx hb hts hi6 tyX6 tyX6_ok nmX6 hown hK hP hD hS 0 rfl rfl 0 (by decide) (hts (.fieldLink RX6 9 "AskTree$Tree" "asked" "[I") (by decide +kernel)) (fun _ h9 => h9) rfl hin rfl (by decide +kernel) rfl rfl (Nat.le_of_ble_eq_true rfl) dX6_init_10 (fun H locs hP hD hS => ?_)
  have hP : va_P (dC, dI) vwCl [(h0, .inr (6, [.ref q_1, .null, .null, .null, .null, .null, .int 0])), (q_1, .inl (c_2, 511, .inl (fun _ => 0)))] H := hP
  have hD : va_D A [(h0, .inr (6, [.ref q_1, .null, .null, .null, .null, .null, .int 0])), (q_1, .inl (c_2, 511, .inl (fun _ => 0)))] := hD
  refine lv_aload_n hx hb dX6_init_13 rfl (lv_at hl 0 rfl) ?_
  refine lv_sipush (v := 511) hx hb dX6_init_14 (by decide) ?_
  refine va_newa (atype := .int) (ty := .int) (N' := 511) (a0 := (511, .inl (fun _ => 0))) hx hb (hts (.arrayClass .int) (by decide +kernel)) rfl hK hP hD hS hA (na_I 511) (by decide +kernel) (by decide +kernel) (by decide +kernel) (Nat.le_of_ble_eq_true rfl) (Nat.le_of_ble_eq_true rfl) dX6_init_17 (fun q_3 c_4 H hK hP hD hS => ?_)
  have hP : va_P (dC, dI) vwCl [(h0, .inr (6, [.ref q_1, .null, .null, .null, .null, .null, .int 0])), (q_1, .inl (c_2, 511, .inl (fun _ => 0))), (q_3, .inl (c_4, 511, .inl (fun _ => 0)))] H := hP
  have hD : va_D A [(h0, .inr (6, [.ref q_1, .null, .null, .null, .null, .null, .int 0])), (q_1, .inl (c_2, 511, .inl (fun _ => 0))), (q_3, .inl (c_4, 511, .inl (fun _ => 0)))] := hD
  have hK : va_K (dC, dI) vwCl [(c_2, .int), (c_4, .int)] s := hK
  refine W.widen (k := 2) (n := 1022) (Nat.le_of_ble_eq_true rfl) (Nat.le_of_ble_eq_true rfl) ?_
  refine va_putF (D := (dC, dI)) (ci := 6) (v := .ref q_3) (ty := .array .int) (C := RX6) (T := TX6) (N := 7) hx hb hts hi6 tyX6 tyX6_ok nmX6 hown hK hP hD hS 0 rfl rfl 1 (by decide) (hts (.fieldLink RX6 15 "AskTree$Tree" "values" "[I") (by decide +kernel)) (fun _ h9 => h9) rfl hin rfl (by decide +kernel) rfl rfl (Nat.le_of_ble_eq_true rfl) dX6_init_19 (fun H locs hP hD hS => ?_)
  have hP : va_P (dC, dI) vwCl [(h0, .inr (6, [.ref q_1, .ref q_3, .null, .null, .null, .null, .int 0])), (q_1, .inl (c_2, 511, .inl (fun _ => 0))), (q_3, .inl (c_4, 511, .inl (fun _ => 0)))] H := hP
  have hD : va_D A [(h0, .inr (6, [.ref q_1, .ref q_3, .null, .null, .null, .null, .int 0])), (q_1, .inl (c_2, 511, .inl (fun _ => 0))), (q_3, .inl (c_4, 511, .inl (fun _ => 0)))] := hD
  refine lv_aload_n hx hb dX6_init_22 rfl (lv_at hl 0 rfl) ?_
  refine lv_sipush (v := 511) hx hb dX6_init_23 (by decide) ?_
  refine va_newa (atype := .int) (ty := .int) (N' := 511) (a0 := (511, .inl (fun _ => 0))) hx hb (hts (.arrayClass .int) (by decide +kernel)) rfl hK hP hD hS hA (na_I 511) (by decide +kernel) (by decide +kernel) (by decide +kernel) (Nat.le_of_ble_eq_true rfl) (Nat.le_of_ble_eq_true rfl) dX6_init_26 (fun q_5 c_6 H hK hP hD hS => ?_)
  have hP : va_P (dC, dI) vwCl [(h0, .inr (6, [.ref q_1, .ref q_3, .null, .null, .null, .null, .int 0])), (q_1, .inl (c_2, 511, .inl (fun _ => 0))), (q_3, .inl (c_4, 511, .inl (fun _ => 0))), (q_5, .inl (c_6, 511, .inl (fun _ => 0)))] H := hP
  have hD : va_D A [(h0, .inr (6, [.ref q_1, .ref q_3, .null, .null, .null, .null, .int 0])), (q_1, .inl (c_2, 511, .inl (fun _ => 0))), (q_3, .inl (c_4, 511, .inl (fun _ => 0))), (q_5, .inl (c_6, 511, .inl (fun _ => 0)))] := hD
  have hK : va_K (dC, dI) vwCl [(c_2, .int), (c_4, .int), (c_6, .int)] s := hK
  refine W.widen (k := 3) (n := 1533) (Nat.le_of_ble_eq_true rfl) (Nat.le_of_ble_eq_true rfl) ?_
  refine va_putF (D := (dC, dI)) (ci := 6) (v := .ref q_5) (ty := .array .int) (C := RX6) (T := TX6) (N := 7) hx hb hts hi6 tyX6 tyX6_ok nmX6 hown hK hP hD hS 0 rfl rfl 2 (by decide) (hts (.fieldLink RX6 18 "AskTree$Tree" "below" "[I") (by decide +kernel)) (fun _ h9 => h9) rfl hin rfl (by decide +kernel) rfl rfl (Nat.le_of_ble_eq_true rfl) dX6_init_28 (fun H locs hP hD hS => ?_)
  have hP : va_P (dC, dI) vwCl [(h0, .inr (6, [.ref q_1, .ref q_3, .ref q_5, .null, .null, .null, .int 0])), (q_1, .inl (c_2, 511, .inl (fun _ => 0))), (q_3, .inl (c_4, 511, .inl (fun _ => 0))), (q_5, .inl (c_6, 511, .inl (fun _ => 0)))] H := hP
  have hD : va_D A [(h0, .inr (6, [.ref q_1, .ref q_3, .ref q_5, .null, .null, .null, .int 0])), (q_1, .inl (c_2, 511, .inl (fun _ => 0))), (q_3, .inl (c_4, 511, .inl (fun _ => 0))), (q_5, .inl (c_6, 511, .inl (fun _ => 0)))] := hD
  refine lv_aload_n hx hb dX6_init_31 rfl (lv_at hl 0 rfl) ?_
  refine lv_sipush (v := 511) hx hb dX6_init_32 (by decide) ?_
  refine va_newa (atype := .int) (ty := .int) (N' := 511) (a0 := (511, .inl (fun _ => 0))) hx hb (hts (.arrayClass .int) (by decide +kernel)) rfl hK hP hD hS hA (na_I 511) (by decide +kernel) (by decide +kernel) (by decide +kernel) (Nat.le_of_ble_eq_true rfl) (Nat.le_of_ble_eq_true rfl) dX6_init_35 (fun q_7 c_8 H hK hP hD hS => ?_)
  have hP : va_P (dC, dI) vwCl [(h0, .inr (6, [.ref q_1, .ref q_3, .ref q_5, .null, .null, .null, .int 0])), (q_1, .inl (c_2, 511, .inl (fun _ => 0))), (q_3, .inl (c_4, 511, .inl (fun _ => 0))), (q_5, .inl (c_6, 511, .inl (fun _ => 0))), (q_7, .inl (c_8, 511, .inl (fun _ => 0)))] H := hP
  have hD : va_D A [(h0, .inr (6, [.ref q_1, .ref q_3, .ref q_5, .null, .null, .null, .int 0])), (q_1, .inl (c_2, 511, .inl (fun _ => 0))), (q_3, .inl (c_4, 511, .inl (fun _ => 0))), (q_5, .inl (c_6, 511, .inl (fun _ => 0))), (q_7, .inl (c_8, 511, .inl (fun _ => 0)))] := hD
  have hK : va_K (dC, dI) vwCl [(c_2, .int), (c_4, .int), (c_6, .int), (c_8, .int)] s := hK
  refine W.widen (k := 4) (n := 2044) (Nat.le_of_ble_eq_true rfl) (Nat.le_of_ble_eq_true rfl) ?_
  refine va_putF (D := (dC, dI)) (ci := 6) (v := .ref q_7) (ty := .array .int) (C := RX6) (T := TX6) (N := 7) hx hb hts hi6 tyX6 tyX6_ok nmX6 hown hK hP hD hS 0 rfl rfl 3 (by decide) (hts (.fieldLink RX6 21 "AskTree$Tree" "ways" "[I") (by decide +kernel)) (fun _ h9 => h9) rfl hin rfl (by decide +kernel) rfl rfl (Nat.le_of_ble_eq_true rfl) dX6_init_37 (fun H locs hP hD hS => ?_)
  have hP : va_P (dC, dI) vwCl [(h0, .inr (6, [.ref q_1, .ref q_3, .ref q_5, .ref q_7, .null, .null, .int 0])), (q_1, .inl (c_2, 511, .inl (fun _ => 0))), (q_3, .inl (c_4, 511, .inl (fun _ => 0))), (q_5, .inl (c_6, 511, .inl (fun _ => 0))), (q_7, .inl (c_8, 511, .inl (fun _ => 0)))] H := hP
  have hD : va_D A [(h0, .inr (6, [.ref q_1, .ref q_3, .ref q_5, .ref q_7, .null, .null, .int 0])), (q_1, .inl (c_2, 511, .inl (fun _ => 0))), (q_3, .inl (c_4, 511, .inl (fun _ => 0))), (q_5, .inl (c_6, 511, .inl (fun _ => 0))), (q_7, .inl (c_8, 511, .inl (fun _ => 0)))] := hD
  refine lv_aload_n hx hb dX6_init_40 rfl (lv_at hl 0 rfl) ?_
  refine lv_sipush (v := 511) hx hb dX6_init_41 (by decide) ?_
  refine va_newa (atype := .int) (ty := .int) (N' := 511) (a0 := (511, .inl (fun _ => 0))) hx hb (hts (.arrayClass .int) (by decide +kernel)) rfl hK hP hD hS hA (na_I 511) (by decide +kernel) (by decide +kernel) (by decide +kernel) (Nat.le_of_ble_eq_true rfl) (Nat.le_of_ble_eq_true rfl) dX6_init_44 (fun q_9 c_10 H hK hP hD hS => ?_)
  have hP : va_P (dC, dI) vwCl [(h0, .inr (6, [.ref q_1, .ref q_3, .ref q_5, .ref q_7, .null, .null, .int 0])), (q_1, .inl (c_2, 511, .inl (fun _ => 0))), (q_3, .inl (c_4, 511, .inl (fun _ => 0))), (q_5, .inl (c_6, 511, .inl (fun _ => 0))), (q_7, .inl (c_8, 511, .inl (fun _ => 0))), (q_9, .inl (c_10, 511, .inl (fun _ => 0)))] H := hP
  have hD : va_D A [(h0, .inr (6, [.ref q_1, .ref q_3, .ref q_5, .ref q_7, .null, .null, .int 0])), (q_1, .inl (c_2, 511, .inl (fun _ => 0))), (q_3, .inl (c_4, 511, .inl (fun _ => 0))), (q_5, .inl (c_6, 511, .inl (fun _ => 0))), (q_7, .inl (c_8, 511, .inl (fun _ => 0))), (q_9, .inl (c_10, 511, .inl (fun _ => 0)))] := hD
  have hK : va_K (dC, dI) vwCl [(c_2, .int), (c_4, .int), (c_6, .int), (c_8, .int), (c_10, .int)] s := hK
  refine W.widen (k := 5) (n := 2555) (Nat.le_of_ble_eq_true rfl) (Nat.le_of_ble_eq_true rfl) ?_
  refine va_putF (D := (dC, dI)) (ci := 6) (v := .ref q_9) (ty := .array .int) (C := RX6) (T := TX6) (N := 7) hx hb hts hi6 tyX6 tyX6_ok nmX6 hown hK hP hD hS 0 rfl rfl 4 (by decide) (hts (.fieldLink RX6 24 "AskTree$Tree" "above" "[I") (by decide +kernel)) (fun _ h9 => h9) rfl hin rfl (by decide +kernel) rfl rfl (Nat.le_of_ble_eq_true rfl) dX6_init_46 (fun H locs hP hD hS => ?_)
  have hP : va_P (dC, dI) vwCl [(h0, .inr (6, [.ref q_1, .ref q_3, .ref q_5, .ref q_7, .ref q_9, .null, .int 0])), (q_1, .inl (c_2, 511, .inl (fun _ => 0))), (q_3, .inl (c_4, 511, .inl (fun _ => 0))), (q_5, .inl (c_6, 511, .inl (fun _ => 0))), (q_7, .inl (c_8, 511, .inl (fun _ => 0))), (q_9, .inl (c_10, 511, .inl (fun _ => 0)))] H := hP
  have hD : va_D A [(h0, .inr (6, [.ref q_1, .ref q_3, .ref q_5, .ref q_7, .ref q_9, .null, .int 0])), (q_1, .inl (c_2, 511, .inl (fun _ => 0))), (q_3, .inl (c_4, 511, .inl (fun _ => 0))), (q_5, .inl (c_6, 511, .inl (fun _ => 0))), (q_7, .inl (c_8, 511, .inl (fun _ => 0))), (q_9, .inl (c_10, 511, .inl (fun _ => 0)))] := hD
  refine lv_aload_n hx hb dX6_init_49 rfl (lv_at hl 0 rfl) ?_
  refine lv_sipush (v := 2044) hx hb dX6_init_50 (by decide) ?_
  refine va_newa (atype := .int) (ty := .int) (N' := 2044) (a0 := (2044, .inl (fun _ => 0))) hx hb (hts (.arrayClass .int) (by decide +kernel)) rfl hK hP hD hS hA (na_I 2044) (by decide +kernel) (by decide +kernel) (by decide +kernel) (Nat.le_of_ble_eq_true rfl) (Nat.le_of_ble_eq_true rfl) dX6_init_53 (fun q_11 c_12 H hK hP hD hS => ?_)
  have hP : va_P (dC, dI) vwCl [(h0, .inr (6, [.ref q_1, .ref q_3, .ref q_5, .ref q_7, .ref q_9, .null, .int 0])), (q_1, .inl (c_2, 511, .inl (fun _ => 0))), (q_3, .inl (c_4, 511, .inl (fun _ => 0))), (q_5, .inl (c_6, 511, .inl (fun _ => 0))), (q_7, .inl (c_8, 511, .inl (fun _ => 0))), (q_9, .inl (c_10, 511, .inl (fun _ => 0))), (q_11, .inl (c_12, 2044, .inl (fun _ => 0)))] H := hP
  have hD : va_D A [(h0, .inr (6, [.ref q_1, .ref q_3, .ref q_5, .ref q_7, .ref q_9, .null, .int 0])), (q_1, .inl (c_2, 511, .inl (fun _ => 0))), (q_3, .inl (c_4, 511, .inl (fun _ => 0))), (q_5, .inl (c_6, 511, .inl (fun _ => 0))), (q_7, .inl (c_8, 511, .inl (fun _ => 0))), (q_9, .inl (c_10, 511, .inl (fun _ => 0))), (q_11, .inl (c_12, 2044, .inl (fun _ => 0)))] := hD
  have hK : va_K (dC, dI) vwCl [(c_2, .int), (c_4, .int), (c_6, .int), (c_8, .int), (c_10, .int), (c_12, .int)] s := hK
  refine W.widen (k := 6) (n := 4599) (Nat.le_of_ble_eq_true rfl) (Nat.le_of_ble_eq_true rfl) ?_
  refine va_putF (D := (dC, dI)) (ci := 6) (v := .ref q_11) (ty := .array .int) (C := RX6) (T := TX6) (N := 7) hx hb hts hi6 tyX6 tyX6_ok nmX6 hown hK hP hD hS 0 rfl rfl 5 (by decide) (hts (.fieldLink RX6 27 "AskTree$Tree" "shares" "[I") (by decide +kernel)) (fun _ h9 => h9) rfl hin rfl (by decide +kernel) rfl rfl (Nat.le_of_ble_eq_true rfl) dX6_init_55 (fun H locs hP hD hS => ?_)
  have hP : va_P (dC, dI) vwCl [(h0, .inr (6, [.ref q_1, .ref q_3, .ref q_5, .ref q_7, .ref q_9, .ref q_11, .int 0])), (q_1, .inl (c_2, 511, .inl (fun _ => 0))), (q_3, .inl (c_4, 511, .inl (fun _ => 0))), (q_5, .inl (c_6, 511, .inl (fun _ => 0))), (q_7, .inl (c_8, 511, .inl (fun _ => 0))), (q_9, .inl (c_10, 511, .inl (fun _ => 0))), (q_11, .inl (c_12, 2044, .inl (fun _ => 0)))] H := hP
  have hD : va_D A [(h0, .inr (6, [.ref q_1, .ref q_3, .ref q_5, .ref q_7, .ref q_9, .ref q_11, .int 0])), (q_1, .inl (c_2, 511, .inl (fun _ => 0))), (q_3, .inl (c_4, 511, .inl (fun _ => 0))), (q_5, .inl (c_6, 511, .inl (fun _ => 0))), (q_7, .inl (c_8, 511, .inl (fun _ => 0))), (q_9, .inl (c_10, 511, .inl (fun _ => 0))), (q_11, .inl (c_12, 2044, .inl (fun _ => 0)))] := hD
  refine lv_aload_n hx hb dX6_init_58 rfl (lv_at hl 0 rfl) ?_
  refine lv_iconst (v := 0) hx hb dX6_init_59 (by decide) ?_
  refine va_put (D := (dC, dI)) (ci := 6) (v := .int 0) (ty := .int) (C := RX6) (T := TX6) (N := 7) hx hb hts hi6 tyX6 tyX6_ok nmX6 hown hK hP hD hS 0 rfl rfl 6 (by decide) (hts (.fieldLink RX6 30 "AskTree$Tree" "size" "I") (by decide +kernel)) (fun _ h9 => h9) rfl (by decide +kernel) rfl rfl (Nat.le_of_ble_eq_true rfl) dX6_init_60 (fun H locs hP hD hS => ?_)
  have hP : va_P (dC, dI) vwCl [(h0, .inr (6, [.ref q_1, .ref q_3, .ref q_5, .ref q_7, .ref q_9, .ref q_11, .int 0])), (q_1, .inl (c_2, 511, .inl (fun _ => 0))), (q_3, .inl (c_4, 511, .inl (fun _ => 0))), (q_5, .inl (c_6, 511, .inl (fun _ => 0))), (q_7, .inl (c_8, 511, .inl (fun _ => 0))), (q_9, .inl (c_10, 511, .inl (fun _ => 0))), (q_11, .inl (c_12, 2044, .inl (fun _ => 0)))] H := hP
  have hD : va_D A [(h0, .inr (6, [.ref q_1, .ref q_3, .ref q_5, .ref q_7, .ref q_9, .ref q_11, .int 0])), (q_1, .inl (c_2, 511, .inl (fun _ => 0))), (q_3, .inl (c_4, 511, .inl (fun _ => 0))), (q_5, .inl (c_6, 511, .inl (fun _ => 0))), (q_7, .inl (c_8, 511, .inl (fun _ => 0))), (q_9, .inl (c_10, 511, .inl (fun _ => 0))), (q_11, .inl (c_12, 2044, .inl (fun _ => 0)))] := hD
  have hP9 := hP.sub (ws' := [(h0, .inr (6, [.ref q_1, .ref q_3, .ref q_5, .ref q_7, .ref q_9, .ref q_11, .int 0])), (q_1, .inl (c_2, 511, .inl (fun _ => 0))), (q_3, .inl (c_4, 511, .inl (fun _ => 0))), (q_5, .inl (c_6, 511, .inl (fun _ => 0))), (q_7, .inl (c_8, 511, .inl (fun _ => 0))), (q_9, .inl (c_10, 511, .inl (fun _ => 0))), (q_11, .inl (c_12, 2044, .inl (fun _ => 0)))]) [0, 1, 2, 3, 4, 5, 6] rfl
  have hD9 := hD.sub (ws' := [(h0, .inr (6, [.ref q_1, .ref q_3, .ref q_5, .ref q_7, .ref q_9, .ref q_11, .int 0])), (q_1, .inl (c_2, 511, .inl (fun _ => 0))), (q_3, .inl (c_4, 511, .inl (fun _ => 0))), (q_5, .inl (c_6, 511, .inl (fun _ => 0))), (q_7, .inl (c_8, 511, .inl (fun _ => 0))), (q_9, .inl (c_10, 511, .inl (fun _ => 0))), (q_11, .inl (c_12, 2044, .inl (fun _ => 0)))]) [0, 1, 2, 3, 4, 5, 6] (by decide) rfl
  have hK9 := hK.sub (tys' := [(c_2, .int), (c_4, .int), (c_6, .int), (c_8, .int), (c_10, .int), (c_12, .int)]) [0, 1, 2, 3, 4, 5] rfl
  refine W.widen (k := 6) (n := 4599) (Nat.le_of_ble_eq_true rfl) (Nat.le_of_ble_eq_true rfl) ?_
  exact W.vret hx hb hr (fun t ht hW => ⟨⟨([(h0, .inr (6, [.ref q_1, .ref q_3, .ref q_5, .ref q_7, .ref q_9, .ref q_11, .int 0])), (q_1, .inl (c_2, 511, .inl (fun _ => 0))), (q_3, .inl (c_4, 511, .inl (fun _ => 0))), (q_5, .inl (c_6, 511, .inl (fun _ => 0))), (q_7, .inl (c_8, 511, .inl (fun _ => 0))), (q_9, .inl (c_10, 511, .inl (fun _ => 0))), (q_11, .inl (c_12, 2044, .inl (fun _ => 0)))], [(c_2, .int), (c_4, .int), (c_6, .int), (c_8, .int), (c_10, .int), (c_12, .int)]), rfl, ⟨q_1, q_3, q_5, q_7, q_9, q_11, c_2, c_4, c_6, c_8, c_10, c_12, rfl⟩, (by rw [ht]; exact hP9), va_K.moved hW.alike hK9, hD9⟩, hS.F ht⟩) hS.2.2 dX6_init_63
