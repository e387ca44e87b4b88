set_option maxHeartbeats 4000000 in
set_option maxRecDepth 100000 in
theorem c_placeFor0 (l : Launch) (dC : Nat → ClassId) (dI : Nat → Nat → Nat) (sz : Nat) (h0 : Nat) (h0_trees : Nat) (a0_cases : Nat) (a0_rows : Nat) (a0_grower : Nat) (a0_finder : Nat) (a0_pruner : Nat) (a0_rules : Nat) (a0_told : Nat) (a0_turnedMarks : Nat) (a0_ballots : Nat) (k0_trees : ClassId)   : Met l yX7_placeFor wsX7_placeFor ({ frames := 2, cells := 7, slots := 4606, locals := 80 }) (va_Pc [.ref h0, .int 0] (pw (dC, dI) [(k0_trees, .object RX6)] [(h0, .inr (7, [.ref a0_cases, .ref a0_rows, .ref a0_grower, .ref a0_finder, .ref a0_pruner, .ref a0_rules, .ref h0_trees, .ref a0_told, .ref a0_turnedMarks, .ref a0_ballots, .int 0, .int (-1), .int (-1), .int 0])), (h0_trees, .inl (k0_trees, 21, .inr (.inr (.inr (.inr (fun _ => none))))))] sz)) (va_Qq (fun (r : Option Nat) (u : vu) => (∃ (g_15 : Nat → Option Nat) (q_1 : Nat) (q_3 : Nat) (q_4 : Nat) (q_5 : Nat) (q_6 : Nat) (q_7 : Nat) (q_8 : Nat) (c_9 : ClassId) (c_10 : ClassId) (c_11 : ClassId) (c_12 : ClassId) (c_13 : ClassId) (c_14 : ClassId), u = ([(h0, .inr (7, [.ref a0_cases, .ref a0_rows, .ref a0_grower, .ref a0_finder, .ref a0_pruner, .ref a0_rules, .ref h0_trees, .ref a0_told, .ref a0_turnedMarks, .ref a0_ballots, .int 0, .int (-1), .int (-1), .int 0])), (h0_trees, .inl (k0_trees, 21, .inr (.inr (.inr (.inr g_15))))), (q_1, .inr (6, [.ref q_3, .ref q_4, .ref q_5, .ref q_6, .ref q_7, .ref q_8, .int 0])), (q_3, .inl (c_9, 511, .inl (fun _ => 0))), (q_4, .inl (c_10, 511, .inl (fun _ => 0))), (q_5, .inl (c_11, 511, .inl (fun _ => 0))), (q_6, .inl (c_12, 511, .inl (fun _ => 0))), (q_7, .inl (c_13, 511, .inl (fun _ => 0))), (q_8, .inl (c_14, 2044, .inl (fun _ => 0)))], [(c_9, .int), (c_10, .int), (c_11, .int), (c_12, .int), (c_13, .int), (c_14, .int)]) ∧ g_15 0 = some q_1 ∧ r = some q_1)) (fun u t => qw (dC, dI) u.2 (va_A [(h0, .inr (7, [.ref a0_cases, .ref a0_rows, .ref a0_grower, .ref a0_finder, .ref a0_pruner, .ref a0_rules, .ref h0_trees, .ref a0_told, .ref a0_turnedMarks, .ref a0_ballots, .int 0, .int (-1), .int (-1), .int 0])), (h0_trees, .inl (k0_trees, 21, .inr (.inr (.inr (.inr (fun _ => none))))))] sz) u.1 t) (va_A [(h0, .inr (7, [.ref a0_cases, .ref a0_rows, .ref a0_grower, .ref a0_finder, .ref a0_pruner, .ref a0_rules, .ref h0_trees, .ref a0_told, .ref a0_turnedMarks, .ref a0_ballots, .int 0, .int (-1), .int (-1), .int 0])), (h0_trees, .inl (k0_trees, 21, .inr (.inr (.inr (.inr (fun _ => none))))))] sz)) 7 4606 (va_A [(h0, .inr (7, [.ref a0_cases, .ref a0_rows, .ref a0_grower, .ref a0_finder, .ref a0_pruner, .ref a0_rules, .ref h0_trees, .ref a0_told, .ref a0_turnedMarks, .ref a0_ballots, .int 0, .int (-1), .int (-1), .int 0])), (h0_trees, .inl (k0_trees, 21, .inr (.inr (.inr (.inr (fun _ => none))))))] sz) := by
  refine Met.ofW (cc := cX7_placeFor) (maxL := 3) (ret := (some (.object "AskTree$Tree"))) (by decide) rfl ?_
  intro p e s m args below meth c s₁ B hml hv
  obtain ⟨rfl, hsz, hP, hK, hD0, hN⟩ := hv
  have hx := B.exec
  have hb := B.bytes
  have hr := B.returns
  have hts := atoms_spec (ws := wsX7_placeFor) B.pre
  have hown : s.vm.findClass RX7 = some m.cls := findClass_of_methodNamed B.named
  have hlocks := B.notSynchronized
  have hi7 : ∀ w ∈ u_ws RX7 TX7 14, w ∈ wsX7_placeFor := fun _ h => List.mem_cons_of_mem _ (List.mem_append_left _ (List.mem_append_right _ h))
  have hi6 : ∀ w ∈ u_ws RX6 TX6 7, w ∈ wsX7_placeFor := fun _ h => List.mem_cons_of_mem _ (List.mem_append_right _ h)
  subst hsz
  have hD := hD0.self (sz := s.heap.size)
  generalize hAe : va_A [(h0, .inr (7, [.ref a0_cases, .ref a0_rows, .ref a0_grower, .ref a0_finder, .ref a0_pruner, .ref a0_rules, .ref h0_trees, .ref a0_told, .ref a0_turnedMarks, .ref a0_ballots, .int 0, .int (-1), .int (-1), .int 0])), (h0_trees, .inl (k0_trees, 21, .inr (.inr (.inr (.inr (fun _ => none))))))] s.heap.size = A at hD ⊢
  have hA : ∀ q : Nat, s.heap.size ≤ q → A q := fun q h => by rw [← hAe]; exact Or.inr h
  have hS : va_S A s.heap s.heap [] := va_S.rf
  have hl := lv_entry ([.ref h0, .int 0]) (n := 3) (Nat.le_of_ble_eq_true rfl)
  rw [lg_entry_eq]
  generalize (lg_sl ([.ref h0, .int 0]) ++ List.replicate (3 - (lg_sl ([.ref h0, .int 0])).length) Slot.unset).toArray = ls at hl ⊢
  have hl : lv_has ls 3 [(0, .ref h0), (1, .int 0)] := hl
  have hP : va_P (dC, dI) vwCl [(h0, .inr (7, [.ref a0_cases, .ref a0_rows, .ref a0_grower, .ref a0_finder, .ref a0_pruner, .ref a0_rules, .ref h0_trees, .ref a0_told, .ref a0_turnedMarks, .ref a0_ballots, .int 0, .int (-1), .int (-1), .int 0])), (h0_trees, .inl (k0_trees, 21, .inr (.inr (.inr (.inr (fun _ => none))))))] s.heap := hP
  refine lv_aload_n hx hb dX7_placeFor_0 rfl (lv_at hl 0 rfl) ?_
  refine va_get (D := (dC, dI)) (ci := 7) (v := .ref h0_trees) (C := RX7) (T := TX7) (N := 14) hx hb hts hi7 hown hK hP 0 rfl rfl 6 (by decide) (hts (.fieldLink RX7 63 "AskTree" "trees" "[LAskTree$Tree;") (by decide +kernel)) (fun _ h9 => h9) rfl dX7_placeFor_1 ?_
  refine lv_iload_n hx hb dX7_placeFor_4 rfl (lv_at hl 1 rfl) ?_
  refine va_aldq hx hb hK hP 1 0 rfl rfl (vi _ _ (by decide)) dX7_placeFor_5 ?_
  refine tvv (v := .null) rfl ?_
  refine lv_astore_nN (lv' := [(2, .null), (0, .ref h0), (1, .int 0)]) hx hb dX7_placeFor_6 rfl hl (by decide) rfl (fun ls hl => ?_)
  refine lv_aload_nN hx hb dX7_placeFor_7 rfl (lv_at hl 0 rfl) ?_
  refine lv_ifnonnullN hx hb dX7_placeFor_8 ?_
  refine va_new (ci := 6) (fs := [.null, .null, .null, .null, .null, .null, .int 0]) (C := RX6) (T := TX6) (N := 7) hx hb hts hi6 tyX6 tyX6_ok hown (hts (.classLink RX7 61 RX6) (by decide +kernel)) (hts (.instantiable RX6 7) (by decide +kernel)) (hts (.initialized RX6) (by decide +kernel)) hK hP hD hS hA rfl (fun j hj => by rcases (show j = 0 ∨ j = 1 ∨ j = 2 ∨ j = 3 ∨ j = 4 ∨ j = 5 ∨ j = 6 by omega) with rfl | rfl | rfl | rfl | rfl | rfl | rfl <;> rfl) (Nat.le_of_ble_eq_true rfl) (Nat.le_of_ble_eq_true rfl) dX7_placeFor_11 (fun q_1 H hP hD hS => ?_)
  have hP : va_P (dC, dI) vwCl [(h0, .inr (7, [.ref a0_cases, .ref a0_rows, .ref a0_grower, .ref a0_finder, .ref a0_pruner, .ref a0_rules, .ref h0_trees, .ref a0_told, .ref a0_turnedMarks, .ref a0_ballots, .int 0, .int (-1), .int (-1), .int 0])), (h0_trees, .inl (k0_trees, 21, .inr (.inr (.inr (.inr (fun _ => none)))))), (q_1, .inr (6, [.null, .null, .null, .null, .null, .null, .int 0]))] H := hP
  have hD : va_D A [(h0, .inr (7, [.ref a0_cases, .ref a0_rows, .ref a0_grower, .ref a0_finder, .ref a0_pruner, .ref a0_rules, .ref h0_trees, .ref a0_told, .ref a0_turnedMarks, .ref a0_ballots, .int 0, .int (-1), .int (-1), .int 0])), (h0_trees, .inl (k0_trees, 21, .inr (.inr (.inr (.inr (fun _ => none)))))), (q_1, .inr (6, [.null, .null, .null, .null, .null, .null, .int 0]))] := hD
  refine W.widen (k := 1) (n := 7) (Nat.le_of_ble_eq_true rfl) (Nat.le_of_ble_eq_true rfl) ?_
  refine lv_dup hx hb dX7_placeFor_14 rfl ?_
  have hPc := hP.sub (ws' := [(q_1, .inr (6, [.null, .null, .null, .null, .null, .null, .int 0]))]) [2] rfl
  have hDc := hD.sub (ws' := [(q_1, .inr (6, [.null, .null, .null, .null, .null, .null, .int 0]))]) [2] (by decide) rfl
  have hKc := hK.sub (tys' := []) [] rfl
  have hFc := va_free (wc := [(q_1, .inr (6, [.null, .null, .null, .null, .null, .null, .int 0]))]) hD hS hA [2] rfl
  refine va_callv (va_runIN (As := []) (rest := [.ref q_1]) ⟨hx, hb, hml, hown, hts⟩ (c_tree_init l dC dI H.size q_1 ) ⟨(va_cnB 0 hts gX7_placeFor_X6_init_n253 rfl rfl rfl hN.2.1 (hts (.initialized RX6) (by decide +kernel)) (by decide +kernel) ⟨Nat.le_of_ble_eq_true rfl, Nat.le_of_ble_eq_true rfl⟩), rfl, hts (.instanceMethod yX6_init) (by decide +kernel)⟩ (pre_S hPc hKc hDc hN) rfl rfl hl.1 rfl (lv_room (Nat.le_of_ble_eq_true rfl)) dX7_placeFor_15 ⟨Nat.le_of_ble_eq_true rfl, Nat.le_of_ble_eq_true rfl⟩) hS (fun q _ h => hFc q h) hFc (fun u t H1 locs ht hvm hw hB hz1 hk1 hS => ?_)
  clear hPc hDc hKc
  obtain ⟨q_3, q_4, q_5, q_6, q_7, q_8, c_9, c_10, c_11, c_12, c_13, c_14, rfl⟩ := hw
  obtain ⟨hP1, hK1, hD1⟩ := hB
  rw [ht] at hP1
  obtain ⟨hP, hD⟩ := va_join (wr := [(h0, .inr (7, [.ref a0_cases, .ref a0_rows, .ref a0_grower, .ref a0_finder, .ref a0_pruner, .ref a0_rules, .ref h0_trees, .ref a0_told, .ref a0_turnedMarks, .ref a0_ballots, .int 0, .int (-1), .int (-1), .int 0])), (h0_trees, .inl (k0_trees, 21, .inr (.inr (.inr (.inr (fun _ => none))))))]) (w1 := [(q_1, .inr (6, [.ref q_3, .ref q_4, .ref q_5, .ref q_6, .ref q_7, .ref q_8, .int 0])), (q_3, .inl (c_9, 511, .inl (fun _ => 0))), (q_4, .inl (c_10, 511, .inl (fun _ => 0))), (q_5, .inl (c_11, 511, .inl (fun _ => 0))), (q_6, .inl (c_12, 511, .inl (fun _ => 0))), (q_7, .inl (c_13, 511, .inl (fun _ => 0))), (q_8, .inl (c_14, 2044, .inl (fun _ => 0)))]) hP hD [2] [0, 1] rfl rfl (by decide) (by decide) hk1 hFc hP1 hD1
  have hK1 := va_K.moved hvm.symm hK1
  have hK := hK.app hK1
  generalize H1 = H at hP hS ⊢
  clear hP1 hD1 hFc hk1 hz1 ht hvm hK1
  have hP : va_P (dC, dI) vwCl [(h0, .inr (7, [.ref a0_cases, .ref a0_rows, .ref a0_grower, .ref a0_finder, .ref a0_pruner, .ref a0_rules, .ref h0_trees, .ref a0_told, .ref a0_turnedMarks, .ref a0_ballots, .int 0, .int (-1), .int (-1), .int 0])), (h0_trees, .inl (k0_trees, 21, .inr (.inr (.inr (.inr (fun _ => none)))))), (q_1, .inr (6, [.ref q_3, .ref q_4, .ref q_5, .ref q_6, .ref q_7, .ref q_8, .int 0])), (q_3, .inl (c_9, 511, .inl (fun _ => 0))), (q_4, .inl (c_10, 511, .inl (fun _ => 0))), (q_5, .inl (c_11, 511, .inl (fun _ => 0))), (q_6, .inl (c_12, 511, .inl (fun _ => 0))), (q_7, .inl (c_13, 511, .inl (fun _ => 0))), (q_8, .inl (c_14, 2044, .inl (fun _ => 0)))] H := hP
  have hD : va_D A [(h0, .inr (7, [.ref a0_cases, .ref a0_rows, .ref a0_grower, .ref a0_finder, .ref a0_pruner, .ref a0_rules, .ref h0_trees, .ref a0_told, .ref a0_turnedMarks, .ref a0_ballots, .int 0, .int (-1), .int (-1), .int 0])), (h0_trees, .inl (k0_trees, 21, .inr (.inr (.inr (.inr (fun _ => none)))))), (q_1, .inr (6, [.ref q_3, .ref q_4, .ref q_5, .ref q_6, .ref q_7, .ref q_8, .int 0])), (q_3, .inl (c_9, 511, .inl (fun _ => 0))), (q_4, .inl (c_10, 511, .inl (fun _ => 0))), (q_5, .inl (c_11, 511, .inl (fun _ => 0))), (q_6, .inl (c_12, 511, .inl (fun _ => 0))), (q_7, .inl (c_13, 511, .inl (fun _ => 0))), (q_8, .inl (c_14, 2044, .inl (fun _ => 0)))] := hD
  have hK : va_K (dC, dI) vwCl [(k0_trees, .object RX6), (c_9, .int), (c_10, .int), (c_11, .int), (c_12, .int), (c_13, .int), (c_14, .int)] s := hK
  refine W.widen (k := 7) (n := 4606) (Nat.le_of_ble_eq_true rfl) (Nat.le_of_ble_eq_true rfl) ?_
  refine lv_astore_n (lv' := [(2, .ref q_1), (0, .ref h0), (1, .int 0)]) hx hb dX7_placeFor_18 rfl hl (by decide) rfl (fun ls hl => ?_)
  refine lv_aload_n hx hb dX7_placeFor_19 rfl (lv_at hl 1 rfl) ?_
  refine va_get (D := (dC, dI)) (ci := 7) (v := .ref h0_trees) (C := RX7) (T := TX7) (N := 14) hx hb hts hi7 hown hK hP 0 rfl rfl 6 (by decide) (hts (.fieldLink RX7 63 "AskTree" "trees" "[LAskTree$Tree;") (by decide +kernel)) (fun _ h9 => h9) rfl dX7_placeFor_20 ?_
  refine lv_iload_n hx hb dX7_placeFor_23 rfl (lv_at hl 2 rfl) ?_
  refine lv_aload_n hx hb dX7_placeFor_24 rfl (lv_at hl 0 rfl) ?_
  refine va_astq (r := (RX6, TX6, 7)) hx hb hK hP hD hS 1 0 2 6 rfl rfl rfl rfl (vi _ _ (by decide)) dX7_placeFor_25 (fun H locs hP hD hS => ?_)
  have hP : va_P (dC, dI) vwCl [(h0, .inr (7, [.ref a0_cases, .ref a0_rows, .ref a0_grower, .ref a0_finder, .ref a0_pruner, .ref a0_rules, .ref h0_trees, .ref a0_told, .ref a0_turnedMarks, .ref a0_ballots, .int 0, .int (-1), .int (-1), .int 0])), (h0_trees, .inl (k0_trees, 21, .inr (.inr (.inr (.inr (va_up (fun _ => none) (Int32.toNatClampNeg 0) (some q_1))))))), (q_1, .inr (6, [.ref q_3, .ref q_4, .ref q_5, .ref q_6, .ref q_7, .ref q_8, .int 0])), (q_3, .inl (c_9, 511, .inl (fun _ => 0))), (q_4, .inl (c_10, 511, .inl (fun _ => 0))), (q_5, .inl (c_11, 511, .inl (fun _ => 0))), (q_6, .inl (c_12, 511, .inl (fun _ => 0))), (q_7, .inl (c_13, 511, .inl (fun _ => 0))), (q_8, .inl (c_14, 2044, .inl (fun _ => 0)))] H := hP
  have hD : va_D A [(h0, .inr (7, [.ref a0_cases, .ref a0_rows, .ref a0_grower, .ref a0_finder, .ref a0_pruner, .ref a0_rules, .ref h0_trees, .ref a0_told, .ref a0_turnedMarks, .ref a0_ballots, .int 0, .int (-1), .int (-1), .int 0])), (h0_trees, .inl (k0_trees, 21, .inr (.inr (.inr (.inr (va_up (fun _ => none) (Int32.toNatClampNeg 0) (some q_1))))))), (q_1, .inr (6, [.ref q_3, .ref q_4, .ref q_5, .ref q_6, .ref q_7, .ref q_8, .int 0])), (q_3, .inl (c_9, 511, .inl (fun _ => 0))), (q_4, .inl (c_10, 511, .inl (fun _ => 0))), (q_5, .inl (c_11, 511, .inl (fun _ => 0))), (q_6, .inl (c_12, 511, .inl (fun _ => 0))), (q_7, .inl (c_13, 511, .inl (fun _ => 0))), (q_8, .inl (c_14, 2044, .inl (fun _ => 0)))] := hD
  generalize hf_16 : va_up (fun _ => none) (Int32.toNatClampNeg 0) (some q_1) = g_15 at hP hD
  have hk_17 : g_15 0 = some q_1 := by rw [← hf_16]; exact uq_s (by decide)
  clear hf_16
  refine lv_aload_n hx hb dX7_placeFor_26 rfl (lv_at hl 0 rfl) ?_
  refine lv_iconst (v := 0) hx hb dX7_placeFor_27 (by decide) ?_
  refine va_put (D := (dC, dI)) (ci := 6) (v := .int 0) (ty := .int) (C := RX6) (T := TX6) (N := 7) hx hb hts hi6 tyX6 tyX6_ok nmX6 hown hK hP hD hS 2 rfl rfl 6 (by decide) (hts (.fieldLink RX7 152 "AskTree$Tree" "size" "I") (by decide +kernel)) (fun _ h9 => h9) rfl (by decide +kernel) rfl rfl (Nat.le_of_ble_eq_true rfl) dX7_placeFor_28 (fun H locs hP hD hS => ?_)
  have hP : va_P (dC, dI) vwCl [(h0, .inr (7, [.ref a0_cases, .ref a0_rows, .ref a0_grower, .ref a0_finder, .ref a0_pruner, .ref a0_rules, .ref h0_trees, .ref a0_told, .ref a0_turnedMarks, .ref a0_ballots, .int 0, .int (-1), .int (-1), .int 0])), (h0_trees, .inl (k0_trees, 21, .inr (.inr (.inr (.inr g_15))))), (q_1, .inr (6, [.ref q_3, .ref q_4, .ref q_5, .ref q_6, .ref q_7, .ref q_8, .int 0])), (q_3, .inl (c_9, 511, .inl (fun _ => 0))), (q_4, .inl (c_10, 511, .inl (fun _ => 0))), (q_5, .inl (c_11, 511, .inl (fun _ => 0))), (q_6, .inl (c_12, 511, .inl (fun _ => 0))), (q_7, .inl (c_13, 511, .inl (fun _ => 0))), (q_8, .inl (c_14, 2044, .inl (fun _ => 0)))] H := hP
  have hD : va_D A [(h0, .inr (7, [.ref a0_cases, .ref a0_rows, .ref a0_grower, .ref a0_finder, .ref a0_pruner, .ref a0_rules, .ref h0_trees, .ref a0_told, .ref a0_turnedMarks, .ref a0_ballots, .int 0, .int (-1), .int (-1), .int 0])), (h0_trees, .inl (k0_trees, 21, .inr (.inr (.inr (.inr g_15))))), (q_1, .inr (6, [.ref q_3, .ref q_4, .ref q_5, .ref q_6, .ref q_7, .ref q_8, .int 0])), (q_3, .inl (c_9, 511, .inl (fun _ => 0))), (q_4, .inl (c_10, 511, .inl (fun _ => 0))), (q_5, .inl (c_11, 511, .inl (fun _ => 0))), (q_6, .inl (c_12, 511, .inl (fun _ => 0))), (q_7, .inl (c_13, 511, .inl (fun _ => 0))), (q_8, .inl (c_14, 2044, .inl (fun _ => 0)))] := hD
  refine lv_aload_n hx hb dX7_placeFor_31 rfl (lv_at hl 0 rfl) ?_
  have hP9 := hP.sub (ws' := [(h0, .inr (7, [.ref a0_cases, .ref a0_rows, .ref a0_grower, .ref a0_finder, .ref a0_pruner, .ref a0_rules, .ref h0_trees, .ref a0_told, .ref a0_turnedMarks, .ref a0_ballots, .int 0, .int (-1), .int (-1), .int 0])), (h0_trees, .inl (k0_trees, 21, .inr (.inr (.inr (.inr g_15))))), (q_1, .inr (6, [.ref q_3, .ref q_4, .ref q_5, .ref q_6, .ref q_7, .ref q_8, .int 0])), (q_3, .inl (c_9, 511, .inl (fun _ => 0))), (q_4, .inl (c_10, 511, .inl (fun _ => 0))), (q_5, .inl (c_11, 511, .inl (fun _ => 0))), (q_6, .inl (c_12, 511, .inl (fun _ => 0))), (q_7, .inl (c_13, 511, .inl (fun _ => 0))), (q_8, .inl (c_14, 2044, .inl (fun _ => 0)))]) [0, 1, 2, 3, 4, 5, 6, 7, 8] rfl
  have hD9 := hD.sub (ws' := [(h0, .inr (7, [.ref a0_cases, .ref a0_rows, .ref a0_grower, .ref a0_finder, .ref a0_pruner, .ref a0_rules, .ref h0_trees, .ref a0_told, .ref a0_turnedMarks, .ref a0_ballots, .int 0, .int (-1), .int (-1), .int 0])), (h0_trees, .inl (k0_trees, 21, .inr (.inr (.inr (.inr g_15))))), (q_1, .inr (6, [.ref q_3, .ref q_4, .ref q_5, .ref q_6, .ref q_7, .ref q_8, .int 0])), (q_3, .inl (c_9, 511, .inl (fun _ => 0))), (q_4, .inl (c_10, 511, .inl (fun _ => 0))), (q_5, .inl (c_11, 511, .inl (fun _ => 0))), (q_6, .inl (c_12, 511, .inl (fun _ => 0))), (q_7, .inl (c_13, 511, .inl (fun _ => 0))), (q_8, .inl (c_14, 2044, .inl (fun _ => 0)))]) [0, 1, 2, 3, 4, 5, 6, 7, 8] (by decide) rfl
  have hK9 := hK.sub (tys' := [(c_9, .int), (c_10, .int), (c_11, .int), (c_12, .int), (c_13, .int), (c_14, .int)]) [1, 2, 3, 4, 5, 6] rfl
  refine W.widen (k := 7) (n := 4606) (Nat.le_of_ble_eq_true rfl) (Nat.le_of_ble_eq_true rfl) ?_
  exact W.aret hx hb hr (Or.inl ⟨_, rfl⟩) (Or.inr ⟨_, rfl⟩) (fun t ht hW => ⟨⟨some q_1, ([(h0, .inr (7, [.ref a0_cases, .ref a0_rows, .ref a0_grower, .ref a0_finder, .ref a0_pruner, .ref a0_rules, .ref h0_trees, .ref a0_told, .ref a0_turnedMarks, .ref a0_ballots, .int 0, .int (-1), .int (-1), .int 0])), (h0_trees, .inl (k0_trees, 21, .inr (.inr (.inr (.inr g_15))))), (q_1, .inr (6, [.ref q_3, .ref q_4, .ref q_5, .ref q_6, .ref q_7, .ref q_8, .int 0])), (q_3, .inl (c_9, 511, .inl (fun _ => 0))), (q_4, .inl (c_10, 511, .inl (fun _ => 0))), (q_5, .inl (c_11, 511, .inl (fun _ => 0))), (q_6, .inl (c_12, 511, .inl (fun _ => 0))), (q_7, .inl (c_13, 511, .inl (fun _ => 0))), (q_8, .inl (c_14, 2044, .inl (fun _ => 0)))], [(c_9, .int), (c_10, .int), (c_11, .int), (c_12, .int), (c_13, .int), (c_14, .int)]), rfl, ⟨g_15, q_1, q_3, q_4, q_5, q_6, q_7, q_8, c_9, c_10, c_11, c_12, c_13, c_14, rfl, hk_17, rfl⟩, (by rw [ht]; exact hP9), va_K.moved hW.alike hK9, hD9⟩, hS.F ht⟩) hS.2.2 dX7_placeFor_32

set_option maxHeartbeats 4000000 in
set_option maxRecDepth 100000 in
theorem c_placeFor20 (l : Launch) (dC : Nat → ClassId) (dI : Nat → Nat → Nat) (sz : Nat) (h0 : Nat) (h0_trees : Nat) (a0_cases : Nat) (a0_rows : Nat) (a0_grower : Nat) (a0_finder : Nat) (a0_pruner : Nat) (a0_rules : Nat) (a0_told : Nat) (a0_turnedMarks : Nat) (a0_ballots : Nat) (k0_trees : ClassId)   : Met l yX7_placeFor wsX7_placeFor ({ frames := 2, cells := 7, slots := 4606, locals := 80 }) (va_Pc [.ref h0, .int 20] (pw (dC, dI) [(k0_trees, .object RX6)] [(h0, .inr (7, [.ref a0_cases, .ref a0_rows, .ref a0_grower, .ref a0_finder, .ref a0_pruner, .ref a0_rules, .ref h0_trees, .ref a0_told, .ref a0_turnedMarks, .ref a0_ballots, .int 0, .int (-1), .int (-1), .int 0])), (h0_trees, .inl (k0_trees, 21, .inr (.inr (.inr (.inr (fun _ => none))))))] sz)) (va_Qq (fun (r : Option Nat) (u : vu) => (∃ (g_15 : Nat → Option Nat) (q_1 : Nat) (q_3 : Nat) (q_4 : Nat) (q_5 : Nat) (q_6 : Nat) (q_7 : Nat) (q_8 : Nat) (c_9 : ClassId) (c_10 : ClassId) (c_11 : ClassId) (c_12 : ClassId) (c_13 : ClassId) (c_14 : ClassId), u = ([(h0, .inr (7, [.ref a0_cases, .ref a0_rows, .ref a0_grower, .ref a0_finder, .ref a0_pruner, .ref a0_rules, .ref h0_trees, .ref a0_told, .ref a0_turnedMarks, .ref a0_ballots, .int 0, .int (-1), .int (-1), .int 0])), (h0_trees, .inl (k0_trees, 21, .inr (.inr (.inr (.inr g_15))))), (q_1, .inr (6, [.ref q_3, .ref q_4, .ref q_5, .ref q_6, .ref q_7, .ref q_8, .int 0])), (q_3, .inl (c_9, 511, .inl (fun _ => 0))), (q_4, .inl (c_10, 511, .inl (fun _ => 0))), (q_5, .inl (c_11, 511, .inl (fun _ => 0))), (q_6, .inl (c_12, 511, .inl (fun _ => 0))), (q_7, .inl (c_13, 511, .inl (fun _ => 0))), (q_8, .inl (c_14, 2044, .inl (fun _ => 0)))], [(c_9, .int), (c_10, .int), (c_11, .int), (c_12, .int), (c_13, .int), (c_14, .int)]) ∧ g_15 20 = some q_1 ∧ r = some q_1)) (fun u t => qw (dC, dI) u.2 (va_A [(h0, .inr (7, [.ref a0_cases, .ref a0_rows, .ref a0_grower, .ref a0_finder, .ref a0_pruner, .ref a0_rules, .ref h0_trees, .ref a0_told, .ref a0_turnedMarks, .ref a0_ballots, .int 0, .int (-1), .int (-1), .int 0])), (h0_trees, .inl (k0_trees, 21, .inr (.inr (.inr (.inr (fun _ => none))))))] sz) u.1 t) (va_A [(h0, .inr (7, [.ref a0_cases, .ref a0_rows, .ref a0_grower, .ref a0_finder, .ref a0_pruner, .ref a0_rules, .ref h0_trees, .ref a0_told, .ref a0_turnedMarks, .ref a0_ballots, .int 0, .int (-1), .int (-1), .int 0])), (h0_trees, .inl (k0_trees, 21, .inr (.inr (.inr (.inr (fun _ => none))))))] sz)) 7 4606 (va_A [(h0, .inr (7, [.ref a0_cases, .ref a0_rows, .ref a0_grower, .ref a0_finder, .ref a0_pruner, .ref a0_rules, .ref h0_trees, .ref a0_told, .ref a0_turnedMarks, .ref a0_ballots, .int 0, .int (-1), .int (-1), .int 0])), (h0_trees, .inl (k0_trees, 21, .inr (.inr (.inr (.inr (fun _ => none))))))] sz) := by
  refine Met.ofW (cc := cX7_placeFor) (maxL := 3) (ret := (some (.object "AskTree$Tree"))) (by decide) rfl ?_
  intro p e s m args below meth c s₁ B hml hv
  obtain ⟨rfl, hsz, hP, hK, hD0, hN⟩ := hv
  have hx := B.exec
  have hb := B.bytes
  have hr := B.returns
  have hts := atoms_spec (ws := wsX7_placeFor) B.pre
  have hown : s.vm.findClass RX7 = some m.cls := findClass_of_methodNamed B.named
  have hlocks := B.notSynchronized
  have hi7 : ∀ w ∈ u_ws RX7 TX7 14, w ∈ wsX7_placeFor := fun _ h => List.mem_cons_of_mem _ (List.mem_append_left _ (List.mem_append_right _ h))
  have hi6 : ∀ w ∈ u_ws RX6 TX6 7, w ∈ wsX7_placeFor := fun _ h => List.mem_cons_of_mem _ (List.mem_append_right _ h)
  subst hsz
  have hD := hD0.self (sz := s.heap.size)
  generalize hAe : va_A [(h0, .inr (7, [.ref a0_cases, .ref a0_rows, .ref a0_grower, .ref a0_finder, .ref a0_pruner, .ref a0_rules, .ref h0_trees, .ref a0_told, .ref a0_turnedMarks, .ref a0_ballots, .int 0, .int (-1), .int (-1), .int 0])), (h0_trees, .inl (k0_trees, 21, .inr (.inr (.inr (.inr (fun _ => none))))))] s.heap.size = A at hD ⊢
  have hA : ∀ q : Nat, s.heap.size ≤ q → A q := fun q h => by rw [← hAe]; exact Or.inr h
  have hS : va_S A s.heap s.heap [] := va_S.rf
  have hl := lv_entry ([.ref h0, .int 20]) (n := 3) (Nat.le_of_ble_eq_true rfl)
  rw [lg_entry_eq]
  generalize (lg_sl ([.ref h0, .int 20]) ++ List.replicate (3 - (lg_sl ([.ref h0, .int 20])).length) Slot.unset).toArray = ls at hl ⊢
  have hl : lv_has ls 3 [(0, .ref h0), (1, .int 20)] := hl
  have hP : va_P (dC, dI) vwCl [(h0, .inr (7, [.ref a0_cases, .ref a0_rows, .ref a0_grower, .ref a0_finder, .ref a0_pruner, .ref a0_rules, .ref h0_trees, .ref a0_told, .ref a0_turnedMarks, .ref a0_ballots, .int 0, .int (-1), .int (-1), .int 0])), (h0_trees, .inl (k0_trees, 21, .inr (.inr (.inr (.inr (fun _ => none))))))] s.heap := hP
  refine lv_aload_n hx hb dX7_placeFor_0 rfl (lv_at hl 0 rfl) ?_
  refine va_get (D := (dC, dI)) (ci := 7) (v := .ref h0_trees) (C := RX7) (T := TX7) (N := 14) hx hb hts hi7 hown hK hP 0 rfl rfl 6 (by decide) (hts (.fieldLink RX7 63 "AskTree" "trees" "[LAskTree$Tree;") (by decide +kernel)) (fun _ h9 => h9) rfl dX7_placeFor_1 ?_
  refine lv_iload_n hx hb dX7_placeFor_4 rfl (lv_at hl 1 rfl) ?_
  refine va_aldq hx hb hK hP 1 0 rfl rfl (vi _ _ (by decide)) dX7_placeFor_5 ?_
  refine tvv (v := .null) rfl ?_
  refine lv_astore_nN (lv' := [(2, .null), (0, .ref h0), (1, .int 20)]) hx hb dX7_placeFor_6 rfl hl (by decide) rfl (fun ls hl => ?_)
  refine lv_aload_nN hx hb dX7_placeFor_7 rfl (lv_at hl 0 rfl) ?_
  refine lv_ifnonnullN hx hb dX7_placeFor_8 ?_
  refine va_new (ci := 6) (fs := [.null, .null, .null, .null, .null, .null, .int 0]) (C := RX6) (T := TX6) (N := 7) hx hb hts hi6 tyX6 tyX6_ok hown (hts (.classLink RX7 61 RX6) (by decide +kernel)) (hts (.instantiable RX6 7) (by decide +kernel)) (hts (.initialized RX6) (by decide +kernel)) hK hP hD hS hA rfl (fun j hj => by rcases (show j = 0 ∨ j = 1 ∨ j = 2 ∨ j = 3 ∨ j = 4 ∨ j = 5 ∨ j = 6 by omega) with rfl | rfl | rfl | rfl | rfl | rfl | rfl <;> rfl) (Nat.le_of_ble_eq_true rfl) (Nat.le_of_ble_eq_true rfl) dX7_placeFor_11 (fun q_1 H hP hD hS => ?_)
  have hP : va_P (dC, dI) vwCl [(h0, .inr (7, [.ref a0_cases, .ref a0_rows, .ref a0_grower, .ref a0_finder, .ref a0_pruner, .ref a0_rules, .ref h0_trees, .ref a0_told, .ref a0_turnedMarks, .ref a0_ballots, .int 0, .int (-1), .int (-1), .int 0])), (h0_trees, .inl (k0_trees, 21, .inr (.inr (.inr (.inr (fun _ => none)))))), (q_1, .inr (6, [.null, .null, .null, .null, .null, .null, .int 0]))] H := hP
  have hD : va_D A [(h0, .inr (7, [.ref a0_cases, .ref a0_rows, .ref a0_grower, .ref a0_finder, .ref a0_pruner, .ref a0_rules, .ref h0_trees, .ref a0_told, .ref a0_turnedMarks, .ref a0_ballots, .int 0, .int (-1), .int (-1), .int 0])), (h0_trees, .inl (k0_trees, 21, .inr (.inr (.inr (.inr (fun _ => none)))))), (q_1, .inr (6, [.null, .null, .null, .null, .null, .null, .int 0]))] := hD
  refine W.widen (k := 1) (n := 7) (Nat.le_of_ble_eq_true rfl) (Nat.le_of_ble_eq_true rfl) ?_
  refine lv_dup hx hb dX7_placeFor_14 rfl ?_
  have hPc := hP.sub (ws' := [(q_1, .inr (6, [.null, .null, .null, .null, .null, .null, .int 0]))]) [2] rfl
  have hDc := hD.sub (ws' := [(q_1, .inr (6, [.null, .null, .null, .null, .null, .null, .int 0]))]) [2] (by decide) rfl
  have hKc := hK.sub (tys' := []) [] rfl
  have hFc := va_free (wc := [(q_1, .inr (6, [.null, .null, .null, .null, .null, .null, .int 0]))]) hD hS hA [2] rfl
  refine va_callv (va_runIN (As := []) (rest := [.ref q_1]) ⟨hx, hb, hml, hown, hts⟩ (c_tree_init l dC dI H.size q_1 ) ⟨(va_cnB 0 hts gX7_placeFor_X6_init_n253 rfl rfl rfl hN.2.1 (hts (.initialized RX6) (by decide +kernel)) (by decide +kernel) ⟨Nat.le_of_ble_eq_true rfl, Nat.le_of_ble_eq_true rfl⟩), rfl, hts (.instanceMethod yX6_init) (by decide +kernel)⟩ (pre_S hPc hKc hDc hN) rfl rfl hl.1 rfl (lv_room (Nat.le_of_ble_eq_true rfl)) dX7_placeFor_15 ⟨Nat.le_of_ble_eq_true rfl, Nat.le_of_ble_eq_true rfl⟩) hS (fun q _ h => hFc q h) hFc (fun u t H1 locs ht hvm hw hB hz1 hk1 hS => ?_)
  clear hPc hDc hKc
  obtain ⟨q_3, q_4, q_5, q_6, q_7, q_8, c_9, c_10, c_11, c_12, c_13, c_14, rfl⟩ := hw
  obtain ⟨hP1, hK1, hD1⟩ := hB
  rw [ht] at hP1
  obtain ⟨hP, hD⟩ := va_join (wr := [(h0, .inr (7, [.ref a0_cases, .ref a0_rows, .ref a0_grower, .ref a0_finder, .ref a0_pruner, .ref a0_rules, .ref h0_trees, .ref a0_told, .ref a0_turnedMarks, .ref a0_ballots, .int 0, .int (-1), .int (-1), .int 0])), (h0_trees, .inl (k0_trees, 21, .inr (.inr (.inr (.inr (fun _ => none))))))]) (w1 := [(q_1, .inr (6, [.ref q_3, .ref q_4, .ref q_5, .ref q_6, .ref q_7, .ref q_8, .int 0])), (q_3, .inl (c_9, 511, .inl (fun _ => 0))), (q_4, .inl (c_10, 511, .inl (fun _ => 0))), (q_5, .inl (c_11, 511, .inl (fun _ => 0))), (q_6, .inl (c_12, 511, .inl (fun _ => 0))), (q_7, .inl (c_13, 511, .inl (fun _ => 0))), (q_8, .inl (c_14, 2044, .inl (fun _ => 0)))]) hP hD [2] [0, 1] rfl rfl (by decide) (by decide) hk1 hFc hP1 hD1
  have hK1 := va_K.moved hvm.symm hK1
  have hK := hK.app hK1
  generalize H1 = H at hP hS ⊢
  clear hP1 hD1 hFc hk1 hz1 ht hvm hK1
  have hP : va_P (dC, dI) vwCl [(h0, .inr (7, [.ref a0_cases, .ref a0_rows, .ref a0_grower, .ref a0_finder, .ref a0_pruner, .ref a0_rules, .ref h0_trees, .ref a0_told, .ref a0_turnedMarks, .ref a0_ballots, .int 0, .int (-1), .int (-1), .int 0])), (h0_trees, .inl (k0_trees, 21, .inr (.inr (.inr (.inr (fun _ => none)))))), (q_1, .inr (6, [.ref q_3, .ref q_4, .ref q_5, .ref q_6, .ref q_7, .ref q_8, .int 0])), (q_3, .inl (c_9, 511, .inl (fun _ => 0))), (q_4, .inl (c_10, 511, .inl (fun _ => 0))), (q_5, .inl (c_11, 511, .inl (fun _ => 0))), (q_6, .inl (c_12, 511, .inl (fun _ => 0))), (q_7, .inl (c_13, 511, .inl (fun _ => 0))), (q_8, .inl (c_14, 2044, .inl (fun _ => 0)))] H := hP
  have hD : va_D A [(h0, .inr (7, [.ref a0_cases, .ref a0_rows, .ref a0_grower, .ref a0_finder, .ref a0_pruner, .ref a0_rules, .ref h0_trees, .ref a0_told, .ref a0_turnedMarks, .ref a0_ballots, .int 0, .int (-1), .int (-1), .int 0])), (h0_trees, .inl (k0_trees, 21, .inr (.inr (.inr (.inr (fun _ => none)))))), (q_1, .inr (6, [.ref q_3, .ref q_4, .ref q_5, .ref q_6, .ref q_7, .ref q_8, .int 0])), (q_3, .inl (c_9, 511, .inl (fun _ => 0))), (q_4, .inl (c_10, 511, .inl (fun _ => 0))), (q_5, .inl (c_11, 511, .inl (fun _ => 0))), (q_6, .inl (c_12, 511, .inl (fun _ => 0))), (q_7, .inl (c_13, 511, .inl (fun _ => 0))), (q_8, .inl (c_14, 2044, .inl (fun _ => 0)))] := hD
  have hK : va_K (dC, dI) vwCl [(k0_trees, .object RX6), (c_9, .int), (c_10, .int), (c_11, .int), (c_12, .int), (c_13, .int), (c_14, .int)] s := hK
  refine W.widen (k := 7) (n := 4606) (Nat.le_of_ble_eq_true rfl) (Nat.le_of_ble_eq_true rfl) ?_
  refine lv_astore_n (lv' := [(2, .ref q_1), (0, .ref h0), (1, .int 20)]) hx hb dX7_placeFor_18 rfl hl (by decide) rfl (fun ls hl => ?_)
  refine lv_aload_n hx hb dX7_placeFor_19 rfl (lv_at hl 1 rfl) ?_
  refine va_get (D := (dC, dI)) (ci := 7) (v := .ref h0_trees) (C := RX7) (T := TX7) (N := 14) hx hb hts hi7 hown hK hP 0 rfl rfl 6 (by decide) (hts (.fieldLink RX7 63 "AskTree" "trees" "[LAskTree$Tree;") (by decide +kernel)) (fun _ h9 => h9) rfl dX7_placeFor_20 ?_
  refine lv_iload_n hx hb dX7_placeFor_23 rfl (lv_at hl 2 rfl) ?_
  refine lv_aload_n hx hb dX7_placeFor_24 rfl (lv_at hl 0 rfl) ?_
  refine va_astq (r := (RX6, TX6, 7)) hx hb hK hP hD hS 1 0 2 6 rfl rfl rfl rfl (vi _ _ (by decide)) dX7_placeFor_25 (fun H locs hP hD hS => ?_)
  have hP : va_P (dC, dI) vwCl [(h0, .inr (7, [.ref a0_cases, .ref a0_rows, .ref a0_grower, .ref a0_finder, .ref a0_pruner, .ref a0_rules, .ref h0_trees, .ref a0_told, .ref a0_turnedMarks, .ref a0_ballots, .int 0, .int (-1), .int (-1), .int 0])), (h0_trees, .inl (k0_trees, 21, .inr (.inr (.inr (.inr (va_up (fun _ => none) (Int32.toNatClampNeg 20) (some q_1))))))), (q_1, .inr (6, [.ref q_3, .ref q_4, .ref q_5, .ref q_6, .ref q_7, .ref q_8, .int 0])), (q_3, .inl (c_9, 511, .inl (fun _ => 0))), (q_4, .inl (c_10, 511, .inl (fun _ => 0))), (q_5, .inl (c_11, 511, .inl (fun _ => 0))), (q_6, .inl (c_12, 511, .inl (fun _ => 0))), (q_7, .inl (c_13, 511, .inl (fun _ => 0))), (q_8, .inl (c_14, 2044, .inl (fun _ => 0)))] H := hP
  have hD : va_D A [(h0, .inr (7, [.ref a0_cases, .ref a0_rows, .ref a0_grower, .ref a0_finder, .ref a0_pruner, .ref a0_rules, .ref h0_trees, .ref a0_told, .ref a0_turnedMarks, .ref a0_ballots, .int 0, .int (-1), .int (-1), .int 0])), (h0_trees, .inl (k0_trees, 21, .inr (.inr (.inr (.inr (va_up (fun _ => none) (Int32.toNatClampNeg 20) (some q_1))))))), (q_1, .inr (6, [.ref q_3, .ref q_4, .ref q_5, .ref q_6, .ref q_7, .ref q_8, .int 0])), (q_3, .inl (c_9, 511, .inl (fun _ => 0))), (q_4, .inl (c_10, 511, .inl (fun _ => 0))), (q_5, .inl (c_11, 511, .inl (fun _ => 0))), (q_6, .inl (c_12, 511, .inl (fun _ => 0))), (q_7, .inl (c_13, 511, .inl (fun _ => 0))), (q_8, .inl (c_14, 2044, .inl (fun _ => 0)))] := hD
  generalize hf_16 : va_up (fun _ => none) (Int32.toNatClampNeg 20) (some q_1) = g_15 at hP hD
  have hk_17 : g_15 20 = some q_1 := by rw [← hf_16]; exact uq_s (by decide)
  clear hf_16
  refine lv_aload_n hx hb dX7_placeFor_26 rfl (lv_at hl 0 rfl) ?_
  refine lv_iconst (v := 0) hx hb dX7_placeFor_27 (by decide) ?_
  refine va_put (D := (dC, dI)) (ci := 6) (v := .int 0) (ty := .int) (C := RX6) (T := TX6) (N := 7) hx hb hts hi6 tyX6 tyX6_ok nmX6 hown hK hP hD hS 2 rfl rfl 6 (by decide) (hts (.fieldLink RX7 152 "AskTree$Tree" "size" "I") (by decide +kernel)) (fun _ h9 => h9) rfl (by decide +kernel) rfl rfl (Nat.le_of_ble_eq_true rfl) dX7_placeFor_28 (fun H locs hP hD hS => ?_)
  have hP : va_P (dC, dI) vwCl [(h0, .inr (7, [.ref a0_cases, .ref a0_rows, .ref a0_grower, .ref a0_finder, .ref a0_pruner, .ref a0_rules, .ref h0_trees, .ref a0_told, .ref a0_turnedMarks, .ref a0_ballots, .int 0, .int (-1), .int (-1), .int 0])), (h0_trees, .inl (k0_trees, 21, .inr (.inr (.inr (.inr g_15))))), (q_1, .inr (6, [.ref q_3, .ref q_4, .ref q_5, .ref q_6, .ref q_7, .ref q_8, .int 0])), (q_3, .inl (c_9, 511, .inl (fun _ => 0))), (q_4, .inl (c_10, 511, .inl (fun _ => 0))), (q_5, .inl (c_11, 511, .inl (fun _ => 0))), (q_6, .inl (c_12, 511, .inl (fun _ => 0))), (q_7, .inl (c_13, 511, .inl (fun _ => 0))), (q_8, .inl (c_14, 2044, .inl (fun _ => 0)))] H := hP
  have hD : va_D A [(h0, .inr (7, [.ref a0_cases, .ref a0_rows, .ref a0_grower, .ref a0_finder, .ref a0_pruner, .ref a0_rules, .ref h0_trees, .ref a0_told, .ref a0_turnedMarks, .ref a0_ballots, .int 0, .int (-1), .int (-1), .int 0])), (h0_trees, .inl (k0_trees, 21, .inr (.inr (.inr (.inr g_15))))), (q_1, .inr (6, [.ref q_3, .ref q_4, .ref q_5, .ref q_6, .ref q_7, .ref q_8, .int 0])), (q_3, .inl (c_9, 511, .inl (fun _ => 0))), (q_4, .inl (c_10, 511, .inl (fun _ => 0))), (q_5, .inl (c_11, 511, .inl (fun _ => 0))), (q_6, .inl (c_12, 511, .inl (fun _ => 0))), (q_7, .inl (c_13, 511, .inl (fun _ => 0))), (q_8, .inl (c_14, 2044, .inl (fun _ => 0)))] := hD
  refine lv_aload_n hx hb dX7_placeFor_31 rfl (lv_at hl 0 rfl) ?_
  have hP9 := hP.sub (ws' := [(h0, .inr (7, [.ref a0_cases, .ref a0_rows, .ref a0_grower, .ref a0_finder, .ref a0_pruner, .ref a0_rules, .ref h0_trees, .ref a0_told, .ref a0_turnedMarks, .ref a0_ballots, .int 0, .int (-1), .int (-1), .int 0])), (h0_trees, .inl (k0_trees, 21, .inr (.inr (.inr (.inr g_15))))), (q_1, .inr (6, [.ref q_3, .ref q_4, .ref q_5, .ref q_6, .ref q_7, .ref q_8, .int 0])), (q_3, .inl (c_9, 511, .inl (fun _ => 0))), (q_4, .inl (c_10, 511, .inl (fun _ => 0))), (q_5, .inl (c_11, 511, .inl (fun _ => 0))), (q_6, .inl (c_12, 511, .inl (fun _ => 0))), (q_7, .inl (c_13, 511, .inl (fun _ => 0))), (q_8, .inl (c_14, 2044, .inl (fun _ => 0)))]) [0, 1, 2, 3, 4, 5, 6, 7, 8] rfl
  have hD9 := hD.sub (ws' := [(h0, .inr (7, [.ref a0_cases, .ref a0_rows, .ref a0_grower, .ref a0_finder, .ref a0_pruner, .ref a0_rules, .ref h0_trees, .ref a0_told, .ref a0_turnedMarks, .ref a0_ballots, .int 0, .int (-1), .int (-1), .int 0])), (h0_trees, .inl (k0_trees, 21, .inr (.inr (.inr (.inr g_15))))), (q_1, .inr (6, [.ref q_3, .ref q_4, .ref q_5, .ref q_6, .ref q_7, .ref q_8, .int 0])), (q_3, .inl (c_9, 511, .inl (fun _ => 0))), (q_4, .inl (c_10, 511, .inl (fun _ => 0))), (q_5, .inl (c_11, 511, .inl (fun _ => 0))), (q_6, .inl (c_12, 511, .inl (fun _ => 0))), (q_7, .inl (c_13, 511, .inl (fun _ => 0))), (q_8, .inl (c_14, 2044, .inl (fun _ => 0)))]) [0, 1, 2, 3, 4, 5, 6, 7, 8] (by decide) rfl
  have hK9 := hK.sub (tys' := [(c_9, .int), (c_10, .int), (c_11, .int), (c_12, .int), (c_13, .int), (c_14, .int)]) [1, 2, 3, 4, 5, 6] rfl
  refine W.widen (k := 7) (n := 4606) (Nat.le_of_ble_eq_true rfl) (Nat.le_of_ble_eq_true rfl) ?_
  exact W.aret hx hb hr (Or.inl ⟨_, rfl⟩) (Or.inr ⟨_, rfl⟩) (fun t ht hW => ⟨⟨some q_1, ([(h0, .inr (7, [.ref a0_cases, .ref a0_rows, .ref a0_grower, .ref a0_finder, .ref a0_pruner, .ref a0_rules, .ref h0_trees, .ref a0_told, .ref a0_turnedMarks, .ref a0_ballots, .int 0, .int (-1), .int (-1), .int 0])), (h0_trees, .inl (k0_trees, 21, .inr (.inr (.inr (.inr g_15))))), (q_1, .inr (6, [.ref q_3, .ref q_4, .ref q_5, .ref q_6, .ref q_7, .ref q_8, .int 0])), (q_3, .inl (c_9, 511, .inl (fun _ => 0))), (q_4, .inl (c_10, 511, .inl (fun _ => 0))), (q_5, .inl (c_11, 511, .inl (fun _ => 0))), (q_6, .inl (c_12, 511, .inl (fun _ => 0))), (q_7, .inl (c_13, 511, .inl (fun _ => 0))), (q_8, .inl (c_14, 2044, .inl (fun _ => 0)))], [(c_9, .int), (c_10, .int), (c_11, .int), (c_12, .int), (c_13, .int), (c_14, .int)]), rfl, ⟨g_15, q_1, q_3, q_4, q_5, q_6, q_7, q_8, c_9, c_10, c_11, c_12, c_13, c_14, rfl, hk_17, rfl⟩, (by rw [ht]; exact hP9), va_K.moved hW.alike hK9, hD9⟩, hS.F ht⟩) hS.2.2 dX7_placeFor_32

set_option maxHeartbeats 4000000 in
set_option maxRecDepth 100000 in
theorem c_placeForAgain (l : Launch) (dC : Nat → ClassId) (dI : Nat → Nat → Nat) (sz : Nat) (h0 : Nat) (h0_trees : Nat) (hspare : Nat) (a0_cases : Nat) (a0_rows : Nat) (a0_grower : Nat) (a0_finder : Nat) (a0_pruner : Nat) (a0_rules : Nat) (a0_told : Nat) (a0_turnedMarks : Nat) (a0_ballots : Nat) (k0_trees : ClassId) (f0_trees : Nat → Option Nat) (aspare_asked : Nat) (aspare_values : Nat) (aspare_below : Nat) (aspare_ways : Nat) (aspare_above : Nat) (aspare_shares : Nat) (vspare_size : Int32) (hy0_trees_20 : f0_trees 20 = some hspare)  : Met l yX7_placeFor wsX7_placeFor ({ frames := 1, cells := 0, slots := 0, locals := 60 }) (va_Pc [.ref h0, .int 20] (pw (dC, dI) [(k0_trees, .object RX6)] [(h0, .inr (7, [.ref a0_cases, .ref a0_rows, .ref a0_grower, .ref a0_finder, .ref a0_pruner, .ref a0_rules, .ref h0_trees, .ref a0_told, .ref a0_turnedMarks, .ref a0_ballots, .int 0, .int (-1), .int (-1), .int 0])), (h0_trees, .inl (k0_trees, 21, .inr (.inr (.inr (.inr f0_trees))))), (hspare, .inr (6, [.ref aspare_asked, .ref aspare_values, .ref aspare_below, .ref aspare_ways, .ref aspare_above, .ref aspare_shares, .int vspare_size]))] sz)) (va_Qq (fun (r : Option Nat) (u : vu) => (u = ([(h0, .inr (7, [.ref a0_cases, .ref a0_rows, .ref a0_grower, .ref a0_finder, .ref a0_pruner, .ref a0_rules, .ref h0_trees, .ref a0_told, .ref a0_turnedMarks, .ref a0_ballots, .int 0, .int (-1), .int (-1), .int 0])), (h0_trees, .inl (k0_trees, 21, .inr (.inr (.inr (.inr f0_trees))))), (hspare, .inr (6, [.ref aspare_asked, .ref aspare_values, .ref aspare_below, .ref aspare_ways, .ref aspare_above, .ref aspare_shares, .int 0]))], []) ∧ r = some hspare)) (fun u t => qw (dC, dI) u.2 (va_A [(h0, .inr (7, [.ref a0_cases, .ref a0_rows, .ref a0_grower, .ref a0_finder, .ref a0_pruner, .ref a0_rules, .ref h0_trees, .ref a0_told, .ref a0_turnedMarks, .ref a0_ballots, .int 0, .int (-1), .int (-1), .int 0])), (h0_trees, .inl (k0_trees, 21, .inr (.inr (.inr (.inr f0_trees))))), (hspare, .inr (6, [.ref aspare_asked, .ref aspare_values, .ref aspare_below, .ref aspare_ways, .ref aspare_above, .ref aspare_shares, .int vspare_size]))] sz) u.1 t) (va_A [(h0, .inr (7, [.ref a0_cases, .ref a0_rows, .ref a0_grower, .ref a0_finder, .ref a0_pruner, .ref a0_rules, .ref h0_trees, .ref a0_told, .ref a0_turnedMarks, .ref a0_ballots, .int 0, .int (-1), .int (-1), .int 0])), (h0_trees, .inl (k0_trees, 21, .inr (.inr (.inr (.inr f0_trees))))), (hspare, .inr (6, [.ref aspare_asked, .ref aspare_values, .ref aspare_below, .ref aspare_ways, .ref aspare_above, .ref aspare_shares, .int vspare_size]))] sz)) 0 0 (va_A [(h0, .inr (7, [.ref a0_cases, .ref a0_rows, .ref a0_grower, .ref a0_finder, .ref a0_pruner, .ref a0_rules, .ref h0_trees, .ref a0_told, .ref a0_turnedMarks, .ref a0_ballots, .int 0, .int (-1), .int (-1), .int 0])), (h0_trees, .inl (k0_trees, 21, .inr (.inr (.inr (.inr f0_trees))))), (hspare, .inr (6, [.ref aspare_asked, .ref aspare_values, .ref aspare_below, .ref aspare_ways, .ref aspare_above, .ref aspare_shares, .int vspare_size]))] sz) := by
  refine Met.ofW (cc := cX7_placeFor) (maxL := 3) (ret := (some (.object "AskTree$Tree"))) (by decide) rfl ?_
  intro p e s m args below meth c s₁ B hml hv
  obtain ⟨rfl, hsz, hP, hK, hD0, hN⟩ := hv
  have hx := B.exec
  have hb := B.bytes
  have hr := B.returns
  have hts := atoms_spec (ws := wsX7_placeFor) B.pre
  have hown : s.vm.findClass RX7 = some m.cls := findClass_of_methodNamed B.named
  have hlocks := B.notSynchronized
  have hi7 : ∀ w ∈ u_ws RX7 TX7 14, w ∈ wsX7_placeFor := fun _ h => List.mem_cons_of_mem _ (List.mem_append_left _ (List.mem_append_right _ h))
  have hi6 : ∀ w ∈ u_ws RX6 TX6 7, w ∈ wsX7_placeFor := fun _ h => List.mem_cons_of_mem _ (List.mem_append_right _ h)
  subst hsz
  have hD := hD0.self (sz := s.heap.size)
  generalize hAe : va_A [(h0, .inr (7, [.ref a0_cases, .ref a0_rows, .ref a0_grower, .ref a0_finder, .ref a0_pruner, .ref a0_rules, .ref h0_trees, .ref a0_told, .ref a0_turnedMarks, .ref a0_ballots, .int 0, .int (-1), .int (-1), .int 0])), (h0_trees, .inl (k0_trees, 21, .inr (.inr (.inr (.inr f0_trees))))), (hspare, .inr (6, [.ref aspare_asked, .ref aspare_values, .ref aspare_below, .ref aspare_ways, .ref aspare_above, .ref aspare_shares, .int vspare_size]))] s.heap.size = A at hD ⊢
  have hA : ∀ q : Nat, s.heap.size ≤ q → A q := fun q h => by rw [← hAe]; exact Or.inr h
  have hS : va_S A s.heap s.heap [] := va_S.rf
  have hl := lv_entry ([.ref h0, .int 20]) (n := 3) (Nat.le_of_ble_eq_true rfl)
  rw [lg_entry_eq]
  generalize (lg_sl ([.ref h0, .int 20]) ++ List.replicate (3 - (lg_sl ([.ref h0, .int 20])).length) Slot.unset).toArray = ls at hl ⊢
  have hl : lv_has ls 3 [(0, .ref h0), (1, .int 20)] := hl
  have hP : va_P (dC, dI) vwCl [(h0, .inr (7, [.ref a0_cases, .ref a0_rows, .ref a0_grower, .ref a0_finder, .ref a0_pruner, .ref a0_rules, .ref h0_trees, .ref a0_told, .ref a0_turnedMarks, .ref a0_ballots, .int 0, .int (-1), .int (-1), .int 0])), (h0_trees, .inl (k0_trees, 21, .inr (.inr (.inr (.inr f0_trees))))), (hspare, .inr (6, [.ref aspare_asked, .ref aspare_values, .ref aspare_below, .ref aspare_ways, .ref aspare_above, .ref aspare_shares, .int vspare_size]))] s.heap := hP
  refine lv_aload_n hx hb dX7_placeFor_0 rfl (lv_at hl 0 rfl) ?_
  refine va_get (D := (dC, dI)) (ci := 7) (v := .ref h0_trees) (C := RX7) (T := TX7) (N := 14) hx hb hts hi7 hown hK hP 0 rfl rfl 6 (by decide) (hts (.fieldLink RX7 63 "AskTree" "trees" "[LAskTree$Tree;") (by decide +kernel)) (fun _ h9 => h9) rfl dX7_placeFor_1 ?_
  refine lv_iload_n hx hb dX7_placeFor_4 rfl (lv_at hl 1 rfl) ?_
  refine va_aldq hx hb hK hP 1 0 rfl rfl (vi _ _ (by decide)) dX7_placeFor_5 ?_
  refine tvv (v := .ref hspare) (cq f0_trees (k := 20) (v := some hspare) (by decide) hy0_trees_20) ?_
  refine lv_astore_n (lv' := [(2, .ref hspare), (0, .ref h0), (1, .int 20)]) hx hb dX7_placeFor_6 rfl hl (by decide) rfl (fun ls hl => ?_)
  refine lv_aload_n hx hb dX7_placeFor_7 rfl (lv_at hl 0 rfl) ?_
  refine lv_ifnonnull (tgt := 26) hx hb dX7_placeFor_8 (by decide) ?_
  refine lv_aload_n hx hb dX7_placeFor_26 rfl (lv_at hl 0 rfl) ?_
  refine lv_iconst (v := 0) hx hb dX7_placeFor_27 (by decide) ?_
  refine va_put (D := (dC, dI)) (ci := 6) (v := .int 0) (ty := .int) (C := RX6) (T := TX6) (N := 7) hx hb hts hi6 tyX6 tyX6_ok nmX6 hown hK hP hD hS 2 rfl rfl 6 (by decide) (hts (.fieldLink RX7 152 "AskTree$Tree" "size" "I") (by decide +kernel)) (fun _ h9 => h9) rfl (by decide +kernel) rfl rfl (Nat.le_of_ble_eq_true rfl) dX7_placeFor_28 (fun H locs hP hD hS => ?_)
  have hP : va_P (dC, dI) vwCl [(h0, .inr (7, [.ref a0_cases, .ref a0_rows, .ref a0_grower, .ref a0_finder, .ref a0_pruner, .ref a0_rules, .ref h0_trees, .ref a0_told, .ref a0_turnedMarks, .ref a0_ballots, .int 0, .int (-1), .int (-1), .int 0])), (h0_trees, .inl (k0_trees, 21, .inr (.inr (.inr (.inr f0_trees))))), (hspare, .inr (6, [.ref aspare_asked, .ref aspare_values, .ref aspare_below, .ref aspare_ways, .ref aspare_above, .ref aspare_shares, .int 0]))] H := hP
  have hD : va_D A [(h0, .inr (7, [.ref a0_cases, .ref a0_rows, .ref a0_grower, .ref a0_finder, .ref a0_pruner, .ref a0_rules, .ref h0_trees, .ref a0_told, .ref a0_turnedMarks, .ref a0_ballots, .int 0, .int (-1), .int (-1), .int 0])), (h0_trees, .inl (k0_trees, 21, .inr (.inr (.inr (.inr f0_trees))))), (hspare, .inr (6, [.ref aspare_asked, .ref aspare_values, .ref aspare_below, .ref aspare_ways, .ref aspare_above, .ref aspare_shares, .int 0]))] := hD
  refine lv_aload_n hx hb dX7_placeFor_31 rfl (lv_at hl 0 rfl) ?_
  have hP9 := hP.sub (ws' := [(h0, .inr (7, [.ref a0_cases, .ref a0_rows, .ref a0_grower, .ref a0_finder, .ref a0_pruner, .ref a0_rules, .ref h0_trees, .ref a0_told, .ref a0_turnedMarks, .ref a0_ballots, .int 0, .int (-1), .int (-1), .int 0])), (h0_trees, .inl (k0_trees, 21, .inr (.inr (.inr (.inr f0_trees))))), (hspare, .inr (6, [.ref aspare_asked, .ref aspare_values, .ref aspare_below, .ref aspare_ways, .ref aspare_above, .ref aspare_shares, .int 0]))]) [0, 1, 2] rfl
  have hD9 := hD.sub (ws' := [(h0, .inr (7, [.ref a0_cases, .ref a0_rows, .ref a0_grower, .ref a0_finder, .ref a0_pruner, .ref a0_rules, .ref h0_trees, .ref a0_told, .ref a0_turnedMarks, .ref a0_ballots, .int 0, .int (-1), .int (-1), .int 0])), (h0_trees, .inl (k0_trees, 21, .inr (.inr (.inr (.inr f0_trees))))), (hspare, .inr (6, [.ref aspare_asked, .ref aspare_values, .ref aspare_below, .ref aspare_ways, .ref aspare_above, .ref aspare_shares, .int 0]))]) [0, 1, 2] (by decide) rfl
  have hK9 := hK.sub (tys' := []) [] rfl
  exact W.aret hx hb hr (Or.inl ⟨_, rfl⟩) (Or.inr ⟨_, rfl⟩) (fun t ht hW => ⟨⟨some hspare, ([(h0, .inr (7, [.ref a0_cases, .ref a0_rows, .ref a0_grower, .ref a0_finder, .ref a0_pruner, .ref a0_rules, .ref h0_trees, .ref a0_told, .ref a0_turnedMarks, .ref a0_ballots, .int 0, .int (-1), .int (-1), .int 0])), (h0_trees, .inl (k0_trees, 21, .inr (.inr (.inr (.inr f0_trees))))), (hspare, .inr (6, [.ref aspare_asked, .ref aspare_values, .ref aspare_below, .ref aspare_ways, .ref aspare_above, .ref aspare_shares, .int 0]))], []), rfl, ⟨rfl, rfl⟩, (by rw [ht]; exact hP9), va_K.moved hW.alike hK9, hD9⟩, hS.F ht⟩) hS.2.2 dX7_placeFor_32

set_option maxHeartbeats 4000000 in
set_option maxRecDepth 100000 in
theorem c_loadAll (l : Launch) (dC : Nat → ClassId) (dI : Nat → Nat → Nat) (sz : Nat) (h0 : Nat) (h0_cases : Nat) (h0_cases_order : Nat) (h0_row : Nat) (a0_sides : Nat) (a0_kept : Nat) (a0_cases_kinds : Nat) (a0_cases_classes : Nat) (a0_cases_marks : Nat) (k0_cases_order : ClassId) (f0_cases_order : Nat → Int32) (k0_row : ClassId) (f0_row : Nat → Int32)   : Met l yX4_loadAll wsX4_loadAll ({ frames := 1, cells := 0, slots := 0, locals := 60 }) (va_Pc [.ref h0] (pw (dC, dI) [(k0_cases_order, .int), (k0_row, .int)] [(h0, .inr (4, [.ref h0_row, .ref a0_sides, .ref a0_kept, .ref h0_cases, .int 0])), (h0_cases, .inr (0, [.ref a0_cases_kinds, .ref a0_cases_classes, .ref a0_cases_marks, .ref h0_cases_order, .int 0])), (h0_cases_order, .inl (k0_cases_order, 2400, .inl f0_cases_order)), (h0_row, .inl (k0_row, 2400, .inl f0_row))] sz)) (va_Qv (fun (u : vu) => (∃ (f_1 : Nat → Int32), u = ([(h0, .inr (4, [.ref h0_row, .ref a0_sides, .ref a0_kept, .ref h0_cases, .int 0])), (h0_cases, .inr (0, [.ref a0_cases_kinds, .ref a0_cases_classes, .ref a0_cases_marks, .ref h0_cases_order, .int 0])), (h0_cases_order, .inl (k0_cases_order, 2400, .inl f0_cases_order)), (h0_row, .inl (k0_row, 2400, .inl f_1))], []))) (fun u t => qw (dC, dI) u.2 (va_A [(h0, .inr (4, [.ref h0_row, .ref a0_sides, .ref a0_kept, .ref h0_cases, .int 0])), (h0_cases, .inr (0, [.ref a0_cases_kinds, .ref a0_cases_classes, .ref a0_cases_marks, .ref h0_cases_order, .int 0])), (h0_cases_order, .inl (k0_cases_order, 2400, .inl f0_cases_order)), (h0_row, .inl (k0_row, 2400, .inl f0_row))] sz) u.1 t) (va_A [(h0, .inr (4, [.ref h0_row, .ref a0_sides, .ref a0_kept, .ref h0_cases, .int 0])), (h0_cases, .inr (0, [.ref a0_cases_kinds, .ref a0_cases_classes, .ref a0_cases_marks, .ref h0_cases_order, .int 0])), (h0_cases_order, .inl (k0_cases_order, 2400, .inl f0_cases_order)), (h0_row, .inl (k0_row, 2400, .inl f0_row))] sz)) 0 0 (va_A [(h0, .inr (4, [.ref h0_row, .ref a0_sides, .ref a0_kept, .ref h0_cases, .int 0])), (h0_cases, .inr (0, [.ref a0_cases_kinds, .ref a0_cases_classes, .ref a0_cases_marks, .ref h0_cases_order, .int 0])), (h0_cases_order, .inl (k0_cases_order, 2400, .inl f0_cases_order)), (h0_row, .inl (k0_row, 2400, .inl f0_row))] sz) := by
  refine Met.ofW (cc := cX4_loadAll) (maxL := 1) (ret := none) (by decide) rfl ?_
  intro p e s m args below meth c s₁ B hml hv
  obtain ⟨rfl, hsz, hP, hK, hD0, hN⟩ := hv
  have hx := B.exec
  have hb := B.bytes
  have hr := B.returns
  have hts := atoms_spec (ws := wsX4_loadAll) B.pre
  have hown : s.vm.findClass RX4 = some m.cls := findClass_of_methodNamed B.named
  have hlocks := B.notSynchronized
  have hi4 : ∀ w ∈ u_ws RX4 TX4 5, w ∈ wsX4_loadAll := fun _ h => List.mem_cons_of_mem _ (List.mem_append_left _ (List.mem_append_right _ h))
  have hi0 : ∀ w ∈ u_ws RX0 TX0 5, w ∈ wsX4_loadAll := fun _ h => List.mem_cons_of_mem _ (List.mem_append_right _ h)
  subst hsz
  have hD := hD0.self (sz := s.heap.size)
  generalize hAe : va_A [(h0, .inr (4, [.ref h0_row, .ref a0_sides, .ref a0_kept, .ref h0_cases, .int 0])), (h0_cases, .inr (0, [.ref a0_cases_kinds, .ref a0_cases_classes, .ref a0_cases_marks, .ref h0_cases_order, .int 0])), (h0_cases_order, .inl (k0_cases_order, 2400, .inl f0_cases_order)), (h0_row, .inl (k0_row, 2400, .inl f0_row))] s.heap.size = A at hD ⊢
  have hA : ∀ q : Nat, s.heap.size ≤ q → A q := fun q h => by rw [← hAe]; exact Or.inr h
  have hS : va_S A s.heap s.heap [] := va_S.rf
  have hl := lv_entry ([.ref h0]) (n := 1) (Nat.le_of_ble_eq_true rfl)
  rw [lg_entry_eq]
  generalize (lg_sl ([.ref h0]) ++ List.replicate (1 - (lg_sl ([.ref h0])).length) Slot.unset).toArray = ls at hl ⊢
  have hl : lv_has ls 1 [(0, .ref h0)] := hl
  have hP : va_P (dC, dI) vwCl [(h0, .inr (4, [.ref h0_row, .ref a0_sides, .ref a0_kept, .ref h0_cases, .int 0])), (h0_cases, .inr (0, [.ref a0_cases_kinds, .ref a0_cases_classes, .ref a0_cases_marks, .ref h0_cases_order, .int 0])), (h0_cases_order, .inl (k0_cases_order, 2400, .inl f0_cases_order)), (h0_row, .inl (k0_row, 2400, .inl f0_row))] s.heap := hP
  refine lv_aload_n hx hb dX4_loadAll_0 rfl (lv_at hl 0 rfl) ?_
  refine va_get (D := (dC, dI)) (ci := 4) (v := .ref h0_cases) (C := RX4) (T := TX4) (N := 5) hx hb hts hi4 hown hK hP 0 rfl rfl 3 (by decide) (hts (.fieldLink RX4 25 "AskTree$Rows" "cases" "LAskTree$Cases;") (by decide +kernel)) (fun _ h9 => h9) rfl dX4_loadAll_1 ?_
  refine va_get (D := (dC, dI)) (ci := 0) (v := .ref h0_cases_order) (C := RX0) (T := TX0) (N := 5) hx hb hts hi0 hown hK hP 1 rfl rfl 3 (by decide) (hts (.fieldLink RX4 29 "AskTree$Cases" "order" "[I") (by decide +kernel)) (fun _ h9 => h9) rfl dX4_loadAll_4 ?_
  refine lv_iconst (v := 0) hx hb dX4_loadAll_7 (by decide) ?_
  refine lv_aload_n hx hb dX4_loadAll_8 rfl (lv_at hl 0 rfl) ?_
  refine va_get (D := (dC, dI)) (ci := 4) (v := .ref h0_row) (C := RX4) (T := TX4) (N := 5) hx hb hts hi4 hown hK hP 0 rfl rfl 0 (by decide) (hts (.fieldLink RX4 9 "AskTree$Rows" "row" "[I") (by decide +kernel)) (fun _ h9 => h9) rfl dX4_loadAll_9 ?_
  refine lv_iconst (v := 0) hx hb dX4_loadAll_12 (by decide) ?_
  refine lv_aload_n hx hb dX4_loadAll_13 rfl (lv_at hl 0 rfl) ?_
  refine va_get (D := (dC, dI)) (ci := 4) (v := .ref h0_row) (C := RX4) (T := TX4) (N := 5) hx hb hts hi4 hown hK hP 0 rfl rfl 0 (by decide) (hts (.fieldLink RX4 9 "AskTree$Rows" "row" "[I") (by decide +kernel)) (fun _ h9 => h9) rfl dX4_loadAll_14 ?_
  refine va_alen (v := 2400) hx hb hK hP 3 1 rfl rfl (show Int32.ofNat 2400 = 2400 from by decide +kernel) dX4_loadAll_17 ?_
  refine va_copyi (ty := .int) hx hb (by rw [hml]; exact hl.1.symm) hown (hts (.methodLink RX4 34 arraycopyName) (by decide +kernel)) (hts (.native arraycopyName) (by decide +kernel)) (hts (.static arraycopyName) (by decide +kernel)) (hts (.initialized "java/lang/System") (by decide +kernel)) hK hP hD hS 2 3 0 1 rfl rfl rfl rfl rfl (by decide) (by decide) (by decide) (by decide) (by decide) (fun _ _ => rfl) (Nat.le_of_ble_eq_true rfl) (Nat.le_of_ble_eq_true rfl) dX4_loadAll_18 (fun H locs hP hD hS => ?_)
  have hP : va_P (dC, dI) vwCl [(h0, .inr (4, [.ref h0_row, .ref a0_sides, .ref a0_kept, .ref h0_cases, .int 0])), (h0_cases, .inr (0, [.ref a0_cases_kinds, .ref a0_cases_classes, .ref a0_cases_marks, .ref h0_cases_order, .int 0])), (h0_cases_order, .inl (k0_cases_order, 2400, .inl f0_cases_order)), (h0_row, .inl (k0_row, 2400, .inl (va_cpy f0_cases_order f0_row (Int32.toNatClampNeg 0) (Int32.toNatClampNeg 0) (Int32.toNatClampNeg 2400))))] H := hP
  have hD : va_D A [(h0, .inr (4, [.ref h0_row, .ref a0_sides, .ref a0_kept, .ref h0_cases, .int 0])), (h0_cases, .inr (0, [.ref a0_cases_kinds, .ref a0_cases_classes, .ref a0_cases_marks, .ref h0_cases_order, .int 0])), (h0_cases_order, .inl (k0_cases_order, 2400, .inl f0_cases_order)), (h0_row, .inl (k0_row, 2400, .inl (va_cpy f0_cases_order f0_row (Int32.toNatClampNeg 0) (Int32.toNatClampNeg 0) (Int32.toNatClampNeg 2400))))] := hD
  generalize va_cpy f0_cases_order f0_row (Int32.toNatClampNeg 0) (Int32.toNatClampNeg 0) (Int32.toNatClampNeg 2400) = f_1 at hP hD
  refine lv_aload_n hx hb dX4_loadAll_21 rfl (lv_at hl 0 rfl) ?_
  refine lv_aload_n hx hb dX4_loadAll_22 rfl (lv_at hl 0 rfl) ?_
  refine va_get (D := (dC, dI)) (ci := 4) (v := .ref h0_cases) (C := RX4) (T := TX4) (N := 5) hx hb hts hi4 hown hK hP 0 rfl rfl 3 (by decide) (hts (.fieldLink RX4 25 "AskTree$Rows" "cases" "LAskTree$Cases;") (by decide +kernel)) (fun _ h9 => h9) rfl dX4_loadAll_23 ?_
  refine va_get (D := (dC, dI)) (ci := 0) (v := .int 0) (C := RX0) (T := TX0) (N := 5) hx hb hts hi0 hown hK hP 1 rfl rfl 4 (by decide) (hts (.fieldLink RX4 40 "AskTree$Cases" "size" "I") (by decide +kernel)) (fun _ h9 => h9) rfl dX4_loadAll_26 ?_
  refine va_put (D := (dC, dI)) (ci := 4) (v := .int 0) (ty := .int) (C := RX4) (T := TX4) (N := 5) hx hb hts hi4 tyX4 tyX4_ok nmX4 hown hK hP hD hS 0 rfl rfl 4 (by decide) (hts (.fieldLink RX4 21 "AskTree$Rows" "size" "I") (by decide +kernel)) (fun _ h9 => h9) rfl (by decide +kernel) rfl rfl (Nat.le_of_ble_eq_true rfl) dX4_loadAll_29 (fun H locs hP hD hS => ?_)
  have hP : va_P (dC, dI) vwCl [(h0, .inr (4, [.ref h0_row, .ref a0_sides, .ref a0_kept, .ref h0_cases, .int 0])), (h0_cases, .inr (0, [.ref a0_cases_kinds, .ref a0_cases_classes, .ref a0_cases_marks, .ref h0_cases_order, .int 0])), (h0_cases_order, .inl (k0_cases_order, 2400, .inl f0_cases_order)), (h0_row, .inl (k0_row, 2400, .inl f_1))] H := hP
  have hD : va_D A [(h0, .inr (4, [.ref h0_row, .ref a0_sides, .ref a0_kept, .ref h0_cases, .int 0])), (h0_cases, .inr (0, [.ref a0_cases_kinds, .ref a0_cases_classes, .ref a0_cases_marks, .ref h0_cases_order, .int 0])), (h0_cases_order, .inl (k0_cases_order, 2400, .inl f0_cases_order)), (h0_row, .inl (k0_row, 2400, .inl f_1))] := hD
  have hP9 := hP.sub (ws' := [(h0, .inr (4, [.ref h0_row, .ref a0_sides, .ref a0_kept, .ref h0_cases, .int 0])), (h0_cases, .inr (0, [.ref a0_cases_kinds, .ref a0_cases_classes, .ref a0_cases_marks, .ref h0_cases_order, .int 0])), (h0_cases_order, .inl (k0_cases_order, 2400, .inl f0_cases_order)), (h0_row, .inl (k0_row, 2400, .inl f_1))]) [0, 1, 2, 3] rfl
  have hD9 := hD.sub (ws' := [(h0, .inr (4, [.ref h0_row, .ref a0_sides, .ref a0_kept, .ref h0_cases, .int 0])), (h0_cases, .inr (0, [.ref a0_cases_kinds, .ref a0_cases_classes, .ref a0_cases_marks, .ref h0_cases_order, .int 0])), (h0_cases_order, .inl (k0_cases_order, 2400, .inl f0_cases_order)), (h0_row, .inl (k0_row, 2400, .inl f_1))]) [0, 1, 2, 3] (by decide) rfl
  have hK9 := hK.sub (tys' := []) [] rfl
  exact W.vret hx hb hr (fun t ht hW => ⟨⟨([(h0, .inr (4, [.ref h0_row, .ref a0_sides, .ref a0_kept, .ref h0_cases, .int 0])), (h0_cases, .inr (0, [.ref a0_cases_kinds, .ref a0_cases_classes, .ref a0_cases_marks, .ref h0_cases_order, .int 0])), (h0_cases_order, .inl (k0_cases_order, 2400, .inl f0_cases_order)), (h0_row, .inl (k0_row, 2400, .inl f_1))], []), rfl, ⟨f_1, rfl⟩, (by rw [ht]; exact hP9), va_K.moved hW.alike hK9, hD9⟩, hS.F ht⟩) hS.2.2 dX4_loadAll_32

theorem lf_loadWithout_1 (p2 : Int32) (e0 : ¬ p2 ≤ 0) (e1 : p2 ≤ 0) : False := by
  (try simp only [Int32.lt_iff_toInt_lt, Int32.le_iff_toInt_le, ← Int32.toInt_inj, ln_0, ln_1, ln_2, ln_3, ln_4, ln_6, ln_8, ln_10, ln_50, ln_100, ln_300, ln_1000, ln_m1000, ln_m32768, ln_m1, ln_m2, ln_m40000, ln_20] at *)
  all_goals omega
theorem lf_loadWithout_2 (p2 : Int32) (e0 : ¬ p2 ≤ 0) (e1 : p2 ≤ 0) : False := by
  (try simp only [Int32.lt_iff_toInt_lt, Int32.le_iff_toInt_le, ← Int32.toInt_inj, ln_0, ln_1, ln_2, ln_3, ln_4, ln_6, ln_8, ln_10, ln_50, ln_100, ln_300, ln_1000, ln_m1000, ln_m32768, ln_m1, ln_m2, ln_m40000, ln_20] at *)
  all_goals omega
theorem lf_loadWithout_3 (p2 : Int32) (e0 : ¬ p2 ≤ 0) (e1 : p2 ≤ 0) : False := by
  (try simp only [Int32.lt_iff_toInt_lt, Int32.le_iff_toInt_le, ← Int32.toInt_inj, ln_0, ln_1, ln_2, ln_3, ln_4, ln_6, ln_8, ln_10, ln_50, ln_100, ln_300, ln_1000, ln_m1000, ln_m32768, ln_m1, ln_m2, ln_m40000, ln_20] at *)
  all_goals omega
theorem lf_loadWithout_4 (p2 : Int32) (e0 : ¬ p2 ≤ 0) (e1 : p2 ≤ 0) : False := by
  (try simp only [Int32.lt_iff_toInt_lt, Int32.le_iff_toInt_le, ← Int32.toInt_inj, ln_0, ln_1, ln_2, ln_3, ln_4, ln_6, ln_8, ln_10, ln_50, ln_100, ln_300, ln_1000, ln_m1000, ln_m32768, ln_m1, ln_m2, ln_m40000, ln_20] at *)
  all_goals omega
theorem lf_loadWithout_5 (p2 : Int32) (e0 : ¬ p2 ≤ 0) (e1 : p2 ≤ 0) : False := by
  (try simp only [Int32.lt_iff_toInt_lt, Int32.le_iff_toInt_le, ← Int32.toInt_inj, ln_0, ln_1, ln_2, ln_3, ln_4, ln_6, ln_8, ln_10, ln_50, ln_100, ln_300, ln_1000, ln_m1000, ln_m32768, ln_m1, ln_m2, ln_m40000, ln_20] at *)
  all_goals omega
theorem lf_loadWithout_6 (p2 : Int32) (e0 : ¬ p2 ≤ 0) (e1 : p2 ≤ 0) : False := by
  (try simp only [Int32.lt_iff_toInt_lt, Int32.le_iff_toInt_le, ← Int32.toInt_inj, ln_0, ln_1, ln_2, ln_3, ln_4, ln_6, ln_8, ln_10, ln_50, ln_100, ln_300, ln_1000, ln_m1000, ln_m32768, ln_m1, ln_m2, ln_m40000, ln_20] at *)
  all_goals omega
theorem lf_loadWithout_7 (p2 : Int32) (e0 : ¬ p2 ≤ 0) (e1 : p2 ≤ 0) : False := by
  (try simp only [Int32.lt_iff_toInt_lt, Int32.le_iff_toInt_le, ← Int32.toInt_inj, ln_0, ln_1, ln_2, ln_3, ln_4, ln_6, ln_8, ln_10, ln_50, ln_100, ln_300, ln_1000, ln_m1000, ln_m32768, ln_m1, ln_m2, ln_m40000, ln_20] at *)
  all_goals omega
set_option maxHeartbeats 4000000 in
set_option maxRecDepth 100000 in
theorem c_loadWithout (l : Launch) (dC : Nat → ClassId) (dI : Nat → Nat → Nat) (sz : Nat) (h0 : Nat) (p1 : Int32) (p2 : Int32) (h0_cases : Nat) (a0_row : Nat) (a0_sides : Nat) (a0_kept : Nat) (a0_cases_kinds : Nat) (a0_cases_classes : Nat) (a0_cases_marks : Nat) (a0_cases_order : Nat)   : Met l yX4_loadWithout wsX4_loadWithout ({ frames := 1, cells := 0, slots := 0, locals := 60 }) (va_Pc [.ref h0, .int p1, .int p2] (pw (dC, dI) [] [(h0, .inr (4, [.ref a0_row, .ref a0_sides, .ref a0_kept, .ref h0_cases, .int 0])), (h0_cases, .inr (0, [.ref a0_cases_kinds, .ref a0_cases_classes, .ref a0_cases_marks, .ref a0_cases_order, .int 0]))] sz)) (va_Qv (fun (u : vu) => (u = ([(h0, .inr (4, [.ref a0_row, .ref a0_sides, .ref a0_kept, .ref h0_cases, .int 0])), (h0_cases, .inr (0, [.ref a0_cases_kinds, .ref a0_cases_classes, .ref a0_cases_marks, .ref a0_cases_order, .int 0]))], []))) (fun u t => qw (dC, dI) u.2 (va_A [(h0, .inr (4, [.ref a0_row, .ref a0_sides, .ref a0_kept, .ref h0_cases, .int 0])), (h0_cases, .inr (0, [.ref a0_cases_kinds, .ref a0_cases_classes, .ref a0_cases_marks, .ref a0_cases_order, .int 0]))] sz) u.1 t) (va_A [(h0, .inr (4, [.ref a0_row, .ref a0_sides, .ref a0_kept, .ref h0_cases, .int 0])), (h0_cases, .inr (0, [.ref a0_cases_kinds, .ref a0_cases_classes, .ref a0_cases_marks, .ref a0_cases_order, .int 0]))] sz)) 0 0 (va_A [(h0, .inr (4, [.ref a0_row, .ref a0_sides, .ref a0_kept, .ref h0_cases, .int 0])), (h0_cases, .inr (0, [.ref a0_cases_kinds, .ref a0_cases_classes, .ref a0_cases_marks, .ref a0_cases_order, .int 0]))] sz) := by
  refine Met.ofW (cc := cX4_loadWithout) (maxL := 7) (ret := none) (by decide) rfl ?_
  intro p e s m args below meth c s₁ B hml hv
  obtain ⟨rfl, hsz, hP, hK, hD0, hN⟩ := hv
  have hx := B.exec
  have hb := B.bytes
  have hr := B.returns
  have hts := atoms_spec (ws := wsX4_loadWithout) B.pre
  have hown : s.vm.findClass RX4 = some m.cls := findClass_of_methodNamed B.named
  have hlocks := B.notSynchronized
  have hi4 : ∀ w ∈ u_ws RX4 TX4 5, w ∈ wsX4_loadWithout := fun _ h => List.mem_cons_of_mem _ (List.mem_append_left _ (List.mem_append_right _ h))
  have hi0 : ∀ w ∈ u_ws RX0 TX0 5, w ∈ wsX4_loadWithout := fun _ h => List.mem_cons_of_mem _ (List.mem_append_right _ h)
  subst hsz
  have hD := hD0.self (sz := s.heap.size)
  generalize hAe : va_A [(h0, .inr (4, [.ref a0_row, .ref a0_sides, .ref a0_kept, .ref h0_cases, .int 0])), (h0_cases, .inr (0, [.ref a0_cases_kinds, .ref a0_cases_classes, .ref a0_cases_marks, .ref a0_cases_order, .int 0]))] s.heap.size = A at hD ⊢
  have hA : ∀ q : Nat, s.heap.size ≤ q → A q := fun q h => by rw [← hAe]; exact Or.inr h
  have hS : va_S A s.heap s.heap [] := va_S.rf
  have hl := lv_entry ([.ref h0, .int p1, .int p2]) (n := 7) (Nat.le_of_ble_eq_true rfl)
  rw [lg_entry_eq]
  generalize (lg_sl ([.ref h0, .int p1, .int p2]) ++ List.replicate (7 - (lg_sl ([.ref h0, .int p1, .int p2])).length) Slot.unset).toArray = ls at hl ⊢
  have hl : lv_has ls 7 [(0, .ref h0), (1, .int p1), (2, .int p2)] := hl
  have hP : va_P (dC, dI) vwCl [(h0, .inr (4, [.ref a0_row, .ref a0_sides, .ref a0_kept, .ref h0_cases, .int 0])), (h0_cases, .inr (0, [.ref a0_cases_kinds, .ref a0_cases_classes, .ref a0_cases_marks, .ref a0_cases_order, .int 0]))] s.heap := hP
  refine lv_aload_n hx hb dX4_loadWithout_0 rfl (lv_at hl 0 rfl) ?_
  refine lv_iconst (v := 0) hx hb dX4_loadWithout_1 (by decide) ?_
  refine va_put (D := (dC, dI)) (ci := 4) (v := .int 0) (ty := .int) (C := RX4) (T := TX4) (N := 5) hx hb hts hi4 tyX4 tyX4_ok nmX4 hown hK hP hD hS 0 rfl rfl 4 (by decide) (hts (.fieldLink RX4 21 "AskTree$Rows" "size" "I") (by decide +kernel)) (fun _ h9 => h9) rfl (by decide +kernel) rfl rfl (Nat.le_of_ble_eq_true rfl) dX4_loadWithout_2 (fun H locs hP hD hS => ?_)
  have hP : va_P (dC, dI) vwCl [(h0, .inr (4, [.ref a0_row, .ref a0_sides, .ref a0_kept, .ref h0_cases, .int 0])), (h0_cases, .inr (0, [.ref a0_cases_kinds, .ref a0_cases_classes, .ref a0_cases_marks, .ref a0_cases_order, .int 0]))] H := hP
  have hD : va_D A [(h0, .inr (4, [.ref a0_row, .ref a0_sides, .ref a0_kept, .ref h0_cases, .int 0])), (h0_cases, .inr (0, [.ref a0_cases_kinds, .ref a0_cases_classes, .ref a0_cases_marks, .ref a0_cases_order, .int 0]))] := hD
  refine lv_iconst (v := 0) hx hb dX4_loadWithout_5 (by decide) ?_
  refine lv_istore_n (lv' := [(3, .int 0), (0, .ref h0), (1, .int p1), (2, .int p2)]) hx hb dX4_loadWithout_6 rfl hl (by decide) rfl (fun ls hl => ?_)
  refine lv_iload_n hx hb dX4_loadWithout_7 rfl (lv_at hl 0 rfl) ?_
  refine lv_bipush (v := 8) hx hb dX4_loadWithout_8 (by decide) ?_
  refine lv_icmp_ge (tgt := 104) hx hb dX4_loadWithout_10 (by decide) (fun c_1 => ?_) (fun c_1 => ?_)
  · exact absurd c_1 (by decide)
  refine lv_iload_n hx hb dX4_loadWithout_13 rfl (lv_at hl 3 rfl) ?_
  refine lv_if_le (tgt := 104) hx hb dX4_loadWithout_14 (by decide) (fun c_2 => ?_) (fun c_2 => ?_)
  · skip
    have hP9 := hP.sub (ws' := [(h0, .inr (4, [.ref a0_row, .ref a0_sides, .ref a0_kept, .ref h0_cases, .int 0])), (h0_cases, .inr (0, [.ref a0_cases_kinds, .ref a0_cases_classes, .ref a0_cases_marks, .ref a0_cases_order, .int 0]))]) [0, 1] rfl
    have hD9 := hD.sub (ws' := [(h0, .inr (4, [.ref a0_row, .ref a0_sides, .ref a0_kept, .ref h0_cases, .int 0])), (h0_cases, .inr (0, [.ref a0_cases_kinds, .ref a0_cases_classes, .ref a0_cases_marks, .ref a0_cases_order, .int 0]))]) [0, 1] (by decide) rfl
    have hK9 := hK.sub (tys' := []) [] rfl
    exact W.vret hx hb hr (fun t ht hW => ⟨⟨([(h0, .inr (4, [.ref a0_row, .ref a0_sides, .ref a0_kept, .ref h0_cases, .int 0])), (h0_cases, .inr (0, [.ref a0_cases_kinds, .ref a0_cases_classes, .ref a0_cases_marks, .ref a0_cases_order, .int 0]))], []), rfl, rfl, (by rw [ht]; exact hP9), va_K.moved hW.alike hK9, hD9⟩, hS.F ht⟩) hS.2.2 dX4_loadWithout_104
  · skip
    refine lv_iload_n hx hb dX4_loadWithout_17 rfl (lv_at hl 0 rfl) ?_
    refine lv_sipush (v := 300) hx hb dX4_loadWithout_18 (by decide) ?_
    refine lv_imul hx hb dX4_loadWithout_21 ?_
    refine tvv (v := .int 0) (congrArg Value.int (by decide)) ?_
    refine lv_istore (lv' := [(4, .int 0), (3, .int 0), (0, .ref h0), (1, .int p1), (2, .int p2)]) hx hb dX4_loadWithout_22 hl (by decide) rfl (fun ls hl => ?_)
    refine lv_iload hx hb dX4_loadWithout_24 (lv_at hl 0 rfl) ?_
    refine lv_istore (lv' := [(5, .int 0), (4, .int 0), (3, .int 0), (0, .ref h0), (1, .int p1), (2, .int p2)]) hx hb dX4_loadWithout_26 hl (by decide) rfl (fun ls hl => ?_)
    refine lv_iload hx hb dX4_loadWithout_28 (lv_at hl 1 rfl) ?_
    refine lv_istore (lv' := [(6, .int 0), (5, .int 0), (4, .int 0), (3, .int 0), (0, .ref h0), (1, .int p1), (2, .int p2)]) hx hb dX4_loadWithout_30 hl (by decide) rfl (fun ls hl => ?_)
    refine lv_iload hx hb dX4_loadWithout_32 (lv_at hl 0 rfl) ?_
    refine lv_iload hx hb dX4_loadWithout_34 (lv_at hl 2 rfl) ?_
    refine lv_aload_n hx hb dX4_loadWithout_36 rfl (lv_at hl 4 rfl) ?_
    refine va_get (D := (dC, dI)) (ci := 4) (v := .ref h0_cases) (C := RX4) (T := TX4) (N := 5) hx hb hts hi4 hown hK hP 0 rfl rfl 3 (by decide) (hts (.fieldLink RX4 25 "AskTree$Rows" "cases" "LAskTree$Cases;") (by decide +kernel)) (fun _ h9 => h9) rfl dX4_loadWithout_37 ?_
    refine va_get (D := (dC, dI)) (ci := 0) (v := .int 0) (C := RX0) (T := TX0) (N := 5) hx hb hts hi0 hown hK hP 1 rfl rfl 4 (by decide) (hts (.fieldLink RX4 40 "AskTree$Cases" "size" "I") (by decide +kernel)) (fun _ h9 => h9) rfl dX4_loadWithout_40 ?_
    refine lv_iadd hx hb dX4_loadWithout_43 ?_
    refine tvv (v := .int 0) (congrArg Value.int (by decide)) ?_
    refine lv_icmp_ge (tgt := 89) hx hb dX4_loadWithout_44 (by decide) (fun c_3 => ?_) (fun c_3 => ?_)
    rotate_left
    · exact absurd c_3 (by decide)
    refine lv_aload_n hx hb dX4_loadWithout_89 rfl (lv_at hl 4 rfl) ?_
    refine lv_iload hx hb dX4_loadWithout_90 (lv_at hl 1 rfl) ?_
    refine lv_iload hx hb dX4_loadWithout_92 (lv_at hl 2 rfl) ?_
    refine lv_isub hx hb dX4_loadWithout_94 ?_
    refine tvv (v := .int 0) (congrArg Value.int (by decide)) ?_
    refine va_put (D := (dC, dI)) (ci := 4) (v := .int 0) (ty := .int) (C := RX4) (T := TX4) (N := 5) hx hb hts hi4 tyX4 tyX4_ok nmX4 hown hK hP hD hS 0 rfl rfl 4 (by decide) (hts (.fieldLink RX4 21 "AskTree$Rows" "size" "I") (by decide +kernel)) (fun _ h9 => h9) rfl (by decide +kernel) rfl rfl (Nat.le_of_ble_eq_true rfl) dX4_loadWithout_95 (fun H locs hP hD hS => ?_)
    have hP : va_P (dC, dI) vwCl [(h0, .inr (4, [.ref a0_row, .ref a0_sides, .ref a0_kept, .ref h0_cases, .int 0])), (h0_cases, .inr (0, [.ref a0_cases_kinds, .ref a0_cases_classes, .ref a0_cases_marks, .ref a0_cases_order, .int 0]))] H := hP
    have hD : va_D A [(h0, .inr (4, [.ref a0_row, .ref a0_sides, .ref a0_kept, .ref h0_cases, .int 0])), (h0_cases, .inr (0, [.ref a0_cases_kinds, .ref a0_cases_classes, .ref a0_cases_marks, .ref a0_cases_order, .int 0]))] := hD
    refine lv_iinc (v := 1) (lv' := [(3, .int 1), (6, .int 0), (5, .int 0), (4, .int 0), (0, .ref h0), (1, .int p1), (2, .int p2)]) hx hb dX4_loadWithout_98 hl (k := 3) rfl (by decide) (by decide) rfl (fun ls hl => ?_)
    refine lv_goto (tgt := 7) hx hb dX4_loadWithout_101 (by decide) ?_
    refine lv_iload_n hx hb dX4_loadWithout_7 rfl (lv_at hl 0 rfl) ?_
    refine lv_bipush (v := 8) hx hb dX4_loadWithout_8 (by decide) ?_
    refine lv_icmp_ge (tgt := 104) hx hb dX4_loadWithout_10 (by decide) (fun c_4 => ?_) (fun c_4 => ?_)
    · exact absurd c_4 (by decide)
    refine lv_iload_n hx hb dX4_loadWithout_13 rfl (lv_at hl 6 rfl) ?_
    refine lv_if_le (tgt := 104) hx hb dX4_loadWithout_14 (by decide) (fun c_5 => ?_) (fun c_5 => ?_)
    · exact False.elim (lf_loadWithout_1 p2 c_2 c_5)
    refine lv_iload_n hx hb dX4_loadWithout_17 rfl (lv_at hl 0 rfl) ?_
    refine lv_sipush (v := 300) hx hb dX4_loadWithout_18 (by decide) ?_
    refine lv_imul hx hb dX4_loadWithout_21 ?_
    refine tvv (v := .int 300) (congrArg Value.int (by decide)) ?_
    refine lv_istore (lv' := [(4, .int 300), (3, .int 1), (6, .int 0), (5, .int 0), (0, .ref h0), (1, .int p1), (2, .int p2)]) hx hb dX4_loadWithout_22 hl (by decide) rfl (fun ls hl => ?_)
    refine lv_iload hx hb dX4_loadWithout_24 (lv_at hl 0 rfl) ?_
    refine lv_istore (lv' := [(5, .int 300), (4, .int 300), (3, .int 1), (6, .int 0), (0, .ref h0), (1, .int p1), (2, .int p2)]) hx hb dX4_loadWithout_26 hl (by decide) rfl (fun ls hl => ?_)
    refine lv_iload hx hb dX4_loadWithout_28 (lv_at hl 1 rfl) ?_
    refine lv_istore (lv' := [(6, .int 300), (5, .int 300), (4, .int 300), (3, .int 1), (0, .ref h0), (1, .int p1), (2, .int p2)]) hx hb dX4_loadWithout_30 hl (by decide) rfl (fun ls hl => ?_)
    refine lv_iload hx hb dX4_loadWithout_32 (lv_at hl 0 rfl) ?_
    refine lv_iload hx hb dX4_loadWithout_34 (lv_at hl 2 rfl) ?_
    refine lv_aload_n hx hb dX4_loadWithout_36 rfl (lv_at hl 4 rfl) ?_
    refine va_get (D := (dC, dI)) (ci := 4) (v := .ref h0_cases) (C := RX4) (T := TX4) (N := 5) hx hb hts hi4 hown hK hP 0 rfl rfl 3 (by decide) (hts (.fieldLink RX4 25 "AskTree$Rows" "cases" "LAskTree$Cases;") (by decide +kernel)) (fun _ h9 => h9) rfl dX4_loadWithout_37 ?_
    refine va_get (D := (dC, dI)) (ci := 0) (v := .int 0) (C := RX0) (T := TX0) (N := 5) hx hb hts hi0 hown hK hP 1 rfl rfl 4 (by decide) (hts (.fieldLink RX4 40 "AskTree$Cases" "size" "I") (by decide +kernel)) (fun _ h9 => h9) rfl dX4_loadWithout_40 ?_
    refine lv_iadd hx hb dX4_loadWithout_43 ?_
    refine tvv (v := .int 300) (congrArg Value.int (by decide)) ?_
    refine lv_icmp_ge (tgt := 89) hx hb dX4_loadWithout_44 (by decide) (fun c_6 => ?_) (fun c_6 => ?_)
    rotate_left
    · exact absurd c_6 (by decide)
    refine lv_aload_n hx hb dX4_loadWithout_89 rfl (lv_at hl 4 rfl) ?_
    refine lv_iload hx hb dX4_loadWithout_90 (lv_at hl 1 rfl) ?_
    refine lv_iload hx hb dX4_loadWithout_92 (lv_at hl 2 rfl) ?_
    refine lv_isub hx hb dX4_loadWithout_94 ?_
    refine tvv (v := .int 0) (congrArg Value.int (by decide)) ?_
    refine va_put (D := (dC, dI)) (ci := 4) (v := .int 0) (ty := .int) (C := RX4) (T := TX4) (N := 5) hx hb hts hi4 tyX4 tyX4_ok nmX4 hown hK hP hD hS 0 rfl rfl 4 (by decide) (hts (.fieldLink RX4 21 "AskTree$Rows" "size" "I") (by decide +kernel)) (fun _ h9 => h9) rfl (by decide +kernel) rfl rfl (Nat.le_of_ble_eq_true rfl) dX4_loadWithout_95 (fun H locs hP hD hS => ?_)
    have hP : va_P (dC, dI) vwCl [(h0, .inr (4, [.ref a0_row, .ref a0_sides, .ref a0_kept, .ref h0_cases, .int 0])), (h0_cases, .inr (0, [.ref a0_cases_kinds, .ref a0_cases_classes, .ref a0_cases_marks, .ref a0_cases_order, .int 0]))] H := hP
    have hD : va_D A [(h0, .inr (4, [.ref a0_row, .ref a0_sides, .ref a0_kept, .ref h0_cases, .int 0])), (h0_cases, .inr (0, [.ref a0_cases_kinds, .ref a0_cases_classes, .ref a0_cases_marks, .ref a0_cases_order, .int 0]))] := hD
    refine lv_iinc (v := 2) (lv' := [(3, .int 2), (6, .int 300), (5, .int 300), (4, .int 300), (0, .ref h0), (1, .int p1), (2, .int p2)]) hx hb dX4_loadWithout_98 hl (k := 3) rfl (by decide) (by decide) rfl (fun ls hl => ?_)
    refine lv_goto (tgt := 7) hx hb dX4_loadWithout_101 (by decide) ?_
    refine lv_iload_n hx hb dX4_loadWithout_7 rfl (lv_at hl 0 rfl) ?_
    refine lv_bipush (v := 8) hx hb dX4_loadWithout_8 (by decide) ?_
    refine lv_icmp_ge (tgt := 104) hx hb dX4_loadWithout_10 (by decide) (fun c_7 => ?_) (fun c_7 => ?_)
    · exact absurd c_7 (by decide)
    refine lv_iload_n hx hb dX4_loadWithout_13 rfl (lv_at hl 6 rfl) ?_
    refine lv_if_le (tgt := 104) hx hb dX4_loadWithout_14 (by decide) (fun c_8 => ?_) (fun c_8 => ?_)
    · exact False.elim (lf_loadWithout_2 p2 c_2 c_8)
    refine lv_iload_n hx hb dX4_loadWithout_17 rfl (lv_at hl 0 rfl) ?_
    refine lv_sipush (v := 300) hx hb dX4_loadWithout_18 (by decide) ?_
    refine lv_imul hx hb dX4_loadWithout_21 ?_
    refine tvv (v := .int 600) (congrArg Value.int (by decide)) ?_
    refine lv_istore (lv' := [(4, .int 600), (3, .int 2), (6, .int 300), (5, .int 300), (0, .ref h0), (1, .int p1), (2, .int p2)]) hx hb dX4_loadWithout_22 hl (by decide) rfl (fun ls hl => ?_)
    refine lv_iload hx hb dX4_loadWithout_24 (lv_at hl 0 rfl) ?_
    refine lv_istore (lv' := [(5, .int 600), (4, .int 600), (3, .int 2), (6, .int 300), (0, .ref h0), (1, .int p1), (2, .int p2)]) hx hb dX4_loadWithout_26 hl (by decide) rfl (fun ls hl => ?_)
    refine lv_iload hx hb dX4_loadWithout_28 (lv_at hl 1 rfl) ?_
    refine lv_istore (lv' := [(6, .int 600), (5, .int 600), (4, .int 600), (3, .int 2), (0, .ref h0), (1, .int p1), (2, .int p2)]) hx hb dX4_loadWithout_30 hl (by decide) rfl (fun ls hl => ?_)
    refine lv_iload hx hb dX4_loadWithout_32 (lv_at hl 0 rfl) ?_
    refine lv_iload hx hb dX4_loadWithout_34 (lv_at hl 2 rfl) ?_
    refine lv_aload_n hx hb dX4_loadWithout_36 rfl (lv_at hl 4 rfl) ?_
    refine va_get (D := (dC, dI)) (ci := 4) (v := .ref h0_cases) (C := RX4) (T := TX4) (N := 5) hx hb hts hi4 hown hK hP 0 rfl rfl 3 (by decide) (hts (.fieldLink RX4 25 "AskTree$Rows" "cases" "LAskTree$Cases;") (by decide +kernel)) (fun _ h9 => h9) rfl dX4_loadWithout_37 ?_
    refine va_get (D := (dC, dI)) (ci := 0) (v := .int 0) (C := RX0) (T := TX0) (N := 5) hx hb hts hi0 hown hK hP 1 rfl rfl 4 (by decide) (hts (.fieldLink RX4 40 "AskTree$Cases" "size" "I") (by decide +kernel)) (fun _ h9 => h9) rfl dX4_loadWithout_40 ?_
    refine lv_iadd hx hb dX4_loadWithout_43 ?_
    refine tvv (v := .int 600) (congrArg Value.int (by decide)) ?_
    refine lv_icmp_ge (tgt := 89) hx hb dX4_loadWithout_44 (by decide) (fun c_9 => ?_) (fun c_9 => ?_)
    rotate_left
    · exact absurd c_9 (by decide)
    refine lv_aload_n hx hb dX4_loadWithout_89 rfl (lv_at hl 4 rfl) ?_
    refine lv_iload hx hb dX4_loadWithout_90 (lv_at hl 1 rfl) ?_
    refine lv_iload hx hb dX4_loadWithout_92 (lv_at hl 2 rfl) ?_
    refine lv_isub hx hb dX4_loadWithout_94 ?_
    refine tvv (v := .int 0) (congrArg Value.int (by decide)) ?_
    refine va_put (D := (dC, dI)) (ci := 4) (v := .int 0) (ty := .int) (C := RX4) (T := TX4) (N := 5) hx hb hts hi4 tyX4 tyX4_ok nmX4 hown hK hP hD hS 0 rfl rfl 4 (by decide) (hts (.fieldLink RX4 21 "AskTree$Rows" "size" "I") (by decide +kernel)) (fun _ h9 => h9) rfl (by decide +kernel) rfl rfl (Nat.le_of_ble_eq_true rfl) dX4_loadWithout_95 (fun H locs hP hD hS => ?_)
    have hP : va_P (dC, dI) vwCl [(h0, .inr (4, [.ref a0_row, .ref a0_sides, .ref a0_kept, .ref h0_cases, .int 0])), (h0_cases, .inr (0, [.ref a0_cases_kinds, .ref a0_cases_classes, .ref a0_cases_marks, .ref a0_cases_order, .int 0]))] H := hP
    have hD : va_D A [(h0, .inr (4, [.ref a0_row, .ref a0_sides, .ref a0_kept, .ref h0_cases, .int 0])), (h0_cases, .inr (0, [.ref a0_cases_kinds, .ref a0_cases_classes, .ref a0_cases_marks, .ref a0_cases_order, .int 0]))] := hD
    refine lv_iinc (v := 3) (lv' := [(3, .int 3), (6, .int 600), (5, .int 600), (4, .int 600), (0, .ref h0), (1, .int p1), (2, .int p2)]) hx hb dX4_loadWithout_98 hl (k := 3) rfl (by decide) (by decide) rfl (fun ls hl => ?_)
    refine lv_goto (tgt := 7) hx hb dX4_loadWithout_101 (by decide) ?_
    refine lv_iload_n hx hb dX4_loadWithout_7 rfl (lv_at hl 0 rfl) ?_
    refine lv_bipush (v := 8) hx hb dX4_loadWithout_8 (by decide) ?_
    refine lv_icmp_ge (tgt := 104) hx hb dX4_loadWithout_10 (by decide) (fun c_10 => ?_) (fun c_10 => ?_)
    · exact absurd c_10 (by decide)
    refine lv_iload_n hx hb dX4_loadWithout_13 rfl (lv_at hl 6 rfl) ?_
    refine lv_if_le (tgt := 104) hx hb dX4_loadWithout_14 (by decide) (fun c_11 => ?_) (fun c_11 => ?_)
    · exact False.elim (lf_loadWithout_3 p2 c_2 c_11)
    refine lv_iload_n hx hb dX4_loadWithout_17 rfl (lv_at hl 0 rfl) ?_
    refine lv_sipush (v := 300) hx hb dX4_loadWithout_18 (by decide) ?_
    refine lv_imul hx hb dX4_loadWithout_21 ?_
    refine tvv (v := .int 900) (congrArg Value.int (by decide)) ?_
    refine lv_istore (lv' := [(4, .int 900), (3, .int 3), (6, .int 600), (5, .int 600), (0, .ref h0), (1, .int p1), (2, .int p2)]) hx hb dX4_loadWithout_22 hl (by decide) rfl (fun ls hl => ?_)
    refine lv_iload hx hb dX4_loadWithout_24 (lv_at hl 0 rfl) ?_
    refine lv_istore (lv' := [(5, .int 900), (4, .int 900), (3, .int 3), (6, .int 600), (0, .ref h0), (1, .int p1), (2, .int p2)]) hx hb dX4_loadWithout_26 hl (by decide) rfl (fun ls hl => ?_)
    refine lv_iload hx hb dX4_loadWithout_28 (lv_at hl 1 rfl) ?_
    refine lv_istore (lv' := [(6, .int 900), (5, .int 900), (4, .int 900), (3, .int 3), (0, .ref h0), (1, .int p1), (2, .int p2)]) hx hb dX4_loadWithout_30 hl (by decide) rfl (fun ls hl => ?_)
    refine lv_iload hx hb dX4_loadWithout_32 (lv_at hl 0 rfl) ?_
    refine lv_iload hx hb dX4_loadWithout_34 (lv_at hl 2 rfl) ?_
    refine lv_aload_n hx hb dX4_loadWithout_36 rfl (lv_at hl 4 rfl) ?_
    refine va_get (D := (dC, dI)) (ci := 4) (v := .ref h0_cases) (C := RX4) (T := TX4) (N := 5) hx hb hts hi4 hown hK hP 0 rfl rfl 3 (by decide) (hts (.fieldLink RX4 25 "AskTree$Rows" "cases" "LAskTree$Cases;") (by decide +kernel)) (fun _ h9 => h9) rfl dX4_loadWithout_37 ?_
    refine va_get (D := (dC, dI)) (ci := 0) (v := .int 0) (C := RX0) (T := TX0) (N := 5) hx hb hts hi0 hown hK hP 1 rfl rfl 4 (by decide) (hts (.fieldLink RX4 40 "AskTree$Cases" "size" "I") (by decide +kernel)) (fun _ h9 => h9) rfl dX4_loadWithout_40 ?_
    refine lv_iadd hx hb dX4_loadWithout_43 ?_
    refine tvv (v := .int 900) (congrArg Value.int (by decide)) ?_
    refine lv_icmp_ge (tgt := 89) hx hb dX4_loadWithout_44 (by decide) (fun c_12 => ?_) (fun c_12 => ?_)
    rotate_left
    · exact absurd c_12 (by decide)
    refine lv_aload_n hx hb dX4_loadWithout_89 rfl (lv_at hl 4 rfl) ?_
    refine lv_iload hx hb dX4_loadWithout_90 (lv_at hl 1 rfl) ?_
    refine lv_iload hx hb dX4_loadWithout_92 (lv_at hl 2 rfl) ?_
    refine lv_isub hx hb dX4_loadWithout_94 ?_
    refine tvv (v := .int 0) (congrArg Value.int (by decide)) ?_
    refine va_put (D := (dC, dI)) (ci := 4) (v := .int 0) (ty := .int) (C := RX4) (T := TX4) (N := 5) hx hb hts hi4 tyX4 tyX4_ok nmX4 hown hK hP hD hS 0 rfl rfl 4 (by decide) (hts (.fieldLink RX4 21 "AskTree$Rows" "size" "I") (by decide +kernel)) (fun _ h9 => h9) rfl (by decide +kernel) rfl rfl (Nat.le_of_ble_eq_true rfl) dX4_loadWithout_95 (fun H locs hP hD hS => ?_)
    have hP : va_P (dC, dI) vwCl [(h0, .inr (4, [.ref a0_row, .ref a0_sides, .ref a0_kept, .ref h0_cases, .int 0])), (h0_cases, .inr (0, [.ref a0_cases_kinds, .ref a0_cases_classes, .ref a0_cases_marks, .ref a0_cases_order, .int 0]))] H := hP
    have hD : va_D A [(h0, .inr (4, [.ref a0_row, .ref a0_sides, .ref a0_kept, .ref h0_cases, .int 0])), (h0_cases, .inr (0, [.ref a0_cases_kinds, .ref a0_cases_classes, .ref a0_cases_marks, .ref a0_cases_order, .int 0]))] := hD
    refine lv_iinc (v := 4) (lv' := [(3, .int 4), (6, .int 900), (5, .int 900), (4, .int 900), (0, .ref h0), (1, .int p1), (2, .int p2)]) hx hb dX4_loadWithout_98 hl (k := 3) rfl (by decide) (by decide) rfl (fun ls hl => ?_)
    refine lv_goto (tgt := 7) hx hb dX4_loadWithout_101 (by decide) ?_
    refine lv_iload_n hx hb dX4_loadWithout_7 rfl (lv_at hl 0 rfl) ?_
    refine lv_bipush (v := 8) hx hb dX4_loadWithout_8 (by decide) ?_
    refine lv_icmp_ge (tgt := 104) hx hb dX4_loadWithout_10 (by decide) (fun c_13 => ?_) (fun c_13 => ?_)
    · exact absurd c_13 (by decide)
    refine lv_iload_n hx hb dX4_loadWithout_13 rfl (lv_at hl 6 rfl) ?_
    refine lv_if_le (tgt := 104) hx hb dX4_loadWithout_14 (by decide) (fun c_14 => ?_) (fun c_14 => ?_)
    · exact False.elim (lf_loadWithout_4 p2 c_2 c_14)
    refine lv_iload_n hx hb dX4_loadWithout_17 rfl (lv_at hl 0 rfl) ?_
    refine lv_sipush (v := 300) hx hb dX4_loadWithout_18 (by decide) ?_
    refine lv_imul hx hb dX4_loadWithout_21 ?_
    refine tvv (v := .int 1200) (congrArg Value.int (by decide)) ?_
    refine lv_istore (lv' := [(4, .int 1200), (3, .int 4), (6, .int 900), (5, .int 900), (0, .ref h0), (1, .int p1), (2, .int p2)]) hx hb dX4_loadWithout_22 hl (by decide) rfl (fun ls hl => ?_)
    refine lv_iload hx hb dX4_loadWithout_24 (lv_at hl 0 rfl) ?_
    refine lv_istore (lv' := [(5, .int 1200), (4, .int 1200), (3, .int 4), (6, .int 900), (0, .ref h0), (1, .int p1), (2, .int p2)]) hx hb dX4_loadWithout_26 hl (by decide) rfl (fun ls hl => ?_)
    refine lv_iload hx hb dX4_loadWithout_28 (lv_at hl 1 rfl) ?_
    refine lv_istore (lv' := [(6, .int 1200), (5, .int 1200), (4, .int 1200), (3, .int 4), (0, .ref h0), (1, .int p1), (2, .int p2)]) hx hb dX4_loadWithout_30 hl (by decide) rfl (fun ls hl => ?_)
    refine lv_iload hx hb dX4_loadWithout_32 (lv_at hl 0 rfl) ?_
    refine lv_iload hx hb dX4_loadWithout_34 (lv_at hl 2 rfl) ?_
    refine lv_aload_n hx hb dX4_loadWithout_36 rfl (lv_at hl 4 rfl) ?_
    refine va_get (D := (dC, dI)) (ci := 4) (v := .ref h0_cases) (C := RX4) (T := TX4) (N := 5) hx hb hts hi4 hown hK hP 0 rfl rfl 3 (by decide) (hts (.fieldLink RX4 25 "AskTree$Rows" "cases" "LAskTree$Cases;") (by decide +kernel)) (fun _ h9 => h9) rfl dX4_loadWithout_37 ?_
    refine va_get (D := (dC, dI)) (ci := 0) (v := .int 0) (C := RX0) (T := TX0) (N := 5) hx hb hts hi0 hown hK hP 1 rfl rfl 4 (by decide) (hts (.fieldLink RX4 40 "AskTree$Cases" "size" "I") (by decide +kernel)) (fun _ h9 => h9) rfl dX4_loadWithout_40 ?_
    refine lv_iadd hx hb dX4_loadWithout_43 ?_
    refine tvv (v := .int 1200) (congrArg Value.int (by decide)) ?_
    refine lv_icmp_ge (tgt := 89) hx hb dX4_loadWithout_44 (by decide) (fun c_15 => ?_) (fun c_15 => ?_)
    rotate_left
    · exact absurd c_15 (by decide)
    refine lv_aload_n hx hb dX4_loadWithout_89 rfl (lv_at hl 4 rfl) ?_
    refine lv_iload hx hb dX4_loadWithout_90 (lv_at hl 1 rfl) ?_
    refine lv_iload hx hb dX4_loadWithout_92 (lv_at hl 2 rfl) ?_
    refine lv_isub hx hb dX4_loadWithout_94 ?_
    refine tvv (v := .int 0) (congrArg Value.int (by decide)) ?_
    refine va_put (D := (dC, dI)) (ci := 4) (v := .int 0) (ty := .int) (C := RX4) (T := TX4) (N := 5) hx hb hts hi4 tyX4 tyX4_ok nmX4 hown hK hP hD hS 0 rfl rfl 4 (by decide) (hts (.fieldLink RX4 21 "AskTree$Rows" "size" "I") (by decide +kernel)) (fun _ h9 => h9) rfl (by decide +kernel) rfl rfl (Nat.le_of_ble_eq_true rfl) dX4_loadWithout_95 (fun H locs hP hD hS => ?_)
    have hP : va_P (dC, dI) vwCl [(h0, .inr (4, [.ref a0_row, .ref a0_sides, .ref a0_kept, .ref h0_cases, .int 0])), (h0_cases, .inr (0, [.ref a0_cases_kinds, .ref a0_cases_classes, .ref a0_cases_marks, .ref a0_cases_order, .int 0]))] H := hP
    have hD : va_D A [(h0, .inr (4, [.ref a0_row, .ref a0_sides, .ref a0_kept, .ref h0_cases, .int 0])), (h0_cases, .inr (0, [.ref a0_cases_kinds, .ref a0_cases_classes, .ref a0_cases_marks, .ref a0_cases_order, .int 0]))] := hD
    refine lv_iinc (v := 5) (lv' := [(3, .int 5), (6, .int 1200), (5, .int 1200), (4, .int 1200), (0, .ref h0), (1, .int p1), (2, .int p2)]) hx hb dX4_loadWithout_98 hl (k := 3) rfl (by decide) (by decide) rfl (fun ls hl => ?_)
    refine lv_goto (tgt := 7) hx hb dX4_loadWithout_101 (by decide) ?_
    refine lv_iload_n hx hb dX4_loadWithout_7 rfl (lv_at hl 0 rfl) ?_
    refine lv_bipush (v := 8) hx hb dX4_loadWithout_8 (by decide) ?_
    refine lv_icmp_ge (tgt := 104) hx hb dX4_loadWithout_10 (by decide) (fun c_16 => ?_) (fun c_16 => ?_)
    · exact absurd c_16 (by decide)
    refine lv_iload_n hx hb dX4_loadWithout_13 rfl (lv_at hl 6 rfl) ?_
    refine lv_if_le (tgt := 104) hx hb dX4_loadWithout_14 (by decide) (fun c_17 => ?_) (fun c_17 => ?_)
    · exact False.elim (lf_loadWithout_5 p2 c_2 c_17)
    refine lv_iload_n hx hb dX4_loadWithout_17 rfl (lv_at hl 0 rfl) ?_
    refine lv_sipush (v := 300) hx hb dX4_loadWithout_18 (by decide) ?_
    refine lv_imul hx hb dX4_loadWithout_21 ?_
    refine tvv (v := .int 1500) (congrArg Value.int (by decide)) ?_
    refine lv_istore (lv' := [(4, .int 1500), (3, .int 5), (6, .int 1200), (5, .int 1200), (0, .ref h0), (1, .int p1), (2, .int p2)]) hx hb dX4_loadWithout_22 hl (by decide) rfl (fun ls hl => ?_)
    refine lv_iload hx hb dX4_loadWithout_24 (lv_at hl 0 rfl) ?_
    refine lv_istore (lv' := [(5, .int 1500), (4, .int 1500), (3, .int 5), (6, .int 1200), (0, .ref h0), (1, .int p1), (2, .int p2)]) hx hb dX4_loadWithout_26 hl (by decide) rfl (fun ls hl => ?_)
    refine lv_iload hx hb dX4_loadWithout_28 (lv_at hl 1 rfl) ?_
    refine lv_istore (lv' := [(6, .int 1500), (5, .int 1500), (4, .int 1500), (3, .int 5), (0, .ref h0), (1, .int p1), (2, .int p2)]) hx hb dX4_loadWithout_30 hl (by decide) rfl (fun ls hl => ?_)
    refine lv_iload hx hb dX4_loadWithout_32 (lv_at hl 0 rfl) ?_
    refine lv_iload hx hb dX4_loadWithout_34 (lv_at hl 2 rfl) ?_
    refine lv_aload_n hx hb dX4_loadWithout_36 rfl (lv_at hl 4 rfl) ?_
    refine va_get (D := (dC, dI)) (ci := 4) (v := .ref h0_cases) (C := RX4) (T := TX4) (N := 5) hx hb hts hi4 hown hK hP 0 rfl rfl 3 (by decide) (hts (.fieldLink RX4 25 "AskTree$Rows" "cases" "LAskTree$Cases;") (by decide +kernel)) (fun _ h9 => h9) rfl dX4_loadWithout_37 ?_
    refine va_get (D := (dC, dI)) (ci := 0) (v := .int 0) (C := RX0) (T := TX0) (N := 5) hx hb hts hi0 hown hK hP 1 rfl rfl 4 (by decide) (hts (.fieldLink RX4 40 "AskTree$Cases" "size" "I") (by decide +kernel)) (fun _ h9 => h9) rfl dX4_loadWithout_40 ?_
    refine lv_iadd hx hb dX4_loadWithout_43 ?_
    refine tvv (v := .int 1500) (congrArg Value.int (by decide)) ?_
    refine lv_icmp_ge (tgt := 89) hx hb dX4_loadWithout_44 (by decide) (fun c_18 => ?_) (fun c_18 => ?_)
    rotate_left
    · exact absurd c_18 (by decide)
    refine lv_aload_n hx hb dX4_loadWithout_89 rfl (lv_at hl 4 rfl) ?_
    refine lv_iload hx hb dX4_loadWithout_90 (lv_at hl 1 rfl) ?_
    refine lv_iload hx hb dX4_loadWithout_92 (lv_at hl 2 rfl) ?_
    refine lv_isub hx hb dX4_loadWithout_94 ?_
    refine tvv (v := .int 0) (congrArg Value.int (by decide)) ?_
    refine va_put (D := (dC, dI)) (ci := 4) (v := .int 0) (ty := .int) (C := RX4) (T := TX4) (N := 5) hx hb hts hi4 tyX4 tyX4_ok nmX4 hown hK hP hD hS 0 rfl rfl 4 (by decide) (hts (.fieldLink RX4 21 "AskTree$Rows" "size" "I") (by decide +kernel)) (fun _ h9 => h9) rfl (by decide +kernel) rfl rfl (Nat.le_of_ble_eq_true rfl) dX4_loadWithout_95 (fun H locs hP hD hS => ?_)
    have hP : va_P (dC, dI) vwCl [(h0, .inr (4, [.ref a0_row, .ref a0_sides, .ref a0_kept, .ref h0_cases, .int 0])), (h0_cases, .inr (0, [.ref a0_cases_kinds, .ref a0_cases_classes, .ref a0_cases_marks, .ref a0_cases_order, .int 0]))] H := hP
    have hD : va_D A [(h0, .inr (4, [.ref a0_row, .ref a0_sides, .ref a0_kept, .ref h0_cases, .int 0])), (h0_cases, .inr (0, [.ref a0_cases_kinds, .ref a0_cases_classes, .ref a0_cases_marks, .ref a0_cases_order, .int 0]))] := hD
    refine lv_iinc (v := 6) (lv' := [(3, .int 6), (6, .int 1500), (5, .int 1500), (4, .int 1500), (0, .ref h0), (1, .int p1), (2, .int p2)]) hx hb dX4_loadWithout_98 hl (k := 3) rfl (by decide) (by decide) rfl (fun ls hl => ?_)
    refine lv_goto (tgt := 7) hx hb dX4_loadWithout_101 (by decide) ?_
    refine lv_iload_n hx hb dX4_loadWithout_7 rfl (lv_at hl 0 rfl) ?_
    refine lv_bipush (v := 8) hx hb dX4_loadWithout_8 (by decide) ?_
    refine lv_icmp_ge (tgt := 104) hx hb dX4_loadWithout_10 (by decide) (fun c_19 => ?_) (fun c_19 => ?_)
    · exact absurd c_19 (by decide)
    refine lv_iload_n hx hb dX4_loadWithout_13 rfl (lv_at hl 6 rfl) ?_
    refine lv_if_le (tgt := 104) hx hb dX4_loadWithout_14 (by decide) (fun c_20 => ?_) (fun c_20 => ?_)
    · exact False.elim (lf_loadWithout_6 p2 c_2 c_20)
    refine lv_iload_n hx hb dX4_loadWithout_17 rfl (lv_at hl 0 rfl) ?_
    refine lv_sipush (v := 300) hx hb dX4_loadWithout_18 (by decide) ?_
    refine lv_imul hx hb dX4_loadWithout_21 ?_
    refine tvv (v := .int 1800) (congrArg Value.int (by decide)) ?_
    refine lv_istore (lv' := [(4, .int 1800), (3, .int 6), (6, .int 1500), (5, .int 1500), (0, .ref h0), (1, .int p1), (2, .int p2)]) hx hb dX4_loadWithout_22 hl (by decide) rfl (fun ls hl => ?_)
    refine lv_iload hx hb dX4_loadWithout_24 (lv_at hl 0 rfl) ?_
    refine lv_istore (lv' := [(5, .int 1800), (4, .int 1800), (3, .int 6), (6, .int 1500), (0, .ref h0), (1, .int p1), (2, .int p2)]) hx hb dX4_loadWithout_26 hl (by decide) rfl (fun ls hl => ?_)
    refine lv_iload hx hb dX4_loadWithout_28 (lv_at hl 1 rfl) ?_
    refine lv_istore (lv' := [(6, .int 1800), (5, .int 1800), (4, .int 1800), (3, .int 6), (0, .ref h0), (1, .int p1), (2, .int p2)]) hx hb dX4_loadWithout_30 hl (by decide) rfl (fun ls hl => ?_)
    refine lv_iload hx hb dX4_loadWithout_32 (lv_at hl 0 rfl) ?_
    refine lv_iload hx hb dX4_loadWithout_34 (lv_at hl 2 rfl) ?_
    refine lv_aload_n hx hb dX4_loadWithout_36 rfl (lv_at hl 4 rfl) ?_
    refine va_get (D := (dC, dI)) (ci := 4) (v := .ref h0_cases) (C := RX4) (T := TX4) (N := 5) hx hb hts hi4 hown hK hP 0 rfl rfl 3 (by decide) (hts (.fieldLink RX4 25 "AskTree$Rows" "cases" "LAskTree$Cases;") (by decide +kernel)) (fun _ h9 => h9) rfl dX4_loadWithout_37 ?_
    refine va_get (D := (dC, dI)) (ci := 0) (v := .int 0) (C := RX0) (T := TX0) (N := 5) hx hb hts hi0 hown hK hP 1 rfl rfl 4 (by decide) (hts (.fieldLink RX4 40 "AskTree$Cases" "size" "I") (by decide +kernel)) (fun _ h9 => h9) rfl dX4_loadWithout_40 ?_
    refine lv_iadd hx hb dX4_loadWithout_43 ?_
    refine tvv (v := .int 1800) (congrArg Value.int (by decide)) ?_
    refine lv_icmp_ge (tgt := 89) hx hb dX4_loadWithout_44 (by decide) (fun c_21 => ?_) (fun c_21 => ?_)
    rotate_left
    · exact absurd c_21 (by decide)
    refine lv_aload_n hx hb dX4_loadWithout_89 rfl (lv_at hl 4 rfl) ?_
    refine lv_iload hx hb dX4_loadWithout_90 (lv_at hl 1 rfl) ?_
    refine lv_iload hx hb dX4_loadWithout_92 (lv_at hl 2 rfl) ?_
    refine lv_isub hx hb dX4_loadWithout_94 ?_
    refine tvv (v := .int 0) (congrArg Value.int (by decide)) ?_
    refine va_put (D := (dC, dI)) (ci := 4) (v := .int 0) (ty := .int) (C := RX4) (T := TX4) (N := 5) hx hb hts hi4 tyX4 tyX4_ok nmX4 hown hK hP hD hS 0 rfl rfl 4 (by decide) (hts (.fieldLink RX4 21 "AskTree$Rows" "size" "I") (by decide +kernel)) (fun _ h9 => h9) rfl (by decide +kernel) rfl rfl (Nat.le_of_ble_eq_true rfl) dX4_loadWithout_95 (fun H locs hP hD hS => ?_)
    have hP : va_P (dC, dI) vwCl [(h0, .inr (4, [.ref a0_row, .ref a0_sides, .ref a0_kept, .ref h0_cases, .int 0])), (h0_cases, .inr (0, [.ref a0_cases_kinds, .ref a0_cases_classes, .ref a0_cases_marks, .ref a0_cases_order, .int 0]))] H := hP
    have hD : va_D A [(h0, .inr (4, [.ref a0_row, .ref a0_sides, .ref a0_kept, .ref h0_cases, .int 0])), (h0_cases, .inr (0, [.ref a0_cases_kinds, .ref a0_cases_classes, .ref a0_cases_marks, .ref a0_cases_order, .int 0]))] := hD
    refine lv_iinc (v := 7) (lv' := [(3, .int 7), (6, .int 1800), (5, .int 1800), (4, .int 1800), (0, .ref h0), (1, .int p1), (2, .int p2)]) hx hb dX4_loadWithout_98 hl (k := 3) rfl (by decide) (by decide) rfl (fun ls hl => ?_)
    refine lv_goto (tgt := 7) hx hb dX4_loadWithout_101 (by decide) ?_
    refine lv_iload_n hx hb dX4_loadWithout_7 rfl (lv_at hl 0 rfl) ?_
    refine lv_bipush (v := 8) hx hb dX4_loadWithout_8 (by decide) ?_
    refine lv_icmp_ge (tgt := 104) hx hb dX4_loadWithout_10 (by decide) (fun c_22 => ?_) (fun c_22 => ?_)
    · exact absurd c_22 (by decide)
    refine lv_iload_n hx hb dX4_loadWithout_13 rfl (lv_at hl 6 rfl) ?_
    refine lv_if_le (tgt := 104) hx hb dX4_loadWithout_14 (by decide) (fun c_23 => ?_) (fun c_23 => ?_)
    · exact False.elim (lf_loadWithout_7 p2 c_2 c_23)
    refine lv_iload_n hx hb dX4_loadWithout_17 rfl (lv_at hl 0 rfl) ?_
    refine lv_sipush (v := 300) hx hb dX4_loadWithout_18 (by decide) ?_
    refine lv_imul hx hb dX4_loadWithout_21 ?_
    refine tvv (v := .int 2100) (congrArg Value.int (by decide)) ?_
    refine lv_istore (lv' := [(4, .int 2100), (3, .int 7), (6, .int 1800), (5, .int 1800), (0, .ref h0), (1, .int p1), (2, .int p2)]) hx hb dX4_loadWithout_22 hl (by decide) rfl (fun ls hl => ?_)
    refine lv_iload hx hb dX4_loadWithout_24 (lv_at hl 0 rfl) ?_
    refine lv_istore (lv' := [(5, .int 2100), (4, .int 2100), (3, .int 7), (6, .int 1800), (0, .ref h0), (1, .int p1), (2, .int p2)]) hx hb dX4_loadWithout_26 hl (by decide) rfl (fun ls hl => ?_)
    refine lv_iload hx hb dX4_loadWithout_28 (lv_at hl 1 rfl) ?_
    refine lv_istore (lv' := [(6, .int 2100), (5, .int 2100), (4, .int 2100), (3, .int 7), (0, .ref h0), (1, .int p1), (2, .int p2)]) hx hb dX4_loadWithout_30 hl (by decide) rfl (fun ls hl => ?_)
    refine lv_iload hx hb dX4_loadWithout_32 (lv_at hl 0 rfl) ?_
    refine lv_iload hx hb dX4_loadWithout_34 (lv_at hl 2 rfl) ?_
    refine lv_aload_n hx hb dX4_loadWithout_36 rfl (lv_at hl 4 rfl) ?_
    refine va_get (D := (dC, dI)) (ci := 4) (v := .ref h0_cases) (C := RX4) (T := TX4) (N := 5) hx hb hts hi4 hown hK hP 0 rfl rfl 3 (by decide) (hts (.fieldLink RX4 25 "AskTree$Rows" "cases" "LAskTree$Cases;") (by decide +kernel)) (fun _ h9 => h9) rfl dX4_loadWithout_37 ?_
    refine va_get (D := (dC, dI)) (ci := 0) (v := .int 0) (C := RX0) (T := TX0) (N := 5) hx hb hts hi0 hown hK hP 1 rfl rfl 4 (by decide) (hts (.fieldLink RX4 40 "AskTree$Cases" "size" "I") (by decide +kernel)) (fun _ h9 => h9) rfl dX4_loadWithout_40 ?_
    refine lv_iadd hx hb dX4_loadWithout_43 ?_
    refine tvv (v := .int 2100) (congrArg Value.int (by decide)) ?_
    refine lv_icmp_ge (tgt := 89) hx hb dX4_loadWithout_44 (by decide) (fun c_24 => ?_) (fun c_24 => ?_)
    rotate_left
    · exact absurd c_24 (by decide)
    refine lv_aload_n hx hb dX4_loadWithout_89 rfl (lv_at hl 4 rfl) ?_
    refine lv_iload hx hb dX4_loadWithout_90 (lv_at hl 1 rfl) ?_
    refine lv_iload hx hb dX4_loadWithout_92 (lv_at hl 2 rfl) ?_
    refine lv_isub hx hb dX4_loadWithout_94 ?_
    refine tvv (v := .int 0) (congrArg Value.int (by decide)) ?_
    refine va_put (D := (dC, dI)) (ci := 4) (v := .int 0) (ty := .int) (C := RX4) (T := TX4) (N := 5) hx hb hts hi4 tyX4 tyX4_ok nmX4 hown hK hP hD hS 0 rfl rfl 4 (by decide) (hts (.fieldLink RX4 21 "AskTree$Rows" "size" "I") (by decide +kernel)) (fun _ h9 => h9) rfl (by decide +kernel) rfl rfl (Nat.le_of_ble_eq_true rfl) dX4_loadWithout_95 (fun H locs hP hD hS => ?_)
    have hP : va_P (dC, dI) vwCl [(h0, .inr (4, [.ref a0_row, .ref a0_sides, .ref a0_kept, .ref h0_cases, .int 0])), (h0_cases, .inr (0, [.ref a0_cases_kinds, .ref a0_cases_classes, .ref a0_cases_marks, .ref a0_cases_order, .int 0]))] H := hP
    have hD : va_D A [(h0, .inr (4, [.ref a0_row, .ref a0_sides, .ref a0_kept, .ref h0_cases, .int 0])), (h0_cases, .inr (0, [.ref a0_cases_kinds, .ref a0_cases_classes, .ref a0_cases_marks, .ref a0_cases_order, .int 0]))] := hD
    refine lv_iinc (v := 8) (lv' := [(3, .int 8), (6, .int 2100), (5, .int 2100), (4, .int 2100), (0, .ref h0), (1, .int p1), (2, .int p2)]) hx hb dX4_loadWithout_98 hl (k := 3) rfl (by decide) (by decide) rfl (fun ls hl => ?_)
    refine lv_goto (tgt := 7) hx hb dX4_loadWithout_101 (by decide) ?_
    refine lv_iload_n hx hb dX4_loadWithout_7 rfl (lv_at hl 0 rfl) ?_
    refine lv_bipush (v := 8) hx hb dX4_loadWithout_8 (by decide) ?_
    refine lv_icmp_ge (tgt := 104) hx hb dX4_loadWithout_10 (by decide) (fun c_25 => ?_) (fun c_25 => ?_)
    rotate_left
    · exact absurd c_25 (by decide)
    have hP9 := hP.sub (ws' := [(h0, .inr (4, [.ref a0_row, .ref a0_sides, .ref a0_kept, .ref h0_cases, .int 0])), (h0_cases, .inr (0, [.ref a0_cases_kinds, .ref a0_cases_classes, .ref a0_cases_marks, .ref a0_cases_order, .int 0]))]) [0, 1] rfl
    have hD9 := hD.sub (ws' := [(h0, .inr (4, [.ref a0_row, .ref a0_sides, .ref a0_kept, .ref h0_cases, .int 0])), (h0_cases, .inr (0, [.ref a0_cases_kinds, .ref a0_cases_classes, .ref a0_cases_marks, .ref a0_cases_order, .int 0]))]) [0, 1] (by decide) rfl
    have hK9 := hK.sub (tys' := []) [] rfl
    exact W.vret hx hb hr (fun t ht hW => ⟨⟨([(h0, .inr (4, [.ref a0_row, .ref a0_sides, .ref a0_kept, .ref h0_cases, .int 0])), (h0_cases, .inr (0, [.ref a0_cases_kinds, .ref a0_cases_classes, .ref a0_cases_marks, .ref a0_cases_order, .int 0]))], []), rfl, rfl, (by rw [ht]; exact hP9), va_K.moved hW.alike hK9, hD9⟩, hS.F ht⟩) hS.2.2 dX4_loadWithout_104

set_option maxHeartbeats 4000000 in
set_option maxRecDepth 100000 in
theorem c_tally (l : Launch) (dC : Nat → ClassId) (dI : Nat → Nat → Nat) (sz : Nat) (h0 : Nat) (h3 : Nat) (a0_row : Nat) (a0_sides : Nat) (a0_kept : Nat) (a0_cases : Nat) (k3 : ClassId) (f3 : Nat → Int32)   : Met l yX4_tally wsX4_tally ({ frames := 2, cells := 0, slots := 0, locals := 81 }) (va_Pc [.ref h0, .int 0, .int 0, .ref h3] (pw (dC, dI) [(k3, .int)] [(h0, .inr (4, [.ref a0_row, .ref a0_sides, .ref a0_kept, .ref a0_cases, .int 0])), (h3, .inl (k3, 4, .inl f3))] sz)) (va_Qv (fun (u : vu) => (∃ (f_2 : Nat → Int32), u = ([(h0, .inr (4, [.ref a0_row, .ref a0_sides, .ref a0_kept, .ref a0_cases, .int 0])), (h3, .inl (k3, 4, .inl f_2))], []) ∧ f_2 0 = 0 ∧ f_2 1 = 0 ∧ f_2 2 = 0 ∧ f_2 3 = 0)) (fun u t => qw (dC, dI) u.2 (va_A [(h0, .inr (4, [.ref a0_row, .ref a0_sides, .ref a0_kept, .ref a0_cases, .int 0])), (h3, .inl (k3, 4, .inl f3))] sz) u.1 t) (va_A [(h0, .inr (4, [.ref a0_row, .ref a0_sides, .ref a0_kept, .ref a0_cases, .int 0])), (h3, .inl (k3, 4, .inl f3))] sz)) 0 0 (va_A [(h0, .inr (4, [.ref a0_row, .ref a0_sides, .ref a0_kept, .ref a0_cases, .int 0])), (h3, .inl (k3, 4, .inl f3))] sz) := by
  refine Met.ofW (cc := cX4_tally) (maxL := 5) (ret := none) (by decide) rfl ?_
  intro p e s m args below meth c s₁ B hml hv
  obtain ⟨rfl, hsz, hP, hK, hD0, hN⟩ := hv
  have hx := B.exec
  have hb := B.bytes
  have hr := B.returns
  have hts := atoms_spec (ws := wsX4_tally) B.pre
  have hown : s.vm.findClass RX4 = some m.cls := findClass_of_methodNamed B.named
  have hlocks := B.notSynchronized
  have hi4 : ∀ w ∈ u_ws RX4 TX4 5, w ∈ wsX4_tally := fun _ h => List.mem_cons_of_mem _ (List.mem_append_left _ (List.mem_append_right _ h))
  have hi0 : ∀ w ∈ u_ws RX0 TX0 5, w ∈ wsX4_tally := fun _ h => List.mem_cons_of_mem _ (List.mem_append_right _ h)
  subst hsz
  have hD := hD0.self (sz := s.heap.size)
  generalize hAe : va_A [(h0, .inr (4, [.ref a0_row, .ref a0_sides, .ref a0_kept, .ref a0_cases, .int 0])), (h3, .inl (k3, 4, .inl f3))] s.heap.size = A at hD ⊢
  have hA : ∀ q : Nat, s.heap.size ≤ q → A q := fun q h => by rw [← hAe]; exact Or.inr h
  have hS : va_S A s.heap s.heap [] := va_S.rf
  have hl := lv_entry ([.ref h0, .int 0, .int 0, .ref h3]) (n := 5) (Nat.le_of_ble_eq_true rfl)
  rw [lg_entry_eq]
  generalize (lg_sl ([.ref h0, .int 0, .int 0, .ref h3]) ++ List.replicate (5 - (lg_sl ([.ref h0, .int 0, .int 0, .ref h3])).length) Slot.unset).toArray = ls at hl ⊢
  have hl : lv_has ls 5 [(0, .ref h0), (1, .int 0), (2, .int 0), (3, .ref h3)] := hl
  have hP : va_P (dC, dI) vwCl [(h0, .inr (4, [.ref a0_row, .ref a0_sides, .ref a0_kept, .ref a0_cases, .int 0])), (h3, .inl (k3, 4, .inl f3))] s.heap := hP
  refine lv_aload_n hx hb dX4_tally_0 rfl (lv_at hl 3 rfl) ?_
  have hPc := hP.sub (ws' := [(h3, .inl (k3, 4, .inl f3))]) [1] rfl
  have hDc := hD.sub (ws' := [(h3, .inl (k3, 4, .inl f3))]) [1] (by decide) rfl
  have hKc := hK.sub (tys' := [(k3, .int)]) [0] rfl
  have hFc := va_free (wc := [(h3, .inl (k3, 4, .inl f3))]) hD hS hA [1] rfl
  refine va_callv (va_runSN (As := [.ref h3]) (rest := []) ⟨hx, hb, hml, hown, hts⟩ (c_clear l dC dI s.heap.size h3 k3 f3 ) ⟨(va_cnB 1 hts gX4_tally_X7_clear_n48 rfl rfl rfl hN.2.2.2.2.2.2.1 (hts (.initialized RX7) (by decide +kernel)) (by decide +kernel) ⟨Nat.le_of_ble_eq_true rfl, Nat.le_of_ble_eq_true rfl⟩), hts (.static yX7_clear) (by decide +kernel), trivial⟩ (pre_S hPc hKc hDc hN) rfl rfl hl.1 rfl (lv_room (Nat.le_of_ble_eq_true rfl)) dX4_tally_1 ⟨Nat.le_of_ble_eq_true rfl, Nat.le_of_ble_eq_true rfl⟩) hS (fun q _ h => hFc q h) hFc (fun u t H1 locs ht hvm hw hB hz1 hk1 hS => ?_)
  clear hPc hDc hKc
  obtain ⟨f_2, rfl, hk_3, hk_4, hk_5, hk_6⟩ := hw
  obtain ⟨hP1, hK1, hD1⟩ := hB
  rw [ht] at hP1
  obtain ⟨hP, hD⟩ := va_join (wr := [(h0, .inr (4, [.ref a0_row, .ref a0_sides, .ref a0_kept, .ref a0_cases, .int 0]))]) (w1 := [(h3, .inl (k3, 4, .inl f_2))]) hP hD [1] [0] rfl rfl (by decide) (by decide) hk1 hFc hP1 hD1
  generalize H1 = H at hP hS ⊢
  clear hP1 hD1 hFc hk1 hz1 ht hvm hK1
  have hP : va_P (dC, dI) vwCl [(h0, .inr (4, [.ref a0_row, .ref a0_sides, .ref a0_kept, .ref a0_cases, .int 0])), (h3, .inl (k3, 4, .inl f_2))] H := hP
  have hD : va_D A [(h0, .inr (4, [.ref a0_row, .ref a0_sides, .ref a0_kept, .ref a0_cases, .int 0])), (h3, .inl (k3, 4, .inl f_2))] := hD
  refine lv_iload_n hx hb dX4_tally_4 rfl (lv_at hl 1 rfl) ?_
  refine lv_istore (lv' := [(4, .int 0), (0, .ref h0), (1, .int 0), (2, .int 0), (3, .ref h3)]) hx hb dX4_tally_5 hl (by decide) rfl (fun ls hl => ?_)
  refine lv_iload hx hb dX4_tally_7 (lv_at hl 0 rfl) ?_
  refine lv_iload_n hx hb dX4_tally_9 rfl (lv_at hl 3 rfl) ?_
  refine lv_icmp_ge (tgt := 40) hx hb dX4_tally_10 (by decide) (fun c_7 => ?_) (fun c_7 => ?_)
  rotate_left
  · exact absurd c_7 (by decide)
  have hP9 := hP.sub (ws' := [(h0, .inr (4, [.ref a0_row, .ref a0_sides, .ref a0_kept, .ref a0_cases, .int 0])), (h3, .inl (k3, 4, .inl f_2))]) [0, 1] rfl
  have hD9 := hD.sub (ws' := [(h0, .inr (4, [.ref a0_row, .ref a0_sides, .ref a0_kept, .ref a0_cases, .int 0])), (h3, .inl (k3, 4, .inl f_2))]) [0, 1] (by decide) rfl
  have hK9 := hK.sub (tys' := []) [] rfl
  exact W.vret hx hb hr (fun t ht hW => ⟨⟨([(h0, .inr (4, [.ref a0_row, .ref a0_sides, .ref a0_kept, .ref a0_cases, .int 0])), (h3, .inl (k3, 4, .inl f_2))], []), rfl, ⟨f_2, rfl, hk_3, hk_4, hk_5, hk_6⟩, (by rw [ht]; exact hP9), va_K.moved hW.alike hK9, hD9⟩, hS.F ht⟩) hS.2.2 dX4_tally_40

set_option maxHeartbeats 4000000 in
set_option maxRecDepth 100000 in
theorem c_setSides (l : Launch) (dC : Nat → ClassId) (dI : Nat → Nat → Nat) (sz : Nat) (h0 : Nat) (a0_row : Nat) (a0_sides : Nat) (a0_kept : Nat) (a0_cases : Nat)   : Met l yX4_setSides wsX4_setSides ({ frames := 1, cells := 0, slots := 0, locals := 60 }) (va_Pc [.ref h0, .int 0, .int 0, .int 0, .int 0] (pw (dC, dI) [] [(h0, .inr (4, [.ref a0_row, .ref a0_sides, .ref a0_kept, .ref a0_cases, .int 0]))] sz)) (va_Qv (fun (u : vu) => (u = ([(h0, .inr (4, [.ref a0_row, .ref a0_sides, .ref a0_kept, .ref a0_cases, .int 0]))], []))) (fun u t => qw (dC, dI) u.2 (va_A [(h0, .inr (4, [.ref a0_row, .ref a0_sides, .ref a0_kept, .ref a0_cases, .int 0]))] sz) u.1 t) (va_A [(h0, .inr (4, [.ref a0_row, .ref a0_sides, .ref a0_kept, .ref a0_cases, .int 0]))] sz)) 0 0 (va_A [(h0, .inr (4, [.ref a0_row, .ref a0_sides, .ref a0_kept, .ref a0_cases, .int 0]))] sz) := by
  refine Met.ofW (cc := cX4_setSides) (maxL := 6) (ret := none) (by decide) rfl ?_
  intro p e s m args below meth c s₁ B hml hv
  obtain ⟨rfl, hsz, hP, hK, hD0, hN⟩ := hv
  have hx := B.exec
  have hb := B.bytes
  have hr := B.returns
  have hts := atoms_spec (ws := wsX4_setSides) B.pre
  have hown : s.vm.findClass RX4 = some m.cls := findClass_of_methodNamed B.named
  have hlocks := B.notSynchronized
  have hi4 : ∀ w ∈ u_ws RX4 TX4 5, w ∈ wsX4_setSides := fun _ h => List.mem_cons_of_mem _ (List.mem_append_right _ h)
  subst hsz
  have hD := hD0.self (sz := s.heap.size)
  generalize hAe : va_A [(h0, .inr (4, [.ref a0_row, .ref a0_sides, .ref a0_kept, .ref a0_cases, .int 0]))] s.heap.size = A at hD ⊢
  have hA : ∀ q : Nat, s.heap.size ≤ q → A q := fun q h => by rw [← hAe]; exact Or.inr h
  have hS : va_S A s.heap s.heap [] := va_S.rf
  have hl := lv_entry ([.ref h0, .int 0, .int 0, .int 0, .int 0]) (n := 6) (Nat.le_of_ble_eq_true rfl)
  rw [lg_entry_eq]
  generalize (lg_sl ([.ref h0, .int 0, .int 0, .int 0, .int 0]) ++ List.replicate (6 - (lg_sl ([.ref h0, .int 0, .int 0, .int 0, .int 0])).length) Slot.unset).toArray = ls at hl ⊢
  have hl : lv_has ls 6 [(0, .ref h0), (1, .int 0), (2, .int 0), (3, .int 0), (4, .int 0)] := hl
  have hP : va_P (dC, dI) vwCl [(h0, .inr (4, [.ref a0_row, .ref a0_sides, .ref a0_kept, .ref a0_cases, .int 0]))] s.heap := hP
  refine lv_iload_n hx hb dX4_setSides_0 rfl (lv_at hl 2 rfl) ?_
  refine lv_istore (lv' := [(5, .int 0), (0, .ref h0), (1, .int 0), (2, .int 0), (3, .int 0), (4, .int 0)]) hx hb dX4_setSides_1 hl (by decide) rfl (fun ls hl => ?_)
  refine lv_iload hx hb dX4_setSides_3 (lv_at hl 0 rfl) ?_
  refine lv_iload_n hx hb dX4_setSides_5 rfl (lv_at hl 4 rfl) ?_
  refine lv_icmp_ge (tgt := 29) hx hb dX4_setSides_6 (by decide) (fun c_1 => ?_) (fun c_1 => ?_)
  rotate_left
  · exact absurd c_1 (by decide)
  have hP9 := hP.sub (ws' := [(h0, .inr (4, [.ref a0_row, .ref a0_sides, .ref a0_kept, .ref a0_cases, .int 0]))]) [0] rfl
  have hD9 := hD.sub (ws' := [(h0, .inr (4, [.ref a0_row, .ref a0_sides, .ref a0_kept, .ref a0_cases, .int 0]))]) [0] (by decide) rfl
  have hK9 := hK.sub (tys' := []) [] rfl
  exact W.vret hx hb hr (fun t ht hW => ⟨⟨([(h0, .inr (4, [.ref a0_row, .ref a0_sides, .ref a0_kept, .ref a0_cases, .int 0]))], []), rfl, rfl, (by rw [ht]; exact hP9), va_K.moved hW.alike hK9, hD9⟩, hS.F ht⟩) hS.2.2 dX4_setSides_29

set_option maxHeartbeats 4000000 in
set_option maxRecDepth 100000 in
theorem c_open (l : Launch) (dC : Nat → ClassId) (dI : Nat → Nat → Nat) (sz : Nat) (h0 : Nat) (h2 : Nat) (h0_asked : Nat) (h0_values : Nat) (h0_below : Nat) (h0_ways : Nat) (h0_above : Nat) (h0_shares : Nat) (k0_asked : ClassId) (f0_asked : Nat → Int32) (k0_values : ClassId) (f0_values : Nat → Int32) (k0_below : ClassId) (f0_below : Nat → Int32) (k0_ways : ClassId) (f0_ways : Nat → Int32) (k0_above : ClassId) (f0_above : Nat → Int32) (k0_shares : ClassId) (f0_shares : Nat → Int32) (k2 : ClassId) (f2 : Nat → Int32)   : Met l yX6_open wsX6_open ({ frames := 1, cells := 0, slots := 0, locals := 60 }) (va_Pc [.ref h0, .int 0, .ref h2, .int 0] (pw (dC, dI) [(k0_asked, .int), (k0_values, .int), (k0_below, .int), (k0_ways, .int), (k0_above, .int), (k0_shares, .int), (k2, .int)] [(h0, .inr (6, [.ref h0_asked, .ref h0_values, .ref h0_below, .ref h0_ways, .ref h0_above, .ref h0_shares, .int 0])), (h0_asked, .inl (k0_asked, 511, .inl f0_asked)), (h0_values, .inl (k0_values, 511, .inl f0_values)), (h0_below, .inl (k0_below, 511, .inl f0_below)), (h0_ways, .inl (k0_ways, 511, .inl f0_ways)), (h0_above, .inl (k0_above, 511, .inl f0_above)), (h0_shares, .inl (k0_shares, 2044, .inl f0_shares)), (h2, .inl (k2, 4, .inl f2))] sz)) (va_Qi (fun (r : Int32) (u : vu) => (∃ (f_2 : Nat → Int32) (f_5 : Nat → Int32) (f_8 : Nat → Int32) (f_11 : Nat → Int32) (f_14 : Nat → Int32) (f_17 : Nat → Int32), u = ([(h0, .inr (6, [.ref h0_asked, .ref h0_values, .ref h0_below, .ref h0_ways, .ref h0_above, .ref h0_shares, .int 1])), (h0_asked, .inl (k0_asked, 511, .inl f_2)), (h0_values, .inl (k0_values, 511, .inl f_5)), (h0_below, .inl (k0_below, 511, .inl f_8)), (h0_ways, .inl (k0_ways, 511, .inl f_11)), (h0_above, .inl (k0_above, 511, .inl f_14)), (h0_shares, .inl (k0_shares, 2044, .inl f_17)), (h2, .inl (k2, 4, .inl f2))], []) ∧ f_2 0 = (-1) ∧ f_5 0 = 0 ∧ f_8 0 = (-1) ∧ f_11 0 = 0 ∧ f_14 0 = 0 ∧ r = 0)) (fun u t => qw (dC, dI) u.2 (va_A [(h0, .inr (6, [.ref h0_asked, .ref h0_values, .ref h0_below, .ref h0_ways, .ref h0_above, .ref h0_shares, .int 0])), (h0_asked, .inl (k0_asked, 511, .inl f0_asked)), (h0_values, .inl (k0_values, 511, .inl f0_values)), (h0_below, .inl (k0_below, 511, .inl f0_below)), (h0_ways, .inl (k0_ways, 511, .inl f0_ways)), (h0_above, .inl (k0_above, 511, .inl f0_above)), (h0_shares, .inl (k0_shares, 2044, .inl f0_shares)), (h2, .inl (k2, 4, .inl f2))] sz) u.1 t) (va_A [(h0, .inr (6, [.ref h0_asked, .ref h0_values, .ref h0_below, .ref h0_ways, .ref h0_above, .ref h0_shares, .int 0])), (h0_asked, .inl (k0_asked, 511, .inl f0_asked)), (h0_values, .inl (k0_values, 511, .inl f0_values)), (h0_below, .inl (k0_below, 511, .inl f0_below)), (h0_ways, .inl (k0_ways, 511, .inl f0_ways)), (h0_above, .inl (k0_above, 511, .inl f0_above)), (h0_shares, .inl (k0_shares, 2044, .inl f0_shares)), (h2, .inl (k2, 4, .inl f2))] sz)) 0 0 (va_A [(h0, .inr (6, [.ref h0_asked, .ref h0_values, .ref h0_below, .ref h0_ways, .ref h0_above, .ref h0_shares, .int 0])), (h0_asked, .inl (k0_asked, 511, .inl f0_asked)), (h0_values, .inl (k0_values, 511, .inl f0_values)), (h0_below, .inl (k0_below, 511, .inl f0_below)), (h0_ways, .inl (k0_ways, 511, .inl f0_ways)), (h0_above, .inl (k0_above, 511, .inl f0_above)), (h0_shares, .inl (k0_shares, 2044, .inl f0_shares)), (h2, .inl (k2, 4, .inl f2))] sz) := by
  refine Met.ofW (cc := cX6_open) (maxL := 5) (ret := (some .int)) (by decide) rfl ?_
  intro p e s m args below meth c s₁ B hml hv
  obtain ⟨rfl, hsz, hP, hK, hD0, hN⟩ := hv
  have hx := B.exec
  have hb := B.bytes
  have hr := B.returns
  have hts := atoms_spec (ws := wsX6_open) B.pre
  have hown : s.vm.findClass RX6 = some m.cls := findClass_of_methodNamed B.named
  have hlocks := B.notSynchronized
  have hi6 : ∀ w ∈ u_ws RX6 TX6 7, w ∈ wsX6_open := fun _ h => List.mem_cons_of_mem _ (List.mem_append_right _ h)
  subst hsz
  have hD := hD0.self (sz := s.heap.size)
  generalize hAe : va_A [(h0, .inr (6, [.ref h0_asked, .ref h0_values, .ref h0_below, .ref h0_ways, .ref h0_above, .ref h0_shares, .int 0])), (h0_asked, .inl (k0_asked, 511, .inl f0_asked)), (h0_values, .inl (k0_values, 511, .inl f0_values)), (h0_below, .inl (k0_below, 511, .inl f0_below)), (h0_ways, .inl (k0_ways, 511, .inl f0_ways)), (h0_above, .inl (k0_above, 511, .inl f0_above)), (h0_shares, .inl (k0_shares, 2044, .inl f0_shares)), (h2, .inl (k2, 4, .inl f2))] s.heap.size = A at hD ⊢
  have hA : ∀ q : Nat, s.heap.size ≤ q → A q := fun q h => by rw [← hAe]; exact Or.inr h
  have hS : va_S A s.heap s.heap [] := va_S.rf
  have hl := lv_entry ([.ref h0, .int 0, .ref h2, .int 0]) (n := 5) (Nat.le_of_ble_eq_true rfl)
  rw [lg_entry_eq]
  generalize (lg_sl ([.ref h0, .int 0, .ref h2, .int 0]) ++ List.replicate (5 - (lg_sl ([.ref h0, .int 0, .ref h2, .int 0])).length) Slot.unset).toArray = ls at hl ⊢
  have hl : lv_has ls 5 [(0, .ref h0), (1, .int 0), (2, .ref h2), (3, .int 0)] := hl
  have hP : va_P (dC, dI) vwCl [(h0, .inr (6, [.ref h0_asked, .ref h0_values, .ref h0_below, .ref h0_ways, .ref h0_above, .ref h0_shares, .int 0])), (h0_asked, .inl (k0_asked, 511, .inl f0_asked)), (h0_values, .inl (k0_values, 511, .inl f0_values)), (h0_below, .inl (k0_below, 511, .inl f0_below)), (h0_ways, .inl (k0_ways, 511, .inl f0_ways)), (h0_above, .inl (k0_above, 511, .inl f0_above)), (h0_shares, .inl (k0_shares, 2044, .inl f0_shares)), (h2, .inl (k2, 4, .inl f2))] s.heap := hP
  refine lv_aload_n hx hb dX6_open_0 rfl (lv_at hl 0 rfl) ?_
  refine va_get (D := (dC, dI)) (ci := 6) (v := .int 0) (C := RX6) (T := TX6) (N := 7) hx hb hts hi6 hown hK hP 0 rfl rfl 6 (by decide) (hts (.fieldLink RX6 30 "AskTree$Tree" "size" "I") (by decide +kernel)) (fun _ h9 => h9) rfl dX6_open_1 ?_
  refine lv_sipush (v := 511) hx hb dX6_open_4 (by decide) ?_
  refine lv_icmp_lt (tgt := 12) hx hb dX6_open_7 (by decide) (fun c_1 => ?_) (fun c_1 => ?_)
  rotate_left
  · exact absurd c_1 (by decide)
  refine lv_aload_n hx hb dX6_open_12 rfl (lv_at hl 0 rfl) ?_
  refine va_get (D := (dC, dI)) (ci := 6) (v := .int 0) (C := RX6) (T := TX6) (N := 7) hx hb hts hi6 hown hK hP 0 rfl rfl 6 (by decide) (hts (.fieldLink RX6 30 "AskTree$Tree" "size" "I") (by decide +kernel)) (fun _ h9 => h9) rfl dX6_open_13 ?_
  refine lv_istore (lv' := [(4, .int 0), (0, .ref h0), (1, .int 0), (2, .ref h2), (3, .int 0)]) hx hb dX6_open_16 hl (by decide) rfl (fun ls hl => ?_)
  refine lv_aload_n hx hb dX6_open_18 rfl (lv_at hl 1 rfl) ?_
  refine va_get (D := (dC, dI)) (ci := 6) (v := .ref h0_asked) (C := RX6) (T := TX6) (N := 7) hx hb hts hi6 hown hK hP 0 rfl rfl 0 (by decide) (hts (.fieldLink RX6 9 "AskTree$Tree" "asked" "[I") (by decide +kernel)) (fun _ h9 => h9) rfl dX6_open_19 ?_
  refine lv_iload hx hb dX6_open_22 (lv_at hl 0 rfl) ?_
  refine lv_iconst (v := (-1)) hx hb dX6_open_24 (by decide) ?_
  refine va_iast hx hb hK hP hD hS 1 0 rfl rfl (vi _ _ (by decide)) dX6_open_25 (fun H locs hP hD hS => ?_)
  have hP : va_P (dC, dI) vwCl [(h0, .inr (6, [.ref h0_asked, .ref h0_values, .ref h0_below, .ref h0_ways, .ref h0_above, .ref h0_shares, .int 0])), (h0_asked, .inl (k0_asked, 511, .inl (upd f0_asked (Int32.toNatClampNeg 0) (-1)))), (h0_values, .inl (k0_values, 511, .inl f0_values)), (h0_below, .inl (k0_below, 511, .inl f0_below)), (h0_ways, .inl (k0_ways, 511, .inl f0_ways)), (h0_above, .inl (k0_above, 511, .inl f0_above)), (h0_shares, .inl (k0_shares, 2044, .inl f0_shares)), (h2, .inl (k2, 4, .inl f2))] H := hP
  have hD : va_D A [(h0, .inr (6, [.ref h0_asked, .ref h0_values, .ref h0_below, .ref h0_ways, .ref h0_above, .ref h0_shares, .int 0])), (h0_asked, .inl (k0_asked, 511, .inl (upd f0_asked (Int32.toNatClampNeg 0) (-1)))), (h0_values, .inl (k0_values, 511, .inl f0_values)), (h0_below, .inl (k0_below, 511, .inl f0_below)), (h0_ways, .inl (k0_ways, 511, .inl f0_ways)), (h0_above, .inl (k0_above, 511, .inl f0_above)), (h0_shares, .inl (k0_shares, 2044, .inl f0_shares)), (h2, .inl (k2, 4, .inl f2))] := hD
  generalize hf_3 : upd f0_asked (Int32.toNatClampNeg 0) (-1) = f_2 at hP hD
  have hk_4 : f_2 0 = (-1) := by rw [← hf_3]; exact up_s (by decide)
  clear hf_3
  refine lv_aload_n hx hb dX6_open_26 rfl (lv_at hl 1 rfl) ?_
  refine va_get (D := (dC, dI)) (ci := 6) (v := .ref h0_values) (C := RX6) (T := TX6) (N := 7) hx hb hts hi6 hown hK hP 0 rfl rfl 1 (by decide) (hts (.fieldLink RX6 15 "AskTree$Tree" "values" "[I") (by decide +kernel)) (fun _ h9 => h9) rfl dX6_open_27 ?_
  refine lv_iload hx hb dX6_open_30 (lv_at hl 0 rfl) ?_
  refine lv_iconst (v := 0) hx hb dX6_open_32 (by decide) ?_
  refine va_iast hx hb hK hP hD hS 2 1 rfl rfl (vi _ _ (by decide)) dX6_open_33 (fun H locs hP hD hS => ?_)
  have hP : va_P (dC, dI) vwCl [(h0, .inr (6, [.ref h0_asked, .ref h0_values, .ref h0_below, .ref h0_ways, .ref h0_above, .ref h0_shares, .int 0])), (h0_asked, .inl (k0_asked, 511, .inl f_2)), (h0_values, .inl (k0_values, 511, .inl (upd f0_values (Int32.toNatClampNeg 0) 0))), (h0_below, .inl (k0_below, 511, .inl f0_below)), (h0_ways, .inl (k0_ways, 511, .inl f0_ways)), (h0_above, .inl (k0_above, 511, .inl f0_above)), (h0_shares, .inl (k0_shares, 2044, .inl f0_shares)), (h2, .inl (k2, 4, .inl f2))] H := hP
  have hD : va_D A [(h0, .inr (6, [.ref h0_asked, .ref h0_values, .ref h0_below, .ref h0_ways, .ref h0_above, .ref h0_shares, .int 0])), (h0_asked, .inl (k0_asked, 511, .inl f_2)), (h0_values, .inl (k0_values, 511, .inl (upd f0_values (Int32.toNatClampNeg 0) 0))), (h0_below, .inl (k0_below, 511, .inl f0_below)), (h0_ways, .inl (k0_ways, 511, .inl f0_ways)), (h0_above, .inl (k0_above, 511, .inl f0_above)), (h0_shares, .inl (k0_shares, 2044, .inl f0_shares)), (h2, .inl (k2, 4, .inl f2))] := hD
  generalize hf_6 : upd f0_values (Int32.toNatClampNeg 0) 0 = f_5 at hP hD
  have hk_7 : f_5 0 = 0 := by rw [← hf_6]; exact up_s (by decide)
  clear hf_6
  refine lv_aload_n hx hb dX6_open_34 rfl (lv_at hl 1 rfl) ?_
  refine va_get (D := (dC, dI)) (ci := 6) (v := .ref h0_below) (C := RX6) (T := TX6) (N := 7) hx hb hts hi6 hown hK hP 0 rfl rfl 2 (by decide) (hts (.fieldLink RX6 18 "AskTree$Tree" "below" "[I") (by decide +kernel)) (fun _ h9 => h9) rfl dX6_open_35 ?_
  refine lv_iload hx hb dX6_open_38 (lv_at hl 0 rfl) ?_
  refine lv_iconst (v := (-1)) hx hb dX6_open_40 (by decide) ?_
  refine va_iast hx hb hK hP hD hS 3 2 rfl rfl (vi _ _ (by decide)) dX6_open_41 (fun H locs hP hD hS => ?_)
  have hP : va_P (dC, dI) vwCl [(h0, .inr (6, [.ref h0_asked, .ref h0_values, .ref h0_below, .ref h0_ways, .ref h0_above, .ref h0_shares, .int 0])), (h0_asked, .inl (k0_asked, 511, .inl f_2)), (h0_values, .inl (k0_values, 511, .inl f_5)), (h0_below, .inl (k0_below, 511, .inl (upd f0_below (Int32.toNatClampNeg 0) (-1)))), (h0_ways, .inl (k0_ways, 511, .inl f0_ways)), (h0_above, .inl (k0_above, 511, .inl f0_above)), (h0_shares, .inl (k0_shares, 2044, .inl f0_shares)), (h2, .inl (k2, 4, .inl f2))] H := hP
  have hD : va_D A [(h0, .inr (6, [.ref h0_asked, .ref h0_values, .ref h0_below, .ref h0_ways, .ref h0_above, .ref h0_shares, .int 0])), (h0_asked, .inl (k0_asked, 511, .inl f_2)), (h0_values, .inl (k0_values, 511, .inl f_5)), (h0_below, .inl (k0_below, 511, .inl (upd f0_below (Int32.toNatClampNeg 0) (-1)))), (h0_ways, .inl (k0_ways, 511, .inl f0_ways)), (h0_above, .inl (k0_above, 511, .inl f0_above)), (h0_shares, .inl (k0_shares, 2044, .inl f0_shares)), (h2, .inl (k2, 4, .inl f2))] := hD
  generalize hf_9 : upd f0_below (Int32.toNatClampNeg 0) (-1) = f_8 at hP hD
  have hk_10 : f_8 0 = (-1) := by rw [← hf_9]; exact up_s (by decide)
  clear hf_9
  refine lv_aload_n hx hb dX6_open_42 rfl (lv_at hl 1 rfl) ?_
  refine va_get (D := (dC, dI)) (ci := 6) (v := .ref h0_ways) (C := RX6) (T := TX6) (N := 7) hx hb hts hi6 hown hK hP 0 rfl rfl 3 (by decide) (hts (.fieldLink RX6 21 "AskTree$Tree" "ways" "[I") (by decide +kernel)) (fun _ h9 => h9) rfl dX6_open_43 ?_
  refine lv_iload hx hb dX6_open_46 (lv_at hl 0 rfl) ?_
  refine lv_iconst (v := 0) hx hb dX6_open_48 (by decide) ?_
  refine va_iast hx hb hK hP hD hS 4 3 rfl rfl (vi _ _ (by decide)) dX6_open_49 (fun H locs hP hD hS => ?_)
  have hP : va_P (dC, dI) vwCl [(h0, .inr (6, [.ref h0_asked, .ref h0_values, .ref h0_below, .ref h0_ways, .ref h0_above, .ref h0_shares, .int 0])), (h0_asked, .inl (k0_asked, 511, .inl f_2)), (h0_values, .inl (k0_values, 511, .inl f_5)), (h0_below, .inl (k0_below, 511, .inl f_8)), (h0_ways, .inl (k0_ways, 511, .inl (upd f0_ways (Int32.toNatClampNeg 0) 0))), (h0_above, .inl (k0_above, 511, .inl f0_above)), (h0_shares, .inl (k0_shares, 2044, .inl f0_shares)), (h2, .inl (k2, 4, .inl f2))] H := hP
  have hD : va_D A [(h0, .inr (6, [.ref h0_asked, .ref h0_values, .ref h0_below, .ref h0_ways, .ref h0_above, .ref h0_shares, .int 0])), (h0_asked, .inl (k0_asked, 511, .inl f_2)), (h0_values, .inl (k0_values, 511, .inl f_5)), (h0_below, .inl (k0_below, 511, .inl f_8)), (h0_ways, .inl (k0_ways, 511, .inl (upd f0_ways (Int32.toNatClampNeg 0) 0))), (h0_above, .inl (k0_above, 511, .inl f0_above)), (h0_shares, .inl (k0_shares, 2044, .inl f0_shares)), (h2, .inl (k2, 4, .inl f2))] := hD
  generalize hf_12 : upd f0_ways (Int32.toNatClampNeg 0) 0 = f_11 at hP hD
  have hk_13 : f_11 0 = 0 := by rw [← hf_12]; exact up_s (by decide)
  clear hf_12
  refine lv_aload_n hx hb dX6_open_50 rfl (lv_at hl 1 rfl) ?_
  refine va_get (D := (dC, dI)) (ci := 6) (v := .ref h0_above) (C := RX6) (T := TX6) (N := 7) hx hb hts hi6 hown hK hP 0 rfl rfl 4 (by decide) (hts (.fieldLink RX6 24 "AskTree$Tree" "above" "[I") (by decide +kernel)) (fun _ h9 => h9) rfl dX6_open_51 ?_
  refine lv_iload hx hb dX6_open_54 (lv_at hl 0 rfl) ?_
  refine lv_iload_n hx hb dX6_open_56 rfl (lv_at hl 2 rfl) ?_
  refine va_iast hx hb hK hP hD hS 5 4 rfl rfl (vi _ _ (by decide)) dX6_open_57 (fun H locs hP hD hS => ?_)
  have hP : va_P (dC, dI) vwCl [(h0, .inr (6, [.ref h0_asked, .ref h0_values, .ref h0_below, .ref h0_ways, .ref h0_above, .ref h0_shares, .int 0])), (h0_asked, .inl (k0_asked, 511, .inl f_2)), (h0_values, .inl (k0_values, 511, .inl f_5)), (h0_below, .inl (k0_below, 511, .inl f_8)), (h0_ways, .inl (k0_ways, 511, .inl f_11)), (h0_above, .inl (k0_above, 511, .inl (upd f0_above (Int32.toNatClampNeg 0) 0))), (h0_shares, .inl (k0_shares, 2044, .inl f0_shares)), (h2, .inl (k2, 4, .inl f2))] H := hP
  have hD : va_D A [(h0, .inr (6, [.ref h0_asked, .ref h0_values, .ref h0_below, .ref h0_ways, .ref h0_above, .ref h0_shares, .int 0])), (h0_asked, .inl (k0_asked, 511, .inl f_2)), (h0_values, .inl (k0_values, 511, .inl f_5)), (h0_below, .inl (k0_below, 511, .inl f_8)), (h0_ways, .inl (k0_ways, 511, .inl f_11)), (h0_above, .inl (k0_above, 511, .inl (upd f0_above (Int32.toNatClampNeg 0) 0))), (h0_shares, .inl (k0_shares, 2044, .inl f0_shares)), (h2, .inl (k2, 4, .inl f2))] := hD
  generalize hf_15 : upd f0_above (Int32.toNatClampNeg 0) 0 = f_14 at hP hD
  have hk_16 : f_14 0 = 0 := by rw [← hf_15]; exact up_s (by decide)
  clear hf_15
  refine lv_aload_n hx hb dX6_open_58 rfl (lv_at hl 3 rfl) ?_
  refine lv_iload_n hx hb dX6_open_59 rfl (lv_at hl 4 rfl) ?_
  refine lv_aload_n hx hb dX6_open_60 rfl (lv_at hl 1 rfl) ?_
  refine va_get (D := (dC, dI)) (ci := 6) (v := .ref h0_shares) (C := RX6) (T := TX6) (N := 7) hx hb hts hi6 hown hK hP 0 rfl rfl 5 (by decide) (hts (.fieldLink RX6 27 "AskTree$Tree" "shares" "[I") (by decide +kernel)) (fun _ h9 => h9) rfl dX6_open_61 ?_
  refine lv_iload hx hb dX6_open_64 (lv_at hl 0 rfl) ?_
  refine lv_iconst (v := 4) hx hb dX6_open_66 (by decide) ?_
  refine lv_imul hx hb dX6_open_67 ?_
  refine tvv (v := .int 0) (congrArg Value.int (by decide)) ?_
  refine lv_iconst (v := 4) hx hb dX6_open_68 (by decide) ?_
  refine va_copyi (ty := .int) hx hb (by rw [hml]; exact hl.1.symm) hown (hts (.methodLink RX6 41 arraycopyName) (by decide +kernel)) (hts (.native arraycopyName) (by decide +kernel)) (hts (.static arraycopyName) (by decide +kernel)) (hts (.initialized "java/lang/System") (by decide +kernel)) hK hP hD hS 7 6 6 5 rfl rfl rfl rfl rfl (by decide) (by decide) (by decide) (by decide) (by decide) (fun _ _ => rfl) (Nat.le_of_ble_eq_true rfl) (Nat.le_of_ble_eq_true rfl) dX6_open_69 (fun H locs hP hD hS => ?_)
  have hP : va_P (dC, dI) vwCl [(h0, .inr (6, [.ref h0_asked, .ref h0_values, .ref h0_below, .ref h0_ways, .ref h0_above, .ref h0_shares, .int 0])), (h0_asked, .inl (k0_asked, 511, .inl f_2)), (h0_values, .inl (k0_values, 511, .inl f_5)), (h0_below, .inl (k0_below, 511, .inl f_8)), (h0_ways, .inl (k0_ways, 511, .inl f_11)), (h0_above, .inl (k0_above, 511, .inl f_14)), (h0_shares, .inl (k0_shares, 2044, .inl (va_cpy f2 f0_shares (Int32.toNatClampNeg 0) (Int32.toNatClampNeg 0) (Int32.toNatClampNeg 4)))), (h2, .inl (k2, 4, .inl f2))] H := hP
  have hD : va_D A [(h0, .inr (6, [.ref h0_asked, .ref h0_values, .ref h0_below, .ref h0_ways, .ref h0_above, .ref h0_shares, .int 0])), (h0_asked, .inl (k0_asked, 511, .inl f_2)), (h0_values, .inl (k0_values, 511, .inl f_5)), (h0_below, .inl (k0_below, 511, .inl f_8)), (h0_ways, .inl (k0_ways, 511, .inl f_11)), (h0_above, .inl (k0_above, 511, .inl f_14)), (h0_shares, .inl (k0_shares, 2044, .inl (va_cpy f2 f0_shares (Int32.toNatClampNeg 0) (Int32.toNatClampNeg 0) (Int32.toNatClampNeg 4)))), (h2, .inl (k2, 4, .inl f2))] := hD
  generalize va_cpy f2 f0_shares (Int32.toNatClampNeg 0) (Int32.toNatClampNeg 0) (Int32.toNatClampNeg 4) = f_17 at hP hD
  refine lv_aload_n hx hb dX6_open_72 rfl (lv_at hl 1 rfl) ?_
  refine lv_dup hx hb dX6_open_73 rfl ?_
  refine va_get (D := (dC, dI)) (ci := 6) (v := .int 0) (C := RX6) (T := TX6) (N := 7) hx hb hts hi6 hown hK hP 0 rfl rfl 6 (by decide) (hts (.fieldLink RX6 30 "AskTree$Tree" "size" "I") (by decide +kernel)) (fun _ h9 => h9) rfl dX6_open_74 ?_
  refine lv_iconst (v := 1) hx hb dX6_open_77 (by decide) ?_
  refine lv_iadd hx hb dX6_open_78 ?_
  refine tvv (v := .int 1) (congrArg Value.int (by decide)) ?_
  refine va_put (D := (dC, dI)) (ci := 6) (v := .int 1) (ty := .int) (C := RX6) (T := TX6) (N := 7) hx hb hts hi6 tyX6 tyX6_ok nmX6 hown hK hP hD hS 0 rfl rfl 6 (by decide) (hts (.fieldLink RX6 30 "AskTree$Tree" "size" "I") (by decide +kernel)) (fun _ h9 => h9) rfl (by decide +kernel) rfl rfl (Nat.le_of_ble_eq_true rfl) dX6_open_79 (fun H locs hP hD hS => ?_)
  have hP : va_P (dC, dI) vwCl [(h0, .inr (6, [.ref h0_asked, .ref h0_values, .ref h0_below, .ref h0_ways, .ref h0_above, .ref h0_shares, .int 1])), (h0_asked, .inl (k0_asked, 511, .inl f_2)), (h0_values, .inl (k0_values, 511, .inl f_5)), (h0_below, .inl (k0_below, 511, .inl f_8)), (h0_ways, .inl (k0_ways, 511, .inl f_11)), (h0_above, .inl (k0_above, 511, .inl f_14)), (h0_shares, .inl (k0_shares, 2044, .inl f_17)), (h2, .inl (k2, 4, .inl f2))] H := hP
  have hD : va_D A [(h0, .inr (6, [.ref h0_asked, .ref h0_values, .ref h0_below, .ref h0_ways, .ref h0_above, .ref h0_shares, .int 1])), (h0_asked, .inl (k0_asked, 511, .inl f_2)), (h0_values, .inl (k0_values, 511, .inl f_5)), (h0_below, .inl (k0_below, 511, .inl f_8)), (h0_ways, .inl (k0_ways, 511, .inl f_11)), (h0_above, .inl (k0_above, 511, .inl f_14)), (h0_shares, .inl (k0_shares, 2044, .inl f_17)), (h2, .inl (k2, 4, .inl f2))] := hD
  refine lv_iload hx hb dX6_open_82 (lv_at hl 0 rfl) ?_
  have hP9 := hP.sub (ws' := [(h0, .inr (6, [.ref h0_asked, .ref h0_values, .ref h0_below, .ref h0_ways, .ref h0_above, .ref h0_shares, .int 1])), (h0_asked, .inl (k0_asked, 511, .inl f_2)), (h0_values, .inl (k0_values, 511, .inl f_5)), (h0_below, .inl (k0_below, 511, .inl f_8)), (h0_ways, .inl (k0_ways, 511, .inl f_11)), (h0_above, .inl (k0_above, 511, .inl f_14)), (h0_shares, .inl (k0_shares, 2044, .inl f_17)), (h2, .inl (k2, 4, .inl f2))]) [0, 1, 2, 3, 4, 5, 6, 7] rfl
  have hD9 := hD.sub (ws' := [(h0, .inr (6, [.ref h0_asked, .ref h0_values, .ref h0_below, .ref h0_ways, .ref h0_above, .ref h0_shares, .int 1])), (h0_asked, .inl (k0_asked, 511, .inl f_2)), (h0_values, .inl (k0_values, 511, .inl f_5)), (h0_below, .inl (k0_below, 511, .inl f_8)), (h0_ways, .inl (k0_ways, 511, .inl f_11)), (h0_above, .inl (k0_above, 511, .inl f_14)), (h0_shares, .inl (k0_shares, 2044, .inl f_17)), (h2, .inl (k2, 4, .inl f2))]) [0, 1, 2, 3, 4, 5, 6, 7] (by decide) rfl
  have hK9 := hK.sub (tys' := []) [] rfl
  exact W.iret (v := 0) hx hb hr (fun t ht hW => ⟨⟨0, ([(h0, .inr (6, [.ref h0_asked, .ref h0_values, .ref h0_below, .ref h0_ways, .ref h0_above, .ref h0_shares, .int 1])), (h0_asked, .inl (k0_asked, 511, .inl f_2)), (h0_values, .inl (k0_values, 511, .inl f_5)), (h0_below, .inl (k0_below, 511, .inl f_8)), (h0_ways, .inl (k0_ways, 511, .inl f_11)), (h0_above, .inl (k0_above, 511, .inl f_14)), (h0_shares, .inl (k0_shares, 2044, .inl f_17)), (h2, .inl (k2, 4, .inl f2))], []), rfl, ⟨f_2, f_5, f_8, f_11, f_14, f_17, rfl, hk_4, hk_7, hk_10, hk_13, hk_16, rfl⟩, (by rw [ht]; exact hP9), va_K.moved hW.alike hK9, hD9⟩, hS.F ht⟩) hS.2.2 dX6_open_84

set_option maxHeartbeats 4000000 in
set_option maxRecDepth 100000 in
theorem c_branch (l : Launch) (dC : Nat → ClassId) (dI : Nat → Nat → Nat) (sz : Nat) (h0 : Nat) (h1 : Nat) (h0_rows : Nat) (h0_all : Nat) (h1_asked : Nat) (h1_values : Nat) (h1_below : Nat) (h1_ways : Nat) (h1_above : Nat) (h1_shares : Nat) (a0_cases : Nat) (a0_gaps : Nat) (a0_yes : Nat) (v0_depth : Int32) (v0_least : Int32) (a0_rows_row : Nat) (a0_rows_sides : Nat) (a0_rows_kept : Nat) (a0_rows_cases : Nat) (k0_all : ClassId) (f0_all : Nat → Int32) (k1_asked : ClassId) (f1_asked : Nat → Int32) (k1_values : ClassId) (f1_values : Nat → Int32) (k1_below : ClassId) (f1_below : Nat → Int32) (k1_ways : ClassId) (f1_ways : Nat → Int32) (k1_above : ClassId) (f1_above : Nat → Int32) (k1_shares : ClassId) (f1_shares : Nat → Int32)   : Met l yX2_branch wsX2_branch ({ frames := 3, cells := 0, slots := 0, locals := 105 }) (va_Pc [.ref h0, .ref h1, .int 0, .int 0, .int 0] (pw (dC, dI) [(k0_all, .int), (k1_asked, .int), (k1_values, .int), (k1_below, .int), (k1_ways, .int), (k1_above, .int), (k1_shares, .int)] [(h0, .inr (2, [.ref a0_cases, .ref h0_rows, .ref h0_all, .ref a0_gaps, .ref a0_yes, .int v0_depth, .int v0_least, .int 0, .int 0, .int 0, .long 0, .long 0])), (h0_rows, .inr (4, [.ref a0_rows_row, .ref a0_rows_sides, .ref a0_rows_kept, .ref a0_rows_cases, .int 0])), (h0_all, .inl (k0_all, 4, .inl f0_all)), (h1, .inr (6, [.ref h1_asked, .ref h1_values, .ref h1_below, .ref h1_ways, .ref h1_above, .ref h1_shares, .int 0])), (h1_asked, .inl (k1_asked, 511, .inl f1_asked)), (h1_values, .inl (k1_values, 511, .inl f1_values)), (h1_below, .inl (k1_below, 511, .inl f1_below)), (h1_ways, .inl (k1_ways, 511, .inl f1_ways)), (h1_above, .inl (k1_above, 511, .inl f1_above)), (h1_shares, .inl (k1_shares, 2044, .inl f1_shares))] sz)) (va_Qi (fun (r : Int32) (u : vu) => (∃ (f_2 : Nat → Int32) (f_8 : Nat → Int32) (f_9 : Nat → Int32) (f_10 : Nat → Int32) (f_11 : Nat → Int32) (f_12 : Nat → Int32) (f_13 : Nat → Int32), u = ([(h0, .inr (2, [.ref a0_cases, .ref h0_rows, .ref h0_all, .ref a0_gaps, .ref a0_yes, .int v0_depth, .int v0_least, .int 0, .int 0, .int 0, .long 0, .long 0])), (h0_rows, .inr (4, [.ref a0_rows_row, .ref a0_rows_sides, .ref a0_rows_kept, .ref a0_rows_cases, .int 0])), (h0_all, .inl (k0_all, 4, .inl f_2)), (h1, .inr (6, [.ref h1_asked, .ref h1_values, .ref h1_below, .ref h1_ways, .ref h1_above, .ref h1_shares, .int 1])), (h1_asked, .inl (k1_asked, 511, .inl f_8)), (h1_values, .inl (k1_values, 511, .inl f_9)), (h1_below, .inl (k1_below, 511, .inl f_10)), (h1_ways, .inl (k1_ways, 511, .inl f_11)), (h1_above, .inl (k1_above, 511, .inl f_12)), (h1_shares, .inl (k1_shares, 2044, .inl f_13))], []) ∧ f_2 0 = 0 ∧ f_2 1 = 0 ∧ f_2 2 = 0 ∧ f_2 3 = 0 ∧ f_8 0 = (-1) ∧ f_9 0 = 0 ∧ f_10 0 = (-1) ∧ f_11 0 = 0 ∧ f_12 0 = 0 ∧ r = 0)) (fun u t => qw (dC, dI) u.2 (va_A [(h0, .inr (2, [.ref a0_cases, .ref h0_rows, .ref h0_all, .ref a0_gaps, .ref a0_yes, .int v0_depth, .int v0_least, .int 0, .int 0, .int 0, .long 0, .long 0])), (h0_rows, .inr (4, [.ref a0_rows_row, .ref a0_rows_sides, .ref a0_rows_kept, .ref a0_rows_cases, .int 0])), (h0_all, .inl (k0_all, 4, .inl f0_all)), (h1, .inr (6, [.ref h1_asked, .ref h1_values, .ref h1_below, .ref h1_ways, .ref h1_above, .ref h1_shares, .int 0])), (h1_asked, .inl (k1_asked, 511, .inl f1_asked)), (h1_values, .inl (k1_values, 511, .inl f1_values)), (h1_below, .inl (k1_below, 511, .inl f1_below)), (h1_ways, .inl (k1_ways, 511, .inl f1_ways)), (h1_above, .inl (k1_above, 511, .inl f1_above)), (h1_shares, .inl (k1_shares, 2044, .inl f1_shares))] sz) u.1 t) (va_A [(h0, .inr (2, [.ref a0_cases, .ref h0_rows, .ref h0_all, .ref a0_gaps, .ref a0_yes, .int v0_depth, .int v0_least, .int 0, .int 0, .int 0, .long 0, .long 0])), (h0_rows, .inr (4, [.ref a0_rows_row, .ref a0_rows_sides, .ref a0_rows_kept, .ref a0_rows_cases, .int 0])), (h0_all, .inl (k0_all, 4, .inl f0_all)), (h1, .inr (6, [.ref h1_asked, .ref h1_values, .ref h1_below, .ref h1_ways, .ref h1_above, .ref h1_shares, .int 0])), (h1_asked, .inl (k1_asked, 511, .inl f1_asked)), (h1_values, .inl (k1_values, 511, .inl f1_values)), (h1_below, .inl (k1_below, 511, .inl f1_below)), (h1_ways, .inl (k1_ways, 511, .inl f1_ways)), (h1_above, .inl (k1_above, 511, .inl f1_above)), (h1_shares, .inl (k1_shares, 2044, .inl f1_shares))] sz)) 0 0 (va_A [(h0, .inr (2, [.ref a0_cases, .ref h0_rows, .ref h0_all, .ref a0_gaps, .ref a0_yes, .int v0_depth, .int v0_least, .int 0, .int 0, .int 0, .long 0, .long 0])), (h0_rows, .inr (4, [.ref a0_rows_row, .ref a0_rows_sides, .ref a0_rows_kept, .ref a0_rows_cases, .int 0])), (h0_all, .inl (k0_all, 4, .inl f0_all)), (h1, .inr (6, [.ref h1_asked, .ref h1_values, .ref h1_below, .ref h1_ways, .ref h1_above, .ref h1_shares, .int 0])), (h1_asked, .inl (k1_asked, 511, .inl f1_asked)), (h1_values, .inl (k1_values, 511, .inl f1_values)), (h1_below, .inl (k1_below, 511, .inl f1_below)), (h1_ways, .inl (k1_ways, 511, .inl f1_ways)), (h1_above, .inl (k1_above, 511, .inl f1_above)), (h1_shares, .inl (k1_shares, 2044, .inl f1_shares))] sz) := by
  refine Met.ofW (cc := cX2_branch) (maxL := 7) (ret := (some .int)) (by decide) rfl ?_
  intro p e s m args below meth c s₁ B hml hv
  obtain ⟨rfl, hsz, hP, hK, hD0, hN⟩ := hv
  have hx := B.exec
  have hb := B.bytes
  have hr := B.returns
  have hts := atoms_spec (ws := wsX2_branch) B.pre
  have hown : s.vm.findClass RX2 = some m.cls := findClass_of_methodNamed B.named
  have hlocks := B.notSynchronized
  have hi2 : ∀ w ∈ u_ws RX2 TX2 12, w ∈ wsX2_branch := fun _ h => List.mem_cons_of_mem _ (List.mem_append_left _ (List.mem_append_left _ (List.mem_append_left _ (List.mem_append_right _ h))))
  have hi6 : ∀ w ∈ u_ws RX6 TX6 7, w ∈ wsX2_branch := fun _ h => List.mem_cons_of_mem _ (List.mem_append_left _ (List.mem_append_left _ (List.mem_append_right _ h)))
  have hi4 : ∀ w ∈ u_ws RX4 TX4 5, w ∈ wsX2_branch := fun _ h => List.mem_cons_of_mem _ (List.mem_append_left _ (List.mem_append_right _ h))
  have hi0 : ∀ w ∈ u_ws RX0 TX0 5, w ∈ wsX2_branch := fun _ h => List.mem_cons_of_mem _ (List.mem_append_right _ h)
  subst hsz
  have hD := hD0.self (sz := s.heap.size)
  generalize hAe : va_A [(h0, .inr (2, [.ref a0_cases, .ref h0_rows, .ref h0_all, .ref a0_gaps, .ref a0_yes, .int v0_depth, .int v0_least, .int 0, .int 0, .int 0, .long 0, .long 0])), (h0_rows, .inr (4, [.ref a0_rows_row, .ref a0_rows_sides, .ref a0_rows_kept, .ref a0_rows_cases, .int 0])), (h0_all, .inl (k0_all, 4, .inl f0_all)), (h1, .inr (6, [.ref h1_asked, .ref h1_values, .ref h1_below, .ref h1_ways, .ref h1_above, .ref h1_shares, .int 0])), (h1_asked, .inl (k1_asked, 511, .inl f1_asked)), (h1_values, .inl (k1_values, 511, .inl f1_values)), (h1_below, .inl (k1_below, 511, .inl f1_below)), (h1_ways, .inl (k1_ways, 511, .inl f1_ways)), (h1_above, .inl (k1_above, 511, .inl f1_above)), (h1_shares, .inl (k1_shares, 2044, .inl f1_shares))] s.heap.size = A at hD ⊢
  have hA : ∀ q : Nat, s.heap.size ≤ q → A q := fun q h => by rw [← hAe]; exact Or.inr h
  have hS : va_S A s.heap s.heap [] := va_S.rf
  have hl := lv_entry ([.ref h0, .ref h1, .int 0, .int 0, .int 0]) (n := 7) (Nat.le_of_ble_eq_true rfl)
  rw [lg_entry_eq]
  generalize (lg_sl ([.ref h0, .ref h1, .int 0, .int 0, .int 0]) ++ List.replicate (7 - (lg_sl ([.ref h0, .ref h1, .int 0, .int 0, .int 0])).length) Slot.unset).toArray = ls at hl ⊢
  have hl : lv_has ls 7 [(0, .ref h0), (1, .ref h1), (2, .int 0), (3, .int 0), (4, .int 0)] := hl
  have hP : va_P (dC, dI) vwCl [(h0, .inr (2, [.ref a0_cases, .ref h0_rows, .ref h0_all, .ref a0_gaps, .ref a0_yes, .int v0_depth, .int v0_least, .int 0, .int 0, .int 0, .long 0, .long 0])), (h0_rows, .inr (4, [.ref a0_rows_row, .ref a0_rows_sides, .ref a0_rows_kept, .ref a0_rows_cases, .int 0])), (h0_all, .inl (k0_all, 4, .inl f0_all)), (h1, .inr (6, [.ref h1_asked, .ref h1_values, .ref h1_below, .ref h1_ways, .ref h1_above, .ref h1_shares, .int 0])), (h1_asked, .inl (k1_asked, 511, .inl f1_asked)), (h1_values, .inl (k1_values, 511, .inl f1_values)), (h1_below, .inl (k1_below, 511, .inl f1_below)), (h1_ways, .inl (k1_ways, 511, .inl f1_ways)), (h1_above, .inl (k1_above, 511, .inl f1_above)), (h1_shares, .inl (k1_shares, 2044, .inl f1_shares))] s.heap := hP
  refine lv_aload_n hx hb dX2_branch_0 rfl (lv_at hl 0 rfl) ?_
  refine va_get (D := (dC, dI)) (ci := 2) (v := .ref h0_rows) (C := RX2) (T := TX2) (N := 12) hx hb hts hi2 hown hK hP 0 rfl rfl 1 (by decide) (hts (.fieldLink RX2 25 "AskTree$Grower" "rows" "LAskTree$Rows;") (by decide +kernel)) (fun _ h9 => h9) rfl dX2_branch_1 ?_
  refine lv_iload_n hx hb dX2_branch_4 rfl (lv_at hl 2 rfl) ?_
  refine lv_iload_n hx hb dX2_branch_5 rfl (lv_at hl 3 rfl) ?_
  refine lv_aload_n hx hb dX2_branch_6 rfl (lv_at hl 0 rfl) ?_
  refine va_get (D := (dC, dI)) (ci := 2) (v := .ref h0_all) (C := RX2) (T := TX2) (N := 12) hx hb hts hi2 hown hK hP 0 rfl rfl 2 (by decide) (hts (.fieldLink RX2 9 "AskTree$Grower" "all" "[I") (by decide +kernel)) (fun _ h9 => h9) rfl dX2_branch_7 ?_
  have hPc := hP.sub (ws' := [(h0_rows, .inr (4, [.ref a0_rows_row, .ref a0_rows_sides, .ref a0_rows_kept, .ref a0_rows_cases, .int 0])), (h0_all, .inl (k0_all, 4, .inl f0_all))]) [1, 2] rfl
  have hDc := hD.sub (ws' := [(h0_rows, .inr (4, [.ref a0_rows_row, .ref a0_rows_sides, .ref a0_rows_kept, .ref a0_rows_cases, .int 0])), (h0_all, .inl (k0_all, 4, .inl f0_all))]) [1, 2] (by decide) rfl
  have hKc := hK.sub (tys' := [(k0_all, .int)]) [0] rfl
  have hFc := va_free (wc := [(h0_rows, .inr (4, [.ref a0_rows_row, .ref a0_rows_sides, .ref a0_rows_kept, .ref a0_rows_cases, .int 0])), (h0_all, .inl (k0_all, 4, .inl f0_all))]) hD hS hA [1, 2] rfl
  refine va_callv (va_runV (As := [.int 0, .int 0, .ref h0_all]) (rest := []) ⟨hx, hb, hml, hown, hts⟩ (c_tally l dC dI s.heap.size h0_rows h0_all a0_rows_row a0_rows_sides a0_rows_kept a0_rows_cases k0_all f0_all ) (cwV 3 hts gX2_branch_X4_tally rfl rfl rfl (by decide +kernel) ⟨Nat.le_of_ble_eq_true rfl, Nat.le_of_ble_eq_true rfl⟩) (pre_V hPc hKc hDc hN (ci := 4) (q0 := 0) rfl rfl) rfl rfl hl.1 rfl (lv_room (Nat.le_of_ble_eq_true rfl)) dX2_branch_10 ⟨Nat.le_of_ble_eq_true rfl, Nat.le_of_ble_eq_true rfl⟩) hS (fun q _ h => hFc q h) hFc (fun u t H1 locs ht hvm hw hB hz1 hk1 hS => ?_)
  clear hPc hDc hKc
  obtain ⟨f_2, rfl, hk_3, hk_4, hk_5, hk_6⟩ := hw
  obtain ⟨hP1, hK1, hD1⟩ := hB
  rw [ht] at hP1
  obtain ⟨hP, hD⟩ := va_join (wr := [(h0, .inr (2, [.ref a0_cases, .ref h0_rows, .ref h0_all, .ref a0_gaps, .ref a0_yes, .int v0_depth, .int v0_least, .int 0, .int 0, .int 0, .long 0, .long 0])), (h1, .inr (6, [.ref h1_asked, .ref h1_values, .ref h1_below, .ref h1_ways, .ref h1_above, .ref h1_shares, .int 0])), (h1_asked, .inl (k1_asked, 511, .inl f1_asked)), (h1_values, .inl (k1_values, 511, .inl f1_values)), (h1_below, .inl (k1_below, 511, .inl f1_below)), (h1_ways, .inl (k1_ways, 511, .inl f1_ways)), (h1_above, .inl (k1_above, 511, .inl f1_above)), (h1_shares, .inl (k1_shares, 2044, .inl f1_shares))]) (w1 := [(h0_rows, .inr (4, [.ref a0_rows_row, .ref a0_rows_sides, .ref a0_rows_kept, .ref a0_rows_cases, .int 0])), (h0_all, .inl (k0_all, 4, .inl f_2))]) hP hD [1, 2] [0, 3, 4, 5, 6, 7, 8, 9] rfl rfl (by decide) (by decide) hk1 hFc hP1 hD1
  generalize H1 = H at hP hS ⊢
  clear hP1 hD1 hFc hk1 hz1 ht hvm hK1
  have hP : va_P (dC, dI) vwCl [(h0, .inr (2, [.ref a0_cases, .ref h0_rows, .ref h0_all, .ref a0_gaps, .ref a0_yes, .int v0_depth, .int v0_least, .int 0, .int 0, .int 0, .long 0, .long 0])), (h1, .inr (6, [.ref h1_asked, .ref h1_values, .ref h1_below, .ref h1_ways, .ref h1_above, .ref h1_shares, .int 0])), (h1_asked, .inl (k1_asked, 511, .inl f1_asked)), (h1_values, .inl (k1_values, 511, .inl f1_values)), (h1_below, .inl (k1_below, 511, .inl f1_below)), (h1_ways, .inl (k1_ways, 511, .inl f1_ways)), (h1_above, .inl (k1_above, 511, .inl f1_above)), (h1_shares, .inl (k1_shares, 2044, .inl f1_shares)), (h0_rows, .inr (4, [.ref a0_rows_row, .ref a0_rows_sides, .ref a0_rows_kept, .ref a0_rows_cases, .int 0])), (h0_all, .inl (k0_all, 4, .inl f_2))] H := hP
  have hD : va_D A [(h0, .inr (2, [.ref a0_cases, .ref h0_rows, .ref h0_all, .ref a0_gaps, .ref a0_yes, .int v0_depth, .int v0_least, .int 0, .int 0, .int 0, .long 0, .long 0])), (h1, .inr (6, [.ref h1_asked, .ref h1_values, .ref h1_below, .ref h1_ways, .ref h1_above, .ref h1_shares, .int 0])), (h1_asked, .inl (k1_asked, 511, .inl f1_asked)), (h1_values, .inl (k1_values, 511, .inl f1_values)), (h1_below, .inl (k1_below, 511, .inl f1_below)), (h1_ways, .inl (k1_ways, 511, .inl f1_ways)), (h1_above, .inl (k1_above, 511, .inl f1_above)), (h1_shares, .inl (k1_shares, 2044, .inl f1_shares)), (h0_rows, .inr (4, [.ref a0_rows_row, .ref a0_rows_sides, .ref a0_rows_kept, .ref a0_rows_cases, .int 0])), (h0_all, .inl (k0_all, 4, .inl f_2))] := hD
  refine lv_aload_n hx hb dX2_branch_13 rfl (lv_at hl 1 rfl) ?_
  refine lv_iload hx hb dX2_branch_14 (lv_at hl 4 rfl) ?_
  refine lv_aload_n hx hb dX2_branch_16 rfl (lv_at hl 0 rfl) ?_
  refine va_get (D := (dC, dI)) (ci := 2) (v := .ref h0_all) (C := RX2) (T := TX2) (N := 12) hx hb hts hi2 hown hK hP 0 rfl rfl 2 (by decide) (hts (.fieldLink RX2 9 "AskTree$Grower" "all" "[I") (by decide +kernel)) (fun _ h9 => h9) rfl dX2_branch_17 ?_
  refine lv_iconst (v := 0) hx hb dX2_branch_20 (by decide) ?_
  have hPc := hP.sub (ws' := [(h1, .inr (6, [.ref h1_asked, .ref h1_values, .ref h1_below, .ref h1_ways, .ref h1_above, .ref h1_shares, .int 0])), (h1_asked, .inl (k1_asked, 511, .inl f1_asked)), (h1_values, .inl (k1_values, 511, .inl f1_values)), (h1_below, .inl (k1_below, 511, .inl f1_below)), (h1_ways, .inl (k1_ways, 511, .inl f1_ways)), (h1_above, .inl (k1_above, 511, .inl f1_above)), (h1_shares, .inl (k1_shares, 2044, .inl f1_shares)), (h0_all, .inl (k0_all, 4, .inl f_2))]) [1, 2, 3, 4, 5, 6, 7, 9] rfl
  have hDc := hD.sub (ws' := [(h1, .inr (6, [.ref h1_asked, .ref h1_values, .ref h1_below, .ref h1_ways, .ref h1_above, .ref h1_shares, .int 0])), (h1_asked, .inl (k1_asked, 511, .inl f1_asked)), (h1_values, .inl (k1_values, 511, .inl f1_values)), (h1_below, .inl (k1_below, 511, .inl f1_below)), (h1_ways, .inl (k1_ways, 511, .inl f1_ways)), (h1_above, .inl (k1_above, 511, .inl f1_above)), (h1_shares, .inl (k1_shares, 2044, .inl f1_shares)), (h0_all, .inl (k0_all, 4, .inl f_2))]) [1, 2, 3, 4, 5, 6, 7, 9] (by decide) rfl
  have hKc := hK.sub (tys' := [(k1_asked, .int), (k1_values, .int), (k1_below, .int), (k1_ways, .int), (k1_above, .int), (k1_shares, .int), (k0_all, .int)]) [1, 2, 3, 4, 5, 6, 0] rfl
  have hFc := va_free (wc := [(h1, .inr (6, [.ref h1_asked, .ref h1_values, .ref h1_below, .ref h1_ways, .ref h1_above, .ref h1_shares, .int 0])), (h1_asked, .inl (k1_asked, 511, .inl f1_asked)), (h1_values, .inl (k1_values, 511, .inl f1_values)), (h1_below, .inl (k1_below, 511, .inl f1_below)), (h1_ways, .inl (k1_ways, 511, .inl f1_ways)), (h1_above, .inl (k1_above, 511, .inl f1_above)), (h1_shares, .inl (k1_shares, 2044, .inl f1_shares)), (h0_all, .inl (k0_all, 4, .inl f_2))]) hD hS hA [1, 2, 3, 4, 5, 6, 7, 9] rfl
  refine va_calli (va_runV (As := [.int 0, .ref h0_all, .int 0]) (rest := []) ⟨hx, hb, hml, hown, hts⟩ (c_open l dC dI H.size h1 h0_all h1_asked h1_values h1_below h1_ways h1_above h1_shares k1_asked f1_asked k1_values f1_values k1_below f1_below k1_ways f1_ways k1_above f1_above k1_shares f1_shares k0_all f_2 ) (cwV 3 hts gX2_branch_X6_open rfl rfl rfl (by decide +kernel) ⟨Nat.le_of_ble_eq_true rfl, Nat.le_of_ble_eq_true rfl⟩) (pre_V hPc hKc hDc hN (ci := 6) (q0 := 0) rfl rfl) rfl rfl hl.1 rfl (lv_room (Nat.le_of_ble_eq_true rfl)) dX2_branch_21 ⟨Nat.le_of_ble_eq_true rfl, Nat.le_of_ble_eq_true rfl⟩) hS (fun q _ h => hFc q h) hFc (fun r_7 u t H1 locs ht hvm hw hB hz1 hk1 hS => ?_)
  clear hPc hDc hKc
  obtain ⟨f_8, f_9, f_10, f_11, f_12, f_13, rfl, hk_14, hk_15, hk_16, hk_17, hk_18, rfl⟩ := hw
  obtain ⟨hP1, hK1, hD1⟩ := hB
  rw [ht] at hP1
  obtain ⟨hP, hD⟩ := va_join (wr := [(h0, .inr (2, [.ref a0_cases, .ref h0_rows, .ref h0_all, .ref a0_gaps, .ref a0_yes, .int v0_depth, .int v0_least, .int 0, .int 0, .int 0, .long 0, .long 0])), (h0_rows, .inr (4, [.ref a0_rows_row, .ref a0_rows_sides, .ref a0_rows_kept, .ref a0_rows_cases, .int 0]))]) (w1 := [(h1, .inr (6, [.ref h1_asked, .ref h1_values, .ref h1_below, .ref h1_ways, .ref h1_above, .ref h1_shares, .int 1])), (h1_asked, .inl (k1_asked, 511, .inl f_8)), (h1_values, .inl (k1_values, 511, .inl f_9)), (h1_below, .inl (k1_below, 511, .inl f_10)), (h1_ways, .inl (k1_ways, 511, .inl f_11)), (h1_above, .inl (k1_above, 511, .inl f_12)), (h1_shares, .inl (k1_shares, 2044, .inl f_13)), (h0_all, .inl (k0_all, 4, .inl f_2))]) hP hD [1, 2, 3, 4, 5, 6, 7, 9] [0, 8] rfl rfl (by decide) (by decide) hk1 hFc hP1 hD1
  generalize H1 = H at hP hS ⊢
  clear hP1 hD1 hFc hk1 hz1 ht hvm hK1
  have hP : va_P (dC, dI) vwCl [(h0, .inr (2, [.ref a0_cases, .ref h0_rows, .ref h0_all, .ref a0_gaps, .ref a0_yes, .int v0_depth, .int v0_least, .int 0, .int 0, .int 0, .long 0, .long 0])), (h0_rows, .inr (4, [.ref a0_rows_row, .ref a0_rows_sides, .ref a0_rows_kept, .ref a0_rows_cases, .int 0])), (h1, .inr (6, [.ref h1_asked, .ref h1_values, .ref h1_below, .ref h1_ways, .ref h1_above, .ref h1_shares, .int 1])), (h1_asked, .inl (k1_asked, 511, .inl f_8)), (h1_values, .inl (k1_values, 511, .inl f_9)), (h1_below, .inl (k1_below, 511, .inl f_10)), (h1_ways, .inl (k1_ways, 511, .inl f_11)), (h1_above, .inl (k1_above, 511, .inl f_12)), (h1_shares, .inl (k1_shares, 2044, .inl f_13)), (h0_all, .inl (k0_all, 4, .inl f_2))] H := hP
  have hD : va_D A [(h0, .inr (2, [.ref a0_cases, .ref h0_rows, .ref h0_all, .ref a0_gaps, .ref a0_yes, .int v0_depth, .int v0_least, .int 0, .int 0, .int 0, .long 0, .long 0])), (h0_rows, .inr (4, [.ref a0_rows_row, .ref a0_rows_sides, .ref a0_rows_kept, .ref a0_rows_cases, .int 0])), (h1, .inr (6, [.ref h1_asked, .ref h1_values, .ref h1_below, .ref h1_ways, .ref h1_above, .ref h1_shares, .int 1])), (h1_asked, .inl (k1_asked, 511, .inl f_8)), (h1_values, .inl (k1_values, 511, .inl f_9)), (h1_below, .inl (k1_below, 511, .inl f_10)), (h1_ways, .inl (k1_ways, 511, .inl f_11)), (h1_above, .inl (k1_above, 511, .inl f_12)), (h1_shares, .inl (k1_shares, 2044, .inl f_13)), (h0_all, .inl (k0_all, 4, .inl f_2))] := hD
  refine lv_istore (lv' := [(5, .int 0), (0, .ref h0), (1, .ref h1), (2, .int 0), (3, .int 0), (4, .int 0)]) hx hb dX2_branch_24 hl (by decide) rfl (fun ls hl => ?_)
  refine lv_iload hx hb dX2_branch_26 (lv_at hl 0 rfl) ?_
  refine lv_if_lt (tgt := 68) hx hb dX2_branch_28 (by decide) (fun c_19 => ?_) (fun c_19 => ?_)
  · exact absurd c_19 (by decide)
  refine lv_iload hx hb dX2_branch_31 (lv_at hl 5 rfl) ?_
  refine lv_aload_n hx hb dX2_branch_33 rfl (lv_at hl 1 rfl) ?_
  refine va_get (D := (dC, dI)) (ci := 2) (v := .int v0_depth) (C := RX2) (T := TX2) (N := 12) hx hb hts hi2 hown hK hP 0 rfl rfl 5 (by decide) (hts (.fieldLink RX2 35 "AskTree$Grower" "depth" "I") (by decide +kernel)) (fun _ h9 => h9) rfl dX2_branch_34 ?_
  refine lv_icmp_ge (tgt := 68) hx hb dX2_branch_37 (by decide) (fun c_20 => ?_) (fun c_20 => ?_)
  · skip
    refine lv_iload hx hb dX2_branch_68 (lv_at hl 0 rfl) ?_
    have hP9 := hP.sub (ws' := [(h0, .inr (2, [.ref a0_cases, .ref h0_rows, .ref h0_all, .ref a0_gaps, .ref a0_yes, .int v0_depth, .int v0_least, .int 0, .int 0, .int 0, .long 0, .long 0])), (h0_rows, .inr (4, [.ref a0_rows_row, .ref a0_rows_sides, .ref a0_rows_kept, .ref a0_rows_cases, .int 0])), (h0_all, .inl (k0_all, 4, .inl f_2)), (h1, .inr (6, [.ref h1_asked, .ref h1_values, .ref h1_below, .ref h1_ways, .ref h1_above, .ref h1_shares, .int 1])), (h1_asked, .inl (k1_asked, 511, .inl f_8)), (h1_values, .inl (k1_values, 511, .inl f_9)), (h1_below, .inl (k1_below, 511, .inl f_10)), (h1_ways, .inl (k1_ways, 511, .inl f_11)), (h1_above, .inl (k1_above, 511, .inl f_12)), (h1_shares, .inl (k1_shares, 2044, .inl f_13))]) [0, 1, 9, 2, 3, 4, 5, 6, 7, 8] rfl
    have hD9 := hD.sub (ws' := [(h0, .inr (2, [.ref a0_cases, .ref h0_rows, .ref h0_all, .ref a0_gaps, .ref a0_yes, .int v0_depth, .int v0_least, .int 0, .int 0, .int 0, .long 0, .long 0])), (h0_rows, .inr (4, [.ref a0_rows_row, .ref a0_rows_sides, .ref a0_rows_kept, .ref a0_rows_cases, .int 0])), (h0_all, .inl (k0_all, 4, .inl f_2)), (h1, .inr (6, [.ref h1_asked, .ref h1_values, .ref h1_below, .ref h1_ways, .ref h1_above, .ref h1_shares, .int 1])), (h1_asked, .inl (k1_asked, 511, .inl f_8)), (h1_values, .inl (k1_values, 511, .inl f_9)), (h1_below, .inl (k1_below, 511, .inl f_10)), (h1_ways, .inl (k1_ways, 511, .inl f_11)), (h1_above, .inl (k1_above, 511, .inl f_12)), (h1_shares, .inl (k1_shares, 2044, .inl f_13))]) [0, 1, 9, 2, 3, 4, 5, 6, 7, 8] (by decide) rfl
    have hK9 := hK.sub (tys' := []) [] rfl
    exact W.iret (v := 0) hx hb hr (fun t ht hW => ⟨⟨0, ([(h0, .inr (2, [.ref a0_cases, .ref h0_rows, .ref h0_all, .ref a0_gaps, .ref a0_yes, .int v0_depth, .int v0_least, .int 0, .int 0, .int 0, .long 0, .long 0])), (h0_rows, .inr (4, [.ref a0_rows_row, .ref a0_rows_sides, .ref a0_rows_kept, .ref a0_rows_cases, .int 0])), (h0_all, .inl (k0_all, 4, .inl f_2)), (h1, .inr (6, [.ref h1_asked, .ref h1_values, .ref h1_below, .ref h1_ways, .ref h1_above, .ref h1_shares, .int 1])), (h1_asked, .inl (k1_asked, 511, .inl f_8)), (h1_values, .inl (k1_values, 511, .inl f_9)), (h1_below, .inl (k1_below, 511, .inl f_10)), (h1_ways, .inl (k1_ways, 511, .inl f_11)), (h1_above, .inl (k1_above, 511, .inl f_12)), (h1_shares, .inl (k1_shares, 2044, .inl f_13))], []), rfl, ⟨f_2, f_8, f_9, f_10, f_11, f_12, f_13, rfl, hk_3, hk_4, hk_5, hk_6, hk_14, hk_15, hk_16, hk_17, hk_18, rfl⟩, (by rw [ht]; exact hP9), va_K.moved hW.alike hK9, hD9⟩, hS.F ht⟩) hS.2.2 dX2_branch_70
  · skip
    refine lv_aload_n hx hb dX2_branch_40 rfl (lv_at hl 1 rfl) ?_
    refine va_get (D := (dC, dI)) (ci := 2) (v := .ref h0_all) (C := RX2) (T := TX2) (N := 12) hx hb hts hi2 hown hK hP 0 rfl rfl 2 (by decide) (hts (.fieldLink RX2 9 "AskTree$Grower" "all" "[I") (by decide +kernel)) (fun _ h9 => h9) rfl dX2_branch_41 ?_
    refine lv_aload_n hx hb dX2_branch_44 rfl (lv_at hl 1 rfl) ?_
    refine va_get (D := (dC, dI)) (ci := 2) (v := .ref h0_all) (C := RX2) (T := TX2) (N := 12) hx hb hts hi2 hown hK hP 0 rfl rfl 2 (by decide) (hts (.fieldLink RX2 9 "AskTree$Grower" "all" "[I") (by decide +kernel)) (fun _ h9 => h9) rfl dX2_branch_45 ?_
    refine lv_iconst (v := 0) hx hb dX2_branch_48 (by decide) ?_
    have hPc := hP.sub (ws' := [(h0_all, .inl (k0_all, 4, .inl f_2))]) [9] rfl
    have hDc := hD.sub (ws' := [(h0_all, .inl (k0_all, 4, .inl f_2))]) [9] (by decide) rfl
    have hKc := hK.sub (tys' := [(k0_all, .int)]) [0] rfl
    have hFc := va_free (wc := [(h0_all, .inl (k0_all, 4, .inl f_2))]) hD hS hA [9] rfl
    refine va_calli (va_runSN (As := [.ref h0_all, .int 0]) (rest := [.ref h0_all]) ⟨hx, hb, hml, hown, hts⟩ (c_firstGreatest l dC dI H.size h0_all k0_all f_2 hk_3 hk_4 hk_5 hk_6) ⟨(va_cnB 2 hts gX2_branch_X7_firstGreatest_n61 rfl rfl rfl hN.2.2.2.2.2.1 (hts (.initialized RX7) (by decide +kernel)) (by decide +kernel) ⟨Nat.le_of_ble_eq_true rfl, Nat.le_of_ble_eq_true rfl⟩), hts (.static yX7_firstGreatest) (by decide +kernel), trivial⟩ (pre_S hPc hKc hDc hN) rfl rfl hl.1 rfl (lv_room (Nat.le_of_ble_eq_true rfl)) dX2_branch_49 ⟨Nat.le_of_ble_eq_true rfl, Nat.le_of_ble_eq_true rfl⟩) hS (fun q _ h => hFc q h) hFc (fun r_21 u t H1 locs ht hvm hw hB hz1 hk1 hS => ?_)
    clear hPc hDc hKc
    obtain ⟨rfl, rfl⟩ := hw
    obtain ⟨hP1, hK1, hD1⟩ := hB
    rw [ht] at hP1
    obtain ⟨hP, hD⟩ := va_join (wr := [(h0, .inr (2, [.ref a0_cases, .ref h0_rows, .ref h0_all, .ref a0_gaps, .ref a0_yes, .int v0_depth, .int v0_least, .int 0, .int 0, .int 0, .long 0, .long 0])), (h0_rows, .inr (4, [.ref a0_rows_row, .ref a0_rows_sides, .ref a0_rows_kept, .ref a0_rows_cases, .int 0])), (h1, .inr (6, [.ref h1_asked, .ref h1_values, .ref h1_below, .ref h1_ways, .ref h1_above, .ref h1_shares, .int 1])), (h1_asked, .inl (k1_asked, 511, .inl f_8)), (h1_values, .inl (k1_values, 511, .inl f_9)), (h1_below, .inl (k1_below, 511, .inl f_10)), (h1_ways, .inl (k1_ways, 511, .inl f_11)), (h1_above, .inl (k1_above, 511, .inl f_12)), (h1_shares, .inl (k1_shares, 2044, .inl f_13))]) (w1 := [(h0_all, .inl (k0_all, 4, .inl f_2))]) hP hD [9] [0, 1, 2, 3, 4, 5, 6, 7, 8] rfl rfl (by decide) (by decide) hk1 hFc hP1 hD1
    generalize H1 = H at hP hS ⊢
    clear hP1 hD1 hFc hk1 hz1 ht hvm hK1
    have hP : va_P (dC, dI) vwCl [(h0, .inr (2, [.ref a0_cases, .ref h0_rows, .ref h0_all, .ref a0_gaps, .ref a0_yes, .int v0_depth, .int v0_least, .int 0, .int 0, .int 0, .long 0, .long 0])), (h0_rows, .inr (4, [.ref a0_rows_row, .ref a0_rows_sides, .ref a0_rows_kept, .ref a0_rows_cases, .int 0])), (h1, .inr (6, [.ref h1_asked, .ref h1_values, .ref h1_below, .ref h1_ways, .ref h1_above, .ref h1_shares, .int 1])), (h1_asked, .inl (k1_asked, 511, .inl f_8)), (h1_values, .inl (k1_values, 511, .inl f_9)), (h1_below, .inl (k1_below, 511, .inl f_10)), (h1_ways, .inl (k1_ways, 511, .inl f_11)), (h1_above, .inl (k1_above, 511, .inl f_12)), (h1_shares, .inl (k1_shares, 2044, .inl f_13)), (h0_all, .inl (k0_all, 4, .inl f_2))] H := hP
    have hD : va_D A [(h0, .inr (2, [.ref a0_cases, .ref h0_rows, .ref h0_all, .ref a0_gaps, .ref a0_yes, .int v0_depth, .int v0_least, .int 0, .int 0, .int 0, .long 0, .long 0])), (h0_rows, .inr (4, [.ref a0_rows_row, .ref a0_rows_sides, .ref a0_rows_kept, .ref a0_rows_cases, .int 0])), (h1, .inr (6, [.ref h1_asked, .ref h1_values, .ref h1_below, .ref h1_ways, .ref h1_above, .ref h1_shares, .int 1])), (h1_asked, .inl (k1_asked, 511, .inl f_8)), (h1_values, .inl (k1_values, 511, .inl f_9)), (h1_below, .inl (k1_below, 511, .inl f_10)), (h1_ways, .inl (k1_ways, 511, .inl f_11)), (h1_above, .inl (k1_above, 511, .inl f_12)), (h1_shares, .inl (k1_shares, 2044, .inl f_13)), (h0_all, .inl (k0_all, 4, .inl f_2))] := hD
    refine va_iald hx hb hK hP 9 0 rfl rfl (vi _ _ (by decide)) dX2_branch_52 ?_
    refine tvv (v := .int 0) (ci f_2 (k := 0) (by decide) hk_3) ?_
    refine lv_iload_n hx hb dX2_branch_53 rfl (lv_at hl 4 rfl) ?_
    refine lv_iload_n hx hb dX2_branch_54 rfl (lv_at hl 3 rfl) ?_
    refine lv_isub hx hb dX2_branch_55 ?_
    refine tvv (v := .int 0) (congrArg Value.int (by decide)) ?_
    refine lv_icmp_eq (tgt := 68) hx hb dX2_branch_56 (by decide) (fun c_22 => ?_) (fun c_22 => ?_)
    rotate_left
    · exact absurd c_22 (by decide)
    refine lv_iload hx hb dX2_branch_68 (lv_at hl 0 rfl) ?_
    have hP9 := hP.sub (ws' := [(h0, .inr (2, [.ref a0_cases, .ref h0_rows, .ref h0_all, .ref a0_gaps, .ref a0_yes, .int v0_depth, .int v0_least, .int 0, .int 0, .int 0, .long 0, .long 0])), (h0_rows, .inr (4, [.ref a0_rows_row, .ref a0_rows_sides, .ref a0_rows_kept, .ref a0_rows_cases, .int 0])), (h0_all, .inl (k0_all, 4, .inl f_2)), (h1, .inr (6, [.ref h1_asked, .ref h1_values, .ref h1_below, .ref h1_ways, .ref h1_above, .ref h1_shares, .int 1])), (h1_asked, .inl (k1_asked, 511, .inl f_8)), (h1_values, .inl (k1_values, 511, .inl f_9)), (h1_below, .inl (k1_below, 511, .inl f_10)), (h1_ways, .inl (k1_ways, 511, .inl f_11)), (h1_above, .inl (k1_above, 511, .inl f_12)), (h1_shares, .inl (k1_shares, 2044, .inl f_13))]) [0, 1, 9, 2, 3, 4, 5, 6, 7, 8] rfl
    have hD9 := hD.sub (ws' := [(h0, .inr (2, [.ref a0_cases, .ref h0_rows, .ref h0_all, .ref a0_gaps, .ref a0_yes, .int v0_depth, .int v0_least, .int 0, .int 0, .int 0, .long 0, .long 0])), (h0_rows, .inr (4, [.ref a0_rows_row, .ref a0_rows_sides, .ref a0_rows_kept, .ref a0_rows_cases, .int 0])), (h0_all, .inl (k0_all, 4, .inl f_2)), (h1, .inr (6, [.ref h1_asked, .ref h1_values, .ref h1_below, .ref h1_ways, .ref h1_above, .ref h1_shares, .int 1])), (h1_asked, .inl (k1_asked, 511, .inl f_8)), (h1_values, .inl (k1_values, 511, .inl f_9)), (h1_below, .inl (k1_below, 511, .inl f_10)), (h1_ways, .inl (k1_ways, 511, .inl f_11)), (h1_above, .inl (k1_above, 511, .inl f_12)), (h1_shares, .inl (k1_shares, 2044, .inl f_13))]) [0, 1, 9, 2, 3, 4, 5, 6, 7, 8] (by decide) rfl
    have hK9 := hK.sub (tys' := []) [] rfl
    exact W.iret (v := 0) hx hb hr (fun t ht hW => ⟨⟨0, ([(h0, .inr (2, [.ref a0_cases, .ref h0_rows, .ref h0_all, .ref a0_gaps, .ref a0_yes, .int v0_depth, .int v0_least, .int 0, .int 0, .int 0, .long 0, .long 0])), (h0_rows, .inr (4, [.ref a0_rows_row, .ref a0_rows_sides, .ref a0_rows_kept, .ref a0_rows_cases, .int 0])), (h0_all, .inl (k0_all, 4, .inl f_2)), (h1, .inr (6, [.ref h1_asked, .ref h1_values, .ref h1_below, .ref h1_ways, .ref h1_above, .ref h1_shares, .int 1])), (h1_asked, .inl (k1_asked, 511, .inl f_8)), (h1_values, .inl (k1_values, 511, .inl f_9)), (h1_below, .inl (k1_below, 511, .inl f_10)), (h1_ways, .inl (k1_ways, 511, .inl f_11)), (h1_above, .inl (k1_above, 511, .inl f_12)), (h1_shares, .inl (k1_shares, 2044, .inl f_13))], []), rfl, ⟨f_2, f_8, f_9, f_10, f_11, f_12, f_13, rfl, hk_3, hk_4, hk_5, hk_6, hk_14, hk_15, hk_16, hk_17, hk_18, rfl⟩, (by rw [ht]; exact hP9), va_K.moved hW.alike hK9, hD9⟩, hS.F ht⟩) hS.2.2 dX2_branch_70

set_option maxHeartbeats 4000000 in
set_option maxRecDepth 100000 in
theorem c_growInto (l : Launch) (dC : Nat → ClassId) (dI : Nat → Nat → Nat) (sz : Nat) (h0 : Nat) (h1 : Nat) (p2 : Int32) (p3 : Int32) (h0_rows : Nat) (h0_all : Nat) (h1_asked : Nat) (h1_values : Nat) (h1_below : Nat) (h1_ways : Nat) (h1_above : Nat) (h1_shares : Nat) (a0_cases : Nat) (a0_gaps : Nat) (a0_yes : Nat) (v0_depth : Int32) (v0_least : Int32) (a0_rows_row : Nat) (a0_rows_sides : Nat) (a0_rows_kept : Nat) (a0_rows_cases : Nat) (k0_all : ClassId) (f0_all : Nat → Int32) (k1_asked : ClassId) (f1_asked : Nat → Int32) (k1_values : ClassId) (f1_values : Nat → Int32) (k1_below : ClassId) (f1_below : Nat → Int32) (k1_ways : ClassId) (f1_ways : Nat → Int32) (k1_above : ClassId) (f1_above : Nat → Int32) (k1_shares : ClassId) (f1_shares : Nat → Int32)   : Met l yX2_growInto wsX2_growInto ({ frames := 4, cells := 0, slots := 0, locals := 131 }) (va_Pc [.ref h0, .ref h1, .int p2, .int p3] (pw (dC, dI) [(k0_all, .int), (k1_asked, .int), (k1_values, .int), (k1_below, .int), (k1_ways, .int), (k1_above, .int), (k1_shares, .int)] [(h0, .inr (2, [.ref a0_cases, .ref h0_rows, .ref h0_all, .ref a0_gaps, .ref a0_yes, .int v0_depth, .int v0_least, .int 0, .int 0, .int 0, .long 0, .long 0])), (h0_rows, .inr (4, [.ref a0_rows_row, .ref a0_rows_sides, .ref a0_rows_kept, .ref a0_rows_cases, .int 0])), (h0_all, .inl (k0_all, 4, .inl f0_all)), (h1, .inr (6, [.ref h1_asked, .ref h1_values, .ref h1_below, .ref h1_ways, .ref h1_above, .ref h1_shares, .int 0])), (h1_asked, .inl (k1_asked, 511, .inl f1_asked)), (h1_values, .inl (k1_values, 511, .inl f1_values)), (h1_below, .inl (k1_below, 511, .inl f1_below)), (h1_ways, .inl (k1_ways, 511, .inl f1_ways)), (h1_above, .inl (k1_above, 511, .inl f1_above)), (h1_shares, .inl (k1_shares, 2044, .inl f1_shares))] sz)) (va_Qv (fun (u : vu) => (∃ (x_1 : Int32) (f_4 : Nat → Int32) (f_5 : Nat → Int32) (f_6 : Nat → Int32) (f_7 : Nat → Int32) (f_8 : Nat → Int32) (f_9 : Nat → Int32) (f_10 : Nat → Int32), u = ([(h0, .inr (2, [.ref a0_cases, .ref h0_rows, .ref h0_all, .ref a0_gaps, .ref a0_yes, .int x_1, .int p3, .int 0, .int 0, .int 0, .long 0, .long 0])), (h0_rows, .inr (4, [.ref a0_rows_row, .ref a0_rows_sides, .ref a0_rows_kept, .ref a0_rows_cases, .int 0])), (h0_all, .inl (k0_all, 4, .inl f_4)), (h1, .inr (6, [.ref h1_asked, .ref h1_values, .ref h1_below, .ref h1_ways, .ref h1_above, .ref h1_shares, .int 1])), (h1_asked, .inl (k1_asked, 511, .inl f_5)), (h1_values, .inl (k1_values, 511, .inl f_6)), (h1_below, .inl (k1_below, 511, .inl f_7)), (h1_ways, .inl (k1_ways, 511, .inl f_8)), (h1_above, .inl (k1_above, 511, .inl f_9)), (h1_shares, .inl (k1_shares, 2044, .inl f_10))], []) ∧ f_4 0 = 0 ∧ f_4 1 = 0 ∧ f_4 2 = 0 ∧ f_4 3 = 0 ∧ f_5 0 = (-1) ∧ f_6 0 = 0 ∧ f_7 0 = (-1) ∧ f_8 0 = 0 ∧ f_9 0 = 0)) (fun u t => qw (dC, dI) u.2 (va_A [(h0, .inr (2, [.ref a0_cases, .ref h0_rows, .ref h0_all, .ref a0_gaps, .ref a0_yes, .int v0_depth, .int v0_least, .int 0, .int 0, .int 0, .long 0, .long 0])), (h0_rows, .inr (4, [.ref a0_rows_row, .ref a0_rows_sides, .ref a0_rows_kept, .ref a0_rows_cases, .int 0])), (h0_all, .inl (k0_all, 4, .inl f0_all)), (h1, .inr (6, [.ref h1_asked, .ref h1_values, .ref h1_below, .ref h1_ways, .ref h1_above, .ref h1_shares, .int 0])), (h1_asked, .inl (k1_asked, 511, .inl f1_asked)), (h1_values, .inl (k1_values, 511, .inl f1_values)), (h1_below, .inl (k1_below, 511, .inl f1_below)), (h1_ways, .inl (k1_ways, 511, .inl f1_ways)), (h1_above, .inl (k1_above, 511, .inl f1_above)), (h1_shares, .inl (k1_shares, 2044, .inl f1_shares))] sz) u.1 t) (va_A [(h0, .inr (2, [.ref a0_cases, .ref h0_rows, .ref h0_all, .ref a0_gaps, .ref a0_yes, .int v0_depth, .int v0_least, .int 0, .int 0, .int 0, .long 0, .long 0])), (h0_rows, .inr (4, [.ref a0_rows_row, .ref a0_rows_sides, .ref a0_rows_kept, .ref a0_rows_cases, .int 0])), (h0_all, .inl (k0_all, 4, .inl f0_all)), (h1, .inr (6, [.ref h1_asked, .ref h1_values, .ref h1_below, .ref h1_ways, .ref h1_above, .ref h1_shares, .int 0])), (h1_asked, .inl (k1_asked, 511, .inl f1_asked)), (h1_values, .inl (k1_values, 511, .inl f1_values)), (h1_below, .inl (k1_below, 511, .inl f1_below)), (h1_ways, .inl (k1_ways, 511, .inl f1_ways)), (h1_above, .inl (k1_above, 511, .inl f1_above)), (h1_shares, .inl (k1_shares, 2044, .inl f1_shares))] sz)) 0 0 (va_A [(h0, .inr (2, [.ref a0_cases, .ref h0_rows, .ref h0_all, .ref a0_gaps, .ref a0_yes, .int v0_depth, .int v0_least, .int 0, .int 0, .int 0, .long 0, .long 0])), (h0_rows, .inr (4, [.ref a0_rows_row, .ref a0_rows_sides, .ref a0_rows_kept, .ref a0_rows_cases, .int 0])), (h0_all, .inl (k0_all, 4, .inl f0_all)), (h1, .inr (6, [.ref h1_asked, .ref h1_values, .ref h1_below, .ref h1_ways, .ref h1_above, .ref h1_shares, .int 0])), (h1_asked, .inl (k1_asked, 511, .inl f1_asked)), (h1_values, .inl (k1_values, 511, .inl f1_values)), (h1_below, .inl (k1_below, 511, .inl f1_below)), (h1_ways, .inl (k1_ways, 511, .inl f1_ways)), (h1_above, .inl (k1_above, 511, .inl f1_above)), (h1_shares, .inl (k1_shares, 2044, .inl f1_shares))] sz) := by
  refine Met.ofW (cc := cX2_growInto) (maxL := 4) (ret := none) (by decide) rfl ?_
  intro p e s m args below meth c s₁ B hml hv
  obtain ⟨rfl, hsz, hP, hK, hD0, hN⟩ := hv
  have hx := B.exec
  have hb := B.bytes
  have hr := B.returns
  have hts := atoms_spec (ws := wsX2_growInto) B.pre
  have hown : s.vm.findClass RX2 = some m.cls := findClass_of_methodNamed B.named
  have hlocks := B.notSynchronized
  have hi2 : ∀ w ∈ u_ws RX2 TX2 12, w ∈ wsX2_growInto := fun _ h => List.mem_cons_of_mem _ (List.mem_append_left _ (List.mem_append_left _ (List.mem_append_left _ (List.mem_append_right _ h))))
  have hi4 : ∀ w ∈ u_ws RX4 TX4 5, w ∈ wsX2_growInto := fun _ h => List.mem_cons_of_mem _ (List.mem_append_left _ (List.mem_append_left _ (List.mem_append_right _ h)))
  have hi6 : ∀ w ∈ u_ws RX6 TX6 7, w ∈ wsX2_growInto := fun _ h => List.mem_cons_of_mem _ (List.mem_append_left _ (List.mem_append_right _ h))
  have hi0 : ∀ w ∈ u_ws RX0 TX0 5, w ∈ wsX2_growInto := fun _ h => List.mem_cons_of_mem _ (List.mem_append_right _ h)
  subst hsz
  have hD := hD0.self (sz := s.heap.size)
  generalize hAe : va_A [(h0, .inr (2, [.ref a0_cases, .ref h0_rows, .ref h0_all, .ref a0_gaps, .ref a0_yes, .int v0_depth, .int v0_least, .int 0, .int 0, .int 0, .long 0, .long 0])), (h0_rows, .inr (4, [.ref a0_rows_row, .ref a0_rows_sides, .ref a0_rows_kept, .ref a0_rows_cases, .int 0])), (h0_all, .inl (k0_all, 4, .inl f0_all)), (h1, .inr (6, [.ref h1_asked, .ref h1_values, .ref h1_below, .ref h1_ways, .ref h1_above, .ref h1_shares, .int 0])), (h1_asked, .inl (k1_asked, 511, .inl f1_asked)), (h1_values, .inl (k1_values, 511, .inl f1_values)), (h1_below, .inl (k1_below, 511, .inl f1_below)), (h1_ways, .inl (k1_ways, 511, .inl f1_ways)), (h1_above, .inl (k1_above, 511, .inl f1_above)), (h1_shares, .inl (k1_shares, 2044, .inl f1_shares))] s.heap.size = A at hD ⊢
  have hA : ∀ q : Nat, s.heap.size ≤ q → A q := fun q h => by rw [← hAe]; exact Or.inr h
  have hS : va_S A s.heap s.heap [] := va_S.rf
  have hl := lv_entry ([.ref h0, .ref h1, .int p2, .int p3]) (n := 4) (Nat.le_of_ble_eq_true rfl)
  rw [lg_entry_eq]
  generalize (lg_sl ([.ref h0, .ref h1, .int p2, .int p3]) ++ List.replicate (4 - (lg_sl ([.ref h0, .ref h1, .int p2, .int p3])).length) Slot.unset).toArray = ls at hl ⊢
  have hl : lv_has ls 4 [(0, .ref h0), (1, .ref h1), (2, .int p2), (3, .int p3)] := hl
  have hP : va_P (dC, dI) vwCl [(h0, .inr (2, [.ref a0_cases, .ref h0_rows, .ref h0_all, .ref a0_gaps, .ref a0_yes, .int v0_depth, .int v0_least, .int 0, .int 0, .int 0, .long 0, .long 0])), (h0_rows, .inr (4, [.ref a0_rows_row, .ref a0_rows_sides, .ref a0_rows_kept, .ref a0_rows_cases, .int 0])), (h0_all, .inl (k0_all, 4, .inl f0_all)), (h1, .inr (6, [.ref h1_asked, .ref h1_values, .ref h1_below, .ref h1_ways, .ref h1_above, .ref h1_shares, .int 0])), (h1_asked, .inl (k1_asked, 511, .inl f1_asked)), (h1_values, .inl (k1_values, 511, .inl f1_values)), (h1_below, .inl (k1_below, 511, .inl f1_below)), (h1_ways, .inl (k1_ways, 511, .inl f1_ways)), (h1_above, .inl (k1_above, 511, .inl f1_above)), (h1_shares, .inl (k1_shares, 2044, .inl f1_shares))] s.heap := hP
  refine lv_aload_n hx hb dX2_growInto_0 rfl (lv_at hl 0 rfl) ?_
  refine lv_iload_n hx hb dX2_growInto_1 rfl (lv_at hl 2 rfl) ?_
  refine lv_bipush (v := 8) hx hb dX2_growInto_2 (by decide) ?_
  refine va_mmin hx hb (by rw [hml]; exact hl.1.symm) hown (hts (.methodLink RX2 29 Lib.Math.min.name) (by decide +kernel)) (hts (.static Lib.Math.min.name) (by decide +kernel)) (hts (.initialized "java/lang/Math") (by decide +kernel)) (hts _ (List.mem_of_getElem? (i := 4) rfl)) (Nat.le_of_ble_eq_true rfl) (Nat.le_of_ble_eq_true rfl) (Nat.le_of_ble_eq_true rfl) (Nat.le_of_ble_eq_true rfl) dX2_growInto_4 ?_
  refine lv_topi (fun x_1 hx_2 => ?_)
  refine va_put (D := (dC, dI)) (ci := 2) (v := .int x_1) (ty := .int) (C := RX2) (T := TX2) (N := 12) hx hb hts hi2 tyX2 tyX2_ok nmX2 hown hK hP hD hS 0 rfl rfl 5 (by decide) (hts (.fieldLink RX2 35 "AskTree$Grower" "depth" "I") (by decide +kernel)) (fun _ h9 => h9) rfl (by decide +kernel) rfl rfl (Nat.le_of_ble_eq_true rfl) dX2_growInto_7 (fun H locs hP hD hS => ?_)
  have hP : va_P (dC, dI) vwCl [(h0, .inr (2, [.ref a0_cases, .ref h0_rows, .ref h0_all, .ref a0_gaps, .ref a0_yes, .int x_1, .int v0_least, .int 0, .int 0, .int 0, .long 0, .long 0])), (h0_rows, .inr (4, [.ref a0_rows_row, .ref a0_rows_sides, .ref a0_rows_kept, .ref a0_rows_cases, .int 0])), (h0_all, .inl (k0_all, 4, .inl f0_all)), (h1, .inr (6, [.ref h1_asked, .ref h1_values, .ref h1_below, .ref h1_ways, .ref h1_above, .ref h1_shares, .int 0])), (h1_asked, .inl (k1_asked, 511, .inl f1_asked)), (h1_values, .inl (k1_values, 511, .inl f1_values)), (h1_below, .inl (k1_below, 511, .inl f1_below)), (h1_ways, .inl (k1_ways, 511, .inl f1_ways)), (h1_above, .inl (k1_above, 511, .inl f1_above)), (h1_shares, .inl (k1_shares, 2044, .inl f1_shares))] H := hP
  have hD : va_D A [(h0, .inr (2, [.ref a0_cases, .ref h0_rows, .ref h0_all, .ref a0_gaps, .ref a0_yes, .int x_1, .int v0_least, .int 0, .int 0, .int 0, .long 0, .long 0])), (h0_rows, .inr (4, [.ref a0_rows_row, .ref a0_rows_sides, .ref a0_rows_kept, .ref a0_rows_cases, .int 0])), (h0_all, .inl (k0_all, 4, .inl f0_all)), (h1, .inr (6, [.ref h1_asked, .ref h1_values, .ref h1_below, .ref h1_ways, .ref h1_above, .ref h1_shares, .int 0])), (h1_asked, .inl (k1_asked, 511, .inl f1_asked)), (h1_values, .inl (k1_values, 511, .inl f1_values)), (h1_below, .inl (k1_below, 511, .inl f1_below)), (h1_ways, .inl (k1_ways, 511, .inl f1_ways)), (h1_above, .inl (k1_above, 511, .inl f1_above)), (h1_shares, .inl (k1_shares, 2044, .inl f1_shares))] := hD
  refine lv_aload_n hx hb dX2_growInto_10 rfl (lv_at hl 0 rfl) ?_
  refine lv_iload_n hx hb dX2_growInto_11 rfl (lv_at hl 3 rfl) ?_
  refine va_put (D := (dC, dI)) (ci := 2) (v := .int p3) (ty := .int) (C := RX2) (T := TX2) (N := 12) hx hb hts hi2 tyX2 tyX2_ok nmX2 hown hK hP hD hS 0 rfl rfl 6 (by decide) (hts (.fieldLink RX2 39 "AskTree$Grower" "least" "I") (by decide +kernel)) (fun _ h9 => h9) rfl (by decide +kernel) rfl rfl (Nat.le_of_ble_eq_true rfl) dX2_growInto_12 (fun H locs hP hD hS => ?_)
  have hP : va_P (dC, dI) vwCl [(h0, .inr (2, [.ref a0_cases, .ref h0_rows, .ref h0_all, .ref a0_gaps, .ref a0_yes, .int x_1, .int p3, .int 0, .int 0, .int 0, .long 0, .long 0])), (h0_rows, .inr (4, [.ref a0_rows_row, .ref a0_rows_sides, .ref a0_rows_kept, .ref a0_rows_cases, .int 0])), (h0_all, .inl (k0_all, 4, .inl f0_all)), (h1, .inr (6, [.ref h1_asked, .ref h1_values, .ref h1_below, .ref h1_ways, .ref h1_above, .ref h1_shares, .int 0])), (h1_asked, .inl (k1_asked, 511, .inl f1_asked)), (h1_values, .inl (k1_values, 511, .inl f1_values)), (h1_below, .inl (k1_below, 511, .inl f1_below)), (h1_ways, .inl (k1_ways, 511, .inl f1_ways)), (h1_above, .inl (k1_above, 511, .inl f1_above)), (h1_shares, .inl (k1_shares, 2044, .inl f1_shares))] H := hP
  have hD : va_D A [(h0, .inr (2, [.ref a0_cases, .ref h0_rows, .ref h0_all, .ref a0_gaps, .ref a0_yes, .int x_1, .int p3, .int 0, .int 0, .int 0, .long 0, .long 0])), (h0_rows, .inr (4, [.ref a0_rows_row, .ref a0_rows_sides, .ref a0_rows_kept, .ref a0_rows_cases, .int 0])), (h0_all, .inl (k0_all, 4, .inl f0_all)), (h1, .inr (6, [.ref h1_asked, .ref h1_values, .ref h1_below, .ref h1_ways, .ref h1_above, .ref h1_shares, .int 0])), (h1_asked, .inl (k1_asked, 511, .inl f1_asked)), (h1_values, .inl (k1_values, 511, .inl f1_values)), (h1_below, .inl (k1_below, 511, .inl f1_below)), (h1_ways, .inl (k1_ways, 511, .inl f1_ways)), (h1_above, .inl (k1_above, 511, .inl f1_above)), (h1_shares, .inl (k1_shares, 2044, .inl f1_shares))] := hD
  refine lv_aload_n hx hb dX2_growInto_15 rfl (lv_at hl 0 rfl) ?_
  refine lv_aload_n hx hb dX2_growInto_16 rfl (lv_at hl 1 rfl) ?_
  refine lv_iconst (v := 0) hx hb dX2_growInto_17 (by decide) ?_
  refine lv_aload_n hx hb dX2_growInto_18 rfl (lv_at hl 0 rfl) ?_
  refine va_get (D := (dC, dI)) (ci := 2) (v := .ref h0_rows) (C := RX2) (T := TX2) (N := 12) hx hb hts hi2 hown hK hP 0 rfl rfl 1 (by decide) (hts (.fieldLink RX2 25 "AskTree$Grower" "rows" "LAskTree$Rows;") (by decide +kernel)) (fun _ h9 => h9) rfl dX2_growInto_19 ?_
  refine va_get (D := (dC, dI)) (ci := 4) (v := .int 0) (C := RX4) (T := TX4) (N := 5) hx hb hts hi4 hown hK hP 1 rfl rfl 4 (by decide) (hts (.fieldLink RX2 42 "AskTree$Rows" "size" "I") (by decide +kernel)) (fun _ h9 => h9) rfl dX2_growInto_22 ?_
  refine lv_iconst (v := 0) hx hb dX2_growInto_25 (by decide) ?_
  have hPc := hP.sub (ws' := [(h0, .inr (2, [.ref a0_cases, .ref h0_rows, .ref h0_all, .ref a0_gaps, .ref a0_yes, .int x_1, .int p3, .int 0, .int 0, .int 0, .long 0, .long 0])), (h0_rows, .inr (4, [.ref a0_rows_row, .ref a0_rows_sides, .ref a0_rows_kept, .ref a0_rows_cases, .int 0])), (h0_all, .inl (k0_all, 4, .inl f0_all)), (h1, .inr (6, [.ref h1_asked, .ref h1_values, .ref h1_below, .ref h1_ways, .ref h1_above, .ref h1_shares, .int 0])), (h1_asked, .inl (k1_asked, 511, .inl f1_asked)), (h1_values, .inl (k1_values, 511, .inl f1_values)), (h1_below, .inl (k1_below, 511, .inl f1_below)), (h1_ways, .inl (k1_ways, 511, .inl f1_ways)), (h1_above, .inl (k1_above, 511, .inl f1_above)), (h1_shares, .inl (k1_shares, 2044, .inl f1_shares))]) [0, 1, 2, 3, 4, 5, 6, 7, 8, 9] rfl
  have hDc := hD.sub (ws' := [(h0, .inr (2, [.ref a0_cases, .ref h0_rows, .ref h0_all, .ref a0_gaps, .ref a0_yes, .int x_1, .int p3, .int 0, .int 0, .int 0, .long 0, .long 0])), (h0_rows, .inr (4, [.ref a0_rows_row, .ref a0_rows_sides, .ref a0_rows_kept, .ref a0_rows_cases, .int 0])), (h0_all, .inl (k0_all, 4, .inl f0_all)), (h1, .inr (6, [.ref h1_asked, .ref h1_values, .ref h1_below, .ref h1_ways, .ref h1_above, .ref h1_shares, .int 0])), (h1_asked, .inl (k1_asked, 511, .inl f1_asked)), (h1_values, .inl (k1_values, 511, .inl f1_values)), (h1_below, .inl (k1_below, 511, .inl f1_below)), (h1_ways, .inl (k1_ways, 511, .inl f1_ways)), (h1_above, .inl (k1_above, 511, .inl f1_above)), (h1_shares, .inl (k1_shares, 2044, .inl f1_shares))]) [0, 1, 2, 3, 4, 5, 6, 7, 8, 9] (by decide) rfl
  have hKc := hK.sub (tys' := [(k0_all, .int), (k1_asked, .int), (k1_values, .int), (k1_below, .int), (k1_ways, .int), (k1_above, .int), (k1_shares, .int)]) [0, 1, 2, 3, 4, 5, 6] rfl
  have hFc := va_free (wc := [(h0, .inr (2, [.ref a0_cases, .ref h0_rows, .ref h0_all, .ref a0_gaps, .ref a0_yes, .int x_1, .int p3, .int 0, .int 0, .int 0, .long 0, .long 0])), (h0_rows, .inr (4, [.ref a0_rows_row, .ref a0_rows_sides, .ref a0_rows_kept, .ref a0_rows_cases, .int 0])), (h0_all, .inl (k0_all, 4, .inl f0_all)), (h1, .inr (6, [.ref h1_asked, .ref h1_values, .ref h1_below, .ref h1_ways, .ref h1_above, .ref h1_shares, .int 0])), (h1_asked, .inl (k1_asked, 511, .inl f1_asked)), (h1_values, .inl (k1_values, 511, .inl f1_values)), (h1_below, .inl (k1_below, 511, .inl f1_below)), (h1_ways, .inl (k1_ways, 511, .inl f1_ways)), (h1_above, .inl (k1_above, 511, .inl f1_above)), (h1_shares, .inl (k1_shares, 2044, .inl f1_shares))]) hD hS hA [0, 1, 2, 3, 4, 5, 6, 7, 8, 9] rfl
  refine va_calli (va_runV (As := [.ref h1, .int 0, .int 0, .int 0]) (rest := []) ⟨hx, hb, hml, hown, hts⟩ (c_branch l dC dI H.size h0 h1 h0_rows h0_all h1_asked h1_values h1_below h1_ways h1_above h1_shares a0_cases a0_gaps a0_yes x_1 p3 a0_rows_row a0_rows_sides a0_rows_kept a0_rows_cases k0_all f0_all k1_asked f1_asked k1_values f1_values k1_below f1_below k1_ways f1_ways k1_above f1_above k1_shares f1_shares ) (cwV 4 hts gX2_growInto_X2_branch rfl rfl rfl (by decide +kernel) ⟨Nat.le_of_ble_eq_true rfl, Nat.le_of_ble_eq_true rfl⟩) (pre_V hPc hKc hDc hN (ci := 2) (q0 := 0) rfl rfl) rfl rfl hl.1 rfl (lv_room (Nat.le_of_ble_eq_true rfl)) dX2_growInto_26 ⟨Nat.le_of_ble_eq_true rfl, Nat.le_of_ble_eq_true rfl⟩) hS (fun q _ h => hFc q h) hFc (fun r_3 u t H1 locs ht hvm hw hB hz1 hk1 hS => ?_)
  clear hPc hDc hKc
  obtain ⟨f_4, f_5, f_6, f_7, f_8, f_9, f_10, rfl, hk_11, hk_12, hk_13, hk_14, hk_15, hk_16, hk_17, hk_18, hk_19, rfl⟩ := hw
  obtain ⟨hP1, hK1, hD1⟩ := hB
  rw [ht] at hP1
  obtain ⟨hP, hD⟩ := va_join (wr := []) (w1 := [(h0, .inr (2, [.ref a0_cases, .ref h0_rows, .ref h0_all, .ref a0_gaps, .ref a0_yes, .int x_1, .int p3, .int 0, .int 0, .int 0, .long 0, .long 0])), (h0_rows, .inr (4, [.ref a0_rows_row, .ref a0_rows_sides, .ref a0_rows_kept, .ref a0_rows_cases, .int 0])), (h0_all, .inl (k0_all, 4, .inl f_4)), (h1, .inr (6, [.ref h1_asked, .ref h1_values, .ref h1_below, .ref h1_ways, .ref h1_above, .ref h1_shares, .int 1])), (h1_asked, .inl (k1_asked, 511, .inl f_5)), (h1_values, .inl (k1_values, 511, .inl f_6)), (h1_below, .inl (k1_below, 511, .inl f_7)), (h1_ways, .inl (k1_ways, 511, .inl f_8)), (h1_above, .inl (k1_above, 511, .inl f_9)), (h1_shares, .inl (k1_shares, 2044, .inl f_10))]) hP hD [0, 1, 2, 3, 4, 5, 6, 7, 8, 9] [] rfl rfl (by decide) (by decide) hk1 hFc hP1 hD1
  generalize H1 = H at hP hS ⊢
  clear hP1 hD1 hFc hk1 hz1 ht hvm hK1
  have hP : va_P (dC, dI) vwCl [(h0, .inr (2, [.ref a0_cases, .ref h0_rows, .ref h0_all, .ref a0_gaps, .ref a0_yes, .int x_1, .int p3, .int 0, .int 0, .int 0, .long 0, .long 0])), (h0_rows, .inr (4, [.ref a0_rows_row, .ref a0_rows_sides, .ref a0_rows_kept, .ref a0_rows_cases, .int 0])), (h0_all, .inl (k0_all, 4, .inl f_4)), (h1, .inr (6, [.ref h1_asked, .ref h1_values, .ref h1_below, .ref h1_ways, .ref h1_above, .ref h1_shares, .int 1])), (h1_asked, .inl (k1_asked, 511, .inl f_5)), (h1_values, .inl (k1_values, 511, .inl f_6)), (h1_below, .inl (k1_below, 511, .inl f_7)), (h1_ways, .inl (k1_ways, 511, .inl f_8)), (h1_above, .inl (k1_above, 511, .inl f_9)), (h1_shares, .inl (k1_shares, 2044, .inl f_10))] H := hP
  have hD : va_D A [(h0, .inr (2, [.ref a0_cases, .ref h0_rows, .ref h0_all, .ref a0_gaps, .ref a0_yes, .int x_1, .int p3, .int 0, .int 0, .int 0, .long 0, .long 0])), (h0_rows, .inr (4, [.ref a0_rows_row, .ref a0_rows_sides, .ref a0_rows_kept, .ref a0_rows_cases, .int 0])), (h0_all, .inl (k0_all, 4, .inl f_4)), (h1, .inr (6, [.ref h1_asked, .ref h1_values, .ref h1_below, .ref h1_ways, .ref h1_above, .ref h1_shares, .int 1])), (h1_asked, .inl (k1_asked, 511, .inl f_5)), (h1_values, .inl (k1_values, 511, .inl f_6)), (h1_below, .inl (k1_below, 511, .inl f_7)), (h1_ways, .inl (k1_ways, 511, .inl f_8)), (h1_above, .inl (k1_above, 511, .inl f_9)), (h1_shares, .inl (k1_shares, 2044, .inl f_10))] := hD
  refine lv_pop hx hb dX2_growInto_29 rfl ?_
  have hP9 := hP.sub (ws' := [(h0, .inr (2, [.ref a0_cases, .ref h0_rows, .ref h0_all, .ref a0_gaps, .ref a0_yes, .int x_1, .int p3, .int 0, .int 0, .int 0, .long 0, .long 0])), (h0_rows, .inr (4, [.ref a0_rows_row, .ref a0_rows_sides, .ref a0_rows_kept, .ref a0_rows_cases, .int 0])), (h0_all, .inl (k0_all, 4, .inl f_4)), (h1, .inr (6, [.ref h1_asked, .ref h1_values, .ref h1_below, .ref h1_ways, .ref h1_above, .ref h1_shares, .int 1])), (h1_asked, .inl (k1_asked, 511, .inl f_5)), (h1_values, .inl (k1_values, 511, .inl f_6)), (h1_below, .inl (k1_below, 511, .inl f_7)), (h1_ways, .inl (k1_ways, 511, .inl f_8)), (h1_above, .inl (k1_above, 511, .inl f_9)), (h1_shares, .inl (k1_shares, 2044, .inl f_10))]) [0, 1, 2, 3, 4, 5, 6, 7, 8, 9] rfl
  have hD9 := hD.sub (ws' := [(h0, .inr (2, [.ref a0_cases, .ref h0_rows, .ref h0_all, .ref a0_gaps, .ref a0_yes, .int x_1, .int p3, .int 0, .int 0, .int 0, .long 0, .long 0])), (h0_rows, .inr (4, [.ref a0_rows_row, .ref a0_rows_sides, .ref a0_rows_kept, .ref a0_rows_cases, .int 0])), (h0_all, .inl (k0_all, 4, .inl f_4)), (h1, .inr (6, [.ref h1_asked, .ref h1_values, .ref h1_below, .ref h1_ways, .ref h1_above, .ref h1_shares, .int 1])), (h1_asked, .inl (k1_asked, 511, .inl f_5)), (h1_values, .inl (k1_values, 511, .inl f_6)), (h1_below, .inl (k1_below, 511, .inl f_7)), (h1_ways, .inl (k1_ways, 511, .inl f_8)), (h1_above, .inl (k1_above, 511, .inl f_9)), (h1_shares, .inl (k1_shares, 2044, .inl f_10))]) [0, 1, 2, 3, 4, 5, 6, 7, 8, 9] (by decide) rfl
  have hK9 := hK.sub (tys' := []) [] rfl
  exact W.vret hx hb hr (fun t ht hW => ⟨⟨([(h0, .inr (2, [.ref a0_cases, .ref h0_rows, .ref h0_all, .ref a0_gaps, .ref a0_yes, .int x_1, .int p3, .int 0, .int 0, .int 0, .long 0, .long 0])), (h0_rows, .inr (4, [.ref a0_rows_row, .ref a0_rows_sides, .ref a0_rows_kept, .ref a0_rows_cases, .int 0])), (h0_all, .inl (k0_all, 4, .inl f_4)), (h1, .inr (6, [.ref h1_asked, .ref h1_values, .ref h1_below, .ref h1_ways, .ref h1_above, .ref h1_shares, .int 1])), (h1_asked, .inl (k1_asked, 511, .inl f_5)), (h1_values, .inl (k1_values, 511, .inl f_6)), (h1_below, .inl (k1_below, 511, .inl f_7)), (h1_ways, .inl (k1_ways, 511, .inl f_8)), (h1_above, .inl (k1_above, 511, .inl f_9)), (h1_shares, .inl (k1_shares, 2044, .inl f_10))], []), rfl, ⟨x_1, f_4, f_5, f_6, f_7, f_8, f_9, f_10, rfl, hk_11, hk_12, hk_13, hk_14, hk_15, hk_16, hk_17, hk_18, hk_19⟩, (by rw [ht]; exact hP9), va_K.moved hW.alike hK9, hD9⟩, hS.F ht⟩) hS.2.2 dX2_growInto_30

set_option maxHeartbeats 4000000 in
set_option maxRecDepth 100000 in
theorem c_seekOne (l : Launch) (dC : Nat → ClassId) (dI : Nat → Nat → Nat) (sz : Nat) (h0 : Nat) (h0_all : Nat) (a0_cases : Nat) (a0_rows : Nat) (a0_yes : Nat) (k0_all : ClassId) (f0_all : Nat → Int32)   : Met l yX1_seekOne wsX1_seekOne ({ frames := 2, cells := 0, slots := 0, locals := 83 }) (va_Pc [.ref h0, .int 0, .int 0, .int 0] (pw (dC, dI) [(k0_all, .int)] [(h0, .inr (1, [.ref a0_cases, .ref a0_rows, .ref h0_all, .ref a0_yes, .int 0, .int 0, .int 0, .int 0, .int 0, .int 0, .int 0, .int 0])), (h0_all, .inl (k0_all, 4, .inl f0_all))] sz)) (va_Qv (fun (u : vu) => (∃ (f_2 : Nat → Int32), u = ([(h0, .inr (1, [.ref a0_cases, .ref a0_rows, .ref h0_all, .ref a0_yes, .int (-1), .int 0, .int 0, .int 0, .int 0, .int 0, .int 0, .int 0])), (h0_all, .inl (k0_all, 4, .inl f_2))], []) ∧ f_2 0 = 0 ∧ f_2 1 = 0 ∧ f_2 2 = 0 ∧ f_2 3 = 0)) (fun u t => qw (dC, dI) u.2 (va_A [(h0, .inr (1, [.ref a0_cases, .ref a0_rows, .ref h0_all, .ref a0_yes, .int 0, .int 0, .int 0, .int 0, .int 0, .int 0, .int 0, .int 0])), (h0_all, .inl (k0_all, 4, .inl f0_all))] sz) u.1 t) (va_A [(h0, .inr (1, [.ref a0_cases, .ref a0_rows, .ref h0_all, .ref a0_yes, .int 0, .int 0, .int 0, .int 0, .int 0, .int 0, .int 0, .int 0])), (h0_all, .inl (k0_all, 4, .inl f0_all))] sz)) 0 0 (va_A [(h0, .inr (1, [.ref a0_cases, .ref a0_rows, .ref h0_all, .ref a0_yes, .int 0, .int 0, .int 0, .int 0, .int 0, .int 0, .int 0, .int 0])), (h0_all, .inl (k0_all, 4, .inl f0_all))] sz) := by
  refine Met.ofW (cc := cX1_seekOne) (maxL := 6) (ret := none) (by decide) rfl ?_
  intro p e s m args below meth c s₁ B hml hv
  obtain ⟨rfl, hsz, hP, hK, hD0, hN⟩ := hv
  have hx := B.exec
  have hb := B.bytes
  have hr := B.returns
  have hts := atoms_spec (ws := wsX1_seekOne) B.pre
  have hown : s.vm.findClass RX1 = some m.cls := findClass_of_methodNamed B.named
  have hlocks := B.notSynchronized
  have hi1 : ∀ w ∈ u_ws RX1 TX1 12, w ∈ wsX1_seekOne := fun _ h => List.mem_cons_of_mem _ (List.mem_append_left _ (List.mem_append_left _ (List.mem_append_right _ h)))
  have hi4 : ∀ w ∈ u_ws RX4 TX4 5, w ∈ wsX1_seekOne := fun _ h => List.mem_cons_of_mem _ (List.mem_append_left _ (List.mem_append_right _ h))
  have hi0 : ∀ w ∈ u_ws RX0 TX0 5, w ∈ wsX1_seekOne := fun _ h => List.mem_cons_of_mem _ (List.mem_append_right _ h)
  subst hsz
  have hD := hD0.self (sz := s.heap.size)
  generalize hAe : va_A [(h0, .inr (1, [.ref a0_cases, .ref a0_rows, .ref h0_all, .ref a0_yes, .int 0, .int 0, .int 0, .int 0, .int 0, .int 0, .int 0, .int 0])), (h0_all, .inl (k0_all, 4, .inl f0_all))] s.heap.size = A at hD ⊢
  have hA : ∀ q : Nat, s.heap.size ≤ q → A q := fun q h => by rw [← hAe]; exact Or.inr h
  have hS : va_S A s.heap s.heap [] := va_S.rf
  have hl := lv_entry ([.ref h0, .int 0, .int 0, .int 0]) (n := 6) (Nat.le_of_ble_eq_true rfl)
  rw [lg_entry_eq]
  generalize (lg_sl ([.ref h0, .int 0, .int 0, .int 0]) ++ List.replicate (6 - (lg_sl ([.ref h0, .int 0, .int 0, .int 0])).length) Slot.unset).toArray = ls at hl ⊢
  have hl : lv_has ls 6 [(0, .ref h0), (1, .int 0), (2, .int 0), (3, .int 0)] := hl
  have hP : va_P (dC, dI) vwCl [(h0, .inr (1, [.ref a0_cases, .ref a0_rows, .ref h0_all, .ref a0_yes, .int 0, .int 0, .int 0, .int 0, .int 0, .int 0, .int 0, .int 0])), (h0_all, .inl (k0_all, 4, .inl f0_all))] s.heap := hP
  refine lv_aload_n hx hb dX1_seekOne_0 rfl (lv_at hl 0 rfl) ?_
  refine va_get (D := (dC, dI)) (ci := 1) (v := .ref h0_all) (C := RX1) (T := TX1) (N := 12) hx hb hts hi1 hown hK hP 0 rfl rfl 2 (by decide) (hts (.fieldLink RX1 9 "AskTree$Finder" "all" "[I") (by decide +kernel)) (fun _ h9 => h9) rfl dX1_seekOne_1 ?_
  have hPc := hP.sub (ws' := [(h0_all, .inl (k0_all, 4, .inl f0_all))]) [1] rfl
  have hDc := hD.sub (ws' := [(h0_all, .inl (k0_all, 4, .inl f0_all))]) [1] (by decide) rfl
  have hKc := hK.sub (tys' := [(k0_all, .int)]) [0] rfl
  have hFc := va_free (wc := [(h0_all, .inl (k0_all, 4, .inl f0_all))]) hD hS hA [1] rfl
  refine va_callv (va_runSN (As := [.ref h0_all]) (rest := []) ⟨hx, hb, hml, hown, hts⟩ (c_clear l dC dI s.heap.size h0_all k0_all f0_all ) ⟨(va_cnB 1 hts gX1_seekOne_X7_clear_n114 rfl rfl rfl hN.2.2.2.1 (hts (.initialized RX7) (by decide +kernel)) (by decide +kernel) ⟨Nat.le_of_ble_eq_true rfl, Nat.le_of_ble_eq_true rfl⟩), hts (.static yX7_clear) (by decide +kernel), trivial⟩ (pre_S hPc hKc hDc hN) rfl rfl hl.1 rfl (lv_room (Nat.le_of_ble_eq_true rfl)) dX1_seekOne_4 ⟨Nat.le_of_ble_eq_true rfl, Nat.le_of_ble_eq_true rfl⟩) hS (fun q _ h => hFc q h) hFc (fun u t H1 locs ht hvm hw hB hz1 hk1 hS => ?_)
  clear hPc hDc hKc
  obtain ⟨f_2, rfl, hk_3, hk_4, hk_5, hk_6⟩ := hw
  obtain ⟨hP1, hK1, hD1⟩ := hB
  rw [ht] at hP1
  obtain ⟨hP, hD⟩ := va_join (wr := [(h0, .inr (1, [.ref a0_cases, .ref a0_rows, .ref h0_all, .ref a0_yes, .int 0, .int 0, .int 0, .int 0, .int 0, .int 0, .int 0, .int 0]))]) (w1 := [(h0_all, .inl (k0_all, 4, .inl f_2))]) hP hD [1] [0] rfl rfl (by decide) (by decide) hk1 hFc hP1 hD1
  generalize H1 = H at hP hS ⊢
  clear hP1 hD1 hFc hk1 hz1 ht hvm hK1
  have hP : va_P (dC, dI) vwCl [(h0, .inr (1, [.ref a0_cases, .ref a0_rows, .ref h0_all, .ref a0_yes, .int 0, .int 0, .int 0, .int 0, .int 0, .int 0, .int 0, .int 0])), (h0_all, .inl (k0_all, 4, .inl f_2))] H := hP
  have hD : va_D A [(h0, .inr (1, [.ref a0_cases, .ref a0_rows, .ref h0_all, .ref a0_yes, .int 0, .int 0, .int 0, .int 0, .int 0, .int 0, .int 0, .int 0])), (h0_all, .inl (k0_all, 4, .inl f_2))] := hD
  refine lv_aload_n hx hb dX1_seekOne_7 rfl (lv_at hl 0 rfl) ?_
  refine lv_iconst (v := 0) hx hb dX1_seekOne_8 (by decide) ?_
  refine va_put (D := (dC, dI)) (ci := 1) (v := .int 0) (ty := .int) (C := RX1) (T := TX1) (N := 12) hx hb hts hi1 tyX1 tyX1_ok nmX1 hown hK hP hD hS 0 rfl rfl 7 (by decide) (hts (.fieldLink RX1 118 "AskTree$Finder" "oneTotal" "I") (by decide +kernel)) (fun _ h9 => h9) rfl (by decide +kernel) rfl rfl (Nat.le_of_ble_eq_true rfl) dX1_seekOne_9 (fun H locs hP hD hS => ?_)
  have hP : va_P (dC, dI) vwCl [(h0, .inr (1, [.ref a0_cases, .ref a0_rows, .ref h0_all, .ref a0_yes, .int 0, .int 0, .int 0, .int 0, .int 0, .int 0, .int 0, .int 0])), (h0_all, .inl (k0_all, 4, .inl f_2))] H := hP
  have hD : va_D A [(h0, .inr (1, [.ref a0_cases, .ref a0_rows, .ref h0_all, .ref a0_yes, .int 0, .int 0, .int 0, .int 0, .int 0, .int 0, .int 0, .int 0])), (h0_all, .inl (k0_all, 4, .inl f_2))] := hD
  refine lv_iload_n hx hb dX1_seekOne_12 rfl (lv_at hl 1 rfl) ?_
  refine lv_istore (lv' := [(4, .int 0), (0, .ref h0), (1, .int 0), (2, .int 0), (3, .int 0)]) hx hb dX1_seekOne_13 hl (by decide) rfl (fun ls hl => ?_)
  refine lv_iload hx hb dX1_seekOne_15 (lv_at hl 0 rfl) ?_
  refine lv_iload_n hx hb dX1_seekOne_17 rfl (lv_at hl 3 rfl) ?_
  refine lv_icmp_ge (tgt := 82) hx hb dX1_seekOne_18 (by decide) (fun c_7 => ?_) (fun c_7 => ?_)
  rotate_left
  · exact absurd c_7 (by decide)
  refine lv_aload_n hx hb dX1_seekOne_82 rfl (lv_at hl 1 rfl) ?_
  refine lv_iconst (v := (-1)) hx hb dX1_seekOne_83 (by decide) ?_
  refine va_put (D := (dC, dI)) (ci := 1) (v := .int (-1)) (ty := .int) (C := RX1) (T := TX1) (N := 12) hx hb hts hi1 tyX1 tyX1_ok nmX1 hown hK hP hD hS 0 rfl rfl 4 (by decide) (hts (.fieldLink RX1 80 "AskTree$Finder" "oneMark" "I") (by decide +kernel)) (fun _ h9 => h9) rfl (by decide +kernel) rfl rfl (Nat.le_of_ble_eq_true rfl) dX1_seekOne_84 (fun H locs hP hD hS => ?_)
  have hP : va_P (dC, dI) vwCl [(h0, .inr (1, [.ref a0_cases, .ref a0_rows, .ref h0_all, .ref a0_yes, .int (-1), .int 0, .int 0, .int 0, .int 0, .int 0, .int 0, .int 0])), (h0_all, .inl (k0_all, 4, .inl f_2))] H := hP
  have hD : va_D A [(h0, .inr (1, [.ref a0_cases, .ref a0_rows, .ref h0_all, .ref a0_yes, .int (-1), .int 0, .int 0, .int 0, .int 0, .int 0, .int 0, .int 0])), (h0_all, .inl (k0_all, 4, .inl f_2))] := hD
  refine lv_aload_n hx hb dX1_seekOne_87 rfl (lv_at hl 1 rfl) ?_
  refine lv_iconst (v := 0) hx hb dX1_seekOne_88 (by decide) ?_
  refine va_put (D := (dC, dI)) (ci := 1) (v := .int 0) (ty := .int) (C := RX1) (T := TX1) (N := 12) hx hb hts hi1 tyX1 tyX1_ok nmX1 hown hK hP hD hS 0 rfl rfl 5 (by decide) (hts (.fieldLink RX1 83 "AskTree$Finder" "oneValue" "I") (by decide +kernel)) (fun _ h9 => h9) rfl (by decide +kernel) rfl rfl (Nat.le_of_ble_eq_true rfl) dX1_seekOne_89 (fun H locs hP hD hS => ?_)
  have hP : va_P (dC, dI) vwCl [(h0, .inr (1, [.ref a0_cases, .ref a0_rows, .ref h0_all, .ref a0_yes, .int (-1), .int 0, .int 0, .int 0, .int 0, .int 0, .int 0, .int 0])), (h0_all, .inl (k0_all, 4, .inl f_2))] H := hP
  have hD : va_D A [(h0, .inr (1, [.ref a0_cases, .ref a0_rows, .ref h0_all, .ref a0_yes, .int (-1), .int 0, .int 0, .int 0, .int 0, .int 0, .int 0, .int 0])), (h0_all, .inl (k0_all, 4, .inl f_2))] := hD
  refine lv_aload_n hx hb dX1_seekOne_92 rfl (lv_at hl 1 rfl) ?_
  refine lv_aload_n hx hb dX1_seekOne_93 rfl (lv_at hl 1 rfl) ?_
  refine va_get (D := (dC, dI)) (ci := 1) (v := .int 0) (C := RX1) (T := TX1) (N := 12) hx hb hts hi1 hown hK hP 0 rfl rfl 7 (by decide) (hts (.fieldLink RX1 118 "AskTree$Finder" "oneTotal" "I") (by decide +kernel)) (fun _ h9 => h9) rfl dX1_seekOne_94 ?_
  refine lv_aload_n hx hb dX1_seekOne_97 rfl (lv_at hl 1 rfl) ?_
  refine va_get (D := (dC, dI)) (ci := 1) (v := .ref h0_all) (C := RX1) (T := TX1) (N := 12) hx hb hts hi1 hown hK hP 0 rfl rfl 2 (by decide) (hts (.fieldLink RX1 9 "AskTree$Finder" "all" "[I") (by decide +kernel)) (fun _ h9 => h9) rfl dX1_seekOne_98 ?_
  refine lv_aload_n hx hb dX1_seekOne_101 rfl (lv_at hl 1 rfl) ?_
  refine va_get (D := (dC, dI)) (ci := 1) (v := .ref h0_all) (C := RX1) (T := TX1) (N := 12) hx hb hts hi1 hown hK hP 0 rfl rfl 2 (by decide) (hts (.fieldLink RX1 9 "AskTree$Finder" "all" "[I") (by decide +kernel)) (fun _ h9 => h9) rfl dX1_seekOne_102 ?_
  refine lv_iconst (v := 0) hx hb dX1_seekOne_105 (by decide) ?_
  have hPc := hP.sub (ws' := [(h0_all, .inl (k0_all, 4, .inl f_2))]) [1] rfl
  have hDc := hD.sub (ws' := [(h0_all, .inl (k0_all, 4, .inl f_2))]) [1] (by decide) rfl
  have hKc := hK.sub (tys' := [(k0_all, .int)]) [0] rfl
  have hFc := va_free (wc := [(h0_all, .inl (k0_all, 4, .inl f_2))]) hD hS hA [1] rfl
  refine va_calli (va_runSN (As := [.ref h0_all, .int 0]) (rest := [.ref h0_all, .int 0, .ref h0]) ⟨hx, hb, hml, hown, hts⟩ (c_firstGreatest l dC dI H.size h0_all k0_all f_2 hk_3 hk_4 hk_5 hk_6) ⟨(va_cnB 2 hts gX1_seekOne_X7_firstGreatest_n124 rfl rfl rfl hN.2.2.2.2.1 (hts (.initialized RX7) (by decide +kernel)) (by decide +kernel) ⟨Nat.le_of_ble_eq_true rfl, Nat.le_of_ble_eq_true rfl⟩), hts (.static yX7_firstGreatest) (by decide +kernel), trivial⟩ (pre_S hPc hKc hDc hN) rfl rfl hl.1 rfl (lv_room (Nat.le_of_ble_eq_true rfl)) dX1_seekOne_106 ⟨Nat.le_of_ble_eq_true rfl, Nat.le_of_ble_eq_true rfl⟩) hS (fun q _ h => hFc q h) hFc (fun r_8 u t H1 locs ht hvm hw hB hz1 hk1 hS => ?_)
  clear hPc hDc hKc
  obtain ⟨rfl, rfl⟩ := hw
  obtain ⟨hP1, hK1, hD1⟩ := hB
  rw [ht] at hP1
  obtain ⟨hP, hD⟩ := va_join (wr := [(h0, .inr (1, [.ref a0_cases, .ref a0_rows, .ref h0_all, .ref a0_yes, .int (-1), .int 0, .int 0, .int 0, .int 0, .int 0, .int 0, .int 0]))]) (w1 := [(h0_all, .inl (k0_all, 4, .inl f_2))]) hP hD [1] [0] rfl rfl (by decide) (by decide) hk1 hFc hP1 hD1
  generalize H1 = H at hP hS ⊢
  clear hP1 hD1 hFc hk1 hz1 ht hvm hK1
  have hP : va_P (dC, dI) vwCl [(h0, .inr (1, [.ref a0_cases, .ref a0_rows, .ref h0_all, .ref a0_yes, .int (-1), .int 0, .int 0, .int 0, .int 0, .int 0, .int 0, .int 0])), (h0_all, .inl (k0_all, 4, .inl f_2))] H := hP
  have hD : va_D A [(h0, .inr (1, [.ref a0_cases, .ref a0_rows, .ref h0_all, .ref a0_yes, .int (-1), .int 0, .int 0, .int 0, .int 0, .int 0, .int 0, .int 0])), (h0_all, .inl (k0_all, 4, .inl f_2))] := hD
  refine va_iald hx hb hK hP 1 0 rfl rfl (vi _ _ (by decide)) dX1_seekOne_109 ?_
  refine tvv (v := .int 0) (ci f_2 (k := 0) (by decide) hk_3) ?_
  refine lv_isub hx hb dX1_seekOne_110 ?_
  refine tvv (v := .int 0) (congrArg Value.int (by decide)) ?_
  refine va_put (D := (dC, dI)) (ci := 1) (v := .int 0) (ty := .int) (C := RX1) (T := TX1) (N := 12) hx hb hts hi1 tyX1 tyX1_ok nmX1 hown hK hP hD hS 0 rfl rfl 6 (by decide) (hts (.fieldLink RX1 86 "AskTree$Finder" "oneWrong" "I") (by decide +kernel)) (fun _ h9 => h9) rfl (by decide +kernel) rfl rfl (Nat.le_of_ble_eq_true rfl) dX1_seekOne_111 (fun H locs hP hD hS => ?_)
  have hP : va_P (dC, dI) vwCl [(h0, .inr (1, [.ref a0_cases, .ref a0_rows, .ref h0_all, .ref a0_yes, .int (-1), .int 0, .int 0, .int 0, .int 0, .int 0, .int 0, .int 0])), (h0_all, .inl (k0_all, 4, .inl f_2))] H := hP
  have hD : va_D A [(h0, .inr (1, [.ref a0_cases, .ref a0_rows, .ref h0_all, .ref a0_yes, .int (-1), .int 0, .int 0, .int 0, .int 0, .int 0, .int 0, .int 0])), (h0_all, .inl (k0_all, 4, .inl f_2))] := hD
  refine lv_iconst (v := 0) hx hb dX1_seekOne_114 (by decide) ?_
  refine lv_istore (lv' := [(4, .int 0), (0, .ref h0), (1, .int 0), (2, .int 0), (3, .int 0)]) hx hb dX1_seekOne_115 hl (by decide) rfl (fun ls hl => ?_)
  refine lv_iload hx hb dX1_seekOne_117 (lv_at hl 0 rfl) ?_
  refine lv_bipush (v := 8) hx hb dX1_seekOne_119 (by decide) ?_
  refine lv_icmp_ge (tgt := 160) hx hb dX1_seekOne_121 (by decide) (fun c_9 => ?_) (fun c_9 => ?_)
  · exact absurd c_9 (by decide)
  refine lv_aload_n hx hb dX1_seekOne_124 rfl (lv_at hl 1 rfl) ?_
  refine va_get (D := (dC, dI)) (ci := 1) (v := .int 0) (C := RX1) (T := TX1) (N := 12) hx hb hts hi1 hown hK hP 0 rfl rfl 6 (by decide) (hts (.fieldLink RX1 86 "AskTree$Finder" "oneWrong" "I") (by decide +kernel)) (fun _ h9 => h9) rfl dX1_seekOne_125 ?_
  refine lv_if_le (tgt := 160) hx hb dX1_seekOne_128 (by decide) (fun c_10 => ?_) (fun c_10 => ?_)
  rotate_left
  · exact absurd c_10 (by decide)
  have hP9 := hP.sub (ws' := [(h0, .inr (1, [.ref a0_cases, .ref a0_rows, .ref h0_all, .ref a0_yes, .int (-1), .int 0, .int 0, .int 0, .int 0, .int 0, .int 0, .int 0])), (h0_all, .inl (k0_all, 4, .inl f_2))]) [0, 1] rfl
  have hD9 := hD.sub (ws' := [(h0, .inr (1, [.ref a0_cases, .ref a0_rows, .ref h0_all, .ref a0_yes, .int (-1), .int 0, .int 0, .int 0, .int 0, .int 0, .int 0, .int 0])), (h0_all, .inl (k0_all, 4, .inl f_2))]) [0, 1] (by decide) rfl
  have hK9 := hK.sub (tys' := []) [] rfl
  exact W.vret hx hb hr (fun t ht hW => ⟨⟨([(h0, .inr (1, [.ref a0_cases, .ref a0_rows, .ref h0_all, .ref a0_yes, .int (-1), .int 0, .int 0, .int 0, .int 0, .int 0, .int 0, .int 0])), (h0_all, .inl (k0_all, 4, .inl f_2))], []), rfl, ⟨f_2, rfl, hk_3, hk_4, hk_5, hk_6⟩, (by rw [ht]; exact hP9), va_K.moved hW.alike hK9, hD9⟩, hS.F ht⟩) hS.2.2 dX1_seekOne_160

set_option maxHeartbeats 4000000 in
set_option maxRecDepth 100000 in
theorem c_takeOne (l : Launch) (dC : Nat → ClassId) (dI : Nat → Nat → Nat) (sz : Nat) (h0 : Nat) (h0_rows : Nat) (h0_all : Nat) (a0_cases : Nat) (a0_yes : Nat) (a0_rows_row : Nat) (a0_rows_sides : Nat) (a0_rows_kept : Nat) (a0_rows_cases : Nat) (k0_all : ClassId) (f0_all : Nat → Int32)   : Met l yX1_takeOne wsX1_takeOne ({ frames := 3, cells := 0, slots := 0, locals := 108 }) (va_Pc [.ref h0, .int 0, .int 0] (pw (dC, dI) [(k0_all, .int)] [(h0, .inr (1, [.ref a0_cases, .ref h0_rows, .ref h0_all, .ref a0_yes, .int 0, .int 0, .int 0, .int 0, .int 0, .int 0, .int 0, .int 0])), (h0_rows, .inr (4, [.ref a0_rows_row, .ref a0_rows_sides, .ref a0_rows_kept, .ref a0_rows_cases, .int 0])), (h0_all, .inl (k0_all, 4, .inl f0_all))] sz)) (va_Qv (fun (u : vu) => (∃ (f_3 : Nat → Int32), u = ([(h0, .inr (1, [.ref a0_cases, .ref h0_rows, .ref h0_all, .ref a0_yes, .int (-1), .int 0, .int 0, .int 0, .int (-1), .int 0, .int 0, .int 0])), (h0_rows, .inr (4, [.ref a0_rows_row, .ref a0_rows_sides, .ref a0_rows_kept, .ref a0_rows_cases, .int 0])), (h0_all, .inl (k0_all, 4, .inl f_3))], []) ∧ f_3 0 = 0 ∧ f_3 1 = 0 ∧ f_3 2 = 0 ∧ f_3 3 = 0)) (fun u t => qw (dC, dI) u.2 (va_A [(h0, .inr (1, [.ref a0_cases, .ref h0_rows, .ref h0_all, .ref a0_yes, .int 0, .int 0, .int 0, .int 0, .int 0, .int 0, .int 0, .int 0])), (h0_rows, .inr (4, [.ref a0_rows_row, .ref a0_rows_sides, .ref a0_rows_kept, .ref a0_rows_cases, .int 0])), (h0_all, .inl (k0_all, 4, .inl f0_all))] sz) u.1 t) (va_A [(h0, .inr (1, [.ref a0_cases, .ref h0_rows, .ref h0_all, .ref a0_yes, .int 0, .int 0, .int 0, .int 0, .int 0, .int 0, .int 0, .int 0])), (h0_rows, .inr (4, [.ref a0_rows_row, .ref a0_rows_sides, .ref a0_rows_kept, .ref a0_rows_cases, .int 0])), (h0_all, .inl (k0_all, 4, .inl f0_all))] sz)) 0 0 (va_A [(h0, .inr (1, [.ref a0_cases, .ref h0_rows, .ref h0_all, .ref a0_yes, .int 0, .int 0, .int 0, .int 0, .int 0, .int 0, .int 0, .int 0])), (h0_rows, .inr (4, [.ref a0_rows_row, .ref a0_rows_sides, .ref a0_rows_kept, .ref a0_rows_cases, .int 0])), (h0_all, .inl (k0_all, 4, .inl f0_all))] sz) := by
  refine Met.ofW (cc := cX1_takeOne) (maxL := 3) (ret := none) (by decide) rfl ?_
  intro p e s m args below meth c s₁ B hml hv
  obtain ⟨rfl, hsz, hP, hK, hD0, hN⟩ := hv
  have hx := B.exec
  have hb := B.bytes
  have hr := B.returns
  have hts := atoms_spec (ws := wsX1_takeOne) B.pre
  have hown : s.vm.findClass RX1 = some m.cls := findClass_of_methodNamed B.named
  have hlocks := B.notSynchronized
  have hi1 : ∀ w ∈ u_ws RX1 TX1 12, w ∈ wsX1_takeOne := fun _ h => List.mem_cons_of_mem _ (List.mem_append_left _ (List.mem_append_left _ (List.mem_append_right _ h)))
  have hi4 : ∀ w ∈ u_ws RX4 TX4 5, w ∈ wsX1_takeOne := fun _ h => List.mem_cons_of_mem _ (List.mem_append_left _ (List.mem_append_right _ h))
  have hi0 : ∀ w ∈ u_ws RX0 TX0 5, w ∈ wsX1_takeOne := fun _ h => List.mem_cons_of_mem _ (List.mem_append_right _ h)
  subst hsz
  have hD := hD0.self (sz := s.heap.size)
  generalize hAe : va_A [(h0, .inr (1, [.ref a0_cases, .ref h0_rows, .ref h0_all, .ref a0_yes, .int 0, .int 0, .int 0, .int 0, .int 0, .int 0, .int 0, .int 0])), (h0_rows, .inr (4, [.ref a0_rows_row, .ref a0_rows_sides, .ref a0_rows_kept, .ref a0_rows_cases, .int 0])), (h0_all, .inl (k0_all, 4, .inl f0_all))] s.heap.size = A at hD ⊢
  have hA : ∀ q : Nat, s.heap.size ≤ q → A q := fun q h => by rw [← hAe]; exact Or.inr h
  have hS : va_S A s.heap s.heap [] := va_S.rf
  have hl := lv_entry ([.ref h0, .int 0, .int 0]) (n := 3) (Nat.le_of_ble_eq_true rfl)
  rw [lg_entry_eq]
  generalize (lg_sl ([.ref h0, .int 0, .int 0]) ++ List.replicate (3 - (lg_sl ([.ref h0, .int 0, .int 0])).length) Slot.unset).toArray = ls at hl ⊢
  have hl : lv_has ls 3 [(0, .ref h0), (1, .int 0), (2, .int 0)] := hl
  have hP : va_P (dC, dI) vwCl [(h0, .inr (1, [.ref a0_cases, .ref h0_rows, .ref h0_all, .ref a0_yes, .int 0, .int 0, .int 0, .int 0, .int 0, .int 0, .int 0, .int 0])), (h0_rows, .inr (4, [.ref a0_rows_row, .ref a0_rows_sides, .ref a0_rows_kept, .ref a0_rows_cases, .int 0])), (h0_all, .inl (k0_all, 4, .inl f0_all))] s.heap := hP
  refine lv_aload_n hx hb dX1_takeOne_0 rfl (lv_at hl 0 rfl) ?_
  refine va_get (D := (dC, dI)) (ci := 1) (v := .ref h0_rows) (C := RX1) (T := TX1) (N := 12) hx hb hts hi1 hown hK hP 0 rfl rfl 1 (by decide) (hts (.fieldLink RX1 22 "AskTree$Finder" "rows" "LAskTree$Rows;") (by decide +kernel)) (fun _ h9 => h9) rfl dX1_takeOne_1 ?_
  refine lv_iconst (v := 0) hx hb dX1_takeOne_4 (by decide) ?_
  refine lv_iload_n hx hb dX1_takeOne_5 rfl (lv_at hl 1 rfl) ?_
  refine lv_iload_n hx hb dX1_takeOne_6 rfl (lv_at hl 2 rfl) ?_
  refine lv_iconst (v := 0) hx hb dX1_takeOne_7 (by decide) ?_
  have hPc := hP.sub (ws' := [(h0_rows, .inr (4, [.ref a0_rows_row, .ref a0_rows_sides, .ref a0_rows_kept, .ref a0_rows_cases, .int 0]))]) [1] rfl
  have hDc := hD.sub (ws' := [(h0_rows, .inr (4, [.ref a0_rows_row, .ref a0_rows_sides, .ref a0_rows_kept, .ref a0_rows_cases, .int 0]))]) [1] (by decide) rfl
  have hKc := hK.sub (tys' := []) [] rfl
  have hFc := va_free (wc := [(h0_rows, .inr (4, [.ref a0_rows_row, .ref a0_rows_sides, .ref a0_rows_kept, .ref a0_rows_cases, .int 0]))]) hD hS hA [1] rfl
  refine va_callv (va_runV (As := [.int 0, .int 0, .int 0, .int 0]) (rest := []) ⟨hx, hb, hml, hown, hts⟩ (c_setSides l dC dI s.heap.size h0_rows a0_rows_row a0_rows_sides a0_rows_kept a0_rows_cases ) (cwV 4 hts gX1_takeOne_X4_setSides rfl rfl rfl (by decide +kernel) ⟨Nat.le_of_ble_eq_true rfl, Nat.le_of_ble_eq_true rfl⟩) (pre_V hPc hKc hDc hN (ci := 4) (q0 := 0) rfl rfl) rfl rfl hl.1 rfl (lv_room (Nat.le_of_ble_eq_true rfl)) dX1_takeOne_8 ⟨Nat.le_of_ble_eq_true rfl, Nat.le_of_ble_eq_true rfl⟩) hS (fun q _ h => hFc q h) hFc (fun u t H1 locs ht hvm hw hB hz1 hk1 hS => ?_)
  clear hPc hDc hKc
  obtain rfl := hw
  obtain ⟨hP1, hK1, hD1⟩ := hB
  rw [ht] at hP1
  obtain ⟨hP, hD⟩ := va_join (wr := [(h0, .inr (1, [.ref a0_cases, .ref h0_rows, .ref h0_all, .ref a0_yes, .int 0, .int 0, .int 0, .int 0, .int 0, .int 0, .int 0, .int 0])), (h0_all, .inl (k0_all, 4, .inl f0_all))]) (w1 := [(h0_rows, .inr (4, [.ref a0_rows_row, .ref a0_rows_sides, .ref a0_rows_kept, .ref a0_rows_cases, .int 0]))]) hP hD [1] [0, 2] rfl rfl (by decide) (by decide) hk1 hFc hP1 hD1
  generalize H1 = H at hP hS ⊢
  clear hP1 hD1 hFc hk1 hz1 ht hvm hK1
  have hP : va_P (dC, dI) vwCl [(h0, .inr (1, [.ref a0_cases, .ref h0_rows, .ref h0_all, .ref a0_yes, .int 0, .int 0, .int 0, .int 0, .int 0, .int 0, .int 0, .int 0])), (h0_all, .inl (k0_all, 4, .inl f0_all)), (h0_rows, .inr (4, [.ref a0_rows_row, .ref a0_rows_sides, .ref a0_rows_kept, .ref a0_rows_cases, .int 0]))] H := hP
  have hD : va_D A [(h0, .inr (1, [.ref a0_cases, .ref h0_rows, .ref h0_all, .ref a0_yes, .int 0, .int 0, .int 0, .int 0, .int 0, .int 0, .int 0, .int 0])), (h0_all, .inl (k0_all, 4, .inl f0_all)), (h0_rows, .inr (4, [.ref a0_rows_row, .ref a0_rows_sides, .ref a0_rows_kept, .ref a0_rows_cases, .int 0]))] := hD
  refine lv_aload_n hx hb dX1_takeOne_11 rfl (lv_at hl 0 rfl) ?_
  refine lv_iload_n hx hb dX1_takeOne_12 rfl (lv_at hl 1 rfl) ?_
  refine lv_iload_n hx hb dX1_takeOne_13 rfl (lv_at hl 2 rfl) ?_
  refine lv_iconst (v := 0) hx hb dX1_takeOne_14 (by decide) ?_
  have hPc := hP.sub (ws' := [(h0, .inr (1, [.ref a0_cases, .ref h0_rows, .ref h0_all, .ref a0_yes, .int 0, .int 0, .int 0, .int 0, .int 0, .int 0, .int 0, .int 0])), (h0_all, .inl (k0_all, 4, .inl f0_all))]) [0, 1] rfl
  have hDc := hD.sub (ws' := [(h0, .inr (1, [.ref a0_cases, .ref h0_rows, .ref h0_all, .ref a0_yes, .int 0, .int 0, .int 0, .int 0, .int 0, .int 0, .int 0, .int 0])), (h0_all, .inl (k0_all, 4, .inl f0_all))]) [0, 1] (by decide) rfl
  have hKc := hK.sub (tys' := [(k0_all, .int)]) [0] rfl
  have hFc := va_free (wc := [(h0, .inr (1, [.ref a0_cases, .ref h0_rows, .ref h0_all, .ref a0_yes, .int 0, .int 0, .int 0, .int 0, .int 0, .int 0, .int 0, .int 0])), (h0_all, .inl (k0_all, 4, .inl f0_all))]) hD hS hA [0, 1] rfl
  refine va_callv (va_runV (As := [.int 0, .int 0, .int 0]) (rest := []) ⟨hx, hb, hml, hown, hts⟩ (c_seekOne l dC dI H.size h0 h0_all a0_cases h0_rows a0_yes k0_all f0_all ) (cwV 3 hts gX1_takeOne_X1_seekOne rfl rfl rfl (by decide +kernel) ⟨Nat.le_of_ble_eq_true rfl, Nat.le_of_ble_eq_true rfl⟩) (pre_V hPc hKc hDc hN (ci := 1) (q0 := 0) rfl rfl) rfl rfl hl.1 rfl (lv_room (Nat.le_of_ble_eq_true rfl)) dX1_takeOne_15 ⟨Nat.le_of_ble_eq_true rfl, Nat.le_of_ble_eq_true rfl⟩) hS (fun q _ h => hFc q h) hFc (fun u t H1 locs ht hvm hw hB hz1 hk1 hS => ?_)
  clear hPc hDc hKc
  obtain ⟨f_3, rfl, hk_4, hk_5, hk_6, hk_7⟩ := hw
  obtain ⟨hP1, hK1, hD1⟩ := hB
  rw [ht] at hP1
  obtain ⟨hP, hD⟩ := va_join (wr := [(h0_rows, .inr (4, [.ref a0_rows_row, .ref a0_rows_sides, .ref a0_rows_kept, .ref a0_rows_cases, .int 0]))]) (w1 := [(h0, .inr (1, [.ref a0_cases, .ref h0_rows, .ref h0_all, .ref a0_yes, .int (-1), .int 0, .int 0, .int 0, .int 0, .int 0, .int 0, .int 0])), (h0_all, .inl (k0_all, 4, .inl f_3))]) hP hD [0, 1] [2] rfl rfl (by decide) (by decide) hk1 hFc hP1 hD1
  generalize H1 = H at hP hS ⊢
  clear hP1 hD1 hFc hk1 hz1 ht hvm hK1
  have hP : va_P (dC, dI) vwCl [(h0_rows, .inr (4, [.ref a0_rows_row, .ref a0_rows_sides, .ref a0_rows_kept, .ref a0_rows_cases, .int 0])), (h0, .inr (1, [.ref a0_cases, .ref h0_rows, .ref h0_all, .ref a0_yes, .int (-1), .int 0, .int 0, .int 0, .int 0, .int 0, .int 0, .int 0])), (h0_all, .inl (k0_all, 4, .inl f_3))] H := hP
  have hD : va_D A [(h0_rows, .inr (4, [.ref a0_rows_row, .ref a0_rows_sides, .ref a0_rows_kept, .ref a0_rows_cases, .int 0])), (h0, .inr (1, [.ref a0_cases, .ref h0_rows, .ref h0_all, .ref a0_yes, .int (-1), .int 0, .int 0, .int 0, .int 0, .int 0, .int 0, .int 0])), (h0_all, .inl (k0_all, 4, .inl f_3))] := hD
  refine lv_aload_n hx hb dX1_takeOne_18 rfl (lv_at hl 0 rfl) ?_
  refine lv_aload_n hx hb dX1_takeOne_19 rfl (lv_at hl 0 rfl) ?_
  refine va_get (D := (dC, dI)) (ci := 1) (v := .int (-1)) (C := RX1) (T := TX1) (N := 12) hx hb hts hi1 hown hK hP 1 rfl rfl 4 (by decide) (hts (.fieldLink RX1 80 "AskTree$Finder" "oneMark" "I") (by decide +kernel)) (fun _ h9 => h9) rfl dX1_takeOne_20 ?_
  refine va_put (D := (dC, dI)) (ci := 1) (v := .int (-1)) (ty := .int) (C := RX1) (T := TX1) (N := 12) hx hb hts hi1 tyX1 tyX1_ok nmX1 hown hK hP hD hS 1 rfl rfl 8 (by decide) (hts (.fieldLink RX1 57 "AskTree$Finder" "topMark" "I") (by decide +kernel)) (fun _ h9 => h9) rfl (by decide +kernel) rfl rfl (Nat.le_of_ble_eq_true rfl) dX1_takeOne_23 (fun H locs hP hD hS => ?_)
  have hP : va_P (dC, dI) vwCl [(h0_rows, .inr (4, [.ref a0_rows_row, .ref a0_rows_sides, .ref a0_rows_kept, .ref a0_rows_cases, .int 0])), (h0, .inr (1, [.ref a0_cases, .ref h0_rows, .ref h0_all, .ref a0_yes, .int (-1), .int 0, .int 0, .int 0, .int (-1), .int 0, .int 0, .int 0])), (h0_all, .inl (k0_all, 4, .inl f_3))] H := hP
  have hD : va_D A [(h0_rows, .inr (4, [.ref a0_rows_row, .ref a0_rows_sides, .ref a0_rows_kept, .ref a0_rows_cases, .int 0])), (h0, .inr (1, [.ref a0_cases, .ref h0_rows, .ref h0_all, .ref a0_yes, .int (-1), .int 0, .int 0, .int 0, .int (-1), .int 0, .int 0, .int 0])), (h0_all, .inl (k0_all, 4, .inl f_3))] := hD
  refine lv_aload_n hx hb dX1_takeOne_26 rfl (lv_at hl 0 rfl) ?_
  refine lv_aload_n hx hb dX1_takeOne_27 rfl (lv_at hl 0 rfl) ?_
  refine va_get (D := (dC, dI)) (ci := 1) (v := .int 0) (C := RX1) (T := TX1) (N := 12) hx hb hts hi1 hown hK hP 1 rfl rfl 5 (by decide) (hts (.fieldLink RX1 83 "AskTree$Finder" "oneValue" "I") (by decide +kernel)) (fun _ h9 => h9) rfl dX1_takeOne_28 ?_
  refine va_put (D := (dC, dI)) (ci := 1) (v := .int 0) (ty := .int) (C := RX1) (T := TX1) (N := 12) hx hb hts hi1 tyX1 tyX1_ok nmX1 hown hK hP hD hS 1 rfl rfl 9 (by decide) (hts (.fieldLink RX1 60 "AskTree$Finder" "topValue" "I") (by decide +kernel)) (fun _ h9 => h9) rfl (by decide +kernel) rfl rfl (Nat.le_of_ble_eq_true rfl) dX1_takeOne_31 (fun H locs hP hD hS => ?_)
  have hP : va_P (dC, dI) vwCl [(h0_rows, .inr (4, [.ref a0_rows_row, .ref a0_rows_sides, .ref a0_rows_kept, .ref a0_rows_cases, .int 0])), (h0, .inr (1, [.ref a0_cases, .ref h0_rows, .ref h0_all, .ref a0_yes, .int (-1), .int 0, .int 0, .int 0, .int (-1), .int 0, .int 0, .int 0])), (h0_all, .inl (k0_all, 4, .inl f_3))] H := hP
  have hD : va_D A [(h0_rows, .inr (4, [.ref a0_rows_row, .ref a0_rows_sides, .ref a0_rows_kept, .ref a0_rows_cases, .int 0])), (h0, .inr (1, [.ref a0_cases, .ref h0_rows, .ref h0_all, .ref a0_yes, .int (-1), .int 0, .int 0, .int 0, .int (-1), .int 0, .int 0, .int 0])), (h0_all, .inl (k0_all, 4, .inl f_3))] := hD
  refine lv_aload_n hx hb dX1_takeOne_34 rfl (lv_at hl 0 rfl) ?_
  refine lv_aload_n hx hb dX1_takeOne_35 rfl (lv_at hl 0 rfl) ?_
  refine va_get (D := (dC, dI)) (ci := 1) (v := .int 0) (C := RX1) (T := TX1) (N := 12) hx hb hts hi1 hown hK hP 1 rfl rfl 6 (by decide) (hts (.fieldLink RX1 86 "AskTree$Finder" "oneWrong" "I") (by decide +kernel)) (fun _ h9 => h9) rfl dX1_takeOne_36 ?_
  refine va_put (D := (dC, dI)) (ci := 1) (v := .int 0) (ty := .int) (C := RX1) (T := TX1) (N := 12) hx hb hts hi1 tyX1 tyX1_ok nmX1 hown hK hP hD hS 1 rfl rfl 10 (by decide) (hts (.fieldLink RX1 50 "AskTree$Finder" "topWrong" "I") (by decide +kernel)) (fun _ h9 => h9) rfl (by decide +kernel) rfl rfl (Nat.le_of_ble_eq_true rfl) dX1_takeOne_39 (fun H locs hP hD hS => ?_)
  have hP : va_P (dC, dI) vwCl [(h0_rows, .inr (4, [.ref a0_rows_row, .ref a0_rows_sides, .ref a0_rows_kept, .ref a0_rows_cases, .int 0])), (h0, .inr (1, [.ref a0_cases, .ref h0_rows, .ref h0_all, .ref a0_yes, .int (-1), .int 0, .int 0, .int 0, .int (-1), .int 0, .int 0, .int 0])), (h0_all, .inl (k0_all, 4, .inl f_3))] H := hP
  have hD : va_D A [(h0_rows, .inr (4, [.ref a0_rows_row, .ref a0_rows_sides, .ref a0_rows_kept, .ref a0_rows_cases, .int 0])), (h0, .inr (1, [.ref a0_cases, .ref h0_rows, .ref h0_all, .ref a0_yes, .int (-1), .int 0, .int 0, .int 0, .int (-1), .int 0, .int 0, .int 0])), (h0_all, .inl (k0_all, 4, .inl f_3))] := hD
  refine lv_aload_n hx hb dX1_takeOne_42 rfl (lv_at hl 0 rfl) ?_
  refine lv_aload_n hx hb dX1_takeOne_43 rfl (lv_at hl 0 rfl) ?_
  refine va_get (D := (dC, dI)) (ci := 1) (v := .int (-1)) (C := RX1) (T := TX1) (N := 12) hx hb hts hi1 hown hK hP 1 rfl rfl 4 (by decide) (hts (.fieldLink RX1 80 "AskTree$Finder" "oneMark" "I") (by decide +kernel)) (fun _ h9 => h9) rfl dX1_takeOne_44 ?_
  refine lv_iconst (v := (-1)) hx hb dX1_takeOne_47 (by decide) ?_
  refine lv_icmp_ne (tgt := 55) hx hb dX1_takeOne_48 (by decide) (fun c_8 => ?_) (fun c_8 => ?_)
  · exact absurd c_8 (by decide)
  refine lv_iconst (v := 0) hx hb dX1_takeOne_51 (by decide) ?_
  refine lv_goto (tgt := 56) hx hb dX1_takeOne_52 (by decide) ?_
  refine va_put (D := (dC, dI)) (ci := 1) (v := .int 0) (ty := .int) (C := RX1) (T := TX1) (N := 12) hx hb hts hi1 tyX1 tyX1_ok nmX1 hown hK hP hD hS 1 rfl rfl 11 (by decide) (hts (.fieldLink RX1 89 "AskTree$Finder" "topAsks" "I") (by decide +kernel)) (fun _ h9 => h9) rfl (by decide +kernel) rfl rfl (Nat.le_of_ble_eq_true rfl) dX1_takeOne_56 (fun H locs hP hD hS => ?_)
  have hP : va_P (dC, dI) vwCl [(h0_rows, .inr (4, [.ref a0_rows_row, .ref a0_rows_sides, .ref a0_rows_kept, .ref a0_rows_cases, .int 0])), (h0, .inr (1, [.ref a0_cases, .ref h0_rows, .ref h0_all, .ref a0_yes, .int (-1), .int 0, .int 0, .int 0, .int (-1), .int 0, .int 0, .int 0])), (h0_all, .inl (k0_all, 4, .inl f_3))] H := hP
  have hD : va_D A [(h0_rows, .inr (4, [.ref a0_rows_row, .ref a0_rows_sides, .ref a0_rows_kept, .ref a0_rows_cases, .int 0])), (h0, .inr (1, [.ref a0_cases, .ref h0_rows, .ref h0_all, .ref a0_yes, .int (-1), .int 0, .int 0, .int 0, .int (-1), .int 0, .int 0, .int 0])), (h0_all, .inl (k0_all, 4, .inl f_3))] := hD
  have hP9 := hP.sub (ws' := [(h0, .inr (1, [.ref a0_cases, .ref h0_rows, .ref h0_all, .ref a0_yes, .int (-1), .int 0, .int 0, .int 0, .int (-1), .int 0, .int 0, .int 0])), (h0_rows, .inr (4, [.ref a0_rows_row, .ref a0_rows_sides, .ref a0_rows_kept, .ref a0_rows_cases, .int 0])), (h0_all, .inl (k0_all, 4, .inl f_3))]) [1, 0, 2] rfl
  have hD9 := hD.sub (ws' := [(h0, .inr (1, [.ref a0_cases, .ref h0_rows, .ref h0_all, .ref a0_yes, .int (-1), .int 0, .int 0, .int 0, .int (-1), .int 0, .int 0, .int 0])), (h0_rows, .inr (4, [.ref a0_rows_row, .ref a0_rows_sides, .ref a0_rows_kept, .ref a0_rows_cases, .int 0])), (h0_all, .inl (k0_all, 4, .inl f_3))]) [1, 0, 2] (by decide) rfl
  have hK9 := hK.sub (tys' := []) [] rfl
  exact W.vret hx hb hr (fun t ht hW => ⟨⟨([(h0, .inr (1, [.ref a0_cases, .ref h0_rows, .ref h0_all, .ref a0_yes, .int (-1), .int 0, .int 0, .int 0, .int (-1), .int 0, .int 0, .int 0])), (h0_rows, .inr (4, [.ref a0_rows_row, .ref a0_rows_sides, .ref a0_rows_kept, .ref a0_rows_cases, .int 0])), (h0_all, .inl (k0_all, 4, .inl f_3))], []), rfl, ⟨f_3, rfl, hk_4, hk_5, hk_6, hk_7⟩, (by rw [ht]; exact hP9), va_K.moved hW.alike hK9, hD9⟩, hS.F ht⟩) hS.2.2 dX1_takeOne_59

set_option maxHeartbeats 4000000 in
set_option maxRecDepth 100000 in
theorem c_build (l : Launch) (dC : Nat → ClassId) (dI : Nat → Nat → Nat) (sz : Nat) (h0 : Nat) (h1 : Nat) (p5 : Int32) (h0_rows : Nat) (h0_all : Nat) (h1_asked : Nat) (h1_values : Nat) (h1_below : Nat) (h1_ways : Nat) (h1_above : Nat) (h1_shares : Nat) (a0_cases : Nat) (a0_yes : Nat) (a0_rows_row : Nat) (a0_rows_sides : Nat) (a0_rows_kept : Nat) (a0_rows_cases : Nat) (k0_all : ClassId) (f0_all : Nat → Int32) (k1_asked : ClassId) (f1_asked : Nat → Int32) (k1_values : ClassId) (f1_values : Nat → Int32) (k1_below : ClassId) (f1_below : Nat → Int32) (k1_ways : ClassId) (f1_ways : Nat → Int32) (k1_above : ClassId) (f1_above : Nat → Int32) (k1_shares : ClassId) (f1_shares : Nat → Int32)   : Met l yX1_build wsX1_build ({ frames := 4, cells := 0, slots := 0, locals := 130 }) (va_Pc [.ref h0, .ref h1, .int 0, .int 0, .int 0, .int p5] (pw (dC, dI) [(k0_all, .int), (k1_asked, .int), (k1_values, .int), (k1_below, .int), (k1_ways, .int), (k1_above, .int), (k1_shares, .int)] [(h0, .inr (1, [.ref a0_cases, .ref h0_rows, .ref h0_all, .ref a0_yes, .int 0, .int 0, .int 0, .int 0, .int 0, .int 0, .int 0, .int 0])), (h0_rows, .inr (4, [.ref a0_rows_row, .ref a0_rows_sides, .ref a0_rows_kept, .ref a0_rows_cases, .int 0])), (h0_all, .inl (k0_all, 4, .inl f0_all)), (h1, .inr (6, [.ref h1_asked, .ref h1_values, .ref h1_below, .ref h1_ways, .ref h1_above, .ref h1_shares, .int 0])), (h1_asked, .inl (k1_asked, 511, .inl f1_asked)), (h1_values, .inl (k1_values, 511, .inl f1_values)), (h1_below, .inl (k1_below, 511, .inl f1_below)), (h1_ways, .inl (k1_ways, 511, .inl f1_ways)), (h1_above, .inl (k1_above, 511, .inl f1_above)), (h1_shares, .inl (k1_shares, 2044, .inl f1_shares))] sz)) (va_Qi (fun (r : Int32) (u : vu) => (∃ (f_23 : Nat → Int32) (f_8 : Nat → Int32) (f_9 : Nat → Int32) (f_10 : Nat → Int32) (f_11 : Nat → Int32) (f_12 : Nat → Int32) (f_13 : Nat → Int32), u = ([(h0, .inr (1, [.ref a0_cases, .ref h0_rows, .ref h0_all, .ref a0_yes, .int (-1), .int 0, .int 0, .int 0, .int (-1), .int 0, .int 0, .int 0])), (h0_rows, .inr (4, [.ref a0_rows_row, .ref a0_rows_sides, .ref a0_rows_kept, .ref a0_rows_cases, .int 0])), (h0_all, .inl (k0_all, 4, .inl f_23)), (h1, .inr (6, [.ref h1_asked, .ref h1_values, .ref h1_below, .ref h1_ways, .ref h1_above, .ref h1_shares, .int 1])), (h1_asked, .inl (k1_asked, 511, .inl f_8)), (h1_values, .inl (k1_values, 511, .inl f_9)), (h1_below, .inl (k1_below, 511, .inl f_10)), (h1_ways, .inl (k1_ways, 511, .inl f_11)), (h1_above, .inl (k1_above, 511, .inl f_12)), (h1_shares, .inl (k1_shares, 2044, .inl f_13))], []) ∧ f_23 0 = 0 ∧ f_23 1 = 0 ∧ f_23 2 = 0 ∧ f_23 3 = 0 ∧ f_8 0 = (-1) ∧ f_9 0 = 0 ∧ f_10 0 = (-1) ∧ f_11 0 = 0 ∧ f_12 0 = 0 ∧ r = 0) ∨ (∃ (f_2 : Nat → Int32) (f_8 : Nat → Int32) (f_9 : Nat → Int32) (f_10 : Nat → Int32) (f_11 : Nat → Int32) (f_12 : Nat → Int32) (f_13 : Nat → Int32), u = ([(h0, .inr (1, [.ref a0_cases, .ref h0_rows, .ref h0_all, .ref a0_yes, .int 0, .int 0, .int 0, .int 0, .int 0, .int 0, .int 0, .int 0])), (h0_rows, .inr (4, [.ref a0_rows_row, .ref a0_rows_sides, .ref a0_rows_kept, .ref a0_rows_cases, .int 0])), (h0_all, .inl (k0_all, 4, .inl f_2)), (h1, .inr (6, [.ref h1_asked, .ref h1_values, .ref h1_below, .ref h1_ways, .ref h1_above, .ref h1_shares, .int 1])), (h1_asked, .inl (k1_asked, 511, .inl f_8)), (h1_values, .inl (k1_values, 511, .inl f_9)), (h1_below, .inl (k1_below, 511, .inl f_10)), (h1_ways, .inl (k1_ways, 511, .inl f_11)), (h1_above, .inl (k1_above, 511, .inl f_12)), (h1_shares, .inl (k1_shares, 2044, .inl f_13))], []) ∧ f_2 0 = 0 ∧ f_2 1 = 0 ∧ f_2 2 = 0 ∧ f_2 3 = 0 ∧ f_8 0 = (-1) ∧ f_9 0 = 0 ∧ f_10 0 = (-1) ∧ f_11 0 = 0 ∧ f_12 0 = 0 ∧ r = 0)) (fun u t => qw (dC, dI) u.2 (va_A [(h0, .inr (1, [.ref a0_cases, .ref h0_rows, .ref h0_all, .ref a0_yes, .int 0, .int 0, .int 0, .int 0, .int 0, .int 0, .int 0, .int 0])), (h0_rows, .inr (4, [.ref a0_rows_row, .ref a0_rows_sides, .ref a0_rows_kept, .ref a0_rows_cases, .int 0])), (h0_all, .inl (k0_all, 4, .inl f0_all)), (h1, .inr (6, [.ref h1_asked, .ref h1_values, .ref h1_below, .ref h1_ways, .ref h1_above, .ref h1_shares, .int 0])), (h1_asked, .inl (k1_asked, 511, .inl f1_asked)), (h1_values, .inl (k1_values, 511, .inl f1_values)), (h1_below, .inl (k1_below, 511, .inl f1_below)), (h1_ways, .inl (k1_ways, 511, .inl f1_ways)), (h1_above, .inl (k1_above, 511, .inl f1_above)), (h1_shares, .inl (k1_shares, 2044, .inl f1_shares))] sz) u.1 t) (va_A [(h0, .inr (1, [.ref a0_cases, .ref h0_rows, .ref h0_all, .ref a0_yes, .int 0, .int 0, .int 0, .int 0, .int 0, .int 0, .int 0, .int 0])), (h0_rows, .inr (4, [.ref a0_rows_row, .ref a0_rows_sides, .ref a0_rows_kept, .ref a0_rows_cases, .int 0])), (h0_all, .inl (k0_all, 4, .inl f0_all)), (h1, .inr (6, [.ref h1_asked, .ref h1_values, .ref h1_below, .ref h1_ways, .ref h1_above, .ref h1_shares, .int 0])), (h1_asked, .inl (k1_asked, 511, .inl f1_asked)), (h1_values, .inl (k1_values, 511, .inl f1_values)), (h1_below, .inl (k1_below, 511, .inl f1_below)), (h1_ways, .inl (k1_ways, 511, .inl f1_ways)), (h1_above, .inl (k1_above, 511, .inl f1_above)), (h1_shares, .inl (k1_shares, 2044, .inl f1_shares))] sz)) 0 0 (va_A [(h0, .inr (1, [.ref a0_cases, .ref h0_rows, .ref h0_all, .ref a0_yes, .int 0, .int 0, .int 0, .int 0, .int 0, .int 0, .int 0, .int 0])), (h0_rows, .inr (4, [.ref a0_rows_row, .ref a0_rows_sides, .ref a0_rows_kept, .ref a0_rows_cases, .int 0])), (h0_all, .inl (k0_all, 4, .inl f0_all)), (h1, .inr (6, [.ref h1_asked, .ref h1_values, .ref h1_below, .ref h1_ways, .ref h1_above, .ref h1_shares, .int 0])), (h1_asked, .inl (k1_asked, 511, .inl f1_asked)), (h1_values, .inl (k1_values, 511, .inl f1_values)), (h1_below, .inl (k1_below, 511, .inl f1_below)), (h1_ways, .inl (k1_ways, 511, .inl f1_ways)), (h1_above, .inl (k1_above, 511, .inl f1_above)), (h1_shares, .inl (k1_shares, 2044, .inl f1_shares))] sz) := by
  refine Met.ofW (cc := cX1_build) (maxL := 11) (ret := (some .int)) (by decide) rfl ?_
  intro p e s m args below meth c s₁ B hml hv
  obtain ⟨rfl, hsz, hP, hK, hD0, hN⟩ := hv
  have hx := B.exec
  have hb := B.bytes
  have hr := B.returns
  have hts := atoms_spec (ws := wsX1_build) B.pre
  have hown : s.vm.findClass RX1 = some m.cls := findClass_of_methodNamed B.named
  have hlocks := B.notSynchronized
  have hi1 : ∀ w ∈ u_ws RX1 TX1 12, w ∈ wsX1_build := fun _ h => List.mem_cons_of_mem _ (List.mem_append_left _ (List.mem_append_left _ (List.mem_append_left _ (List.mem_append_right _ h))))
  have hi6 : ∀ w ∈ u_ws RX6 TX6 7, w ∈ wsX1_build := fun _ h => List.mem_cons_of_mem _ (List.mem_append_left _ (List.mem_append_left _ (List.mem_append_right _ h)))
  have hi4 : ∀ w ∈ u_ws RX4 TX4 5, w ∈ wsX1_build := fun _ h => List.mem_cons_of_mem _ (List.mem_append_left _ (List.mem_append_right _ h))
  have hi0 : ∀ w ∈ u_ws RX0 TX0 5, w ∈ wsX1_build := fun _ h => List.mem_cons_of_mem _ (List.mem_append_right _ h)
  subst hsz
  have hD := hD0.self (sz := s.heap.size)
  generalize hAe : va_A [(h0, .inr (1, [.ref a0_cases, .ref h0_rows, .ref h0_all, .ref a0_yes, .int 0, .int 0, .int 0, .int 0, .int 0, .int 0, .int 0, .int 0])), (h0_rows, .inr (4, [.ref a0_rows_row, .ref a0_rows_sides, .ref a0_rows_kept, .ref a0_rows_cases, .int 0])), (h0_all, .inl (k0_all, 4, .inl f0_all)), (h1, .inr (6, [.ref h1_asked, .ref h1_values, .ref h1_below, .ref h1_ways, .ref h1_above, .ref h1_shares, .int 0])), (h1_asked, .inl (k1_asked, 511, .inl f1_asked)), (h1_values, .inl (k1_values, 511, .inl f1_values)), (h1_below, .inl (k1_below, 511, .inl f1_below)), (h1_ways, .inl (k1_ways, 511, .inl f1_ways)), (h1_above, .inl (k1_above, 511, .inl f1_above)), (h1_shares, .inl (k1_shares, 2044, .inl f1_shares))] s.heap.size = A at hD ⊢
  have hA : ∀ q : Nat, s.heap.size ≤ q → A q := fun q h => by rw [← hAe]; exact Or.inr h
  have hS : va_S A s.heap s.heap [] := va_S.rf
  have hl := lv_entry ([.ref h0, .ref h1, .int 0, .int 0, .int 0, .int p5]) (n := 11) (Nat.le_of_ble_eq_true rfl)
  rw [lg_entry_eq]
  generalize (lg_sl ([.ref h0, .ref h1, .int 0, .int 0, .int 0, .int p5]) ++ List.replicate (11 - (lg_sl ([.ref h0, .ref h1, .int 0, .int 0, .int 0, .int p5])).length) Slot.unset).toArray = ls at hl ⊢
  have hl : lv_has ls 11 [(0, .ref h0), (1, .ref h1), (2, .int 0), (3, .int 0), (4, .int 0), (5, .int p5)] := hl
  have hP : va_P (dC, dI) vwCl [(h0, .inr (1, [.ref a0_cases, .ref h0_rows, .ref h0_all, .ref a0_yes, .int 0, .int 0, .int 0, .int 0, .int 0, .int 0, .int 0, .int 0])), (h0_rows, .inr (4, [.ref a0_rows_row, .ref a0_rows_sides, .ref a0_rows_kept, .ref a0_rows_cases, .int 0])), (h0_all, .inl (k0_all, 4, .inl f0_all)), (h1, .inr (6, [.ref h1_asked, .ref h1_values, .ref h1_below, .ref h1_ways, .ref h1_above, .ref h1_shares, .int 0])), (h1_asked, .inl (k1_asked, 511, .inl f1_asked)), (h1_values, .inl (k1_values, 511, .inl f1_values)), (h1_below, .inl (k1_below, 511, .inl f1_below)), (h1_ways, .inl (k1_ways, 511, .inl f1_ways)), (h1_above, .inl (k1_above, 511, .inl f1_above)), (h1_shares, .inl (k1_shares, 2044, .inl f1_shares))] s.heap := hP
  refine lv_aload_n hx hb dX1_build_0 rfl (lv_at hl 0 rfl) ?_
  refine va_get (D := (dC, dI)) (ci := 1) (v := .ref h0_rows) (C := RX1) (T := TX1) (N := 12) hx hb hts hi1 hown hK hP 0 rfl rfl 1 (by decide) (hts (.fieldLink RX1 22 "AskTree$Finder" "rows" "LAskTree$Rows;") (by decide +kernel)) (fun _ h9 => h9) rfl dX1_build_1 ?_
  refine lv_iload_n hx hb dX1_build_4 rfl (lv_at hl 2 rfl) ?_
  refine lv_iload_n hx hb dX1_build_5 rfl (lv_at hl 3 rfl) ?_
  refine lv_aload_n hx hb dX1_build_6 rfl (lv_at hl 0 rfl) ?_
  refine va_get (D := (dC, dI)) (ci := 1) (v := .ref h0_all) (C := RX1) (T := TX1) (N := 12) hx hb hts hi1 hown hK hP 0 rfl rfl 2 (by decide) (hts (.fieldLink RX1 9 "AskTree$Finder" "all" "[I") (by decide +kernel)) (fun _ h9 => h9) rfl dX1_build_7 ?_
  have hPc := hP.sub (ws' := [(h0_rows, .inr (4, [.ref a0_rows_row, .ref a0_rows_sides, .ref a0_rows_kept, .ref a0_rows_cases, .int 0])), (h0_all, .inl (k0_all, 4, .inl f0_all))]) [1, 2] rfl
  have hDc := hD.sub (ws' := [(h0_rows, .inr (4, [.ref a0_rows_row, .ref a0_rows_sides, .ref a0_rows_kept, .ref a0_rows_cases, .int 0])), (h0_all, .inl (k0_all, 4, .inl f0_all))]) [1, 2] (by decide) rfl
  have hKc := hK.sub (tys' := [(k0_all, .int)]) [0] rfl
  have hFc := va_free (wc := [(h0_rows, .inr (4, [.ref a0_rows_row, .ref a0_rows_sides, .ref a0_rows_kept, .ref a0_rows_cases, .int 0])), (h0_all, .inl (k0_all, 4, .inl f0_all))]) hD hS hA [1, 2] rfl
  refine va_callv (va_runV (As := [.int 0, .int 0, .ref h0_all]) (rest := []) ⟨hx, hb, hml, hown, hts⟩ (c_tally l dC dI s.heap.size h0_rows h0_all a0_rows_row a0_rows_sides a0_rows_kept a0_rows_cases k0_all f0_all ) (cwV 3 hts gX1_build_X4_tally rfl rfl rfl (by decide +kernel) ⟨Nat.le_of_ble_eq_true rfl, Nat.le_of_ble_eq_true rfl⟩) (pre_V hPc hKc hDc hN (ci := 4) (q0 := 0) rfl rfl) rfl rfl hl.1 rfl (lv_room (Nat.le_of_ble_eq_true rfl)) dX1_build_10 ⟨Nat.le_of_ble_eq_true rfl, Nat.le_of_ble_eq_true rfl⟩) hS (fun q _ h => hFc q h) hFc (fun u t H1 locs ht hvm hw hB hz1 hk1 hS => ?_)
  clear hPc hDc hKc
  obtain ⟨f_2, rfl, hk_3, hk_4, hk_5, hk_6⟩ := hw
  obtain ⟨hP1, hK1, hD1⟩ := hB
  rw [ht] at hP1
  obtain ⟨hP, hD⟩ := va_join (wr := [(h0, .inr (1, [.ref a0_cases, .ref h0_rows, .ref h0_all, .ref a0_yes, .int 0, .int 0, .int 0, .int 0, .int 0, .int 0, .int 0, .int 0])), (h1, .inr (6, [.ref h1_asked, .ref h1_values, .ref h1_below, .ref h1_ways, .ref h1_above, .ref h1_shares, .int 0])), (h1_asked, .inl (k1_asked, 511, .inl f1_asked)), (h1_values, .inl (k1_values, 511, .inl f1_values)), (h1_below, .inl (k1_below, 511, .inl f1_below)), (h1_ways, .inl (k1_ways, 511, .inl f1_ways)), (h1_above, .inl (k1_above, 511, .inl f1_above)), (h1_shares, .inl (k1_shares, 2044, .inl f1_shares))]) (w1 := [(h0_rows, .inr (4, [.ref a0_rows_row, .ref a0_rows_sides, .ref a0_rows_kept, .ref a0_rows_cases, .int 0])), (h0_all, .inl (k0_all, 4, .inl f_2))]) hP hD [1, 2] [0, 3, 4, 5, 6, 7, 8, 9] rfl rfl (by decide) (by decide) hk1 hFc hP1 hD1
  generalize H1 = H at hP hS ⊢
  clear hP1 hD1 hFc hk1 hz1 ht hvm hK1
  have hP : va_P (dC, dI) vwCl [(h0, .inr (1, [.ref a0_cases, .ref h0_rows, .ref h0_all, .ref a0_yes, .int 0, .int 0, .int 0, .int 0, .int 0, .int 0, .int 0, .int 0])), (h1, .inr (6, [.ref h1_asked, .ref h1_values, .ref h1_below, .ref h1_ways, .ref h1_above, .ref h1_shares, .int 0])), (h1_asked, .inl (k1_asked, 511, .inl f1_asked)), (h1_values, .inl (k1_values, 511, .inl f1_values)), (h1_below, .inl (k1_below, 511, .inl f1_below)), (h1_ways, .inl (k1_ways, 511, .inl f1_ways)), (h1_above, .inl (k1_above, 511, .inl f1_above)), (h1_shares, .inl (k1_shares, 2044, .inl f1_shares)), (h0_rows, .inr (4, [.ref a0_rows_row, .ref a0_rows_sides, .ref a0_rows_kept, .ref a0_rows_cases, .int 0])), (h0_all, .inl (k0_all, 4, .inl f_2))] H := hP
  have hD : va_D A [(h0, .inr (1, [.ref a0_cases, .ref h0_rows, .ref h0_all, .ref a0_yes, .int 0, .int 0, .int 0, .int 0, .int 0, .int 0, .int 0, .int 0])), (h1, .inr (6, [.ref h1_asked, .ref h1_values, .ref h1_below, .ref h1_ways, .ref h1_above, .ref h1_shares, .int 0])), (h1_asked, .inl (k1_asked, 511, .inl f1_asked)), (h1_values, .inl (k1_values, 511, .inl f1_values)), (h1_below, .inl (k1_below, 511, .inl f1_below)), (h1_ways, .inl (k1_ways, 511, .inl f1_ways)), (h1_above, .inl (k1_above, 511, .inl f1_above)), (h1_shares, .inl (k1_shares, 2044, .inl f1_shares)), (h0_rows, .inr (4, [.ref a0_rows_row, .ref a0_rows_sides, .ref a0_rows_kept, .ref a0_rows_cases, .int 0])), (h0_all, .inl (k0_all, 4, .inl f_2))] := hD
  refine lv_aload_n hx hb dX1_build_13 rfl (lv_at hl 1 rfl) ?_
  refine lv_iload hx hb dX1_build_14 (lv_at hl 4 rfl) ?_
  refine lv_aload_n hx hb dX1_build_16 rfl (lv_at hl 0 rfl) ?_
  refine va_get (D := (dC, dI)) (ci := 1) (v := .ref h0_all) (C := RX1) (T := TX1) (N := 12) hx hb hts hi1 hown hK hP 0 rfl rfl 2 (by decide) (hts (.fieldLink RX1 9 "AskTree$Finder" "all" "[I") (by decide +kernel)) (fun _ h9 => h9) rfl dX1_build_17 ?_
  refine lv_iconst (v := 0) hx hb dX1_build_20 (by decide) ?_
  have hPc := hP.sub (ws' := [(h1, .inr (6, [.ref h1_asked, .ref h1_values, .ref h1_below, .ref h1_ways, .ref h1_above, .ref h1_shares, .int 0])), (h1_asked, .inl (k1_asked, 511, .inl f1_asked)), (h1_values, .inl (k1_values, 511, .inl f1_values)), (h1_below, .inl (k1_below, 511, .inl f1_below)), (h1_ways, .inl (k1_ways, 511, .inl f1_ways)), (h1_above, .inl (k1_above, 511, .inl f1_above)), (h1_shares, .inl (k1_shares, 2044, .inl f1_shares)), (h0_all, .inl (k0_all, 4, .inl f_2))]) [1, 2, 3, 4, 5, 6, 7, 9] rfl
  have hDc := hD.sub (ws' := [(h1, .inr (6, [.ref h1_asked, .ref h1_values, .ref h1_below, .ref h1_ways, .ref h1_above, .ref h1_shares, .int 0])), (h1_asked, .inl (k1_asked, 511, .inl f1_asked)), (h1_values, .inl (k1_values, 511, .inl f1_values)), (h1_below, .inl (k1_below, 511, .inl f1_below)), (h1_ways, .inl (k1_ways, 511, .inl f1_ways)), (h1_above, .inl (k1_above, 511, .inl f1_above)), (h1_shares, .inl (k1_shares, 2044, .inl f1_shares)), (h0_all, .inl (k0_all, 4, .inl f_2))]) [1, 2, 3, 4, 5, 6, 7, 9] (by decide) rfl
  have hKc := hK.sub (tys' := [(k1_asked, .int), (k1_values, .int), (k1_below, .int), (k1_ways, .int), (k1_above, .int), (k1_shares, .int), (k0_all, .int)]) [1, 2, 3, 4, 5, 6, 0] rfl
  have hFc := va_free (wc := [(h1, .inr (6, [.ref h1_asked, .ref h1_values, .ref h1_below, .ref h1_ways, .ref h1_above, .ref h1_shares, .int 0])), (h1_asked, .inl (k1_asked, 511, .inl f1_asked)), (h1_values, .inl (k1_values, 511, .inl f1_values)), (h1_below, .inl (k1_below, 511, .inl f1_below)), (h1_ways, .inl (k1_ways, 511, .inl f1_ways)), (h1_above, .inl (k1_above, 511, .inl f1_above)), (h1_shares, .inl (k1_shares, 2044, .inl f1_shares)), (h0_all, .inl (k0_all, 4, .inl f_2))]) hD hS hA [1, 2, 3, 4, 5, 6, 7, 9] rfl
  refine va_calli (va_runV (As := [.int 0, .ref h0_all, .int 0]) (rest := []) ⟨hx, hb, hml, hown, hts⟩ (c_open l dC dI H.size h1 h0_all h1_asked h1_values h1_below h1_ways h1_above h1_shares k1_asked f1_asked k1_values f1_values k1_below f1_below k1_ways f1_ways k1_above f1_above k1_shares f1_shares k0_all f_2 ) (cwV 3 hts gX1_build_X6_open rfl rfl rfl (by decide +kernel) ⟨Nat.le_of_ble_eq_true rfl, Nat.le_of_ble_eq_true rfl⟩) (pre_V hPc hKc hDc hN (ci := 6) (q0 := 0) rfl rfl) rfl rfl hl.1 rfl (lv_room (Nat.le_of_ble_eq_true rfl)) dX1_build_21 ⟨Nat.le_of_ble_eq_true rfl, Nat.le_of_ble_eq_true rfl⟩) hS (fun q _ h => hFc q h) hFc (fun r_7 u t H1 locs ht hvm hw hB hz1 hk1 hS => ?_)
  clear hPc hDc hKc
  obtain ⟨f_8, f_9, f_10, f_11, f_12, f_13, rfl, hk_14, hk_15, hk_16, hk_17, hk_18, rfl⟩ := hw
  obtain ⟨hP1, hK1, hD1⟩ := hB
  rw [ht] at hP1
  obtain ⟨hP, hD⟩ := va_join (wr := [(h0, .inr (1, [.ref a0_cases, .ref h0_rows, .ref h0_all, .ref a0_yes, .int 0, .int 0, .int 0, .int 0, .int 0, .int 0, .int 0, .int 0])), (h0_rows, .inr (4, [.ref a0_rows_row, .ref a0_rows_sides, .ref a0_rows_kept, .ref a0_rows_cases, .int 0]))]) (w1 := [(h1, .inr (6, [.ref h1_asked, .ref h1_values, .ref h1_below, .ref h1_ways, .ref h1_above, .ref h1_shares, .int 1])), (h1_asked, .inl (k1_asked, 511, .inl f_8)), (h1_values, .inl (k1_values, 511, .inl f_9)), (h1_below, .inl (k1_below, 511, .inl f_10)), (h1_ways, .inl (k1_ways, 511, .inl f_11)), (h1_above, .inl (k1_above, 511, .inl f_12)), (h1_shares, .inl (k1_shares, 2044, .inl f_13)), (h0_all, .inl (k0_all, 4, .inl f_2))]) hP hD [1, 2, 3, 4, 5, 6, 7, 9] [0, 8] rfl rfl (by decide) (by decide) hk1 hFc hP1 hD1
  generalize H1 = H at hP hS ⊢
  clear hP1 hD1 hFc hk1 hz1 ht hvm hK1
  have hP : va_P (dC, dI) vwCl [(h0, .inr (1, [.ref a0_cases, .ref h0_rows, .ref h0_all, .ref a0_yes, .int 0, .int 0, .int 0, .int 0, .int 0, .int 0, .int 0, .int 0])), (h0_rows, .inr (4, [.ref a0_rows_row, .ref a0_rows_sides, .ref a0_rows_kept, .ref a0_rows_cases, .int 0])), (h1, .inr (6, [.ref h1_asked, .ref h1_values, .ref h1_below, .ref h1_ways, .ref h1_above, .ref h1_shares, .int 1])), (h1_asked, .inl (k1_asked, 511, .inl f_8)), (h1_values, .inl (k1_values, 511, .inl f_9)), (h1_below, .inl (k1_below, 511, .inl f_10)), (h1_ways, .inl (k1_ways, 511, .inl f_11)), (h1_above, .inl (k1_above, 511, .inl f_12)), (h1_shares, .inl (k1_shares, 2044, .inl f_13)), (h0_all, .inl (k0_all, 4, .inl f_2))] H := hP
  have hD : va_D A [(h0, .inr (1, [.ref a0_cases, .ref h0_rows, .ref h0_all, .ref a0_yes, .int 0, .int 0, .int 0, .int 0, .int 0, .int 0, .int 0, .int 0])), (h0_rows, .inr (4, [.ref a0_rows_row, .ref a0_rows_sides, .ref a0_rows_kept, .ref a0_rows_cases, .int 0])), (h1, .inr (6, [.ref h1_asked, .ref h1_values, .ref h1_below, .ref h1_ways, .ref h1_above, .ref h1_shares, .int 1])), (h1_asked, .inl (k1_asked, 511, .inl f_8)), (h1_values, .inl (k1_values, 511, .inl f_9)), (h1_below, .inl (k1_below, 511, .inl f_10)), (h1_ways, .inl (k1_ways, 511, .inl f_11)), (h1_above, .inl (k1_above, 511, .inl f_12)), (h1_shares, .inl (k1_shares, 2044, .inl f_13)), (h0_all, .inl (k0_all, 4, .inl f_2))] := hD
  refine lv_istore (lv' := [(6, .int 0), (0, .ref h0), (1, .ref h1), (2, .int 0), (3, .int 0), (4, .int 0), (5, .int p5)]) hx hb dX1_build_24 hl (by decide) rfl (fun ls hl => ?_)
  refine lv_iload hx hb dX1_build_26 (lv_at hl 0 rfl) ?_
  refine lv_if_lt (tgt := 42) hx hb dX1_build_28 (by decide) (fun c_19 => ?_) (fun c_19 => ?_)
  · exact absurd c_19 (by decide)
  refine lv_iload hx hb dX1_build_31 (lv_at hl 5 rfl) ?_
  refine lv_iconst (v := 2) hx hb dX1_build_33 (by decide) ?_
  refine lv_icmp_ge (tgt := 42) hx hb dX1_build_34 (by decide) (fun c_20 => ?_) (fun c_20 => ?_)
  · exact absurd c_20 (by decide)
  refine lv_iload hx hb dX1_build_37 (lv_at hl 6 rfl) ?_
  refine lv_if_gt (tgt := 45) hx hb dX1_build_39 (by decide) (fun c_21 => ?_) (fun c_21 => ?_)
  · skip
    refine lv_aload_n hx hb dX1_build_45 rfl (lv_at hl 1 rfl) ?_
    refine lv_iload_n hx hb dX1_build_46 rfl (lv_at hl 3 rfl) ?_
    refine lv_iload_n hx hb dX1_build_47 rfl (lv_at hl 4 rfl) ?_
    have hPc := hP.sub (ws' := [(h0, .inr (1, [.ref a0_cases, .ref h0_rows, .ref h0_all, .ref a0_yes, .int 0, .int 0, .int 0, .int 0, .int 0, .int 0, .int 0, .int 0])), (h0_rows, .inr (4, [.ref a0_rows_row, .ref a0_rows_sides, .ref a0_rows_kept, .ref a0_rows_cases, .int 0])), (h0_all, .inl (k0_all, 4, .inl f_2))]) [0, 1, 9] rfl
    have hDc := hD.sub (ws' := [(h0, .inr (1, [.ref a0_cases, .ref h0_rows, .ref h0_all, .ref a0_yes, .int 0, .int 0, .int 0, .int 0, .int 0, .int 0, .int 0, .int 0])), (h0_rows, .inr (4, [.ref a0_rows_row, .ref a0_rows_sides, .ref a0_rows_kept, .ref a0_rows_cases, .int 0])), (h0_all, .inl (k0_all, 4, .inl f_2))]) [0, 1, 9] (by decide) rfl
    have hKc := hK.sub (tys' := [(k0_all, .int)]) [0] rfl
    have hFc := va_free (wc := [(h0, .inr (1, [.ref a0_cases, .ref h0_rows, .ref h0_all, .ref a0_yes, .int 0, .int 0, .int 0, .int 0, .int 0, .int 0, .int 0, .int 0])), (h0_rows, .inr (4, [.ref a0_rows_row, .ref a0_rows_sides, .ref a0_rows_kept, .ref a0_rows_cases, .int 0])), (h0_all, .inl (k0_all, 4, .inl f_2))]) hD hS hA [0, 1, 9] rfl
    refine va_callv (va_runV (As := [.int 0, .int 0]) (rest := []) ⟨hx, hb, hml, hown, hts⟩ (c_takeOne l dC dI H.size h0 h0_rows h0_all a0_cases a0_yes a0_rows_row a0_rows_sides a0_rows_kept a0_rows_cases k0_all f_2 ) (cwV 2 hts gX1_build_X1_takeOne rfl rfl rfl (by decide +kernel) ⟨Nat.le_of_ble_eq_true rfl, Nat.le_of_ble_eq_true rfl⟩) (pre_V hPc hKc hDc hN (ci := 1) (q0 := 0) rfl rfl) rfl rfl hl.1 rfl (lv_room (Nat.le_of_ble_eq_true rfl)) dX1_build_48 ⟨Nat.le_of_ble_eq_true rfl, Nat.le_of_ble_eq_true rfl⟩) hS (fun q _ h => hFc q h) hFc (fun u t H1 locs ht hvm hw hB hz1 hk1 hS => ?_)
    clear hPc hDc hKc
    obtain ⟨f_23, rfl, hk_24, hk_25, hk_26, hk_27⟩ := hw
    obtain ⟨hP1, hK1, hD1⟩ := hB
    rw [ht] at hP1
    obtain ⟨hP, hD⟩ := va_join (wr := [(h1, .inr (6, [.ref h1_asked, .ref h1_values, .ref h1_below, .ref h1_ways, .ref h1_above, .ref h1_shares, .int 1])), (h1_asked, .inl (k1_asked, 511, .inl f_8)), (h1_values, .inl (k1_values, 511, .inl f_9)), (h1_below, .inl (k1_below, 511, .inl f_10)), (h1_ways, .inl (k1_ways, 511, .inl f_11)), (h1_above, .inl (k1_above, 511, .inl f_12)), (h1_shares, .inl (k1_shares, 2044, .inl f_13))]) (w1 := [(h0, .inr (1, [.ref a0_cases, .ref h0_rows, .ref h0_all, .ref a0_yes, .int (-1), .int 0, .int 0, .int 0, .int (-1), .int 0, .int 0, .int 0])), (h0_rows, .inr (4, [.ref a0_rows_row, .ref a0_rows_sides, .ref a0_rows_kept, .ref a0_rows_cases, .int 0])), (h0_all, .inl (k0_all, 4, .inl f_23))]) hP hD [0, 1, 9] [2, 3, 4, 5, 6, 7, 8] rfl rfl (by decide) (by decide) hk1 hFc hP1 hD1
    generalize H1 = H at hP hS ⊢
    clear hP1 hD1 hFc hk1 hz1 ht hvm hK1
    have hP : va_P (dC, dI) vwCl [(h1, .inr (6, [.ref h1_asked, .ref h1_values, .ref h1_below, .ref h1_ways, .ref h1_above, .ref h1_shares, .int 1])), (h1_asked, .inl (k1_asked, 511, .inl f_8)), (h1_values, .inl (k1_values, 511, .inl f_9)), (h1_below, .inl (k1_below, 511, .inl f_10)), (h1_ways, .inl (k1_ways, 511, .inl f_11)), (h1_above, .inl (k1_above, 511, .inl f_12)), (h1_shares, .inl (k1_shares, 2044, .inl f_13)), (h0, .inr (1, [.ref a0_cases, .ref h0_rows, .ref h0_all, .ref a0_yes, .int (-1), .int 0, .int 0, .int 0, .int (-1), .int 0, .int 0, .int 0])), (h0_rows, .inr (4, [.ref a0_rows_row, .ref a0_rows_sides, .ref a0_rows_kept, .ref a0_rows_cases, .int 0])), (h0_all, .inl (k0_all, 4, .inl f_23))] H := hP
    have hD : va_D A [(h1, .inr (6, [.ref h1_asked, .ref h1_values, .ref h1_below, .ref h1_ways, .ref h1_above, .ref h1_shares, .int 1])), (h1_asked, .inl (k1_asked, 511, .inl f_8)), (h1_values, .inl (k1_values, 511, .inl f_9)), (h1_below, .inl (k1_below, 511, .inl f_10)), (h1_ways, .inl (k1_ways, 511, .inl f_11)), (h1_above, .inl (k1_above, 511, .inl f_12)), (h1_shares, .inl (k1_shares, 2044, .inl f_13)), (h0, .inr (1, [.ref a0_cases, .ref h0_rows, .ref h0_all, .ref a0_yes, .int (-1), .int 0, .int 0, .int 0, .int (-1), .int 0, .int 0, .int 0])), (h0_rows, .inr (4, [.ref a0_rows_row, .ref a0_rows_sides, .ref a0_rows_kept, .ref a0_rows_cases, .int 0])), (h0_all, .inl (k0_all, 4, .inl f_23))] := hD
    refine lv_iload hx hb dX1_build_51 (lv_at hl 6 rfl) ?_
    refine lv_iconst (v := 1) hx hb dX1_build_53 (by decide) ?_
    refine lv_icmp_le (tgt := 68) hx hb dX1_build_54 (by decide) (fun c_28 => ?_) (fun c_28 => ?_)
    · skip
      refine lv_iconst (v := 0) hx hb dX1_build_68 (by decide) ?_
      refine lv_istore (lv' := [(7, .int 0), (6, .int 0), (0, .ref h0), (1, .ref h1), (2, .int 0), (3, .int 0), (4, .int 0), (5, .int p5)]) hx hb dX1_build_69 hl (by decide) rfl (fun ls hl => ?_)
      refine lv_iconst (v := 0) hx hb dX1_build_71 (by decide) ?_
      refine lv_istore (lv' := [(8, .int 0), (7, .int 0), (6, .int 0), (0, .ref h0), (1, .ref h1), (2, .int 0), (3, .int 0), (4, .int 0), (5, .int p5)]) hx hb dX1_build_72 hl (by decide) rfl (fun ls hl => ?_)
      refine lv_iload hx hb dX1_build_74 (lv_at hl 0 rfl) ?_
      refine lv_bipush (v := 8) hx hb dX1_build_76 (by decide) ?_
      refine lv_icmp_ge (tgt := 100) hx hb dX1_build_78 (by decide) (fun c_29 => ?_) (fun c_29 => ?_)
      · exact absurd c_29 (by decide)
      refine lv_iload hx hb dX1_build_81 (lv_at hl 1 rfl) ?_
      refine lv_if_eq (tgt := 100) hx hb dX1_build_83 (by decide) (fun c_30 => ?_) (fun c_30 => ?_)
      rotate_left
      · exact absurd c_30 (by decide)
      refine lv_aload_n hx hb dX1_build_100 rfl (lv_at hl 3 rfl) ?_
      refine va_get (D := (dC, dI)) (ci := 1) (v := .int (-1)) (C := RX1) (T := TX1) (N := 12) hx hb hts hi1 hown hK hP 7 rfl rfl 8 (by decide) (hts (.fieldLink RX1 57 "AskTree$Finder" "topMark" "I") (by decide +kernel)) (fun _ h9 => h9) rfl dX1_build_101 ?_
      refine lv_istore (lv' := [(8, .int (-1)), (7, .int 0), (6, .int 0), (0, .ref h0), (1, .ref h1), (2, .int 0), (3, .int 0), (4, .int 0), (5, .int p5)]) hx hb dX1_build_104 hl (by decide) rfl (fun ls hl => ?_)
      refine lv_aload_n hx hb dX1_build_106 rfl (lv_at hl 3 rfl) ?_
      refine va_get (D := (dC, dI)) (ci := 1) (v := .int 0) (C := RX1) (T := TX1) (N := 12) hx hb hts hi1 hown hK hP 7 rfl rfl 9 (by decide) (hts (.fieldLink RX1 60 "AskTree$Finder" "topValue" "I") (by decide +kernel)) (fun _ h9 => h9) rfl dX1_build_107 ?_
      refine lv_istore (lv' := [(9, .int 0), (8, .int (-1)), (7, .int 0), (6, .int 0), (0, .ref h0), (1, .ref h1), (2, .int 0), (3, .int 0), (4, .int 0), (5, .int p5)]) hx hb dX1_build_110 hl (by decide) rfl (fun ls hl => ?_)
      refine lv_iload hx hb dX1_build_112 (lv_at hl 1 rfl) ?_
      refine lv_iconst (v := (-1)) hx hb dX1_build_114 (by decide) ?_
      refine lv_icmp_ne (tgt := 121) hx hb dX1_build_115 (by decide) (fun c_31 => ?_) (fun c_31 => ?_)
      · exact absurd c_31 (by decide)
      refine lv_iload hx hb dX1_build_118 (lv_at hl 3 rfl) ?_
      have hP9 := hP.sub (ws' := [(h0, .inr (1, [.ref a0_cases, .ref h0_rows, .ref h0_all, .ref a0_yes, .int (-1), .int 0, .int 0, .int 0, .int (-1), .int 0, .int 0, .int 0])), (h0_rows, .inr (4, [.ref a0_rows_row, .ref a0_rows_sides, .ref a0_rows_kept, .ref a0_rows_cases, .int 0])), (h0_all, .inl (k0_all, 4, .inl f_23)), (h1, .inr (6, [.ref h1_asked, .ref h1_values, .ref h1_below, .ref h1_ways, .ref h1_above, .ref h1_shares, .int 1])), (h1_asked, .inl (k1_asked, 511, .inl f_8)), (h1_values, .inl (k1_values, 511, .inl f_9)), (h1_below, .inl (k1_below, 511, .inl f_10)), (h1_ways, .inl (k1_ways, 511, .inl f_11)), (h1_above, .inl (k1_above, 511, .inl f_12)), (h1_shares, .inl (k1_shares, 2044, .inl f_13))]) [7, 8, 9, 0, 1, 2, 3, 4, 5, 6] rfl
      have hD9 := hD.sub (ws' := [(h0, .inr (1, [.ref a0_cases, .ref h0_rows, .ref h0_all, .ref a0_yes, .int (-1), .int 0, .int 0, .int 0, .int (-1), .int 0, .int 0, .int 0])), (h0_rows, .inr (4, [.ref a0_rows_row, .ref a0_rows_sides, .ref a0_rows_kept, .ref a0_rows_cases, .int 0])), (h0_all, .inl (k0_all, 4, .inl f_23)), (h1, .inr (6, [.ref h1_asked, .ref h1_values, .ref h1_below, .ref h1_ways, .ref h1_above, .ref h1_shares, .int 1])), (h1_asked, .inl (k1_asked, 511, .inl f_8)), (h1_values, .inl (k1_values, 511, .inl f_9)), (h1_below, .inl (k1_below, 511, .inl f_10)), (h1_ways, .inl (k1_ways, 511, .inl f_11)), (h1_above, .inl (k1_above, 511, .inl f_12)), (h1_shares, .inl (k1_shares, 2044, .inl f_13))]) [7, 8, 9, 0, 1, 2, 3, 4, 5, 6] (by decide) rfl
      have hK9 := hK.sub (tys' := []) [] rfl
      exact W.iret (v := 0) hx hb hr (fun t ht hW => ⟨⟨0, ([(h0, .inr (1, [.ref a0_cases, .ref h0_rows, .ref h0_all, .ref a0_yes, .int (-1), .int 0, .int 0, .int 0, .int (-1), .int 0, .int 0, .int 0])), (h0_rows, .inr (4, [.ref a0_rows_row, .ref a0_rows_sides, .ref a0_rows_kept, .ref a0_rows_cases, .int 0])), (h0_all, .inl (k0_all, 4, .inl f_23)), (h1, .inr (6, [.ref h1_asked, .ref h1_values, .ref h1_below, .ref h1_ways, .ref h1_above, .ref h1_shares, .int 1])), (h1_asked, .inl (k1_asked, 511, .inl f_8)), (h1_values, .inl (k1_values, 511, .inl f_9)), (h1_below, .inl (k1_below, 511, .inl f_10)), (h1_ways, .inl (k1_ways, 511, .inl f_11)), (h1_above, .inl (k1_above, 511, .inl f_12)), (h1_shares, .inl (k1_shares, 2044, .inl f_13))], []), rfl, (Or.inl ⟨f_23, f_8, f_9, f_10, f_11, f_12, f_13, rfl, hk_24, hk_25, hk_26, hk_27, hk_14, hk_15, hk_16, hk_17, hk_18, rfl⟩), (by rw [ht]; exact hP9), va_K.moved hW.alike hK9, hD9⟩, hS.F ht⟩) hS.2.2 dX1_build_120
    · skip
      refine lv_aload_n hx hb dX1_build_57 rfl (lv_at hl 1 rfl) ?_
      refine va_get (D := (dC, dI)) (ci := 1) (v := .int 0) (C := RX1) (T := TX1) (N := 12) hx hb hts hi1 hown hK hP 7 rfl rfl 10 (by decide) (hts (.fieldLink RX1 50 "AskTree$Finder" "topWrong" "I") (by decide +kernel)) (fun _ h9 => h9) rfl dX1_build_58 ?_
      refine lv_if_le (tgt := 68) hx hb dX1_build_61 (by decide) (fun c_32 => ?_) (fun c_32 => ?_)
      rotate_left
      · exact absurd c_32 (by decide)
      refine lv_iconst (v := 0) hx hb dX1_build_68 (by decide) ?_
      refine lv_istore (lv' := [(7, .int 0), (6, .int 0), (0, .ref h0), (1, .ref h1), (2, .int 0), (3, .int 0), (4, .int 0), (5, .int p5)]) hx hb dX1_build_69 hl (by decide) rfl (fun ls hl => ?_)
      refine lv_iconst (v := 0) hx hb dX1_build_71 (by decide) ?_
      refine lv_istore (lv' := [(8, .int 0), (7, .int 0), (6, .int 0), (0, .ref h0), (1, .ref h1), (2, .int 0), (3, .int 0), (4, .int 0), (5, .int p5)]) hx hb dX1_build_72 hl (by decide) rfl (fun ls hl => ?_)
      refine lv_iload hx hb dX1_build_74 (lv_at hl 0 rfl) ?_
      refine lv_bipush (v := 8) hx hb dX1_build_76 (by decide) ?_
      refine lv_icmp_ge (tgt := 100) hx hb dX1_build_78 (by decide) (fun c_33 => ?_) (fun c_33 => ?_)
      · exact absurd c_33 (by decide)
      refine lv_iload hx hb dX1_build_81 (lv_at hl 1 rfl) ?_
      refine lv_if_eq (tgt := 100) hx hb dX1_build_83 (by decide) (fun c_34 => ?_) (fun c_34 => ?_)
      rotate_left
      · exact absurd c_34 (by decide)
      refine lv_aload_n hx hb dX1_build_100 rfl (lv_at hl 3 rfl) ?_
      refine va_get (D := (dC, dI)) (ci := 1) (v := .int (-1)) (C := RX1) (T := TX1) (N := 12) hx hb hts hi1 hown hK hP 7 rfl rfl 8 (by decide) (hts (.fieldLink RX1 57 "AskTree$Finder" "topMark" "I") (by decide +kernel)) (fun _ h9 => h9) rfl dX1_build_101 ?_
      refine lv_istore (lv' := [(8, .int (-1)), (7, .int 0), (6, .int 0), (0, .ref h0), (1, .ref h1), (2, .int 0), (3, .int 0), (4, .int 0), (5, .int p5)]) hx hb dX1_build_104 hl (by decide) rfl (fun ls hl => ?_)
      refine lv_aload_n hx hb dX1_build_106 rfl (lv_at hl 3 rfl) ?_
      refine va_get (D := (dC, dI)) (ci := 1) (v := .int 0) (C := RX1) (T := TX1) (N := 12) hx hb hts hi1 hown hK hP 7 rfl rfl 9 (by decide) (hts (.fieldLink RX1 60 "AskTree$Finder" "topValue" "I") (by decide +kernel)) (fun _ h9 => h9) rfl dX1_build_107 ?_
      refine lv_istore (lv' := [(9, .int 0), (8, .int (-1)), (7, .int 0), (6, .int 0), (0, .ref h0), (1, .ref h1), (2, .int 0), (3, .int 0), (4, .int 0), (5, .int p5)]) hx hb dX1_build_110 hl (by decide) rfl (fun ls hl => ?_)
      refine lv_iload hx hb dX1_build_112 (lv_at hl 1 rfl) ?_
      refine lv_iconst (v := (-1)) hx hb dX1_build_114 (by decide) ?_
      refine lv_icmp_ne (tgt := 121) hx hb dX1_build_115 (by decide) (fun c_35 => ?_) (fun c_35 => ?_)
      · exact absurd c_35 (by decide)
      refine lv_iload hx hb dX1_build_118 (lv_at hl 3 rfl) ?_
      have hP9 := hP.sub (ws' := [(h0, .inr (1, [.ref a0_cases, .ref h0_rows, .ref h0_all, .ref a0_yes, .int (-1), .int 0, .int 0, .int 0, .int (-1), .int 0, .int 0, .int 0])), (h0_rows, .inr (4, [.ref a0_rows_row, .ref a0_rows_sides, .ref a0_rows_kept, .ref a0_rows_cases, .int 0])), (h0_all, .inl (k0_all, 4, .inl f_23)), (h1, .inr (6, [.ref h1_asked, .ref h1_values, .ref h1_below, .ref h1_ways, .ref h1_above, .ref h1_shares, .int 1])), (h1_asked, .inl (k1_asked, 511, .inl f_8)), (h1_values, .inl (k1_values, 511, .inl f_9)), (h1_below, .inl (k1_below, 511, .inl f_10)), (h1_ways, .inl (k1_ways, 511, .inl f_11)), (h1_above, .inl (k1_above, 511, .inl f_12)), (h1_shares, .inl (k1_shares, 2044, .inl f_13))]) [7, 8, 9, 0, 1, 2, 3, 4, 5, 6] rfl
      have hD9 := hD.sub (ws' := [(h0, .inr (1, [.ref a0_cases, .ref h0_rows, .ref h0_all, .ref a0_yes, .int (-1), .int 0, .int 0, .int 0, .int (-1), .int 0, .int 0, .int 0])), (h0_rows, .inr (4, [.ref a0_rows_row, .ref a0_rows_sides, .ref a0_rows_kept, .ref a0_rows_cases, .int 0])), (h0_all, .inl (k0_all, 4, .inl f_23)), (h1, .inr (6, [.ref h1_asked, .ref h1_values, .ref h1_below, .ref h1_ways, .ref h1_above, .ref h1_shares, .int 1])), (h1_asked, .inl (k1_asked, 511, .inl f_8)), (h1_values, .inl (k1_values, 511, .inl f_9)), (h1_below, .inl (k1_below, 511, .inl f_10)), (h1_ways, .inl (k1_ways, 511, .inl f_11)), (h1_above, .inl (k1_above, 511, .inl f_12)), (h1_shares, .inl (k1_shares, 2044, .inl f_13))]) [7, 8, 9, 0, 1, 2, 3, 4, 5, 6] (by decide) rfl
      have hK9 := hK.sub (tys' := []) [] rfl
      exact W.iret (v := 0) hx hb hr (fun t ht hW => ⟨⟨0, ([(h0, .inr (1, [.ref a0_cases, .ref h0_rows, .ref h0_all, .ref a0_yes, .int (-1), .int 0, .int 0, .int 0, .int (-1), .int 0, .int 0, .int 0])), (h0_rows, .inr (4, [.ref a0_rows_row, .ref a0_rows_sides, .ref a0_rows_kept, .ref a0_rows_cases, .int 0])), (h0_all, .inl (k0_all, 4, .inl f_23)), (h1, .inr (6, [.ref h1_asked, .ref h1_values, .ref h1_below, .ref h1_ways, .ref h1_above, .ref h1_shares, .int 1])), (h1_asked, .inl (k1_asked, 511, .inl f_8)), (h1_values, .inl (k1_values, 511, .inl f_9)), (h1_below, .inl (k1_below, 511, .inl f_10)), (h1_ways, .inl (k1_ways, 511, .inl f_11)), (h1_above, .inl (k1_above, 511, .inl f_12)), (h1_shares, .inl (k1_shares, 2044, .inl f_13))], []), rfl, (Or.inl ⟨f_23, f_8, f_9, f_10, f_11, f_12, f_13, rfl, hk_24, hk_25, hk_26, hk_27, hk_14, hk_15, hk_16, hk_17, hk_18, rfl⟩), (by rw [ht]; exact hP9), va_K.moved hW.alike hK9, hD9⟩, hS.F ht⟩) hS.2.2 dX1_build_120
  · skip
    refine lv_iload hx hb dX1_build_42 (lv_at hl 0 rfl) ?_
    have hP9 := hP.sub (ws' := [(h0, .inr (1, [.ref a0_cases, .ref h0_rows, .ref h0_all, .ref a0_yes, .int 0, .int 0, .int 0, .int 0, .int 0, .int 0, .int 0, .int 0])), (h0_rows, .inr (4, [.ref a0_rows_row, .ref a0_rows_sides, .ref a0_rows_kept, .ref a0_rows_cases, .int 0])), (h0_all, .inl (k0_all, 4, .inl f_2)), (h1, .inr (6, [.ref h1_asked, .ref h1_values, .ref h1_below, .ref h1_ways, .ref h1_above, .ref h1_shares, .int 1])), (h1_asked, .inl (k1_asked, 511, .inl f_8)), (h1_values, .inl (k1_values, 511, .inl f_9)), (h1_below, .inl (k1_below, 511, .inl f_10)), (h1_ways, .inl (k1_ways, 511, .inl f_11)), (h1_above, .inl (k1_above, 511, .inl f_12)), (h1_shares, .inl (k1_shares, 2044, .inl f_13))]) [0, 1, 9, 2, 3, 4, 5, 6, 7, 8] rfl
    have hD9 := hD.sub (ws' := [(h0, .inr (1, [.ref a0_cases, .ref h0_rows, .ref h0_all, .ref a0_yes, .int 0, .int 0, .int 0, .int 0, .int 0, .int 0, .int 0, .int 0])), (h0_rows, .inr (4, [.ref a0_rows_row, .ref a0_rows_sides, .ref a0_rows_kept, .ref a0_rows_cases, .int 0])), (h0_all, .inl (k0_all, 4, .inl f_2)), (h1, .inr (6, [.ref h1_asked, .ref h1_values, .ref h1_below, .ref h1_ways, .ref h1_above, .ref h1_shares, .int 1])), (h1_asked, .inl (k1_asked, 511, .inl f_8)), (h1_values, .inl (k1_values, 511, .inl f_9)), (h1_below, .inl (k1_below, 511, .inl f_10)), (h1_ways, .inl (k1_ways, 511, .inl f_11)), (h1_above, .inl (k1_above, 511, .inl f_12)), (h1_shares, .inl (k1_shares, 2044, .inl f_13))]) [0, 1, 9, 2, 3, 4, 5, 6, 7, 8] (by decide) rfl
    have hK9 := hK.sub (tys' := []) [] rfl
    exact W.iret (v := 0) hx hb hr (fun t ht hW => ⟨⟨0, ([(h0, .inr (1, [.ref a0_cases, .ref h0_rows, .ref h0_all, .ref a0_yes, .int 0, .int 0, .int 0, .int 0, .int 0, .int 0, .int 0, .int 0])), (h0_rows, .inr (4, [.ref a0_rows_row, .ref a0_rows_sides, .ref a0_rows_kept, .ref a0_rows_cases, .int 0])), (h0_all, .inl (k0_all, 4, .inl f_2)), (h1, .inr (6, [.ref h1_asked, .ref h1_values, .ref h1_below, .ref h1_ways, .ref h1_above, .ref h1_shares, .int 1])), (h1_asked, .inl (k1_asked, 511, .inl f_8)), (h1_values, .inl (k1_values, 511, .inl f_9)), (h1_below, .inl (k1_below, 511, .inl f_10)), (h1_ways, .inl (k1_ways, 511, .inl f_11)), (h1_above, .inl (k1_above, 511, .inl f_12)), (h1_shares, .inl (k1_shares, 2044, .inl f_13))], []), rfl, (Or.inr ⟨f_2, f_8, f_9, f_10, f_11, f_12, f_13, rfl, hk_3, hk_4, hk_5, hk_6, hk_14, hk_15, hk_16, hk_17, hk_18, rfl⟩), (by rw [ht]; exact hP9), va_K.moved hW.alike hK9, hD9⟩, hS.F ht⟩) hS.2.2 dX1_build_44

set_option maxHeartbeats 4000000 in
set_option maxRecDepth 100000 in
theorem c_findInto (l : Launch) (dC : Nat → ClassId) (dI : Nat → Nat → Nat) (sz : Nat) (h0 : Nat) (h1 : Nat) (p2 : Int32) (h0_rows : Nat) (h0_all : Nat) (h1_asked : Nat) (h1_values : Nat) (h1_below : Nat) (h1_ways : Nat) (h1_above : Nat) (h1_shares : Nat) (a0_cases : Nat) (a0_yes : Nat) (a0_rows_row : Nat) (a0_rows_sides : Nat) (a0_rows_kept : Nat) (a0_rows_cases : Nat) (k0_all : ClassId) (f0_all : Nat → Int32) (k1_asked : ClassId) (f1_asked : Nat → Int32) (k1_values : ClassId) (f1_values : Nat → Int32) (k1_below : ClassId) (f1_below : Nat → Int32) (k1_ways : ClassId) (f1_ways : Nat → Int32) (k1_above : ClassId) (f1_above : Nat → Int32) (k1_shares : ClassId) (f1_shares : Nat → Int32)   : Met l yX1_findInto wsX1_findInto ({ frames := 5, cells := 0, slots := 0, locals := 160 }) (va_Pc [.ref h0, .ref h1, .int p2] (pw (dC, dI) [(k0_all, .int), (k1_asked, .int), (k1_values, .int), (k1_below, .int), (k1_ways, .int), (k1_above, .int), (k1_shares, .int)] [(h0, .inr (1, [.ref a0_cases, .ref h0_rows, .ref h0_all, .ref a0_yes, .int 0, .int 0, .int 0, .int 0, .int 0, .int 0, .int 0, .int 0])), (h0_rows, .inr (4, [.ref a0_rows_row, .ref a0_rows_sides, .ref a0_rows_kept, .ref a0_rows_cases, .int 0])), (h0_all, .inl (k0_all, 4, .inl f0_all)), (h1, .inr (6, [.ref h1_asked, .ref h1_values, .ref h1_below, .ref h1_ways, .ref h1_above, .ref h1_shares, .int 0])), (h1_asked, .inl (k1_asked, 511, .inl f1_asked)), (h1_values, .inl (k1_values, 511, .inl f1_values)), (h1_below, .inl (k1_below, 511, .inl f1_below)), (h1_ways, .inl (k1_ways, 511, .inl f1_ways)), (h1_above, .inl (k1_above, 511, .inl f1_above)), (h1_shares, .inl (k1_shares, 2044, .inl f1_shares))] sz)) (va_Qv (fun (u : vu) => (∃ (f_2 : Nat → Int32) (f_3 : Nat → Int32) (f_4 : Nat → Int32) (f_5 : Nat → Int32) (f_6 : Nat → Int32) (f_7 : Nat → Int32) (f_8 : Nat → Int32), u = ([(h0, .inr (1, [.ref a0_cases, .ref h0_rows, .ref h0_all, .ref a0_yes, .int (-1), .int 0, .int 0, .int 0, .int (-1), .int 0, .int 0, .int 0])), (h0_rows, .inr (4, [.ref a0_rows_row, .ref a0_rows_sides, .ref a0_rows_kept, .ref a0_rows_cases, .int 0])), (h0_all, .inl (k0_all, 4, .inl f_2)), (h1, .inr (6, [.ref h1_asked, .ref h1_values, .ref h1_below, .ref h1_ways, .ref h1_above, .ref h1_shares, .int 1])), (h1_asked, .inl (k1_asked, 511, .inl f_3)), (h1_values, .inl (k1_values, 511, .inl f_4)), (h1_below, .inl (k1_below, 511, .inl f_5)), (h1_ways, .inl (k1_ways, 511, .inl f_6)), (h1_above, .inl (k1_above, 511, .inl f_7)), (h1_shares, .inl (k1_shares, 2044, .inl f_8))], []) ∧ f_2 0 = 0 ∧ f_2 1 = 0 ∧ f_2 2 = 0 ∧ f_2 3 = 0 ∧ f_3 0 = (-1) ∧ f_4 0 = 0 ∧ f_5 0 = (-1) ∧ f_6 0 = 0 ∧ f_7 0 = 0) ∨ (∃ (f_18 : Nat → Int32) (f_19 : Nat → Int32) (f_20 : Nat → Int32) (f_21 : Nat → Int32) (f_22 : Nat → Int32) (f_23 : Nat → Int32) (f_24 : Nat → Int32), u = ([(h0, .inr (1, [.ref a0_cases, .ref h0_rows, .ref h0_all, .ref a0_yes, .int 0, .int 0, .int 0, .int 0, .int 0, .int 0, .int 0, .int 0])), (h0_rows, .inr (4, [.ref a0_rows_row, .ref a0_rows_sides, .ref a0_rows_kept, .ref a0_rows_cases, .int 0])), (h0_all, .inl (k0_all, 4, .inl f_18)), (h1, .inr (6, [.ref h1_asked, .ref h1_values, .ref h1_below, .ref h1_ways, .ref h1_above, .ref h1_shares, .int 1])), (h1_asked, .inl (k1_asked, 511, .inl f_19)), (h1_values, .inl (k1_values, 511, .inl f_20)), (h1_below, .inl (k1_below, 511, .inl f_21)), (h1_ways, .inl (k1_ways, 511, .inl f_22)), (h1_above, .inl (k1_above, 511, .inl f_23)), (h1_shares, .inl (k1_shares, 2044, .inl f_24))], []) ∧ f_18 0 = 0 ∧ f_18 1 = 0 ∧ f_18 2 = 0 ∧ f_18 3 = 0 ∧ f_19 0 = (-1) ∧ f_20 0 = 0 ∧ f_21 0 = (-1) ∧ f_22 0 = 0 ∧ f_23 0 = 0)) (fun u t => qw (dC, dI) u.2 (va_A [(h0, .inr (1, [.ref a0_cases, .ref h0_rows, .ref h0_all, .ref a0_yes, .int 0, .int 0, .int 0, .int 0, .int 0, .int 0, .int 0, .int 0])), (h0_rows, .inr (4, [.ref a0_rows_row, .ref a0_rows_sides, .ref a0_rows_kept, .ref a0_rows_cases, .int 0])), (h0_all, .inl (k0_all, 4, .inl f0_all)), (h1, .inr (6, [.ref h1_asked, .ref h1_values, .ref h1_below, .ref h1_ways, .ref h1_above, .ref h1_shares, .int 0])), (h1_asked, .inl (k1_asked, 511, .inl f1_asked)), (h1_values, .inl (k1_values, 511, .inl f1_values)), (h1_below, .inl (k1_below, 511, .inl f1_below)), (h1_ways, .inl (k1_ways, 511, .inl f1_ways)), (h1_above, .inl (k1_above, 511, .inl f1_above)), (h1_shares, .inl (k1_shares, 2044, .inl f1_shares))] sz) u.1 t) (va_A [(h0, .inr (1, [.ref a0_cases, .ref h0_rows, .ref h0_all, .ref a0_yes, .int 0, .int 0, .int 0, .int 0, .int 0, .int 0, .int 0, .int 0])), (h0_rows, .inr (4, [.ref a0_rows_row, .ref a0_rows_sides, .ref a0_rows_kept, .ref a0_rows_cases, .int 0])), (h0_all, .inl (k0_all, 4, .inl f0_all)), (h1, .inr (6, [.ref h1_asked, .ref h1_values, .ref h1_below, .ref h1_ways, .ref h1_above, .ref h1_shares, .int 0])), (h1_asked, .inl (k1_asked, 511, .inl f1_asked)), (h1_values, .inl (k1_values, 511, .inl f1_values)), (h1_below, .inl (k1_below, 511, .inl f1_below)), (h1_ways, .inl (k1_ways, 511, .inl f1_ways)), (h1_above, .inl (k1_above, 511, .inl f1_above)), (h1_shares, .inl (k1_shares, 2044, .inl f1_shares))] sz)) 0 0 (va_A [(h0, .inr (1, [.ref a0_cases, .ref h0_rows, .ref h0_all, .ref a0_yes, .int 0, .int 0, .int 0, .int 0, .int 0, .int 0, .int 0, .int 0])), (h0_rows, .inr (4, [.ref a0_rows_row, .ref a0_rows_sides, .ref a0_rows_kept, .ref a0_rows_cases, .int 0])), (h0_all, .inl (k0_all, 4, .inl f0_all)), (h1, .inr (6, [.ref h1_asked, .ref h1_values, .ref h1_below, .ref h1_ways, .ref h1_above, .ref h1_shares, .int 0])), (h1_asked, .inl (k1_asked, 511, .inl f1_asked)), (h1_values, .inl (k1_values, 511, .inl f1_values)), (h1_below, .inl (k1_below, 511, .inl f1_below)), (h1_ways, .inl (k1_ways, 511, .inl f1_ways)), (h1_above, .inl (k1_above, 511, .inl f1_above)), (h1_shares, .inl (k1_shares, 2044, .inl f1_shares))] sz) := by
  refine Met.ofW (cc := cX1_findInto) (maxL := 3) (ret := none) (by decide) rfl ?_
  intro p e s m args below meth c s₁ B hml hv
  obtain ⟨rfl, hsz, hP, hK, hD0, hN⟩ := hv
  have hx := B.exec
  have hb := B.bytes
  have hr := B.returns
  have hts := atoms_spec (ws := wsX1_findInto) B.pre
  have hown : s.vm.findClass RX1 = some m.cls := findClass_of_methodNamed B.named
  have hlocks := B.notSynchronized
  have hi1 : ∀ w ∈ u_ws RX1 TX1 12, w ∈ wsX1_findInto := fun _ h => List.mem_cons_of_mem _ (List.mem_append_left _ (List.mem_append_left _ (List.mem_append_left _ (List.mem_append_right _ h))))
  have hi4 : ∀ w ∈ u_ws RX4 TX4 5, w ∈ wsX1_findInto := fun _ h => List.mem_cons_of_mem _ (List.mem_append_left _ (List.mem_append_left _ (List.mem_append_right _ h)))
  have hi6 : ∀ w ∈ u_ws RX6 TX6 7, w ∈ wsX1_findInto := fun _ h => List.mem_cons_of_mem _ (List.mem_append_left _ (List.mem_append_right _ h))
  have hi0 : ∀ w ∈ u_ws RX0 TX0 5, w ∈ wsX1_findInto := fun _ h => List.mem_cons_of_mem _ (List.mem_append_right _ h)
  subst hsz
  have hD := hD0.self (sz := s.heap.size)
  generalize hAe : va_A [(h0, .inr (1, [.ref a0_cases, .ref h0_rows, .ref h0_all, .ref a0_yes, .int 0, .int 0, .int 0, .int 0, .int 0, .int 0, .int 0, .int 0])), (h0_rows, .inr (4, [.ref a0_rows_row, .ref a0_rows_sides, .ref a0_rows_kept, .ref a0_rows_cases, .int 0])), (h0_all, .inl (k0_all, 4, .inl f0_all)), (h1, .inr (6, [.ref h1_asked, .ref h1_values, .ref h1_below, .ref h1_ways, .ref h1_above, .ref h1_shares, .int 0])), (h1_asked, .inl (k1_asked, 511, .inl f1_asked)), (h1_values, .inl (k1_values, 511, .inl f1_values)), (h1_below, .inl (k1_below, 511, .inl f1_below)), (h1_ways, .inl (k1_ways, 511, .inl f1_ways)), (h1_above, .inl (k1_above, 511, .inl f1_above)), (h1_shares, .inl (k1_shares, 2044, .inl f1_shares))] s.heap.size = A at hD ⊢
  have hA : ∀ q : Nat, s.heap.size ≤ q → A q := fun q h => by rw [← hAe]; exact Or.inr h
  have hS : va_S A s.heap s.heap [] := va_S.rf
  have hl := lv_entry ([.ref h0, .ref h1, .int p2]) (n := 3) (Nat.le_of_ble_eq_true rfl)
  rw [lg_entry_eq]
  generalize (lg_sl ([.ref h0, .ref h1, .int p2]) ++ List.replicate (3 - (lg_sl ([.ref h0, .ref h1, .int p2])).length) Slot.unset).toArray = ls at hl ⊢
  have hl : lv_has ls 3 [(0, .ref h0), (1, .ref h1), (2, .int p2)] := hl
  have hP : va_P (dC, dI) vwCl [(h0, .inr (1, [.ref a0_cases, .ref h0_rows, .ref h0_all, .ref a0_yes, .int 0, .int 0, .int 0, .int 0, .int 0, .int 0, .int 0, .int 0])), (h0_rows, .inr (4, [.ref a0_rows_row, .ref a0_rows_sides, .ref a0_rows_kept, .ref a0_rows_cases, .int 0])), (h0_all, .inl (k0_all, 4, .inl f0_all)), (h1, .inr (6, [.ref h1_asked, .ref h1_values, .ref h1_below, .ref h1_ways, .ref h1_above, .ref h1_shares, .int 0])), (h1_asked, .inl (k1_asked, 511, .inl f1_asked)), (h1_values, .inl (k1_values, 511, .inl f1_values)), (h1_below, .inl (k1_below, 511, .inl f1_below)), (h1_ways, .inl (k1_ways, 511, .inl f1_ways)), (h1_above, .inl (k1_above, 511, .inl f1_above)), (h1_shares, .inl (k1_shares, 2044, .inl f1_shares))] s.heap := hP
  refine lv_aload_n hx hb dX1_findInto_0 rfl (lv_at hl 0 rfl) ?_
  refine lv_aload_n hx hb dX1_findInto_1 rfl (lv_at hl 1 rfl) ?_
  refine lv_iconst (v := 0) hx hb dX1_findInto_2 (by decide) ?_
  refine lv_aload_n hx hb dX1_findInto_3 rfl (lv_at hl 0 rfl) ?_
  refine va_get (D := (dC, dI)) (ci := 1) (v := .ref h0_rows) (C := RX1) (T := TX1) (N := 12) hx hb hts hi1 hown hK hP 0 rfl rfl 1 (by decide) (hts (.fieldLink RX1 22 "AskTree$Finder" "rows" "LAskTree$Rows;") (by decide +kernel)) (fun _ h9 => h9) rfl dX1_findInto_4 ?_
  refine va_get (D := (dC, dI)) (ci := 4) (v := .int 0) (C := RX4) (T := TX4) (N := 5) hx hb hts hi4 hown hK hP 1 rfl rfl 4 (by decide) (hts (.fieldLink RX1 26 "AskTree$Rows" "size" "I") (by decide +kernel)) (fun _ h9 => h9) rfl dX1_findInto_7 ?_
  refine lv_iconst (v := 0) hx hb dX1_findInto_10 (by decide) ?_
  refine lv_iload_n hx hb dX1_findInto_11 rfl (lv_at hl 2 rfl) ?_
  have hPc := hP.sub (ws' := [(h0, .inr (1, [.ref a0_cases, .ref h0_rows, .ref h0_all, .ref a0_yes, .int 0, .int 0, .int 0, .int 0, .int 0, .int 0, .int 0, .int 0])), (h0_rows, .inr (4, [.ref a0_rows_row, .ref a0_rows_sides, .ref a0_rows_kept, .ref a0_rows_cases, .int 0])), (h0_all, .inl (k0_all, 4, .inl f0_all)), (h1, .inr (6, [.ref h1_asked, .ref h1_values, .ref h1_below, .ref h1_ways, .ref h1_above, .ref h1_shares, .int 0])), (h1_asked, .inl (k1_asked, 511, .inl f1_asked)), (h1_values, .inl (k1_values, 511, .inl f1_values)), (h1_below, .inl (k1_below, 511, .inl f1_below)), (h1_ways, .inl (k1_ways, 511, .inl f1_ways)), (h1_above, .inl (k1_above, 511, .inl f1_above)), (h1_shares, .inl (k1_shares, 2044, .inl f1_shares))]) [0, 1, 2, 3, 4, 5, 6, 7, 8, 9] rfl
  have hDc := hD.sub (ws' := [(h0, .inr (1, [.ref a0_cases, .ref h0_rows, .ref h0_all, .ref a0_yes, .int 0, .int 0, .int 0, .int 0, .int 0, .int 0, .int 0, .int 0])), (h0_rows, .inr (4, [.ref a0_rows_row, .ref a0_rows_sides, .ref a0_rows_kept, .ref a0_rows_cases, .int 0])), (h0_all, .inl (k0_all, 4, .inl f0_all)), (h1, .inr (6, [.ref h1_asked, .ref h1_values, .ref h1_below, .ref h1_ways, .ref h1_above, .ref h1_shares, .int 0])), (h1_asked, .inl (k1_asked, 511, .inl f1_asked)), (h1_values, .inl (k1_values, 511, .inl f1_values)), (h1_below, .inl (k1_below, 511, .inl f1_below)), (h1_ways, .inl (k1_ways, 511, .inl f1_ways)), (h1_above, .inl (k1_above, 511, .inl f1_above)), (h1_shares, .inl (k1_shares, 2044, .inl f1_shares))]) [0, 1, 2, 3, 4, 5, 6, 7, 8, 9] (by decide) rfl
  have hKc := hK.sub (tys' := [(k0_all, .int), (k1_asked, .int), (k1_values, .int), (k1_below, .int), (k1_ways, .int), (k1_above, .int), (k1_shares, .int)]) [0, 1, 2, 3, 4, 5, 6] rfl
  have hFc := va_free (wc := [(h0, .inr (1, [.ref a0_cases, .ref h0_rows, .ref h0_all, .ref a0_yes, .int 0, .int 0, .int 0, .int 0, .int 0, .int 0, .int 0, .int 0])), (h0_rows, .inr (4, [.ref a0_rows_row, .ref a0_rows_sides, .ref a0_rows_kept, .ref a0_rows_cases, .int 0])), (h0_all, .inl (k0_all, 4, .inl f0_all)), (h1, .inr (6, [.ref h1_asked, .ref h1_values, .ref h1_below, .ref h1_ways, .ref h1_above, .ref h1_shares, .int 0])), (h1_asked, .inl (k1_asked, 511, .inl f1_asked)), (h1_values, .inl (k1_values, 511, .inl f1_values)), (h1_below, .inl (k1_below, 511, .inl f1_below)), (h1_ways, .inl (k1_ways, 511, .inl f1_ways)), (h1_above, .inl (k1_above, 511, .inl f1_above)), (h1_shares, .inl (k1_shares, 2044, .inl f1_shares))]) hD hS hA [0, 1, 2, 3, 4, 5, 6, 7, 8, 9] rfl
  refine va_calli (va_runV (As := [.ref h1, .int 0, .int 0, .int 0, .int p2]) (rest := []) ⟨hx, hb, hml, hown, hts⟩ (c_build l dC dI s.heap.size h0 h1 p2 h0_rows h0_all h1_asked h1_values h1_below h1_ways h1_above h1_shares a0_cases a0_yes a0_rows_row a0_rows_sides a0_rows_kept a0_rows_cases k0_all f0_all k1_asked f1_asked k1_values f1_values k1_below f1_below k1_ways f1_ways k1_above f1_above k1_shares f1_shares ) (cwV 5 hts gX1_findInto_X1_build rfl rfl rfl (by decide +kernel) ⟨Nat.le_of_ble_eq_true rfl, Nat.le_of_ble_eq_true rfl⟩) (pre_V hPc hKc hDc hN (ci := 1) (q0 := 0) rfl rfl) rfl rfl hl.1 rfl (lv_room (Nat.le_of_ble_eq_true rfl)) dX1_findInto_12 ⟨Nat.le_of_ble_eq_true rfl, Nat.le_of_ble_eq_true rfl⟩) hS (fun q _ h => hFc q h) hFc (fun r_1 u t H1 locs ht hvm hw hB hz1 hk1 hS => ?_)
  clear hPc hDc hKc
  rcases hw with ⟨f_2, f_3, f_4, f_5, f_6, f_7, f_8, rfl, hk_9, hk_10, hk_11, hk_12, hk_13, hk_14, hk_15, hk_16, hk_17, rfl⟩ | ⟨f_18, f_19, f_20, f_21, f_22, f_23, f_24, rfl, hk_25, hk_26, hk_27, hk_28, hk_29, hk_30, hk_31, hk_32, hk_33, rfl⟩
  · skip
    obtain ⟨hP1, hK1, hD1⟩ := hB
    rw [ht] at hP1
    obtain ⟨hP, hD⟩ := va_join (wr := []) (w1 := [(h0, .inr (1, [.ref a0_cases, .ref h0_rows, .ref h0_all, .ref a0_yes, .int (-1), .int 0, .int 0, .int 0, .int (-1), .int 0, .int 0, .int 0])), (h0_rows, .inr (4, [.ref a0_rows_row, .ref a0_rows_sides, .ref a0_rows_kept, .ref a0_rows_cases, .int 0])), (h0_all, .inl (k0_all, 4, .inl f_2)), (h1, .inr (6, [.ref h1_asked, .ref h1_values, .ref h1_below, .ref h1_ways, .ref h1_above, .ref h1_shares, .int 1])), (h1_asked, .inl (k1_asked, 511, .inl f_3)), (h1_values, .inl (k1_values, 511, .inl f_4)), (h1_below, .inl (k1_below, 511, .inl f_5)), (h1_ways, .inl (k1_ways, 511, .inl f_6)), (h1_above, .inl (k1_above, 511, .inl f_7)), (h1_shares, .inl (k1_shares, 2044, .inl f_8))]) hP hD [0, 1, 2, 3, 4, 5, 6, 7, 8, 9] [] rfl rfl (by decide) (by decide) hk1 hFc hP1 hD1
    generalize H1 = H at hP hS ⊢
    clear hP1 hD1 hFc hk1 hz1 ht hvm hK1
    have hP : va_P (dC, dI) vwCl [(h0, .inr (1, [.ref a0_cases, .ref h0_rows, .ref h0_all, .ref a0_yes, .int (-1), .int 0, .int 0, .int 0, .int (-1), .int 0, .int 0, .int 0])), (h0_rows, .inr (4, [.ref a0_rows_row, .ref a0_rows_sides, .ref a0_rows_kept, .ref a0_rows_cases, .int 0])), (h0_all, .inl (k0_all, 4, .inl f_2)), (h1, .inr (6, [.ref h1_asked, .ref h1_values, .ref h1_below, .ref h1_ways, .ref h1_above, .ref h1_shares, .int 1])), (h1_asked, .inl (k1_asked, 511, .inl f_3)), (h1_values, .inl (k1_values, 511, .inl f_4)), (h1_below, .inl (k1_below, 511, .inl f_5)), (h1_ways, .inl (k1_ways, 511, .inl f_6)), (h1_above, .inl (k1_above, 511, .inl f_7)), (h1_shares, .inl (k1_shares, 2044, .inl f_8))] H := hP
    have hD : va_D A [(h0, .inr (1, [.ref a0_cases, .ref h0_rows, .ref h0_all, .ref a0_yes, .int (-1), .int 0, .int 0, .int 0, .int (-1), .int 0, .int 0, .int 0])), (h0_rows, .inr (4, [.ref a0_rows_row, .ref a0_rows_sides, .ref a0_rows_kept, .ref a0_rows_cases, .int 0])), (h0_all, .inl (k0_all, 4, .inl f_2)), (h1, .inr (6, [.ref h1_asked, .ref h1_values, .ref h1_below, .ref h1_ways, .ref h1_above, .ref h1_shares, .int 1])), (h1_asked, .inl (k1_asked, 511, .inl f_3)), (h1_values, .inl (k1_values, 511, .inl f_4)), (h1_below, .inl (k1_below, 511, .inl f_5)), (h1_ways, .inl (k1_ways, 511, .inl f_6)), (h1_above, .inl (k1_above, 511, .inl f_7)), (h1_shares, .inl (k1_shares, 2044, .inl f_8))] := hD
    refine lv_pop hx hb dX1_findInto_15 rfl ?_
    have hP9 := hP.sub (ws' := [(h0, .inr (1, [.ref a0_cases, .ref h0_rows, .ref h0_all, .ref a0_yes, .int (-1), .int 0, .int 0, .int 0, .int (-1), .int 0, .int 0, .int 0])), (h0_rows, .inr (4, [.ref a0_rows_row, .ref a0_rows_sides, .ref a0_rows_kept, .ref a0_rows_cases, .int 0])), (h0_all, .inl (k0_all, 4, .inl f_2)), (h1, .inr (6, [.ref h1_asked, .ref h1_values, .ref h1_below, .ref h1_ways, .ref h1_above, .ref h1_shares, .int 1])), (h1_asked, .inl (k1_asked, 511, .inl f_3)), (h1_values, .inl (k1_values, 511, .inl f_4)), (h1_below, .inl (k1_below, 511, .inl f_5)), (h1_ways, .inl (k1_ways, 511, .inl f_6)), (h1_above, .inl (k1_above, 511, .inl f_7)), (h1_shares, .inl (k1_shares, 2044, .inl f_8))]) [0, 1, 2, 3, 4, 5, 6, 7, 8, 9] rfl
    have hD9 := hD.sub (ws' := [(h0, .inr (1, [.ref a0_cases, .ref h0_rows, .ref h0_all, .ref a0_yes, .int (-1), .int 0, .int 0, .int 0, .int (-1), .int 0, .int 0, .int 0])), (h0_rows, .inr (4, [.ref a0_rows_row, .ref a0_rows_sides, .ref a0_rows_kept, .ref a0_rows_cases, .int 0])), (h0_all, .inl (k0_all, 4, .inl f_2)), (h1, .inr (6, [.ref h1_asked, .ref h1_values, .ref h1_below, .ref h1_ways, .ref h1_above, .ref h1_shares, .int 1])), (h1_asked, .inl (k1_asked, 511, .inl f_3)), (h1_values, .inl (k1_values, 511, .inl f_4)), (h1_below, .inl (k1_below, 511, .inl f_5)), (h1_ways, .inl (k1_ways, 511, .inl f_6)), (h1_above, .inl (k1_above, 511, .inl f_7)), (h1_shares, .inl (k1_shares, 2044, .inl f_8))]) [0, 1, 2, 3, 4, 5, 6, 7, 8, 9] (by decide) rfl
    have hK9 := hK.sub (tys' := []) [] rfl
    exact W.vret hx hb hr (fun t ht hW => ⟨⟨([(h0, .inr (1, [.ref a0_cases, .ref h0_rows, .ref h0_all, .ref a0_yes, .int (-1), .int 0, .int 0, .int 0, .int (-1), .int 0, .int 0, .int 0])), (h0_rows, .inr (4, [.ref a0_rows_row, .ref a0_rows_sides, .ref a0_rows_kept, .ref a0_rows_cases, .int 0])), (h0_all, .inl (k0_all, 4, .inl f_2)), (h1, .inr (6, [.ref h1_asked, .ref h1_values, .ref h1_below, .ref h1_ways, .ref h1_above, .ref h1_shares, .int 1])), (h1_asked, .inl (k1_asked, 511, .inl f_3)), (h1_values, .inl (k1_values, 511, .inl f_4)), (h1_below, .inl (k1_below, 511, .inl f_5)), (h1_ways, .inl (k1_ways, 511, .inl f_6)), (h1_above, .inl (k1_above, 511, .inl f_7)), (h1_shares, .inl (k1_shares, 2044, .inl f_8))], []), rfl, (Or.inl ⟨f_2, f_3, f_4, f_5, f_6, f_7, f_8, rfl, hk_9, hk_10, hk_11, hk_12, hk_13, hk_14, hk_15, hk_16, hk_17⟩), (by rw [ht]; exact hP9), va_K.moved hW.alike hK9, hD9⟩, hS.F ht⟩) hS.2.2 dX1_findInto_16
  · skip
    obtain ⟨hP1, hK1, hD1⟩ := hB
    rw [ht] at hP1
    obtain ⟨hP, hD⟩ := va_join (wr := []) (w1 := [(h0, .inr (1, [.ref a0_cases, .ref h0_rows, .ref h0_all, .ref a0_yes, .int 0, .int 0, .int 0, .int 0, .int 0, .int 0, .int 0, .int 0])), (h0_rows, .inr (4, [.ref a0_rows_row, .ref a0_rows_sides, .ref a0_rows_kept, .ref a0_rows_cases, .int 0])), (h0_all, .inl (k0_all, 4, .inl f_18)), (h1, .inr (6, [.ref h1_asked, .ref h1_values, .ref h1_below, .ref h1_ways, .ref h1_above, .ref h1_shares, .int 1])), (h1_asked, .inl (k1_asked, 511, .inl f_19)), (h1_values, .inl (k1_values, 511, .inl f_20)), (h1_below, .inl (k1_below, 511, .inl f_21)), (h1_ways, .inl (k1_ways, 511, .inl f_22)), (h1_above, .inl (k1_above, 511, .inl f_23)), (h1_shares, .inl (k1_shares, 2044, .inl f_24))]) hP hD [0, 1, 2, 3, 4, 5, 6, 7, 8, 9] [] rfl rfl (by decide) (by decide) hk1 hFc hP1 hD1
    generalize H1 = H at hP hS ⊢
    clear hP1 hD1 hFc hk1 hz1 ht hvm hK1
    have hP : va_P (dC, dI) vwCl [(h0, .inr (1, [.ref a0_cases, .ref h0_rows, .ref h0_all, .ref a0_yes, .int 0, .int 0, .int 0, .int 0, .int 0, .int 0, .int 0, .int 0])), (h0_rows, .inr (4, [.ref a0_rows_row, .ref a0_rows_sides, .ref a0_rows_kept, .ref a0_rows_cases, .int 0])), (h0_all, .inl (k0_all, 4, .inl f_18)), (h1, .inr (6, [.ref h1_asked, .ref h1_values, .ref h1_below, .ref h1_ways, .ref h1_above, .ref h1_shares, .int 1])), (h1_asked, .inl (k1_asked, 511, .inl f_19)), (h1_values, .inl (k1_values, 511, .inl f_20)), (h1_below, .inl (k1_below, 511, .inl f_21)), (h1_ways, .inl (k1_ways, 511, .inl f_22)), (h1_above, .inl (k1_above, 511, .inl f_23)), (h1_shares, .inl (k1_shares, 2044, .inl f_24))] H := hP
    have hD : va_D A [(h0, .inr (1, [.ref a0_cases, .ref h0_rows, .ref h0_all, .ref a0_yes, .int 0, .int 0, .int 0, .int 0, .int 0, .int 0, .int 0, .int 0])), (h0_rows, .inr (4, [.ref a0_rows_row, .ref a0_rows_sides, .ref a0_rows_kept, .ref a0_rows_cases, .int 0])), (h0_all, .inl (k0_all, 4, .inl f_18)), (h1, .inr (6, [.ref h1_asked, .ref h1_values, .ref h1_below, .ref h1_ways, .ref h1_above, .ref h1_shares, .int 1])), (h1_asked, .inl (k1_asked, 511, .inl f_19)), (h1_values, .inl (k1_values, 511, .inl f_20)), (h1_below, .inl (k1_below, 511, .inl f_21)), (h1_ways, .inl (k1_ways, 511, .inl f_22)), (h1_above, .inl (k1_above, 511, .inl f_23)), (h1_shares, .inl (k1_shares, 2044, .inl f_24))] := hD
    refine lv_pop hx hb dX1_findInto_15 rfl ?_
    have hP9 := hP.sub (ws' := [(h0, .inr (1, [.ref a0_cases, .ref h0_rows, .ref h0_all, .ref a0_yes, .int 0, .int 0, .int 0, .int 0, .int 0, .int 0, .int 0, .int 0])), (h0_rows, .inr (4, [.ref a0_rows_row, .ref a0_rows_sides, .ref a0_rows_kept, .ref a0_rows_cases, .int 0])), (h0_all, .inl (k0_all, 4, .inl f_18)), (h1, .inr (6, [.ref h1_asked, .ref h1_values, .ref h1_below, .ref h1_ways, .ref h1_above, .ref h1_shares, .int 1])), (h1_asked, .inl (k1_asked, 511, .inl f_19)), (h1_values, .inl (k1_values, 511, .inl f_20)), (h1_below, .inl (k1_below, 511, .inl f_21)), (h1_ways, .inl (k1_ways, 511, .inl f_22)), (h1_above, .inl (k1_above, 511, .inl f_23)), (h1_shares, .inl (k1_shares, 2044, .inl f_24))]) [0, 1, 2, 3, 4, 5, 6, 7, 8, 9] rfl
    have hD9 := hD.sub (ws' := [(h0, .inr (1, [.ref a0_cases, .ref h0_rows, .ref h0_all, .ref a0_yes, .int 0, .int 0, .int 0, .int 0, .int 0, .int 0, .int 0, .int 0])), (h0_rows, .inr (4, [.ref a0_rows_row, .ref a0_rows_sides, .ref a0_rows_kept, .ref a0_rows_cases, .int 0])), (h0_all, .inl (k0_all, 4, .inl f_18)), (h1, .inr (6, [.ref h1_asked, .ref h1_values, .ref h1_below, .ref h1_ways, .ref h1_above, .ref h1_shares, .int 1])), (h1_asked, .inl (k1_asked, 511, .inl f_19)), (h1_values, .inl (k1_values, 511, .inl f_20)), (h1_below, .inl (k1_below, 511, .inl f_21)), (h1_ways, .inl (k1_ways, 511, .inl f_22)), (h1_above, .inl (k1_above, 511, .inl f_23)), (h1_shares, .inl (k1_shares, 2044, .inl f_24))]) [0, 1, 2, 3, 4, 5, 6, 7, 8, 9] (by decide) rfl
    have hK9 := hK.sub (tys' := []) [] rfl
    exact W.vret hx hb hr (fun t ht hW => ⟨⟨([(h0, .inr (1, [.ref a0_cases, .ref h0_rows, .ref h0_all, .ref a0_yes, .int 0, .int 0, .int 0, .int 0, .int 0, .int 0, .int 0, .int 0])), (h0_rows, .inr (4, [.ref a0_rows_row, .ref a0_rows_sides, .ref a0_rows_kept, .ref a0_rows_cases, .int 0])), (h0_all, .inl (k0_all, 4, .inl f_18)), (h1, .inr (6, [.ref h1_asked, .ref h1_values, .ref h1_below, .ref h1_ways, .ref h1_above, .ref h1_shares, .int 1])), (h1_asked, .inl (k1_asked, 511, .inl f_19)), (h1_values, .inl (k1_values, 511, .inl f_20)), (h1_below, .inl (k1_below, 511, .inl f_21)), (h1_ways, .inl (k1_ways, 511, .inl f_22)), (h1_above, .inl (k1_above, 511, .inl f_23)), (h1_shares, .inl (k1_shares, 2044, .inl f_24))], []), rfl, (Or.inr ⟨f_18, f_19, f_20, f_21, f_22, f_23, f_24, rfl, hk_25, hk_26, hk_27, hk_28, hk_29, hk_30, hk_31, hk_32, hk_33⟩), (by rw [ht]; exact hP9), va_K.moved hW.alike hK9, hD9⟩, hS.F ht⟩) hS.2.2 dX1_findInto_16

set_option maxHeartbeats 4000000 in
set_option maxRecDepth 100000 in
theorem c_haveGaps (l : Launch) (dC : Nat → ClassId) (dI : Nat → Nat → Nat) (sz : Nat) (h0 : Nat) (a0_kinds : Nat) (a0_classes : Nat) (a0_marks : Nat) (a0_order : Nat)   : Met l yX0_haveGaps wsX0_haveGaps ({ frames := 1, cells := 0, slots := 0, locals := 60 }) (va_Pc [.ref h0] (pw (dC, dI) [] [(h0, .inr (0, [.ref a0_kinds, .ref a0_classes, .ref a0_marks, .ref a0_order, .int 0]))] sz)) (va_Qi (fun (r : Int32) (u : vu) => (u = ([(h0, .inr (0, [.ref a0_kinds, .ref a0_classes, .ref a0_marks, .ref a0_order, .int 0]))], []) ∧ r = 0)) (fun u t => qw (dC, dI) u.2 (va_A [(h0, .inr (0, [.ref a0_kinds, .ref a0_classes, .ref a0_marks, .ref a0_order, .int 0]))] sz) u.1 t) (va_A [(h0, .inr (0, [.ref a0_kinds, .ref a0_classes, .ref a0_marks, .ref a0_order, .int 0]))] sz)) 0 0 (va_A [(h0, .inr (0, [.ref a0_kinds, .ref a0_classes, .ref a0_marks, .ref a0_order, .int 0]))] sz) := by
  refine Met.ofW (cc := cX0_haveGaps) (maxL := 2) (ret := (some .boolean)) (by decide) rfl ?_
  intro p e s m args below meth c s₁ B hml hv
  obtain ⟨rfl, hsz, hP, hK, hD0, hN⟩ := hv
  have hx := B.exec
  have hb := B.bytes
  have hr := B.returns
  have hts := atoms_spec (ws := wsX0_haveGaps) B.pre
  have hown : s.vm.findClass RX0 = some m.cls := findClass_of_methodNamed B.named
  have hlocks := B.notSynchronized
  have hi0 : ∀ w ∈ u_ws RX0 TX0 5, w ∈ wsX0_haveGaps := fun _ h => List.mem_cons_of_mem _ (List.mem_append_right _ h)
  subst hsz
  have hD := hD0.self (sz := s.heap.size)
  generalize hAe : va_A [(h0, .inr (0, [.ref a0_kinds, .ref a0_classes, .ref a0_marks, .ref a0_order, .int 0]))] s.heap.size = A at hD ⊢
  have hA : ∀ q : Nat, s.heap.size ≤ q → A q := fun q h => by rw [← hAe]; exact Or.inr h
  have hS : va_S A s.heap s.heap [] := va_S.rf
  have hl := lv_entry ([.ref h0]) (n := 2) (Nat.le_of_ble_eq_true rfl)
  rw [lg_entry_eq]
  generalize (lg_sl ([.ref h0]) ++ List.replicate (2 - (lg_sl ([.ref h0])).length) Slot.unset).toArray = ls at hl ⊢
  have hl : lv_has ls 2 [(0, .ref h0)] := hl
  have hP : va_P (dC, dI) vwCl [(h0, .inr (0, [.ref a0_kinds, .ref a0_classes, .ref a0_marks, .ref a0_order, .int 0]))] s.heap := hP
  refine lv_iconst (v := 0) hx hb dX0_haveGaps_0 (by decide) ?_
  refine lv_istore_n (lv' := [(1, .int 0), (0, .ref h0)]) hx hb dX0_haveGaps_1 rfl hl (by decide) rfl (fun ls hl => ?_)
  refine lv_iload_n hx hb dX0_haveGaps_2 rfl (lv_at hl 0 rfl) ?_
  refine lv_bipush (v := 8) hx hb dX0_haveGaps_3 (by decide) ?_
  refine lv_icmp_ge (tgt := 49) hx hb dX0_haveGaps_5 (by decide) (fun c_1 => ?_) (fun c_1 => ?_)
  · exact absurd c_1 (by decide)
  refine lv_aload_n hx hb dX0_haveGaps_8 rfl (lv_at hl 1 rfl) ?_
  refine va_get (D := (dC, dI)) (ci := 0) (v := .int 0) (C := RX0) (T := TX0) (N := 5) hx hb hts hi0 hown hK hP 0 rfl rfl 4 (by decide) (hts (.fieldLink RX0 24 "AskTree$Cases" "size" "I") (by decide +kernel)) (fun _ h9 => h9) rfl dX0_haveGaps_9 ?_
  refine lv_if_le (tgt := 43) hx hb dX0_haveGaps_12 (by decide) (fun c_2 => ?_) (fun c_2 => ?_)
  rotate_left
  · exact absurd c_2 (by decide)
  refine lv_iinc (v := 1) (lv' := [(1, .int 1), (0, .ref h0)]) hx hb dX0_haveGaps_43 hl (k := 0) rfl (by decide) (by decide) rfl (fun ls hl => ?_)
  refine lv_goto (tgt := 2) hx hb dX0_haveGaps_46 (by decide) ?_
  refine lv_iload_n hx hb dX0_haveGaps_2 rfl (lv_at hl 0 rfl) ?_
  refine lv_bipush (v := 8) hx hb dX0_haveGaps_3 (by decide) ?_
  refine lv_icmp_ge (tgt := 49) hx hb dX0_haveGaps_5 (by decide) (fun c_3 => ?_) (fun c_3 => ?_)
  · exact absurd c_3 (by decide)
  refine lv_aload_n hx hb dX0_haveGaps_8 rfl (lv_at hl 1 rfl) ?_
  refine va_get (D := (dC, dI)) (ci := 0) (v := .int 0) (C := RX0) (T := TX0) (N := 5) hx hb hts hi0 hown hK hP 0 rfl rfl 4 (by decide) (hts (.fieldLink RX0 24 "AskTree$Cases" "size" "I") (by decide +kernel)) (fun _ h9 => h9) rfl dX0_haveGaps_9 ?_
  refine lv_if_le (tgt := 43) hx hb dX0_haveGaps_12 (by decide) (fun c_4 => ?_) (fun c_4 => ?_)
  rotate_left
  · exact absurd c_4 (by decide)
  refine lv_iinc (v := 2) (lv' := [(1, .int 2), (0, .ref h0)]) hx hb dX0_haveGaps_43 hl (k := 0) rfl (by decide) (by decide) rfl (fun ls hl => ?_)
  refine lv_goto (tgt := 2) hx hb dX0_haveGaps_46 (by decide) ?_
  refine lv_iload_n hx hb dX0_haveGaps_2 rfl (lv_at hl 0 rfl) ?_
  refine lv_bipush (v := 8) hx hb dX0_haveGaps_3 (by decide) ?_
  refine lv_icmp_ge (tgt := 49) hx hb dX0_haveGaps_5 (by decide) (fun c_5 => ?_) (fun c_5 => ?_)
  · exact absurd c_5 (by decide)
  refine lv_aload_n hx hb dX0_haveGaps_8 rfl (lv_at hl 1 rfl) ?_
  refine va_get (D := (dC, dI)) (ci := 0) (v := .int 0) (C := RX0) (T := TX0) (N := 5) hx hb hts hi0 hown hK hP 0 rfl rfl 4 (by decide) (hts (.fieldLink RX0 24 "AskTree$Cases" "size" "I") (by decide +kernel)) (fun _ h9 => h9) rfl dX0_haveGaps_9 ?_
  refine lv_if_le (tgt := 43) hx hb dX0_haveGaps_12 (by decide) (fun c_6 => ?_) (fun c_6 => ?_)
  rotate_left
  · exact absurd c_6 (by decide)
  refine lv_iinc (v := 3) (lv' := [(1, .int 3), (0, .ref h0)]) hx hb dX0_haveGaps_43 hl (k := 0) rfl (by decide) (by decide) rfl (fun ls hl => ?_)
  refine lv_goto (tgt := 2) hx hb dX0_haveGaps_46 (by decide) ?_
  refine lv_iload_n hx hb dX0_haveGaps_2 rfl (lv_at hl 0 rfl) ?_
  refine lv_bipush (v := 8) hx hb dX0_haveGaps_3 (by decide) ?_
  refine lv_icmp_ge (tgt := 49) hx hb dX0_haveGaps_5 (by decide) (fun c_7 => ?_) (fun c_7 => ?_)
  · exact absurd c_7 (by decide)
  refine lv_aload_n hx hb dX0_haveGaps_8 rfl (lv_at hl 1 rfl) ?_
  refine va_get (D := (dC, dI)) (ci := 0) (v := .int 0) (C := RX0) (T := TX0) (N := 5) hx hb hts hi0 hown hK hP 0 rfl rfl 4 (by decide) (hts (.fieldLink RX0 24 "AskTree$Cases" "size" "I") (by decide +kernel)) (fun _ h9 => h9) rfl dX0_haveGaps_9 ?_
  refine lv_if_le (tgt := 43) hx hb dX0_haveGaps_12 (by decide) (fun c_8 => ?_) (fun c_8 => ?_)
  rotate_left
  · exact absurd c_8 (by decide)
  refine lv_iinc (v := 4) (lv' := [(1, .int 4), (0, .ref h0)]) hx hb dX0_haveGaps_43 hl (k := 0) rfl (by decide) (by decide) rfl (fun ls hl => ?_)
  refine lv_goto (tgt := 2) hx hb dX0_haveGaps_46 (by decide) ?_
  refine lv_iload_n hx hb dX0_haveGaps_2 rfl (lv_at hl 0 rfl) ?_
  refine lv_bipush (v := 8) hx hb dX0_haveGaps_3 (by decide) ?_
  refine lv_icmp_ge (tgt := 49) hx hb dX0_haveGaps_5 (by decide) (fun c_9 => ?_) (fun c_9 => ?_)
  · exact absurd c_9 (by decide)
  refine lv_aload_n hx hb dX0_haveGaps_8 rfl (lv_at hl 1 rfl) ?_
  refine va_get (D := (dC, dI)) (ci := 0) (v := .int 0) (C := RX0) (T := TX0) (N := 5) hx hb hts hi0 hown hK hP 0 rfl rfl 4 (by decide) (hts (.fieldLink RX0 24 "AskTree$Cases" "size" "I") (by decide +kernel)) (fun _ h9 => h9) rfl dX0_haveGaps_9 ?_
  refine lv_if_le (tgt := 43) hx hb dX0_haveGaps_12 (by decide) (fun c_10 => ?_) (fun c_10 => ?_)
  rotate_left
  · exact absurd c_10 (by decide)
  refine lv_iinc (v := 5) (lv' := [(1, .int 5), (0, .ref h0)]) hx hb dX0_haveGaps_43 hl (k := 0) rfl (by decide) (by decide) rfl (fun ls hl => ?_)
  refine lv_goto (tgt := 2) hx hb dX0_haveGaps_46 (by decide) ?_
  refine lv_iload_n hx hb dX0_haveGaps_2 rfl (lv_at hl 0 rfl) ?_
  refine lv_bipush (v := 8) hx hb dX0_haveGaps_3 (by decide) ?_
  refine lv_icmp_ge (tgt := 49) hx hb dX0_haveGaps_5 (by decide) (fun c_11 => ?_) (fun c_11 => ?_)
  · exact absurd c_11 (by decide)
  refine lv_aload_n hx hb dX0_haveGaps_8 rfl (lv_at hl 1 rfl) ?_
  refine va_get (D := (dC, dI)) (ci := 0) (v := .int 0) (C := RX0) (T := TX0) (N := 5) hx hb hts hi0 hown hK hP 0 rfl rfl 4 (by decide) (hts (.fieldLink RX0 24 "AskTree$Cases" "size" "I") (by decide +kernel)) (fun _ h9 => h9) rfl dX0_haveGaps_9 ?_
  refine lv_if_le (tgt := 43) hx hb dX0_haveGaps_12 (by decide) (fun c_12 => ?_) (fun c_12 => ?_)
  rotate_left
  · exact absurd c_12 (by decide)
  refine lv_iinc (v := 6) (lv' := [(1, .int 6), (0, .ref h0)]) hx hb dX0_haveGaps_43 hl (k := 0) rfl (by decide) (by decide) rfl (fun ls hl => ?_)
  refine lv_goto (tgt := 2) hx hb dX0_haveGaps_46 (by decide) ?_
  refine lv_iload_n hx hb dX0_haveGaps_2 rfl (lv_at hl 0 rfl) ?_
  refine lv_bipush (v := 8) hx hb dX0_haveGaps_3 (by decide) ?_
  refine lv_icmp_ge (tgt := 49) hx hb dX0_haveGaps_5 (by decide) (fun c_13 => ?_) (fun c_13 => ?_)
  · exact absurd c_13 (by decide)
  refine lv_aload_n hx hb dX0_haveGaps_8 rfl (lv_at hl 1 rfl) ?_
  refine va_get (D := (dC, dI)) (ci := 0) (v := .int 0) (C := RX0) (T := TX0) (N := 5) hx hb hts hi0 hown hK hP 0 rfl rfl 4 (by decide) (hts (.fieldLink RX0 24 "AskTree$Cases" "size" "I") (by decide +kernel)) (fun _ h9 => h9) rfl dX0_haveGaps_9 ?_
  refine lv_if_le (tgt := 43) hx hb dX0_haveGaps_12 (by decide) (fun c_14 => ?_) (fun c_14 => ?_)
  rotate_left
  · exact absurd c_14 (by decide)
  refine lv_iinc (v := 7) (lv' := [(1, .int 7), (0, .ref h0)]) hx hb dX0_haveGaps_43 hl (k := 0) rfl (by decide) (by decide) rfl (fun ls hl => ?_)
  refine lv_goto (tgt := 2) hx hb dX0_haveGaps_46 (by decide) ?_
  refine lv_iload_n hx hb dX0_haveGaps_2 rfl (lv_at hl 0 rfl) ?_
  refine lv_bipush (v := 8) hx hb dX0_haveGaps_3 (by decide) ?_
  refine lv_icmp_ge (tgt := 49) hx hb dX0_haveGaps_5 (by decide) (fun c_15 => ?_) (fun c_15 => ?_)
  · exact absurd c_15 (by decide)
  refine lv_aload_n hx hb dX0_haveGaps_8 rfl (lv_at hl 1 rfl) ?_
  refine va_get (D := (dC, dI)) (ci := 0) (v := .int 0) (C := RX0) (T := TX0) (N := 5) hx hb hts hi0 hown hK hP 0 rfl rfl 4 (by decide) (hts (.fieldLink RX0 24 "AskTree$Cases" "size" "I") (by decide +kernel)) (fun _ h9 => h9) rfl dX0_haveGaps_9 ?_
  refine lv_if_le (tgt := 43) hx hb dX0_haveGaps_12 (by decide) (fun c_16 => ?_) (fun c_16 => ?_)
  rotate_left
  · exact absurd c_16 (by decide)
  refine lv_iinc (v := 8) (lv' := [(1, .int 8), (0, .ref h0)]) hx hb dX0_haveGaps_43 hl (k := 0) rfl (by decide) (by decide) rfl (fun ls hl => ?_)
  refine lv_goto (tgt := 2) hx hb dX0_haveGaps_46 (by decide) ?_
  refine lv_iload_n hx hb dX0_haveGaps_2 rfl (lv_at hl 0 rfl) ?_
  refine lv_bipush (v := 8) hx hb dX0_haveGaps_3 (by decide) ?_
  refine lv_icmp_ge (tgt := 49) hx hb dX0_haveGaps_5 (by decide) (fun c_17 => ?_) (fun c_17 => ?_)
  rotate_left
  · exact absurd c_17 (by decide)
  refine lv_iconst (v := 0) hx hb dX0_haveGaps_49 (by decide) ?_
  have hP9 := hP.sub (ws' := [(h0, .inr (0, [.ref a0_kinds, .ref a0_classes, .ref a0_marks, .ref a0_order, .int 0]))]) [0] rfl
  have hD9 := hD.sub (ws' := [(h0, .inr (0, [.ref a0_kinds, .ref a0_classes, .ref a0_marks, .ref a0_order, .int 0]))]) [0] (by decide) rfl
  have hK9 := hK.sub (tys' := []) [] rfl
  exact W.zret (v := 0) hx hb hr rfl (fun t ht hW => ⟨⟨0, ([(h0, .inr (0, [.ref a0_kinds, .ref a0_classes, .ref a0_marks, .ref a0_order, .int 0]))], []), rfl, ⟨rfl, rfl⟩, (by rw [ht]; exact hP9), va_K.moved hW.alike hK9, hD9⟩, hS.F ht⟩) hS.2.2 dX0_haveGaps_50
