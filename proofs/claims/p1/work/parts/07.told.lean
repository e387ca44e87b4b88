set_option maxHeartbeats 4000000 in
set_option maxRecDepth 100000 in
theorem c_readPair0 (l : Launch) (dC : Nat → ClassId) (dI : Nat → Nat → Nat) (sz : Nat) (h0 : Nat) (p2 : Int32) (h0_told : Nat) (a0_cases : Nat) (a0_rows : Nat) (a0_grower : Nat) (a0_finder : Nat) (a0_pruner : Nat) (a0_rules : Nat) (a0_trees : Nat) (a0_turnedMarks : Nat) (a0_ballots : Nat) (k0_told : ClassId) (f0_told : Nat → Int32)   : Met l yX7_readPair wsX7_readPair ({ frames := 1, cells := 0, slots := 0, locals := 60 }) (va_Pc [.ref h0, .int 0, .int p2] (pw (dC, dI) [(k0_told, .int)] [(h0, .inr (7, [.ref a0_cases, .ref a0_rows, .ref a0_grower, .ref a0_finder, .ref a0_pruner, .ref a0_rules, .ref a0_trees, .ref h0_told, .ref a0_turnedMarks, .ref a0_ballots, .int 0, .int (-1), .int (-1), .int 0])), (h0_told, .inl (k0_told, 8, .inl f0_told))] sz)) (va_Qv (fun (u : vu) => (u = ([(h0, .inr (7, [.ref a0_cases, .ref a0_rows, .ref a0_grower, .ref a0_finder, .ref a0_pruner, .ref a0_rules, .ref a0_trees, .ref h0_told, .ref a0_turnedMarks, .ref a0_ballots, .int 0, .int (-1), .int (-1), .int 0])), (h0_told, .inl (k0_told, 8, .inl (upd (upd f0_told 0 (p2 >>> (16 &&& 31))) 1 ((p2 <<< (16 &&& 31)) >>> (16 &&& 31)))))], []))) (fun u t => qw (dC, dI) u.2 (va_A [(h0, .inr (7, [.ref a0_cases, .ref a0_rows, .ref a0_grower, .ref a0_finder, .ref a0_pruner, .ref a0_rules, .ref a0_trees, .ref h0_told, .ref a0_turnedMarks, .ref a0_ballots, .int 0, .int (-1), .int (-1), .int 0])), (h0_told, .inl (k0_told, 8, .inl f0_told))] sz) u.1 t) (va_A [(h0, .inr (7, [.ref a0_cases, .ref a0_rows, .ref a0_grower, .ref a0_finder, .ref a0_pruner, .ref a0_rules, .ref a0_trees, .ref h0_told, .ref a0_turnedMarks, .ref a0_ballots, .int 0, .int (-1), .int (-1), .int 0])), (h0_told, .inl (k0_told, 8, .inl f0_told))] sz)) 0 0 (va_A [(h0, .inr (7, [.ref a0_cases, .ref a0_rows, .ref a0_grower, .ref a0_finder, .ref a0_pruner, .ref a0_rules, .ref a0_trees, .ref h0_told, .ref a0_turnedMarks, .ref a0_ballots, .int 0, .int (-1), .int (-1), .int 0])), (h0_told, .inl (k0_told, 8, .inl f0_told))] sz) := by
  refine Met.ofW (cc := cX7_readPair) (maxL := 3) (ret := none) (by decide) rfl ?_
  intro p e s m args below meth c s₁ B hml hv
  obtain ⟨rfl, hsz, hP, hK, hD0, hN⟩ := hv
  have hx := B.exec
  have hb := B.bytes
  have hr := B.returns
  have hts := atoms_spec (ws := wsX7_readPair) B.pre
  have hown : s.vm.findClass RX7 = some m.cls := findClass_of_methodNamed B.named
  have hlocks := B.notSynchronized
  have hi7 : ∀ w ∈ u_ws RX7 TX7 14, w ∈ wsX7_readPair := fun _ h => List.mem_cons_of_mem _ (List.mem_append_right _ h)
  subst hsz
  have hD := hD0.self (sz := s.heap.size)
  generalize hAe : va_A [(h0, .inr (7, [.ref a0_cases, .ref a0_rows, .ref a0_grower, .ref a0_finder, .ref a0_pruner, .ref a0_rules, .ref a0_trees, .ref h0_told, .ref a0_turnedMarks, .ref a0_ballots, .int 0, .int (-1), .int (-1), .int 0])), (h0_told, .inl (k0_told, 8, .inl f0_told))] s.heap.size = A at hD ⊢
  have hA : ∀ q : Nat, s.heap.size ≤ q → A q := fun q h => by rw [← hAe]; exact Or.inr h
  have hS : va_S A s.heap s.heap [] := va_S.rf
  have hl := lv_entry ([.ref h0, .int 0, .int p2]) (n := 3) (Nat.le_of_ble_eq_true rfl)
  rw [lg_entry_eq]
  generalize (lg_sl ([.ref h0, .int 0, .int p2]) ++ List.replicate (3 - (lg_sl ([.ref h0, .int 0, .int p2])).length) Slot.unset).toArray = ls at hl ⊢
  have hl : lv_has ls 3 [(0, .ref h0), (1, .int 0), (2, .int p2)] := hl
  have hP : va_P (dC, dI) vwCl [(h0, .inr (7, [.ref a0_cases, .ref a0_rows, .ref a0_grower, .ref a0_finder, .ref a0_pruner, .ref a0_rules, .ref a0_trees, .ref h0_told, .ref a0_turnedMarks, .ref a0_ballots, .int 0, .int (-1), .int (-1), .int 0])), (h0_told, .inl (k0_told, 8, .inl f0_told))] s.heap := hP
  refine lv_aload_n hx hb dX7_readPair_0 rfl (lv_at hl 0 rfl) ?_
  refine va_get (D := (dC, dI)) (ci := 7) (v := .ref h0_told) (C := RX7) (T := TX7) (N := 14) hx hb hts hi7 hown hK hP 0 rfl rfl 7 (by decide) (hts (.fieldLink RX7 67 "AskTree" "told" "[I") (by decide +kernel)) (fun _ h9 => h9) rfl dX7_readPair_1 ?_
  refine lv_iload_n hx hb dX7_readPair_4 rfl (lv_at hl 1 rfl) ?_
  refine lv_iload_n hx hb dX7_readPair_5 rfl (lv_at hl 2 rfl) ?_
  refine lv_bipush (v := 16) hx hb dX7_readPair_6 (by decide) ?_
  refine lv_ishr hx hb dX7_readPair_8 ?_
  refine va_iast hx hb hK hP hD hS 1 0 rfl rfl (vi _ _ (by decide)) dX7_readPair_9 (fun H locs hP hD hS => ?_)
  have hP : va_P (dC, dI) vwCl [(h0, .inr (7, [.ref a0_cases, .ref a0_rows, .ref a0_grower, .ref a0_finder, .ref a0_pruner, .ref a0_rules, .ref a0_trees, .ref h0_told, .ref a0_turnedMarks, .ref a0_ballots, .int 0, .int (-1), .int (-1), .int 0])), (h0_told, .inl (k0_told, 8, .inl (upd f0_told 0 (p2 >>> (16 &&& 31)))))] H := hP
  have hD : va_D A [(h0, .inr (7, [.ref a0_cases, .ref a0_rows, .ref a0_grower, .ref a0_finder, .ref a0_pruner, .ref a0_rules, .ref a0_trees, .ref h0_told, .ref a0_turnedMarks, .ref a0_ballots, .int 0, .int (-1), .int (-1), .int 0])), (h0_told, .inl (k0_told, 8, .inl (upd f0_told 0 (p2 >>> (16 &&& 31)))))] := hD
  refine lv_aload_n hx hb dX7_readPair_10 rfl (lv_at hl 0 rfl) ?_
  refine va_get (D := (dC, dI)) (ci := 7) (v := .ref h0_told) (C := RX7) (T := TX7) (N := 14) hx hb hts hi7 hown hK hP 0 rfl rfl 7 (by decide) (hts (.fieldLink RX7 67 "AskTree" "told" "[I") (by decide +kernel)) (fun _ h9 => h9) rfl dX7_readPair_11 ?_
  refine lv_iload_n hx hb dX7_readPair_14 rfl (lv_at hl 1 rfl) ?_
  refine lv_iconst (v := 1) hx hb dX7_readPair_15 (by decide) ?_
  refine lv_iadd hx hb dX7_readPair_16 ?_
  refine tvv (v := .int 1) (congrArg Value.int (by decide)) ?_
  refine lv_iload_n hx hb dX7_readPair_17 rfl (lv_at hl 2 rfl) ?_
  refine lv_bipush (v := 16) hx hb dX7_readPair_18 (by decide) ?_
  refine lv_ishl hx hb dX7_readPair_20 ?_
  refine lv_bipush (v := 16) hx hb dX7_readPair_21 (by decide) ?_
  refine lv_ishr hx hb dX7_readPair_23 ?_
  refine va_iast hx hb hK hP hD hS 1 0 rfl rfl (vi _ _ (by decide)) dX7_readPair_24 (fun H locs hP hD hS => ?_)
  have hP : va_P (dC, dI) vwCl [(h0, .inr (7, [.ref a0_cases, .ref a0_rows, .ref a0_grower, .ref a0_finder, .ref a0_pruner, .ref a0_rules, .ref a0_trees, .ref h0_told, .ref a0_turnedMarks, .ref a0_ballots, .int 0, .int (-1), .int (-1), .int 0])), (h0_told, .inl (k0_told, 8, .inl (upd (upd f0_told 0 (p2 >>> (16 &&& 31))) 1 ((p2 <<< (16 &&& 31)) >>> (16 &&& 31)))))] H := hP
  have hD : va_D A [(h0, .inr (7, [.ref a0_cases, .ref a0_rows, .ref a0_grower, .ref a0_finder, .ref a0_pruner, .ref a0_rules, .ref a0_trees, .ref h0_told, .ref a0_turnedMarks, .ref a0_ballots, .int 0, .int (-1), .int (-1), .int 0])), (h0_told, .inl (k0_told, 8, .inl (upd (upd f0_told 0 (p2 >>> (16 &&& 31))) 1 ((p2 <<< (16 &&& 31)) >>> (16 &&& 31)))))] := hD
  have hP9 := hP.sub (ws' := [(h0, .inr (7, [.ref a0_cases, .ref a0_rows, .ref a0_grower, .ref a0_finder, .ref a0_pruner, .ref a0_rules, .ref a0_trees, .ref h0_told, .ref a0_turnedMarks, .ref a0_ballots, .int 0, .int (-1), .int (-1), .int 0])), (h0_told, .inl (k0_told, 8, .inl (upd (upd f0_told 0 (p2 >>> (16 &&& 31))) 1 ((p2 <<< (16 &&& 31)) >>> (16 &&& 31)))))]) [0, 1] rfl
  have hD9 := hD.sub (ws' := [(h0, .inr (7, [.ref a0_cases, .ref a0_rows, .ref a0_grower, .ref a0_finder, .ref a0_pruner, .ref a0_rules, .ref a0_trees, .ref h0_told, .ref a0_turnedMarks, .ref a0_ballots, .int 0, .int (-1), .int (-1), .int 0])), (h0_told, .inl (k0_told, 8, .inl (upd (upd f0_told 0 (p2 >>> (16 &&& 31))) 1 ((p2 <<< (16 &&& 31)) >>> (16 &&& 31)))))]) [0, 1] (by decide) rfl
  have hK9 := hK.sub (tys' := []) [] rfl
  exact W.vret hx hb hr (fun t ht hW => ⟨⟨([(h0, .inr (7, [.ref a0_cases, .ref a0_rows, .ref a0_grower, .ref a0_finder, .ref a0_pruner, .ref a0_rules, .ref a0_trees, .ref h0_told, .ref a0_turnedMarks, .ref a0_ballots, .int 0, .int (-1), .int (-1), .int 0])), (h0_told, .inl (k0_told, 8, .inl (upd (upd f0_told 0 (p2 >>> (16 &&& 31))) 1 ((p2 <<< (16 &&& 31)) >>> (16 &&& 31)))))], []), rfl, rfl, (by rw [ht]; exact hP9), va_K.moved hW.alike hK9, hD9⟩, hS.F ht⟩) hS.2.2 dX7_readPair_25

set_option maxHeartbeats 4000000 in
set_option maxRecDepth 100000 in
theorem c_readPair2 (l : Launch) (dC : Nat → ClassId) (dI : Nat → Nat → Nat) (sz : Nat) (h0 : Nat) (p2 : Int32) (h0_told : Nat) (a0_cases : Nat) (a0_rows : Nat) (a0_grower : Nat) (a0_finder : Nat) (a0_pruner : Nat) (a0_rules : Nat) (a0_trees : Nat) (a0_turnedMarks : Nat) (a0_ballots : Nat) (k0_told : ClassId) (f0_told : Nat → Int32)   : Met l yX7_readPair wsX7_readPair ({ frames := 1, cells := 0, slots := 0, locals := 60 }) (va_Pc [.ref h0, .int 2, .int p2] (pw (dC, dI) [(k0_told, .int)] [(h0, .inr (7, [.ref a0_cases, .ref a0_rows, .ref a0_grower, .ref a0_finder, .ref a0_pruner, .ref a0_rules, .ref a0_trees, .ref h0_told, .ref a0_turnedMarks, .ref a0_ballots, .int 0, .int (-1), .int (-1), .int 0])), (h0_told, .inl (k0_told, 8, .inl f0_told))] sz)) (va_Qv (fun (u : vu) => (u = ([(h0, .inr (7, [.ref a0_cases, .ref a0_rows, .ref a0_grower, .ref a0_finder, .ref a0_pruner, .ref a0_rules, .ref a0_trees, .ref h0_told, .ref a0_turnedMarks, .ref a0_ballots, .int 0, .int (-1), .int (-1), .int 0])), (h0_told, .inl (k0_told, 8, .inl (upd (upd f0_told 2 (p2 >>> (16 &&& 31))) 3 ((p2 <<< (16 &&& 31)) >>> (16 &&& 31)))))], []))) (fun u t => qw (dC, dI) u.2 (va_A [(h0, .inr (7, [.ref a0_cases, .ref a0_rows, .ref a0_grower, .ref a0_finder, .ref a0_pruner, .ref a0_rules, .ref a0_trees, .ref h0_told, .ref a0_turnedMarks, .ref a0_ballots, .int 0, .int (-1), .int (-1), .int 0])), (h0_told, .inl (k0_told, 8, .inl f0_told))] sz) u.1 t) (va_A [(h0, .inr (7, [.ref a0_cases, .ref a0_rows, .ref a0_grower, .ref a0_finder, .ref a0_pruner, .ref a0_rules, .ref a0_trees, .ref h0_told, .ref a0_turnedMarks, .ref a0_ballots, .int 0, .int (-1), .int (-1), .int 0])), (h0_told, .inl (k0_told, 8, .inl f0_told))] sz)) 0 0 (va_A [(h0, .inr (7, [.ref a0_cases, .ref a0_rows, .ref a0_grower, .ref a0_finder, .ref a0_pruner, .ref a0_rules, .ref a0_trees, .ref h0_told, .ref a0_turnedMarks, .ref a0_ballots, .int 0, .int (-1), .int (-1), .int 0])), (h0_told, .inl (k0_told, 8, .inl f0_told))] sz) := by
  refine Met.ofW (cc := cX7_readPair) (maxL := 3) (ret := none) (by decide) rfl ?_
  intro p e s m args below meth c s₁ B hml hv
  obtain ⟨rfl, hsz, hP, hK, hD0, hN⟩ := hv
  have hx := B.exec
  have hb := B.bytes
  have hr := B.returns
  have hts := atoms_spec (ws := wsX7_readPair) B.pre
  have hown : s.vm.findClass RX7 = some m.cls := findClass_of_methodNamed B.named
  have hlocks := B.notSynchronized
  have hi7 : ∀ w ∈ u_ws RX7 TX7 14, w ∈ wsX7_readPair := fun _ h => List.mem_cons_of_mem _ (List.mem_append_right _ h)
  subst hsz
  have hD := hD0.self (sz := s.heap.size)
  generalize hAe : va_A [(h0, .inr (7, [.ref a0_cases, .ref a0_rows, .ref a0_grower, .ref a0_finder, .ref a0_pruner, .ref a0_rules, .ref a0_trees, .ref h0_told, .ref a0_turnedMarks, .ref a0_ballots, .int 0, .int (-1), .int (-1), .int 0])), (h0_told, .inl (k0_told, 8, .inl f0_told))] s.heap.size = A at hD ⊢
  have hA : ∀ q : Nat, s.heap.size ≤ q → A q := fun q h => by rw [← hAe]; exact Or.inr h
  have hS : va_S A s.heap s.heap [] := va_S.rf
  have hl := lv_entry ([.ref h0, .int 2, .int p2]) (n := 3) (Nat.le_of_ble_eq_true rfl)
  rw [lg_entry_eq]
  generalize (lg_sl ([.ref h0, .int 2, .int p2]) ++ List.replicate (3 - (lg_sl ([.ref h0, .int 2, .int p2])).length) Slot.unset).toArray = ls at hl ⊢
  have hl : lv_has ls 3 [(0, .ref h0), (1, .int 2), (2, .int p2)] := hl
  have hP : va_P (dC, dI) vwCl [(h0, .inr (7, [.ref a0_cases, .ref a0_rows, .ref a0_grower, .ref a0_finder, .ref a0_pruner, .ref a0_rules, .ref a0_trees, .ref h0_told, .ref a0_turnedMarks, .ref a0_ballots, .int 0, .int (-1), .int (-1), .int 0])), (h0_told, .inl (k0_told, 8, .inl f0_told))] s.heap := hP
  refine lv_aload_n hx hb dX7_readPair_0 rfl (lv_at hl 0 rfl) ?_
  refine va_get (D := (dC, dI)) (ci := 7) (v := .ref h0_told) (C := RX7) (T := TX7) (N := 14) hx hb hts hi7 hown hK hP 0 rfl rfl 7 (by decide) (hts (.fieldLink RX7 67 "AskTree" "told" "[I") (by decide +kernel)) (fun _ h9 => h9) rfl dX7_readPair_1 ?_
  refine lv_iload_n hx hb dX7_readPair_4 rfl (lv_at hl 1 rfl) ?_
  refine lv_iload_n hx hb dX7_readPair_5 rfl (lv_at hl 2 rfl) ?_
  refine lv_bipush (v := 16) hx hb dX7_readPair_6 (by decide) ?_
  refine lv_ishr hx hb dX7_readPair_8 ?_
  refine va_iast hx hb hK hP hD hS 1 0 rfl rfl (vi _ _ (by decide)) dX7_readPair_9 (fun H locs hP hD hS => ?_)
  have hP : va_P (dC, dI) vwCl [(h0, .inr (7, [.ref a0_cases, .ref a0_rows, .ref a0_grower, .ref a0_finder, .ref a0_pruner, .ref a0_rules, .ref a0_trees, .ref h0_told, .ref a0_turnedMarks, .ref a0_ballots, .int 0, .int (-1), .int (-1), .int 0])), (h0_told, .inl (k0_told, 8, .inl (upd f0_told 2 (p2 >>> (16 &&& 31)))))] H := hP
  have hD : va_D A [(h0, .inr (7, [.ref a0_cases, .ref a0_rows, .ref a0_grower, .ref a0_finder, .ref a0_pruner, .ref a0_rules, .ref a0_trees, .ref h0_told, .ref a0_turnedMarks, .ref a0_ballots, .int 0, .int (-1), .int (-1), .int 0])), (h0_told, .inl (k0_told, 8, .inl (upd f0_told 2 (p2 >>> (16 &&& 31)))))] := hD
  refine lv_aload_n hx hb dX7_readPair_10 rfl (lv_at hl 0 rfl) ?_
  refine va_get (D := (dC, dI)) (ci := 7) (v := .ref h0_told) (C := RX7) (T := TX7) (N := 14) hx hb hts hi7 hown hK hP 0 rfl rfl 7 (by decide) (hts (.fieldLink RX7 67 "AskTree" "told" "[I") (by decide +kernel)) (fun _ h9 => h9) rfl dX7_readPair_11 ?_
  refine lv_iload_n hx hb dX7_readPair_14 rfl (lv_at hl 1 rfl) ?_
  refine lv_iconst (v := 1) hx hb dX7_readPair_15 (by decide) ?_
  refine lv_iadd hx hb dX7_readPair_16 ?_
  refine tvv (v := .int 3) (congrArg Value.int (by decide)) ?_
  refine lv_iload_n hx hb dX7_readPair_17 rfl (lv_at hl 2 rfl) ?_
  refine lv_bipush (v := 16) hx hb dX7_readPair_18 (by decide) ?_
  refine lv_ishl hx hb dX7_readPair_20 ?_
  refine lv_bipush (v := 16) hx hb dX7_readPair_21 (by decide) ?_
  refine lv_ishr hx hb dX7_readPair_23 ?_
  refine va_iast hx hb hK hP hD hS 1 0 rfl rfl (vi _ _ (by decide)) dX7_readPair_24 (fun H locs hP hD hS => ?_)
  have hP : va_P (dC, dI) vwCl [(h0, .inr (7, [.ref a0_cases, .ref a0_rows, .ref a0_grower, .ref a0_finder, .ref a0_pruner, .ref a0_rules, .ref a0_trees, .ref h0_told, .ref a0_turnedMarks, .ref a0_ballots, .int 0, .int (-1), .int (-1), .int 0])), (h0_told, .inl (k0_told, 8, .inl (upd (upd f0_told 2 (p2 >>> (16 &&& 31))) 3 ((p2 <<< (16 &&& 31)) >>> (16 &&& 31)))))] H := hP
  have hD : va_D A [(h0, .inr (7, [.ref a0_cases, .ref a0_rows, .ref a0_grower, .ref a0_finder, .ref a0_pruner, .ref a0_rules, .ref a0_trees, .ref h0_told, .ref a0_turnedMarks, .ref a0_ballots, .int 0, .int (-1), .int (-1), .int 0])), (h0_told, .inl (k0_told, 8, .inl (upd (upd f0_told 2 (p2 >>> (16 &&& 31))) 3 ((p2 <<< (16 &&& 31)) >>> (16 &&& 31)))))] := hD
  have hP9 := hP.sub (ws' := [(h0, .inr (7, [.ref a0_cases, .ref a0_rows, .ref a0_grower, .ref a0_finder, .ref a0_pruner, .ref a0_rules, .ref a0_trees, .ref h0_told, .ref a0_turnedMarks, .ref a0_ballots, .int 0, .int (-1), .int (-1), .int 0])), (h0_told, .inl (k0_told, 8, .inl (upd (upd f0_told 2 (p2 >>> (16 &&& 31))) 3 ((p2 <<< (16 &&& 31)) >>> (16 &&& 31)))))]) [0, 1] rfl
  have hD9 := hD.sub (ws' := [(h0, .inr (7, [.ref a0_cases, .ref a0_rows, .ref a0_grower, .ref a0_finder, .ref a0_pruner, .ref a0_rules, .ref a0_trees, .ref h0_told, .ref a0_turnedMarks, .ref a0_ballots, .int 0, .int (-1), .int (-1), .int 0])), (h0_told, .inl (k0_told, 8, .inl (upd (upd f0_told 2 (p2 >>> (16 &&& 31))) 3 ((p2 <<< (16 &&& 31)) >>> (16 &&& 31)))))]) [0, 1] (by decide) rfl
  have hK9 := hK.sub (tys' := []) [] rfl
  exact W.vret hx hb hr (fun t ht hW => ⟨⟨([(h0, .inr (7, [.ref a0_cases, .ref a0_rows, .ref a0_grower, .ref a0_finder, .ref a0_pruner, .ref a0_rules, .ref a0_trees, .ref h0_told, .ref a0_turnedMarks, .ref a0_ballots, .int 0, .int (-1), .int (-1), .int 0])), (h0_told, .inl (k0_told, 8, .inl (upd (upd f0_told 2 (p2 >>> (16 &&& 31))) 3 ((p2 <<< (16 &&& 31)) >>> (16 &&& 31)))))], []), rfl, rfl, (by rw [ht]; exact hP9), va_K.moved hW.alike hK9, hD9⟩, hS.F ht⟩) hS.2.2 dX7_readPair_25

set_option maxHeartbeats 4000000 in
set_option maxRecDepth 100000 in
theorem c_readPair4 (l : Launch) (dC : Nat → ClassId) (dI : Nat → Nat → Nat) (sz : Nat) (h0 : Nat) (p2 : Int32) (h0_told : Nat) (a0_cases : Nat) (a0_rows : Nat) (a0_grower : Nat) (a0_finder : Nat) (a0_pruner : Nat) (a0_rules : Nat) (a0_trees : Nat) (a0_turnedMarks : Nat) (a0_ballots : Nat) (k0_told : ClassId) (f0_told : Nat → Int32)   : Met l yX7_readPair wsX7_readPair ({ frames := 1, cells := 0, slots := 0, locals := 60 }) (va_Pc [.ref h0, .int 4, .int p2] (pw (dC, dI) [(k0_told, .int)] [(h0, .inr (7, [.ref a0_cases, .ref a0_rows, .ref a0_grower, .ref a0_finder, .ref a0_pruner, .ref a0_rules, .ref a0_trees, .ref h0_told, .ref a0_turnedMarks, .ref a0_ballots, .int 0, .int (-1), .int (-1), .int 0])), (h0_told, .inl (k0_told, 8, .inl f0_told))] sz)) (va_Qv (fun (u : vu) => (u = ([(h0, .inr (7, [.ref a0_cases, .ref a0_rows, .ref a0_grower, .ref a0_finder, .ref a0_pruner, .ref a0_rules, .ref a0_trees, .ref h0_told, .ref a0_turnedMarks, .ref a0_ballots, .int 0, .int (-1), .int (-1), .int 0])), (h0_told, .inl (k0_told, 8, .inl (upd (upd f0_told 4 (p2 >>> (16 &&& 31))) 5 ((p2 <<< (16 &&& 31)) >>> (16 &&& 31)))))], []))) (fun u t => qw (dC, dI) u.2 (va_A [(h0, .inr (7, [.ref a0_cases, .ref a0_rows, .ref a0_grower, .ref a0_finder, .ref a0_pruner, .ref a0_rules, .ref a0_trees, .ref h0_told, .ref a0_turnedMarks, .ref a0_ballots, .int 0, .int (-1), .int (-1), .int 0])), (h0_told, .inl (k0_told, 8, .inl f0_told))] sz) u.1 t) (va_A [(h0, .inr (7, [.ref a0_cases, .ref a0_rows, .ref a0_grower, .ref a0_finder, .ref a0_pruner, .ref a0_rules, .ref a0_trees, .ref h0_told, .ref a0_turnedMarks, .ref a0_ballots, .int 0, .int (-1), .int (-1), .int 0])), (h0_told, .inl (k0_told, 8, .inl f0_told))] sz)) 0 0 (va_A [(h0, .inr (7, [.ref a0_cases, .ref a0_rows, .ref a0_grower, .ref a0_finder, .ref a0_pruner, .ref a0_rules, .ref a0_trees, .ref h0_told, .ref a0_turnedMarks, .ref a0_ballots, .int 0, .int (-1), .int (-1), .int 0])), (h0_told, .inl (k0_told, 8, .inl f0_told))] sz) := by
  refine Met.ofW (cc := cX7_readPair) (maxL := 3) (ret := none) (by decide) rfl ?_
  intro p e s m args below meth c s₁ B hml hv
  obtain ⟨rfl, hsz, hP, hK, hD0, hN⟩ := hv
  have hx := B.exec
  have hb := B.bytes
  have hr := B.returns
  have hts := atoms_spec (ws := wsX7_readPair) B.pre
  have hown : s.vm.findClass RX7 = some m.cls := findClass_of_methodNamed B.named
  have hlocks := B.notSynchronized
  have hi7 : ∀ w ∈ u_ws RX7 TX7 14, w ∈ wsX7_readPair := fun _ h => List.mem_cons_of_mem _ (List.mem_append_right _ h)
  subst hsz
  have hD := hD0.self (sz := s.heap.size)
  generalize hAe : va_A [(h0, .inr (7, [.ref a0_cases, .ref a0_rows, .ref a0_grower, .ref a0_finder, .ref a0_pruner, .ref a0_rules, .ref a0_trees, .ref h0_told, .ref a0_turnedMarks, .ref a0_ballots, .int 0, .int (-1), .int (-1), .int 0])), (h0_told, .inl (k0_told, 8, .inl f0_told))] s.heap.size = A at hD ⊢
  have hA : ∀ q : Nat, s.heap.size ≤ q → A q := fun q h => by rw [← hAe]; exact Or.inr h
  have hS : va_S A s.heap s.heap [] := va_S.rf
  have hl := lv_entry ([.ref h0, .int 4, .int p2]) (n := 3) (Nat.le_of_ble_eq_true rfl)
  rw [lg_entry_eq]
  generalize (lg_sl ([.ref h0, .int 4, .int p2]) ++ List.replicate (3 - (lg_sl ([.ref h0, .int 4, .int p2])).length) Slot.unset).toArray = ls at hl ⊢
  have hl : lv_has ls 3 [(0, .ref h0), (1, .int 4), (2, .int p2)] := hl
  have hP : va_P (dC, dI) vwCl [(h0, .inr (7, [.ref a0_cases, .ref a0_rows, .ref a0_grower, .ref a0_finder, .ref a0_pruner, .ref a0_rules, .ref a0_trees, .ref h0_told, .ref a0_turnedMarks, .ref a0_ballots, .int 0, .int (-1), .int (-1), .int 0])), (h0_told, .inl (k0_told, 8, .inl f0_told))] s.heap := hP
  refine lv_aload_n hx hb dX7_readPair_0 rfl (lv_at hl 0 rfl) ?_
  refine va_get (D := (dC, dI)) (ci := 7) (v := .ref h0_told) (C := RX7) (T := TX7) (N := 14) hx hb hts hi7 hown hK hP 0 rfl rfl 7 (by decide) (hts (.fieldLink RX7 67 "AskTree" "told" "[I") (by decide +kernel)) (fun _ h9 => h9) rfl dX7_readPair_1 ?_
  refine lv_iload_n hx hb dX7_readPair_4 rfl (lv_at hl 1 rfl) ?_
  refine lv_iload_n hx hb dX7_readPair_5 rfl (lv_at hl 2 rfl) ?_
  refine lv_bipush (v := 16) hx hb dX7_readPair_6 (by decide) ?_
  refine lv_ishr hx hb dX7_readPair_8 ?_
  refine va_iast hx hb hK hP hD hS 1 0 rfl rfl (vi _ _ (by decide)) dX7_readPair_9 (fun H locs hP hD hS => ?_)
  have hP : va_P (dC, dI) vwCl [(h0, .inr (7, [.ref a0_cases, .ref a0_rows, .ref a0_grower, .ref a0_finder, .ref a0_pruner, .ref a0_rules, .ref a0_trees, .ref h0_told, .ref a0_turnedMarks, .ref a0_ballots, .int 0, .int (-1), .int (-1), .int 0])), (h0_told, .inl (k0_told, 8, .inl (upd f0_told 4 (p2 >>> (16 &&& 31)))))] H := hP
  have hD : va_D A [(h0, .inr (7, [.ref a0_cases, .ref a0_rows, .ref a0_grower, .ref a0_finder, .ref a0_pruner, .ref a0_rules, .ref a0_trees, .ref h0_told, .ref a0_turnedMarks, .ref a0_ballots, .int 0, .int (-1), .int (-1), .int 0])), (h0_told, .inl (k0_told, 8, .inl (upd f0_told 4 (p2 >>> (16 &&& 31)))))] := hD
  refine lv_aload_n hx hb dX7_readPair_10 rfl (lv_at hl 0 rfl) ?_
  refine va_get (D := (dC, dI)) (ci := 7) (v := .ref h0_told) (C := RX7) (T := TX7) (N := 14) hx hb hts hi7 hown hK hP 0 rfl rfl 7 (by decide) (hts (.fieldLink RX7 67 "AskTree" "told" "[I") (by decide +kernel)) (fun _ h9 => h9) rfl dX7_readPair_11 ?_
  refine lv_iload_n hx hb dX7_readPair_14 rfl (lv_at hl 1 rfl) ?_
  refine lv_iconst (v := 1) hx hb dX7_readPair_15 (by decide) ?_
  refine lv_iadd hx hb dX7_readPair_16 ?_
  refine tvv (v := .int 5) (congrArg Value.int (by decide)) ?_
  refine lv_iload_n hx hb dX7_readPair_17 rfl (lv_at hl 2 rfl) ?_
  refine lv_bipush (v := 16) hx hb dX7_readPair_18 (by decide) ?_
  refine lv_ishl hx hb dX7_readPair_20 ?_
  refine lv_bipush (v := 16) hx hb dX7_readPair_21 (by decide) ?_
  refine lv_ishr hx hb dX7_readPair_23 ?_
  refine va_iast hx hb hK hP hD hS 1 0 rfl rfl (vi _ _ (by decide)) dX7_readPair_24 (fun H locs hP hD hS => ?_)
  have hP : va_P (dC, dI) vwCl [(h0, .inr (7, [.ref a0_cases, .ref a0_rows, .ref a0_grower, .ref a0_finder, .ref a0_pruner, .ref a0_rules, .ref a0_trees, .ref h0_told, .ref a0_turnedMarks, .ref a0_ballots, .int 0, .int (-1), .int (-1), .int 0])), (h0_told, .inl (k0_told, 8, .inl (upd (upd f0_told 4 (p2 >>> (16 &&& 31))) 5 ((p2 <<< (16 &&& 31)) >>> (16 &&& 31)))))] H := hP
  have hD : va_D A [(h0, .inr (7, [.ref a0_cases, .ref a0_rows, .ref a0_grower, .ref a0_finder, .ref a0_pruner, .ref a0_rules, .ref a0_trees, .ref h0_told, .ref a0_turnedMarks, .ref a0_ballots, .int 0, .int (-1), .int (-1), .int 0])), (h0_told, .inl (k0_told, 8, .inl (upd (upd f0_told 4 (p2 >>> (16 &&& 31))) 5 ((p2 <<< (16 &&& 31)) >>> (16 &&& 31)))))] := hD
  have hP9 := hP.sub (ws' := [(h0, .inr (7, [.ref a0_cases, .ref a0_rows, .ref a0_grower, .ref a0_finder, .ref a0_pruner, .ref a0_rules, .ref a0_trees, .ref h0_told, .ref a0_turnedMarks, .ref a0_ballots, .int 0, .int (-1), .int (-1), .int 0])), (h0_told, .inl (k0_told, 8, .inl (upd (upd f0_told 4 (p2 >>> (16 &&& 31))) 5 ((p2 <<< (16 &&& 31)) >>> (16 &&& 31)))))]) [0, 1] rfl
  have hD9 := hD.sub (ws' := [(h0, .inr (7, [.ref a0_cases, .ref a0_rows, .ref a0_grower, .ref a0_finder, .ref a0_pruner, .ref a0_rules, .ref a0_trees, .ref h0_told, .ref a0_turnedMarks, .ref a0_ballots, .int 0, .int (-1), .int (-1), .int 0])), (h0_told, .inl (k0_told, 8, .inl (upd (upd f0_told 4 (p2 >>> (16 &&& 31))) 5 ((p2 <<< (16 &&& 31)) >>> (16 &&& 31)))))]) [0, 1] (by decide) rfl
  have hK9 := hK.sub (tys' := []) [] rfl
  exact W.vret hx hb hr (fun t ht hW => ⟨⟨([(h0, .inr (7, [.ref a0_cases, .ref a0_rows, .ref a0_grower, .ref a0_finder, .ref a0_pruner, .ref a0_rules, .ref a0_trees, .ref h0_told, .ref a0_turnedMarks, .ref a0_ballots, .int 0, .int (-1), .int (-1), .int 0])), (h0_told, .inl (k0_told, 8, .inl (upd (upd f0_told 4 (p2 >>> (16 &&& 31))) 5 ((p2 <<< (16 &&& 31)) >>> (16 &&& 31)))))], []), rfl, rfl, (by rw [ht]; exact hP9), va_K.moved hW.alike hK9, hD9⟩, hS.F ht⟩) hS.2.2 dX7_readPair_25

set_option maxHeartbeats 4000000 in
set_option maxRecDepth 100000 in
theorem c_readPair6 (l : Launch) (dC : Nat → ClassId) (dI : Nat → Nat → Nat) (sz : Nat) (h0 : Nat) (p2 : Int32) (h0_told : Nat) (a0_cases : Nat) (a0_rows : Nat) (a0_grower : Nat) (a0_finder : Nat) (a0_pruner : Nat) (a0_rules : Nat) (a0_trees : Nat) (a0_turnedMarks : Nat) (a0_ballots : Nat) (k0_told : ClassId) (f0_told : Nat → Int32)   : Met l yX7_readPair wsX7_readPair ({ frames := 1, cells := 0, slots := 0, locals := 60 }) (va_Pc [.ref h0, .int 6, .int p2] (pw (dC, dI) [(k0_told, .int)] [(h0, .inr (7, [.ref a0_cases, .ref a0_rows, .ref a0_grower, .ref a0_finder, .ref a0_pruner, .ref a0_rules, .ref a0_trees, .ref h0_told, .ref a0_turnedMarks, .ref a0_ballots, .int 0, .int (-1), .int (-1), .int 0])), (h0_told, .inl (k0_told, 8, .inl f0_told))] sz)) (va_Qv (fun (u : vu) => (u = ([(h0, .inr (7, [.ref a0_cases, .ref a0_rows, .ref a0_grower, .ref a0_finder, .ref a0_pruner, .ref a0_rules, .ref a0_trees, .ref h0_told, .ref a0_turnedMarks, .ref a0_ballots, .int 0, .int (-1), .int (-1), .int 0])), (h0_told, .inl (k0_told, 8, .inl (upd (upd f0_told 6 (p2 >>> (16 &&& 31))) 7 ((p2 <<< (16 &&& 31)) >>> (16 &&& 31)))))], []))) (fun u t => qw (dC, dI) u.2 (va_A [(h0, .inr (7, [.ref a0_cases, .ref a0_rows, .ref a0_grower, .ref a0_finder, .ref a0_pruner, .ref a0_rules, .ref a0_trees, .ref h0_told, .ref a0_turnedMarks, .ref a0_ballots, .int 0, .int (-1), .int (-1), .int 0])), (h0_told, .inl (k0_told, 8, .inl f0_told))] sz) u.1 t) (va_A [(h0, .inr (7, [.ref a0_cases, .ref a0_rows, .ref a0_grower, .ref a0_finder, .ref a0_pruner, .ref a0_rules, .ref a0_trees, .ref h0_told, .ref a0_turnedMarks, .ref a0_ballots, .int 0, .int (-1), .int (-1), .int 0])), (h0_told, .inl (k0_told, 8, .inl f0_told))] sz)) 0 0 (va_A [(h0, .inr (7, [.ref a0_cases, .ref a0_rows, .ref a0_grower, .ref a0_finder, .ref a0_pruner, .ref a0_rules, .ref a0_trees, .ref h0_told, .ref a0_turnedMarks, .ref a0_ballots, .int 0, .int (-1), .int (-1), .int 0])), (h0_told, .inl (k0_told, 8, .inl f0_told))] sz) := by
  refine Met.ofW (cc := cX7_readPair) (maxL := 3) (ret := none) (by decide) rfl ?_
  intro p e s m args below meth c s₁ B hml hv
  obtain ⟨rfl, hsz, hP, hK, hD0, hN⟩ := hv
  have hx := B.exec
  have hb := B.bytes
  have hr := B.returns
  have hts := atoms_spec (ws := wsX7_readPair) B.pre
  have hown : s.vm.findClass RX7 = some m.cls := findClass_of_methodNamed B.named
  have hlocks := B.notSynchronized
  have hi7 : ∀ w ∈ u_ws RX7 TX7 14, w ∈ wsX7_readPair := fun _ h => List.mem_cons_of_mem _ (List.mem_append_right _ h)
  subst hsz
  have hD := hD0.self (sz := s.heap.size)
  generalize hAe : va_A [(h0, .inr (7, [.ref a0_cases, .ref a0_rows, .ref a0_grower, .ref a0_finder, .ref a0_pruner, .ref a0_rules, .ref a0_trees, .ref h0_told, .ref a0_turnedMarks, .ref a0_ballots, .int 0, .int (-1), .int (-1), .int 0])), (h0_told, .inl (k0_told, 8, .inl f0_told))] s.heap.size = A at hD ⊢
  have hA : ∀ q : Nat, s.heap.size ≤ q → A q := fun q h => by rw [← hAe]; exact Or.inr h
  have hS : va_S A s.heap s.heap [] := va_S.rf
  have hl := lv_entry ([.ref h0, .int 6, .int p2]) (n := 3) (Nat.le_of_ble_eq_true rfl)
  rw [lg_entry_eq]
  generalize (lg_sl ([.ref h0, .int 6, .int p2]) ++ List.replicate (3 - (lg_sl ([.ref h0, .int 6, .int p2])).length) Slot.unset).toArray = ls at hl ⊢
  have hl : lv_has ls 3 [(0, .ref h0), (1, .int 6), (2, .int p2)] := hl
  have hP : va_P (dC, dI) vwCl [(h0, .inr (7, [.ref a0_cases, .ref a0_rows, .ref a0_grower, .ref a0_finder, .ref a0_pruner, .ref a0_rules, .ref a0_trees, .ref h0_told, .ref a0_turnedMarks, .ref a0_ballots, .int 0, .int (-1), .int (-1), .int 0])), (h0_told, .inl (k0_told, 8, .inl f0_told))] s.heap := hP
  refine lv_aload_n hx hb dX7_readPair_0 rfl (lv_at hl 0 rfl) ?_
  refine va_get (D := (dC, dI)) (ci := 7) (v := .ref h0_told) (C := RX7) (T := TX7) (N := 14) hx hb hts hi7 hown hK hP 0 rfl rfl 7 (by decide) (hts (.fieldLink RX7 67 "AskTree" "told" "[I") (by decide +kernel)) (fun _ h9 => h9) rfl dX7_readPair_1 ?_
  refine lv_iload_n hx hb dX7_readPair_4 rfl (lv_at hl 1 rfl) ?_
  refine lv_iload_n hx hb dX7_readPair_5 rfl (lv_at hl 2 rfl) ?_
  refine lv_bipush (v := 16) hx hb dX7_readPair_6 (by decide) ?_
  refine lv_ishr hx hb dX7_readPair_8 ?_
  refine va_iast hx hb hK hP hD hS 1 0 rfl rfl (vi _ _ (by decide)) dX7_readPair_9 (fun H locs hP hD hS => ?_)
  have hP : va_P (dC, dI) vwCl [(h0, .inr (7, [.ref a0_cases, .ref a0_rows, .ref a0_grower, .ref a0_finder, .ref a0_pruner, .ref a0_rules, .ref a0_trees, .ref h0_told, .ref a0_turnedMarks, .ref a0_ballots, .int 0, .int (-1), .int (-1), .int 0])), (h0_told, .inl (k0_told, 8, .inl (upd f0_told 6 (p2 >>> (16 &&& 31)))))] H := hP
  have hD : va_D A [(h0, .inr (7, [.ref a0_cases, .ref a0_rows, .ref a0_grower, .ref a0_finder, .ref a0_pruner, .ref a0_rules, .ref a0_trees, .ref h0_told, .ref a0_turnedMarks, .ref a0_ballots, .int 0, .int (-1), .int (-1), .int 0])), (h0_told, .inl (k0_told, 8, .inl (upd f0_told 6 (p2 >>> (16 &&& 31)))))] := hD
  refine lv_aload_n hx hb dX7_readPair_10 rfl (lv_at hl 0 rfl) ?_
  refine va_get (D := (dC, dI)) (ci := 7) (v := .ref h0_told) (C := RX7) (T := TX7) (N := 14) hx hb hts hi7 hown hK hP 0 rfl rfl 7 (by decide) (hts (.fieldLink RX7 67 "AskTree" "told" "[I") (by decide +kernel)) (fun _ h9 => h9) rfl dX7_readPair_11 ?_
  refine lv_iload_n hx hb dX7_readPair_14 rfl (lv_at hl 1 rfl) ?_
  refine lv_iconst (v := 1) hx hb dX7_readPair_15 (by decide) ?_
  refine lv_iadd hx hb dX7_readPair_16 ?_
  refine tvv (v := .int 7) (congrArg Value.int (by decide)) ?_
  refine lv_iload_n hx hb dX7_readPair_17 rfl (lv_at hl 2 rfl) ?_
  refine lv_bipush (v := 16) hx hb dX7_readPair_18 (by decide) ?_
  refine lv_ishl hx hb dX7_readPair_20 ?_
  refine lv_bipush (v := 16) hx hb dX7_readPair_21 (by decide) ?_
  refine lv_ishr hx hb dX7_readPair_23 ?_
  refine va_iast hx hb hK hP hD hS 1 0 rfl rfl (vi _ _ (by decide)) dX7_readPair_24 (fun H locs hP hD hS => ?_)
  have hP : va_P (dC, dI) vwCl [(h0, .inr (7, [.ref a0_cases, .ref a0_rows, .ref a0_grower, .ref a0_finder, .ref a0_pruner, .ref a0_rules, .ref a0_trees, .ref h0_told, .ref a0_turnedMarks, .ref a0_ballots, .int 0, .int (-1), .int (-1), .int 0])), (h0_told, .inl (k0_told, 8, .inl (upd (upd f0_told 6 (p2 >>> (16 &&& 31))) 7 ((p2 <<< (16 &&& 31)) >>> (16 &&& 31)))))] H := hP
  have hD : va_D A [(h0, .inr (7, [.ref a0_cases, .ref a0_rows, .ref a0_grower, .ref a0_finder, .ref a0_pruner, .ref a0_rules, .ref a0_trees, .ref h0_told, .ref a0_turnedMarks, .ref a0_ballots, .int 0, .int (-1), .int (-1), .int 0])), (h0_told, .inl (k0_told, 8, .inl (upd (upd f0_told 6 (p2 >>> (16 &&& 31))) 7 ((p2 <<< (16 &&& 31)) >>> (16 &&& 31)))))] := hD
  have hP9 := hP.sub (ws' := [(h0, .inr (7, [.ref a0_cases, .ref a0_rows, .ref a0_grower, .ref a0_finder, .ref a0_pruner, .ref a0_rules, .ref a0_trees, .ref h0_told, .ref a0_turnedMarks, .ref a0_ballots, .int 0, .int (-1), .int (-1), .int 0])), (h0_told, .inl (k0_told, 8, .inl (upd (upd f0_told 6 (p2 >>> (16 &&& 31))) 7 ((p2 <<< (16 &&& 31)) >>> (16 &&& 31)))))]) [0, 1] rfl
  have hD9 := hD.sub (ws' := [(h0, .inr (7, [.ref a0_cases, .ref a0_rows, .ref a0_grower, .ref a0_finder, .ref a0_pruner, .ref a0_rules, .ref a0_trees, .ref h0_told, .ref a0_turnedMarks, .ref a0_ballots, .int 0, .int (-1), .int (-1), .int 0])), (h0_told, .inl (k0_told, 8, .inl (upd (upd f0_told 6 (p2 >>> (16 &&& 31))) 7 ((p2 <<< (16 &&& 31)) >>> (16 &&& 31)))))]) [0, 1] (by decide) rfl
  have hK9 := hK.sub (tys' := []) [] rfl
  exact W.vret hx hb hr (fun t ht hW => ⟨⟨([(h0, .inr (7, [.ref a0_cases, .ref a0_rows, .ref a0_grower, .ref a0_finder, .ref a0_pruner, .ref a0_rules, .ref a0_trees, .ref h0_told, .ref a0_turnedMarks, .ref a0_ballots, .int 0, .int (-1), .int (-1), .int 0])), (h0_told, .inl (k0_told, 8, .inl (upd (upd f0_told 6 (p2 >>> (16 &&& 31))) 7 ((p2 <<< (16 &&& 31)) >>> (16 &&& 31)))))], []), rfl, rfl, (by rw [ht]; exact hP9), va_K.moved hW.alike hK9, hD9⟩, hS.F ht⟩) hS.2.2 dX7_readPair_25

theorem lf_readTold_1 (p1 : Int32) (p2 : Int32) (p3 : Int32) (p4 : Int32) (e0 : ¬ (tm p1 p2 p3 p4 0) < (-1000)) (e1 : 1000 < (tm p1 p2 p3 p4 0)) (e2 : (tm p1 p2 p3 p4 0) = (-32768)) : False := by
  (try simp only [Int32.lt_iff_toInt_lt, Int32.le_iff_toInt_le, ← Int32.toInt_inj, ln_0, ln_1, ln_2, ln_3, ln_4, ln_6, ln_8, ln_10, ln_50, ln_100, ln_300, ln_1000, ln_m1000, ln_m32768, ln_m1, ln_m2, ln_m40000, ln_20] at *)
  all_goals omega
theorem lf_readTold_2 (p1 : Int32) (p2 : Int32) (p3 : Int32) (p4 : Int32) (e0 : ¬ (tm p1 p2 p3 p4 1) < (-1000)) (e1 : 1000 < (tm p1 p2 p3 p4 1)) (e2 : (tm p1 p2 p3 p4 1) = (-32768)) : False := by
  (try simp only [Int32.lt_iff_toInt_lt, Int32.le_iff_toInt_le, ← Int32.toInt_inj, ln_0, ln_1, ln_2, ln_3, ln_4, ln_6, ln_8, ln_10, ln_50, ln_100, ln_300, ln_1000, ln_m1000, ln_m32768, ln_m1, ln_m2, ln_m40000, ln_20] at *)
  all_goals omega
theorem lf_readTold_3 (p1 : Int32) (p2 : Int32) (p3 : Int32) (p4 : Int32) (e0 : ¬ (tm p1 p2 p3 p4 2) < (-1000)) (e1 : 1000 < (tm p1 p2 p3 p4 2)) (e2 : (tm p1 p2 p3 p4 2) = (-32768)) : False := by
  (try simp only [Int32.lt_iff_toInt_lt, Int32.le_iff_toInt_le, ← Int32.toInt_inj, ln_0, ln_1, ln_2, ln_3, ln_4, ln_6, ln_8, ln_10, ln_50, ln_100, ln_300, ln_1000, ln_m1000, ln_m32768, ln_m1, ln_m2, ln_m40000, ln_20] at *)
  all_goals omega
theorem lf_readTold_4 (p1 : Int32) (p2 : Int32) (p3 : Int32) (p4 : Int32) (e0 : ¬ (tm p1 p2 p3 p4 3) < (-1000)) (e1 : 1000 < (tm p1 p2 p3 p4 3)) (e2 : (tm p1 p2 p3 p4 3) = (-32768)) : False := by
  (try simp only [Int32.lt_iff_toInt_lt, Int32.le_iff_toInt_le, ← Int32.toInt_inj, ln_0, ln_1, ln_2, ln_3, ln_4, ln_6, ln_8, ln_10, ln_50, ln_100, ln_300, ln_1000, ln_m1000, ln_m32768, ln_m1, ln_m2, ln_m40000, ln_20] at *)
  all_goals omega
theorem lf_readTold_5 (p1 : Int32) (p2 : Int32) (p3 : Int32) (p4 : Int32) (e0 : ¬ (tm p1 p2 p3 p4 4) < (-1000)) (e1 : 1000 < (tm p1 p2 p3 p4 4)) (e2 : (tm p1 p2 p3 p4 4) = (-32768)) : False := by
  (try simp only [Int32.lt_iff_toInt_lt, Int32.le_iff_toInt_le, ← Int32.toInt_inj, ln_0, ln_1, ln_2, ln_3, ln_4, ln_6, ln_8, ln_10, ln_50, ln_100, ln_300, ln_1000, ln_m1000, ln_m32768, ln_m1, ln_m2, ln_m40000, ln_20] at *)
  all_goals omega
theorem lf_readTold_6 (p1 : Int32) (p2 : Int32) (p3 : Int32) (p4 : Int32) (e0 : ¬ (tm p1 p2 p3 p4 5) < (-1000)) (e1 : 1000 < (tm p1 p2 p3 p4 5)) (e2 : (tm p1 p2 p3 p4 5) = (-32768)) : False := by
  (try simp only [Int32.lt_iff_toInt_lt, Int32.le_iff_toInt_le, ← Int32.toInt_inj, ln_0, ln_1, ln_2, ln_3, ln_4, ln_6, ln_8, ln_10, ln_50, ln_100, ln_300, ln_1000, ln_m1000, ln_m32768, ln_m1, ln_m2, ln_m40000, ln_20] at *)
  all_goals omega
theorem lf_readTold_7 (p1 : Int32) (p2 : Int32) (p3 : Int32) (p4 : Int32) (e0 : ¬ (tm p1 p2 p3 p4 6) < (-1000)) (e1 : 1000 < (tm p1 p2 p3 p4 6)) (e2 : (tm p1 p2 p3 p4 6) = (-32768)) : False := by
  (try simp only [Int32.lt_iff_toInt_lt, Int32.le_iff_toInt_le, ← Int32.toInt_inj, ln_0, ln_1, ln_2, ln_3, ln_4, ln_6, ln_8, ln_10, ln_50, ln_100, ln_300, ln_1000, ln_m1000, ln_m32768, ln_m1, ln_m2, ln_m40000, ln_20] at *)
  all_goals omega
theorem lf_readTold_8 (p1 : Int32) (p2 : Int32) (p3 : Int32) (p4 : Int32) (e0 : ¬ (tm p1 p2 p3 p4 7) < (-1000)) (e1 : 1000 < (tm p1 p2 p3 p4 7)) (e2 : (tm p1 p2 p3 p4 7) = (-32768)) : False := by
  (try simp only [Int32.lt_iff_toInt_lt, Int32.le_iff_toInt_le, ← Int32.toInt_inj, ln_0, ln_1, ln_2, ln_3, ln_4, ln_6, ln_8, ln_10, ln_50, ln_100, ln_300, ln_1000, ln_m1000, ln_m32768, ln_m1, ln_m2, ln_m40000, ln_20] at *)
  all_goals omega
set_option maxHeartbeats 4000000 in
set_option maxRecDepth 100000 in
theorem c_readTold (l : Launch) (dC : Nat → ClassId) (dI : Nat → Nat → Nat) (sz : Nat) (h0 : Nat) (p1 : Int32) (p2 : Int32) (p3 : Int32) (p4 : Int32) (h0_told : Nat) (a0_cases : Nat) (a0_rows : Nat) (a0_grower : Nat) (a0_finder : Nat) (a0_pruner : Nat) (a0_rules : Nat) (a0_trees : Nat) (a0_turnedMarks : Nat) (a0_ballots : Nat) (k0_told : ClassId) (f0_told : Nat → Int32)   : Met l yX7_readTold wsX7_readTold ({ frames := 2, cells := 0, slots := 0, locals := 82 }) (va_Pc [.ref h0, .int p1, .int p2, .int p3, .int p4] (pw (dC, dI) [(k0_told, .int)] [(h0, .inr (7, [.ref a0_cases, .ref a0_rows, .ref a0_grower, .ref a0_finder, .ref a0_pruner, .ref a0_rules, .ref a0_trees, .ref h0_told, .ref a0_turnedMarks, .ref a0_ballots, .int 0, .int (-1), .int (-1), .int 0])), (h0_told, .inl (k0_told, 8, .inl f0_told))] sz)) (va_Qi (fun (r : Int32) (u : vu) => (∃ (g_5 : Nat → Int32), u = ([(h0, .inr (7, [.ref a0_cases, .ref a0_rows, .ref a0_grower, .ref a0_finder, .ref a0_pruner, .ref a0_rules, .ref a0_trees, .ref h0_told, .ref a0_turnedMarks, .ref a0_ballots, .int 0, .int (-1), .int (-1), .int 0])), (h0_told, .inl (k0_told, 8, .inl g_5))], []) ∧ tok p1 p2 p3 p4 ∧ g_5 0 = (tm p1 p2 p3 p4 0) ∧ g_5 1 = (tm p1 p2 p3 p4 1) ∧ g_5 2 = (tm p1 p2 p3 p4 2) ∧ g_5 3 = (tm p1 p2 p3 p4 3) ∧ g_5 4 = (tm p1 p2 p3 p4 4) ∧ g_5 5 = (tm p1 p2 p3 p4 5) ∧ g_5 6 = (tm p1 p2 p3 p4 6) ∧ g_5 7 = (tm p1 p2 p3 p4 7) ∧ r = 1) ∨ (∃ (g_5 : Nat → Int32), u = ([(h0, .inr (7, [.ref a0_cases, .ref a0_rows, .ref a0_grower, .ref a0_finder, .ref a0_pruner, .ref a0_rules, .ref a0_trees, .ref h0_told, .ref a0_turnedMarks, .ref a0_ballots, .int 0, .int (-1), .int (-1), .int 0])), (h0_told, .inl (k0_told, 8, .inl g_5))], []) ∧ ¬ tok p1 p2 p3 p4 ∧ g_5 0 = (tm p1 p2 p3 p4 0) ∧ g_5 1 = (tm p1 p2 p3 p4 1) ∧ g_5 2 = (tm p1 p2 p3 p4 2) ∧ g_5 3 = (tm p1 p2 p3 p4 3) ∧ g_5 4 = (tm p1 p2 p3 p4 4) ∧ g_5 5 = (tm p1 p2 p3 p4 5) ∧ g_5 6 = (tm p1 p2 p3 p4 6) ∧ g_5 7 = (tm p1 p2 p3 p4 7) ∧ r = 0)) (fun u t => qw (dC, dI) u.2 (va_A [(h0, .inr (7, [.ref a0_cases, .ref a0_rows, .ref a0_grower, .ref a0_finder, .ref a0_pruner, .ref a0_rules, .ref a0_trees, .ref h0_told, .ref a0_turnedMarks, .ref a0_ballots, .int 0, .int (-1), .int (-1), .int 0])), (h0_told, .inl (k0_told, 8, .inl f0_told))] sz) u.1 t) (va_A [(h0, .inr (7, [.ref a0_cases, .ref a0_rows, .ref a0_grower, .ref a0_finder, .ref a0_pruner, .ref a0_rules, .ref a0_trees, .ref h0_told, .ref a0_turnedMarks, .ref a0_ballots, .int 0, .int (-1), .int (-1), .int 0])), (h0_told, .inl (k0_told, 8, .inl f0_told))] sz)) 0 0 (va_A [(h0, .inr (7, [.ref a0_cases, .ref a0_rows, .ref a0_grower, .ref a0_finder, .ref a0_pruner, .ref a0_rules, .ref a0_trees, .ref h0_told, .ref a0_turnedMarks, .ref a0_ballots, .int 0, .int (-1), .int (-1), .int 0])), (h0_told, .inl (k0_told, 8, .inl f0_told))] sz) := by
  refine Met.ofW (cc := cX7_readTold) (maxL := 7) (ret := (some .boolean)) (by decide) rfl ?_
  intro p e s m args below meth c s₁ B hml hv
  obtain ⟨rfl, hsz, hP, hK, hD0, hN⟩ := hv
  have hx := B.exec
  have hb := B.bytes
  have hr := B.returns
  have hts := atoms_spec (ws := wsX7_readTold) B.pre
  have hown : s.vm.findClass RX7 = some m.cls := findClass_of_methodNamed B.named
  have hlocks := B.notSynchronized
  have hi7 : ∀ w ∈ u_ws RX7 TX7 14, w ∈ wsX7_readTold := fun _ h => List.mem_cons_of_mem _ (List.mem_append_right _ h)
  subst hsz
  have hD := hD0.self (sz := s.heap.size)
  generalize hAe : va_A [(h0, .inr (7, [.ref a0_cases, .ref a0_rows, .ref a0_grower, .ref a0_finder, .ref a0_pruner, .ref a0_rules, .ref a0_trees, .ref h0_told, .ref a0_turnedMarks, .ref a0_ballots, .int 0, .int (-1), .int (-1), .int 0])), (h0_told, .inl (k0_told, 8, .inl f0_told))] s.heap.size = A at hD ⊢
  have hA : ∀ q : Nat, s.heap.size ≤ q → A q := fun q h => by rw [← hAe]; exact Or.inr h
  have hS : va_S A s.heap s.heap [] := va_S.rf
  have hl := lv_entry ([.ref h0, .int p1, .int p2, .int p3, .int p4]) (n := 7) (Nat.le_of_ble_eq_true rfl)
  rw [lg_entry_eq]
  generalize (lg_sl ([.ref h0, .int p1, .int p2, .int p3, .int p4]) ++ List.replicate (7 - (lg_sl ([.ref h0, .int p1, .int p2, .int p3, .int p4])).length) Slot.unset).toArray = ls at hl ⊢
  have hl : lv_has ls 7 [(0, .ref h0), (1, .int p1), (2, .int p2), (3, .int p3), (4, .int p4)] := hl
  have hP : va_P (dC, dI) vwCl [(h0, .inr (7, [.ref a0_cases, .ref a0_rows, .ref a0_grower, .ref a0_finder, .ref a0_pruner, .ref a0_rules, .ref a0_trees, .ref h0_told, .ref a0_turnedMarks, .ref a0_ballots, .int 0, .int (-1), .int (-1), .int 0])), (h0_told, .inl (k0_told, 8, .inl f0_told))] s.heap := hP
  refine lv_aload_n hx hb dX7_readTold_0 rfl (lv_at hl 0 rfl) ?_
  refine lv_iconst (v := 0) hx hb dX7_readTold_1 (by decide) ?_
  refine lv_iload_n hx hb dX7_readTold_2 rfl (lv_at hl 1 rfl) ?_
  have hPc := hP.sub (ws' := [(h0, .inr (7, [.ref a0_cases, .ref a0_rows, .ref a0_grower, .ref a0_finder, .ref a0_pruner, .ref a0_rules, .ref a0_trees, .ref h0_told, .ref a0_turnedMarks, .ref a0_ballots, .int 0, .int (-1), .int (-1), .int 0])), (h0_told, .inl (k0_told, 8, .inl f0_told))]) [0, 1] rfl
  have hDc := hD.sub (ws' := [(h0, .inr (7, [.ref a0_cases, .ref a0_rows, .ref a0_grower, .ref a0_finder, .ref a0_pruner, .ref a0_rules, .ref a0_trees, .ref h0_told, .ref a0_turnedMarks, .ref a0_ballots, .int 0, .int (-1), .int (-1), .int 0])), (h0_told, .inl (k0_told, 8, .inl f0_told))]) [0, 1] (by decide) rfl
  have hKc := hK.sub (tys' := [(k0_told, .int)]) [0] rfl
  have hFc := va_free (wc := [(h0, .inr (7, [.ref a0_cases, .ref a0_rows, .ref a0_grower, .ref a0_finder, .ref a0_pruner, .ref a0_rules, .ref a0_trees, .ref h0_told, .ref a0_turnedMarks, .ref a0_ballots, .int 0, .int (-1), .int (-1), .int 0])), (h0_told, .inl (k0_told, 8, .inl f0_told))]) hD hS hA [0, 1] rfl
  refine va_callv (va_runV (As := [.int 0, .int p1]) (rest := []) ⟨hx, hb, hml, hown, hts⟩ (c_readPair0 l dC dI s.heap.size h0 p1 h0_told a0_cases a0_rows a0_grower a0_finder a0_pruner a0_rules a0_trees a0_turnedMarks a0_ballots k0_told f0_told ) (cwV 2 hts gX7_readTold_X7_readPair rfl rfl rfl (by decide +kernel) ⟨Nat.le_of_ble_eq_true rfl, Nat.le_of_ble_eq_true rfl⟩) (pre_V hPc hKc hDc hN (ci := 7) (q0 := 0) rfl rfl) rfl rfl hl.1 rfl (lv_room (Nat.le_of_ble_eq_true rfl)) dX7_readTold_3 ⟨Nat.le_of_ble_eq_true rfl, Nat.le_of_ble_eq_true rfl⟩) hS (fun q _ h => hFc q h) hFc (fun u t H1 locs ht hvm hw hB hz1 hk1 hS => ?_)
  clear hPc hDc hKc
  obtain rfl := hw
  obtain ⟨hP1, hK1, hD1⟩ := hB
  rw [ht] at hP1
  obtain ⟨hP, hD⟩ := va_join (wr := []) (w1 := [(h0, .inr (7, [.ref a0_cases, .ref a0_rows, .ref a0_grower, .ref a0_finder, .ref a0_pruner, .ref a0_rules, .ref a0_trees, .ref h0_told, .ref a0_turnedMarks, .ref a0_ballots, .int 0, .int (-1), .int (-1), .int 0])), (h0_told, .inl (k0_told, 8, .inl (upd (upd f0_told 0 (p1 >>> (16 &&& 31))) 1 ((p1 <<< (16 &&& 31)) >>> (16 &&& 31)))))]) hP hD [0, 1] [] rfl rfl (by decide) (by decide) hk1 hFc hP1 hD1
  generalize H1 = H at hP hS ⊢
  clear hP1 hD1 hFc hk1 hz1 ht hvm hK1
  have hP : va_P (dC, dI) vwCl [(h0, .inr (7, [.ref a0_cases, .ref a0_rows, .ref a0_grower, .ref a0_finder, .ref a0_pruner, .ref a0_rules, .ref a0_trees, .ref h0_told, .ref a0_turnedMarks, .ref a0_ballots, .int 0, .int (-1), .int (-1), .int 0])), (h0_told, .inl (k0_told, 8, .inl (upd (upd f0_told 0 (p1 >>> (16 &&& 31))) 1 ((p1 <<< (16 &&& 31)) >>> (16 &&& 31)))))] H := hP
  have hD : va_D A [(h0, .inr (7, [.ref a0_cases, .ref a0_rows, .ref a0_grower, .ref a0_finder, .ref a0_pruner, .ref a0_rules, .ref a0_trees, .ref h0_told, .ref a0_turnedMarks, .ref a0_ballots, .int 0, .int (-1), .int (-1), .int 0])), (h0_told, .inl (k0_told, 8, .inl (upd (upd f0_told 0 (p1 >>> (16 &&& 31))) 1 ((p1 <<< (16 &&& 31)) >>> (16 &&& 31)))))] := hD
  refine lv_aload_n hx hb dX7_readTold_6 rfl (lv_at hl 0 rfl) ?_
  refine lv_iconst (v := 2) hx hb dX7_readTold_7 (by decide) ?_
  refine lv_iload_n hx hb dX7_readTold_8 rfl (lv_at hl 2 rfl) ?_
  have hPc := hP.sub (ws' := [(h0, .inr (7, [.ref a0_cases, .ref a0_rows, .ref a0_grower, .ref a0_finder, .ref a0_pruner, .ref a0_rules, .ref a0_trees, .ref h0_told, .ref a0_turnedMarks, .ref a0_ballots, .int 0, .int (-1), .int (-1), .int 0])), (h0_told, .inl (k0_told, 8, .inl (upd (upd f0_told 0 (p1 >>> (16 &&& 31))) 1 ((p1 <<< (16 &&& 31)) >>> (16 &&& 31)))))]) [0, 1] rfl
  have hDc := hD.sub (ws' := [(h0, .inr (7, [.ref a0_cases, .ref a0_rows, .ref a0_grower, .ref a0_finder, .ref a0_pruner, .ref a0_rules, .ref a0_trees, .ref h0_told, .ref a0_turnedMarks, .ref a0_ballots, .int 0, .int (-1), .int (-1), .int 0])), (h0_told, .inl (k0_told, 8, .inl (upd (upd f0_told 0 (p1 >>> (16 &&& 31))) 1 ((p1 <<< (16 &&& 31)) >>> (16 &&& 31)))))]) [0, 1] (by decide) rfl
  have hKc := hK.sub (tys' := [(k0_told, .int)]) [0] rfl
  have hFc := va_free (wc := [(h0, .inr (7, [.ref a0_cases, .ref a0_rows, .ref a0_grower, .ref a0_finder, .ref a0_pruner, .ref a0_rules, .ref a0_trees, .ref h0_told, .ref a0_turnedMarks, .ref a0_ballots, .int 0, .int (-1), .int (-1), .int 0])), (h0_told, .inl (k0_told, 8, .inl (upd (upd f0_told 0 (p1 >>> (16 &&& 31))) 1 ((p1 <<< (16 &&& 31)) >>> (16 &&& 31)))))]) hD hS hA [0, 1] rfl
  refine va_callv (va_runV (As := [.int 2, .int p2]) (rest := []) ⟨hx, hb, hml, hown, hts⟩ (c_readPair2 l dC dI H.size h0 p2 h0_told a0_cases a0_rows a0_grower a0_finder a0_pruner a0_rules a0_trees a0_turnedMarks a0_ballots k0_told (upd (upd f0_told 0 (p1 >>> (16 &&& 31))) 1 ((p1 <<< (16 &&& 31)) >>> (16 &&& 31))) ) (cwV 2 hts gX7_readTold_X7_readPair rfl rfl rfl (by decide +kernel) ⟨Nat.le_of_ble_eq_true rfl, Nat.le_of_ble_eq_true rfl⟩) (pre_V hPc hKc hDc hN (ci := 7) (q0 := 0) rfl rfl) rfl rfl hl.1 rfl (lv_room (Nat.le_of_ble_eq_true rfl)) dX7_readTold_9 ⟨Nat.le_of_ble_eq_true rfl, Nat.le_of_ble_eq_true rfl⟩) hS (fun q _ h => hFc q h) hFc (fun u t H1 locs ht hvm hw hB hz1 hk1 hS => ?_)
  clear hPc hDc hKc
  obtain rfl := hw
  obtain ⟨hP1, hK1, hD1⟩ := hB
  rw [ht] at hP1
  obtain ⟨hP, hD⟩ := va_join (wr := []) (w1 := [(h0, .inr (7, [.ref a0_cases, .ref a0_rows, .ref a0_grower, .ref a0_finder, .ref a0_pruner, .ref a0_rules, .ref a0_trees, .ref h0_told, .ref a0_turnedMarks, .ref a0_ballots, .int 0, .int (-1), .int (-1), .int 0])), (h0_told, .inl (k0_told, 8, .inl (upd (upd (upd (upd f0_told 0 (p1 >>> (16 &&& 31))) 1 ((p1 <<< (16 &&& 31)) >>> (16 &&& 31))) 2 (p2 >>> (16 &&& 31))) 3 ((p2 <<< (16 &&& 31)) >>> (16 &&& 31)))))]) hP hD [0, 1] [] rfl rfl (by decide) (by decide) hk1 hFc hP1 hD1
  generalize H1 = H at hP hS ⊢
  clear hP1 hD1 hFc hk1 hz1 ht hvm hK1
  have hP : va_P (dC, dI) vwCl [(h0, .inr (7, [.ref a0_cases, .ref a0_rows, .ref a0_grower, .ref a0_finder, .ref a0_pruner, .ref a0_rules, .ref a0_trees, .ref h0_told, .ref a0_turnedMarks, .ref a0_ballots, .int 0, .int (-1), .int (-1), .int 0])), (h0_told, .inl (k0_told, 8, .inl (upd (upd (upd (upd f0_told 0 (p1 >>> (16 &&& 31))) 1 ((p1 <<< (16 &&& 31)) >>> (16 &&& 31))) 2 (p2 >>> (16 &&& 31))) 3 ((p2 <<< (16 &&& 31)) >>> (16 &&& 31)))))] H := hP
  have hD : va_D A [(h0, .inr (7, [.ref a0_cases, .ref a0_rows, .ref a0_grower, .ref a0_finder, .ref a0_pruner, .ref a0_rules, .ref a0_trees, .ref h0_told, .ref a0_turnedMarks, .ref a0_ballots, .int 0, .int (-1), .int (-1), .int 0])), (h0_told, .inl (k0_told, 8, .inl (upd (upd (upd (upd f0_told 0 (p1 >>> (16 &&& 31))) 1 ((p1 <<< (16 &&& 31)) >>> (16 &&& 31))) 2 (p2 >>> (16 &&& 31))) 3 ((p2 <<< (16 &&& 31)) >>> (16 &&& 31)))))] := hD
  refine lv_aload_n hx hb dX7_readTold_12 rfl (lv_at hl 0 rfl) ?_
  refine lv_iconst (v := 4) hx hb dX7_readTold_13 (by decide) ?_
  refine lv_iload_n hx hb dX7_readTold_14 rfl (lv_at hl 3 rfl) ?_
  have hPc := hP.sub (ws' := [(h0, .inr (7, [.ref a0_cases, .ref a0_rows, .ref a0_grower, .ref a0_finder, .ref a0_pruner, .ref a0_rules, .ref a0_trees, .ref h0_told, .ref a0_turnedMarks, .ref a0_ballots, .int 0, .int (-1), .int (-1), .int 0])), (h0_told, .inl (k0_told, 8, .inl (upd (upd (upd (upd f0_told 0 (p1 >>> (16 &&& 31))) 1 ((p1 <<< (16 &&& 31)) >>> (16 &&& 31))) 2 (p2 >>> (16 &&& 31))) 3 ((p2 <<< (16 &&& 31)) >>> (16 &&& 31)))))]) [0, 1] rfl
  have hDc := hD.sub (ws' := [(h0, .inr (7, [.ref a0_cases, .ref a0_rows, .ref a0_grower, .ref a0_finder, .ref a0_pruner, .ref a0_rules, .ref a0_trees, .ref h0_told, .ref a0_turnedMarks, .ref a0_ballots, .int 0, .int (-1), .int (-1), .int 0])), (h0_told, .inl (k0_told, 8, .inl (upd (upd (upd (upd f0_told 0 (p1 >>> (16 &&& 31))) 1 ((p1 <<< (16 &&& 31)) >>> (16 &&& 31))) 2 (p2 >>> (16 &&& 31))) 3 ((p2 <<< (16 &&& 31)) >>> (16 &&& 31)))))]) [0, 1] (by decide) rfl
  have hKc := hK.sub (tys' := [(k0_told, .int)]) [0] rfl
  have hFc := va_free (wc := [(h0, .inr (7, [.ref a0_cases, .ref a0_rows, .ref a0_grower, .ref a0_finder, .ref a0_pruner, .ref a0_rules, .ref a0_trees, .ref h0_told, .ref a0_turnedMarks, .ref a0_ballots, .int 0, .int (-1), .int (-1), .int 0])), (h0_told, .inl (k0_told, 8, .inl (upd (upd (upd (upd f0_told 0 (p1 >>> (16 &&& 31))) 1 ((p1 <<< (16 &&& 31)) >>> (16 &&& 31))) 2 (p2 >>> (16 &&& 31))) 3 ((p2 <<< (16 &&& 31)) >>> (16 &&& 31)))))]) hD hS hA [0, 1] rfl
  refine va_callv (va_runV (As := [.int 4, .int p3]) (rest := []) ⟨hx, hb, hml, hown, hts⟩ (c_readPair4 l dC dI H.size h0 p3 h0_told a0_cases a0_rows a0_grower a0_finder a0_pruner a0_rules a0_trees a0_turnedMarks a0_ballots k0_told (upd (upd (upd (upd f0_told 0 (p1 >>> (16 &&& 31))) 1 ((p1 <<< (16 &&& 31)) >>> (16 &&& 31))) 2 (p2 >>> (16 &&& 31))) 3 ((p2 <<< (16 &&& 31)) >>> (16 &&& 31))) ) (cwV 2 hts gX7_readTold_X7_readPair rfl rfl rfl (by decide +kernel) ⟨Nat.le_of_ble_eq_true rfl, Nat.le_of_ble_eq_true rfl⟩) (pre_V hPc hKc hDc hN (ci := 7) (q0 := 0) rfl rfl) rfl rfl hl.1 rfl (lv_room (Nat.le_of_ble_eq_true rfl)) dX7_readTold_15 ⟨Nat.le_of_ble_eq_true rfl, Nat.le_of_ble_eq_true rfl⟩) hS (fun q _ h => hFc q h) hFc (fun u t H1 locs ht hvm hw hB hz1 hk1 hS => ?_)
  clear hPc hDc hKc
  obtain rfl := hw
  obtain ⟨hP1, hK1, hD1⟩ := hB
  rw [ht] at hP1
  obtain ⟨hP, hD⟩ := va_join (wr := []) (w1 := [(h0, .inr (7, [.ref a0_cases, .ref a0_rows, .ref a0_grower, .ref a0_finder, .ref a0_pruner, .ref a0_rules, .ref a0_trees, .ref h0_told, .ref a0_turnedMarks, .ref a0_ballots, .int 0, .int (-1), .int (-1), .int 0])), (h0_told, .inl (k0_told, 8, .inl (upd (upd (upd (upd (upd (upd f0_told 0 (p1 >>> (16 &&& 31))) 1 ((p1 <<< (16 &&& 31)) >>> (16 &&& 31))) 2 (p2 >>> (16 &&& 31))) 3 ((p2 <<< (16 &&& 31)) >>> (16 &&& 31))) 4 (p3 >>> (16 &&& 31))) 5 ((p3 <<< (16 &&& 31)) >>> (16 &&& 31)))))]) hP hD [0, 1] [] rfl rfl (by decide) (by decide) hk1 hFc hP1 hD1
  generalize H1 = H at hP hS ⊢
  clear hP1 hD1 hFc hk1 hz1 ht hvm hK1
  have hP : va_P (dC, dI) vwCl [(h0, .inr (7, [.ref a0_cases, .ref a0_rows, .ref a0_grower, .ref a0_finder, .ref a0_pruner, .ref a0_rules, .ref a0_trees, .ref h0_told, .ref a0_turnedMarks, .ref a0_ballots, .int 0, .int (-1), .int (-1), .int 0])), (h0_told, .inl (k0_told, 8, .inl (upd (upd (upd (upd (upd (upd f0_told 0 (p1 >>> (16 &&& 31))) 1 ((p1 <<< (16 &&& 31)) >>> (16 &&& 31))) 2 (p2 >>> (16 &&& 31))) 3 ((p2 <<< (16 &&& 31)) >>> (16 &&& 31))) 4 (p3 >>> (16 &&& 31))) 5 ((p3 <<< (16 &&& 31)) >>> (16 &&& 31)))))] H := hP
  have hD : va_D A [(h0, .inr (7, [.ref a0_cases, .ref a0_rows, .ref a0_grower, .ref a0_finder, .ref a0_pruner, .ref a0_rules, .ref a0_trees, .ref h0_told, .ref a0_turnedMarks, .ref a0_ballots, .int 0, .int (-1), .int (-1), .int 0])), (h0_told, .inl (k0_told, 8, .inl (upd (upd (upd (upd (upd (upd f0_told 0 (p1 >>> (16 &&& 31))) 1 ((p1 <<< (16 &&& 31)) >>> (16 &&& 31))) 2 (p2 >>> (16 &&& 31))) 3 ((p2 <<< (16 &&& 31)) >>> (16 &&& 31))) 4 (p3 >>> (16 &&& 31))) 5 ((p3 <<< (16 &&& 31)) >>> (16 &&& 31)))))] := hD
  refine lv_aload_n hx hb dX7_readTold_18 rfl (lv_at hl 0 rfl) ?_
  refine lv_bipush (v := 6) hx hb dX7_readTold_19 (by decide) ?_
  refine lv_iload hx hb dX7_readTold_21 (lv_at hl 4 rfl) ?_
  have hPc := hP.sub (ws' := [(h0, .inr (7, [.ref a0_cases, .ref a0_rows, .ref a0_grower, .ref a0_finder, .ref a0_pruner, .ref a0_rules, .ref a0_trees, .ref h0_told, .ref a0_turnedMarks, .ref a0_ballots, .int 0, .int (-1), .int (-1), .int 0])), (h0_told, .inl (k0_told, 8, .inl (upd (upd (upd (upd (upd (upd f0_told 0 (p1 >>> (16 &&& 31))) 1 ((p1 <<< (16 &&& 31)) >>> (16 &&& 31))) 2 (p2 >>> (16 &&& 31))) 3 ((p2 <<< (16 &&& 31)) >>> (16 &&& 31))) 4 (p3 >>> (16 &&& 31))) 5 ((p3 <<< (16 &&& 31)) >>> (16 &&& 31)))))]) [0, 1] rfl
  have hDc := hD.sub (ws' := [(h0, .inr (7, [.ref a0_cases, .ref a0_rows, .ref a0_grower, .ref a0_finder, .ref a0_pruner, .ref a0_rules, .ref a0_trees, .ref h0_told, .ref a0_turnedMarks, .ref a0_ballots, .int 0, .int (-1), .int (-1), .int 0])), (h0_told, .inl (k0_told, 8, .inl (upd (upd (upd (upd (upd (upd f0_told 0 (p1 >>> (16 &&& 31))) 1 ((p1 <<< (16 &&& 31)) >>> (16 &&& 31))) 2 (p2 >>> (16 &&& 31))) 3 ((p2 <<< (16 &&& 31)) >>> (16 &&& 31))) 4 (p3 >>> (16 &&& 31))) 5 ((p3 <<< (16 &&& 31)) >>> (16 &&& 31)))))]) [0, 1] (by decide) rfl
  have hKc := hK.sub (tys' := [(k0_told, .int)]) [0] rfl
  have hFc := va_free (wc := [(h0, .inr (7, [.ref a0_cases, .ref a0_rows, .ref a0_grower, .ref a0_finder, .ref a0_pruner, .ref a0_rules, .ref a0_trees, .ref h0_told, .ref a0_turnedMarks, .ref a0_ballots, .int 0, .int (-1), .int (-1), .int 0])), (h0_told, .inl (k0_told, 8, .inl (upd (upd (upd (upd (upd (upd f0_told 0 (p1 >>> (16 &&& 31))) 1 ((p1 <<< (16 &&& 31)) >>> (16 &&& 31))) 2 (p2 >>> (16 &&& 31))) 3 ((p2 <<< (16 &&& 31)) >>> (16 &&& 31))) 4 (p3 >>> (16 &&& 31))) 5 ((p3 <<< (16 &&& 31)) >>> (16 &&& 31)))))]) hD hS hA [0, 1] rfl
  refine va_callv (va_runV (As := [.int 6, .int p4]) (rest := []) ⟨hx, hb, hml, hown, hts⟩ (c_readPair6 l dC dI H.size h0 p4 h0_told a0_cases a0_rows a0_grower a0_finder a0_pruner a0_rules a0_trees a0_turnedMarks a0_ballots k0_told (upd (upd (upd (upd (upd (upd f0_told 0 (p1 >>> (16 &&& 31))) 1 ((p1 <<< (16 &&& 31)) >>> (16 &&& 31))) 2 (p2 >>> (16 &&& 31))) 3 ((p2 <<< (16 &&& 31)) >>> (16 &&& 31))) 4 (p3 >>> (16 &&& 31))) 5 ((p3 <<< (16 &&& 31)) >>> (16 &&& 31))) ) (cwV 2 hts gX7_readTold_X7_readPair rfl rfl rfl (by decide +kernel) ⟨Nat.le_of_ble_eq_true rfl, Nat.le_of_ble_eq_true rfl⟩) (pre_V hPc hKc hDc hN (ci := 7) (q0 := 0) rfl rfl) rfl rfl hl.1 rfl (lv_room (Nat.le_of_ble_eq_true rfl)) dX7_readTold_23 ⟨Nat.le_of_ble_eq_true rfl, Nat.le_of_ble_eq_true rfl⟩) hS (fun q _ h => hFc q h) hFc (fun u t H1 locs ht hvm hw hB hz1 hk1 hS => ?_)
  clear hPc hDc hKc
  obtain rfl := hw
  obtain ⟨hP1, hK1, hD1⟩ := hB
  rw [ht] at hP1
  obtain ⟨hP, hD⟩ := va_join (wr := []) (w1 := [(h0, .inr (7, [.ref a0_cases, .ref a0_rows, .ref a0_grower, .ref a0_finder, .ref a0_pruner, .ref a0_rules, .ref a0_trees, .ref h0_told, .ref a0_turnedMarks, .ref a0_ballots, .int 0, .int (-1), .int (-1), .int 0])), (h0_told, .inl (k0_told, 8, .inl (upd (upd (upd (upd (upd (upd (upd (upd f0_told 0 (p1 >>> (16 &&& 31))) 1 ((p1 <<< (16 &&& 31)) >>> (16 &&& 31))) 2 (p2 >>> (16 &&& 31))) 3 ((p2 <<< (16 &&& 31)) >>> (16 &&& 31))) 4 (p3 >>> (16 &&& 31))) 5 ((p3 <<< (16 &&& 31)) >>> (16 &&& 31))) 6 (p4 >>> (16 &&& 31))) 7 ((p4 <<< (16 &&& 31)) >>> (16 &&& 31)))))]) hP hD [0, 1] [] rfl rfl (by decide) (by decide) hk1 hFc hP1 hD1
  generalize H1 = H at hP hS ⊢
  clear hP1 hD1 hFc hk1 hz1 ht hvm hK1
  have hP : va_P (dC, dI) vwCl [(h0, .inr (7, [.ref a0_cases, .ref a0_rows, .ref a0_grower, .ref a0_finder, .ref a0_pruner, .ref a0_rules, .ref a0_trees, .ref h0_told, .ref a0_turnedMarks, .ref a0_ballots, .int 0, .int (-1), .int (-1), .int 0])), (h0_told, .inl (k0_told, 8, .inl (upd (upd (upd (upd (upd (upd (upd (upd f0_told 0 (p1 >>> (16 &&& 31))) 1 ((p1 <<< (16 &&& 31)) >>> (16 &&& 31))) 2 (p2 >>> (16 &&& 31))) 3 ((p2 <<< (16 &&& 31)) >>> (16 &&& 31))) 4 (p3 >>> (16 &&& 31))) 5 ((p3 <<< (16 &&& 31)) >>> (16 &&& 31))) 6 (p4 >>> (16 &&& 31))) 7 ((p4 <<< (16 &&& 31)) >>> (16 &&& 31)))))] H := hP
  have hD : va_D A [(h0, .inr (7, [.ref a0_cases, .ref a0_rows, .ref a0_grower, .ref a0_finder, .ref a0_pruner, .ref a0_rules, .ref a0_trees, .ref h0_told, .ref a0_turnedMarks, .ref a0_ballots, .int 0, .int (-1), .int (-1), .int 0])), (h0_told, .inl (k0_told, 8, .inl (upd (upd (upd (upd (upd (upd (upd (upd f0_told 0 (p1 >>> (16 &&& 31))) 1 ((p1 <<< (16 &&& 31)) >>> (16 &&& 31))) 2 (p2 >>> (16 &&& 31))) 3 ((p2 <<< (16 &&& 31)) >>> (16 &&& 31))) 4 (p3 >>> (16 &&& 31))) 5 ((p3 <<< (16 &&& 31)) >>> (16 &&& 31))) 6 (p4 >>> (16 &&& 31))) 7 ((p4 <<< (16 &&& 31)) >>> (16 &&& 31)))))] := hD
  refine lv_iconst (v := 0) hx hb dX7_readTold_26 (by decide) ?_
  refine lv_istore (lv' := [(5, .int 0), (0, .ref h0), (1, .int p1), (2, .int p2), (3, .int p3), (4, .int p4)]) hx hb dX7_readTold_27 hl (by decide) rfl (fun ls hl => ?_)
  generalize hg : upd (upd (upd (upd (upd (upd (upd (upd f0_told 0 (p1 >>> (16 &&& 31))) 1 ((p1 <<< (16 &&& 31)) >>> (16 &&& 31))) 2 (p2 >>> (16 &&& 31))) 3 ((p2 <<< (16 &&& 31)) >>> (16 &&& 31))) 4 (p3 >>> (16 &&& 31))) 5 ((p3 <<< (16 &&& 31)) >>> (16 &&& 31))) 6 (p4 >>> (16 &&& 31))) 7 ((p4 <<< (16 &&& 31)) >>> (16 &&& 31)) = g_5 at hP hD
  have hk_6 : g_5 0 = tm p1 p2 p3 p4 0 := by rw [← hg]; exact rfl
  have hk_7 : g_5 1 = tm p1 p2 p3 p4 1 := by rw [← hg]; exact sx p1
  have hk_8 : g_5 2 = tm p1 p2 p3 p4 2 := by rw [← hg]; exact rfl
  have hk_9 : g_5 3 = tm p1 p2 p3 p4 3 := by rw [← hg]; exact sx p2
  have hk_10 : g_5 4 = tm p1 p2 p3 p4 4 := by rw [← hg]; exact rfl
  have hk_11 : g_5 5 = tm p1 p2 p3 p4 5 := by rw [← hg]; exact sx p3
  have hk_12 : g_5 6 = tm p1 p2 p3 p4 6 := by rw [← hg]; exact rfl
  have hk_13 : g_5 7 = tm p1 p2 p3 p4 7 := by rw [← hg]; exact sx p4
  clear hg
  have key : ∀ (n k : Nat) (ls : Array Slot), k + n = 8 → tk p1 p2 p3 p4 k → lv_has ls 7 [(0, .ref h0), (1, .int p1), (2, .int p2), (3, .int p3), (4, .int p4), (5, .int (nI k))] → W p l e (headSpec wsX7_readTold ({ frames := 2, cells := 0, slots := 0, locals := 82 } : Room)).room s m [Value.ref h0, Value.int p1, Value.int p2, Value.int p3, Value.int p4].toArray below meth c H locs 0 0 (MQ below (va_Qi (fun (r : Int32) (u : vu) => (∃ (g_5 : Nat → Int32), u = ([(h0, .inr (7, [.ref a0_cases, .ref a0_rows, .ref a0_grower, .ref a0_finder, .ref a0_pruner, .ref a0_rules, .ref a0_trees, .ref h0_told, .ref a0_turnedMarks, .ref a0_ballots, .int 0, .int (-1), .int (-1), .int 0])), (h0_told, .inl (k0_told, 8, .inl g_5))], []) ∧ tok p1 p2 p3 p4 ∧ g_5 0 = (tm p1 p2 p3 p4 0) ∧ g_5 1 = (tm p1 p2 p3 p4 1) ∧ g_5 2 = (tm p1 p2 p3 p4 2) ∧ g_5 3 = (tm p1 p2 p3 p4 3) ∧ g_5 4 = (tm p1 p2 p3 p4 4) ∧ g_5 5 = (tm p1 p2 p3 p4 5) ∧ g_5 6 = (tm p1 p2 p3 p4 6) ∧ g_5 7 = (tm p1 p2 p3 p4 7) ∧ r = 1) ∨ (∃ (g_5 : Nat → Int32), u = ([(h0, .inr (7, [.ref a0_cases, .ref a0_rows, .ref a0_grower, .ref a0_finder, .ref a0_pruner, .ref a0_rules, .ref a0_trees, .ref h0_told, .ref a0_turnedMarks, .ref a0_ballots, .int 0, .int (-1), .int (-1), .int 0])), (h0_told, .inl (k0_told, 8, .inl g_5))], []) ∧ ¬ tok p1 p2 p3 p4 ∧ g_5 0 = (tm p1 p2 p3 p4 0) ∧ g_5 1 = (tm p1 p2 p3 p4 1) ∧ g_5 2 = (tm p1 p2 p3 p4 2) ∧ g_5 3 = (tm p1 p2 p3 p4 3) ∧ g_5 4 = (tm p1 p2 p3 p4 4) ∧ g_5 5 = (tm p1 p2 p3 p4 5) ∧ g_5 6 = (tm p1 p2 p3 p4 6) ∧ g_5 7 = (tm p1 p2 p3 p4 7) ∧ r = 0)) (fun u t => qw (dC, dI) u.2 A u.1 t) A) [Value.ref h0, Value.int p1, Value.int p2, Value.int p3, Value.int p4].toArray s 0 0 A) (F0 m 29 ls []) := by
    intro n
    induction n with
    | zero =>
      intro k ls hn hI hl
      obtain rfl : k = 8 := by omega
      have hl : lv_has ls 7 [(0, .ref h0), (1, .int p1), (2, .int p2), (3, .int p3), (4, .int p4), (5, .int 8)] := hl
      refine lv_iload hx hb dX7_readTold_29 (lv_at hl 5 rfl) ?_
      refine lv_bipush (v := 8) hx hb dX7_readTold_31 (by decide) ?_
      refine lv_icmp_ge (tgt := 95) hx hb dX7_readTold_33 (by decide) (fun c_14 => ?_) (fun c_14 => ?_)
      rotate_left
      · exact absurd c_14 (by decide)
      refine lv_iconst (v := 1) hx hb dX7_readTold_95 (by decide) ?_
      have ht_15 : tok p1 p2 p3 p4 := hI
      have hP9 := hP.sub (ws' := [(h0, .inr (7, [.ref a0_cases, .ref a0_rows, .ref a0_grower, .ref a0_finder, .ref a0_pruner, .ref a0_rules, .ref a0_trees, .ref h0_told, .ref a0_turnedMarks, .ref a0_ballots, .int 0, .int (-1), .int (-1), .int 0])), (h0_told, .inl (k0_told, 8, .inl g_5))]) [0, 1] rfl
      have hD9 := hD.sub (ws' := [(h0, .inr (7, [.ref a0_cases, .ref a0_rows, .ref a0_grower, .ref a0_finder, .ref a0_pruner, .ref a0_rules, .ref a0_trees, .ref h0_told, .ref a0_turnedMarks, .ref a0_ballots, .int 0, .int (-1), .int (-1), .int 0])), (h0_told, .inl (k0_told, 8, .inl g_5))]) [0, 1] (by decide) rfl
      have hK9 := hK.sub (tys' := []) [] rfl
      exact W.zret (v := 1) hx hb hr rfl (fun t ht hW => ⟨⟨1, ([(h0, .inr (7, [.ref a0_cases, .ref a0_rows, .ref a0_grower, .ref a0_finder, .ref a0_pruner, .ref a0_rules, .ref a0_trees, .ref h0_told, .ref a0_turnedMarks, .ref a0_ballots, .int 0, .int (-1), .int (-1), .int 0])), (h0_told, .inl (k0_told, 8, .inl g_5))], []), rfl, (Or.inl ⟨g_5, rfl, ht_15, hk_6, hk_7, hk_8, hk_9, hk_10, hk_11, hk_12, hk_13, rfl⟩), (by rw [ht]; exact hP9), va_K.moved hW.alike hK9, hD9⟩, hS.F ht⟩) hS.2.2 dX7_readTold_96
    | succ n ih =>
      intro k ls hn hI hl
      rcases (show k = 0 ∨ k = 1 ∨ k = 2 ∨ k = 3 ∨ k = 4 ∨ k = 5 ∨ k = 6 ∨ k = 7 by omega) with rfl | rfl | rfl | rfl | rfl | rfl | rfl | rfl
      · skip
        have hl : lv_has ls 7 [(0, .ref h0), (1, .int p1), (2, .int p2), (3, .int p3), (4, .int p4), (5, .int 0)] := hl
        refine lv_iload hx hb dX7_readTold_29 (lv_at hl 5 rfl) ?_
        refine lv_bipush (v := 8) hx hb dX7_readTold_31 (by decide) ?_
        refine lv_icmp_ge (tgt := 95) hx hb dX7_readTold_33 (by decide) (fun c_16 => ?_) (fun c_16 => ?_)
        · exact absurd c_16 (by decide)
        refine lv_aload_n hx hb dX7_readTold_36 rfl (lv_at hl 0 rfl) ?_
        refine va_get (D := (dC, dI)) (ci := 7) (v := .ref h0_told) (C := RX7) (T := TX7) (N := 14) hx hb hts hi7 hown hK hP 0 rfl rfl 7 (by decide) (hts (.fieldLink RX7 67 "AskTree" "told" "[I") (by decide +kernel)) (fun _ h9 => h9) rfl dX7_readTold_37 ?_
        refine lv_iload hx hb dX7_readTold_40 (lv_at hl 5 rfl) ?_
        refine va_iald hx hb hK hP 1 0 rfl rfl (vi _ _ (by decide)) dX7_readTold_42 ?_
        refine tvv (v := .int (tm p1 p2 p3 p4 0)) (ci g_5 (k := 0) (by decide) hk_6) ?_
        refine lv_sipush (v := (-1000)) hx hb dX7_readTold_43 (by decide) ?_
        refine lv_icmp_lt (tgt := 66) hx hb dX7_readTold_46 (by decide) (fun c_17 => ?_) (fun c_17 => ?_)
        · skip
          refine lv_iconst (v := 0) hx hb dX7_readTold_66 (by decide) ?_
          refine lv_istore (lv' := [(6, .int 0), (0, .ref h0), (1, .int p1), (2, .int p2), (3, .int p3), (4, .int p4), (5, .int 0)]) hx hb dX7_readTold_67 hl (by decide) rfl (fun ls hl => ?_)
          refine lv_iload hx hb dX7_readTold_69 (lv_at hl 0 rfl) ?_
          refine lv_if_ne (tgt := 89) hx hb dX7_readTold_71 (by decide) (fun c_18 => ?_) (fun c_18 => ?_)
          · exact absurd c_18 (by decide)
          refine lv_aload_n hx hb dX7_readTold_74 rfl (lv_at hl 1 rfl) ?_
          refine va_get (D := (dC, dI)) (ci := 7) (v := .ref h0_told) (C := RX7) (T := TX7) (N := 14) hx hb hts hi7 hown hK hP 0 rfl rfl 7 (by decide) (hts (.fieldLink RX7 67 "AskTree" "told" "[I") (by decide +kernel)) (fun _ h9 => h9) rfl dX7_readTold_75 ?_
          refine lv_iload hx hb dX7_readTold_78 (lv_at hl 6 rfl) ?_
          refine va_iald hx hb hK hP 1 0 rfl rfl (vi _ _ (by decide)) dX7_readTold_80 ?_
          refine tvv (v := .int (tm p1 p2 p3 p4 0)) (ci g_5 (k := 0) (by decide) hk_6) ?_
          refine lv_sipush (v := (-32768)) hx hb dX7_readTold_81 (by decide) ?_
          refine lv_icmp_eq (tgt := 89) hx hb dX7_readTold_84 (by decide) (fun c_19 => ?_) (fun c_19 => ?_)
          · skip
            refine lv_iinc (v := 1) (lv' := [(5, .int 1), (6, .int 0), (0, .ref h0), (1, .int p1), (2, .int p2), (3, .int p3), (4, .int p4)]) hx hb dX7_readTold_89 hl (k := 6) rfl (by decide) (by decide) rfl (fun ls hl => ?_)
            refine lv_goto (tgt := 29) hx hb dX7_readTold_92 (by decide) ?_
            exact ih 1 ls (by omega) (tk_s hI (ok_g c_19)) (lv_sub hl [2, 3, 4, 5, 6, 0] rfl)
          · skip
            refine lv_iconst (v := 0) hx hb dX7_readTold_87 (by decide) ?_
            have ht_20 : ¬ tok p1 p2 p3 p4 := tk_t (no_l c_17 c_19) (by decide)
            have hP9 := hP.sub (ws' := [(h0, .inr (7, [.ref a0_cases, .ref a0_rows, .ref a0_grower, .ref a0_finder, .ref a0_pruner, .ref a0_rules, .ref a0_trees, .ref h0_told, .ref a0_turnedMarks, .ref a0_ballots, .int 0, .int (-1), .int (-1), .int 0])), (h0_told, .inl (k0_told, 8, .inl g_5))]) [0, 1] rfl
            have hD9 := hD.sub (ws' := [(h0, .inr (7, [.ref a0_cases, .ref a0_rows, .ref a0_grower, .ref a0_finder, .ref a0_pruner, .ref a0_rules, .ref a0_trees, .ref h0_told, .ref a0_turnedMarks, .ref a0_ballots, .int 0, .int (-1), .int (-1), .int 0])), (h0_told, .inl (k0_told, 8, .inl g_5))]) [0, 1] (by decide) rfl
            have hK9 := hK.sub (tys' := []) [] rfl
            exact W.zret (v := 0) hx hb hr rfl (fun t ht hW => ⟨⟨0, ([(h0, .inr (7, [.ref a0_cases, .ref a0_rows, .ref a0_grower, .ref a0_finder, .ref a0_pruner, .ref a0_rules, .ref a0_trees, .ref h0_told, .ref a0_turnedMarks, .ref a0_ballots, .int 0, .int (-1), .int (-1), .int 0])), (h0_told, .inl (k0_told, 8, .inl g_5))], []), rfl, (Or.inr ⟨g_5, rfl, ht_20, hk_6, hk_7, hk_8, hk_9, hk_10, hk_11, hk_12, hk_13, rfl⟩), (by rw [ht]; exact hP9), va_K.moved hW.alike hK9, hD9⟩, hS.F ht⟩) hS.2.2 dX7_readTold_88
        · skip
          refine lv_aload_n hx hb dX7_readTold_49 rfl (lv_at hl 0 rfl) ?_
          refine va_get (D := (dC, dI)) (ci := 7) (v := .ref h0_told) (C := RX7) (T := TX7) (N := 14) hx hb hts hi7 hown hK hP 0 rfl rfl 7 (by decide) (hts (.fieldLink RX7 67 "AskTree" "told" "[I") (by decide +kernel)) (fun _ h9 => h9) rfl dX7_readTold_50 ?_
          refine lv_iload hx hb dX7_readTold_53 (lv_at hl 5 rfl) ?_
          refine va_iald hx hb hK hP 1 0 rfl rfl (vi _ _ (by decide)) dX7_readTold_55 ?_
          refine tvv (v := .int (tm p1 p2 p3 p4 0)) (ci g_5 (k := 0) (by decide) hk_6) ?_
          refine lv_sipush (v := 1000) hx hb dX7_readTold_56 (by decide) ?_
          refine lv_icmp_gt (tgt := 66) hx hb dX7_readTold_59 (by decide) (fun c_21 => ?_) (fun c_21 => ?_)
          · skip
            refine lv_iconst (v := 0) hx hb dX7_readTold_66 (by decide) ?_
            refine lv_istore (lv' := [(6, .int 0), (0, .ref h0), (1, .int p1), (2, .int p2), (3, .int p3), (4, .int p4), (5, .int 0)]) hx hb dX7_readTold_67 hl (by decide) rfl (fun ls hl => ?_)
            refine lv_iload hx hb dX7_readTold_69 (lv_at hl 0 rfl) ?_
            refine lv_if_ne (tgt := 89) hx hb dX7_readTold_71 (by decide) (fun c_22 => ?_) (fun c_22 => ?_)
            · exact absurd c_22 (by decide)
            refine lv_aload_n hx hb dX7_readTold_74 rfl (lv_at hl 1 rfl) ?_
            refine va_get (D := (dC, dI)) (ci := 7) (v := .ref h0_told) (C := RX7) (T := TX7) (N := 14) hx hb hts hi7 hown hK hP 0 rfl rfl 7 (by decide) (hts (.fieldLink RX7 67 "AskTree" "told" "[I") (by decide +kernel)) (fun _ h9 => h9) rfl dX7_readTold_75 ?_
            refine lv_iload hx hb dX7_readTold_78 (lv_at hl 6 rfl) ?_
            refine va_iald hx hb hK hP 1 0 rfl rfl (vi _ _ (by decide)) dX7_readTold_80 ?_
            refine tvv (v := .int (tm p1 p2 p3 p4 0)) (ci g_5 (k := 0) (by decide) hk_6) ?_
            refine lv_sipush (v := (-32768)) hx hb dX7_readTold_81 (by decide) ?_
            refine lv_icmp_eq (tgt := 89) hx hb dX7_readTold_84 (by decide) (fun c_23 => ?_) (fun c_23 => ?_)
            · exact False.elim (lf_readTold_1 p1 p2 p3 p4 c_17 c_21 c_23)
            refine lv_iconst (v := 0) hx hb dX7_readTold_87 (by decide) ?_
            have ht_24 : ¬ tok p1 p2 p3 p4 := tk_t (no_H c_21) (by decide)
            have hP9 := hP.sub (ws' := [(h0, .inr (7, [.ref a0_cases, .ref a0_rows, .ref a0_grower, .ref a0_finder, .ref a0_pruner, .ref a0_rules, .ref a0_trees, .ref h0_told, .ref a0_turnedMarks, .ref a0_ballots, .int 0, .int (-1), .int (-1), .int 0])), (h0_told, .inl (k0_told, 8, .inl g_5))]) [0, 1] rfl
            have hD9 := hD.sub (ws' := [(h0, .inr (7, [.ref a0_cases, .ref a0_rows, .ref a0_grower, .ref a0_finder, .ref a0_pruner, .ref a0_rules, .ref a0_trees, .ref h0_told, .ref a0_turnedMarks, .ref a0_ballots, .int 0, .int (-1), .int (-1), .int 0])), (h0_told, .inl (k0_told, 8, .inl g_5))]) [0, 1] (by decide) rfl
            have hK9 := hK.sub (tys' := []) [] rfl
            exact W.zret (v := 0) hx hb hr rfl (fun t ht hW => ⟨⟨0, ([(h0, .inr (7, [.ref a0_cases, .ref a0_rows, .ref a0_grower, .ref a0_finder, .ref a0_pruner, .ref a0_rules, .ref a0_trees, .ref h0_told, .ref a0_turnedMarks, .ref a0_ballots, .int 0, .int (-1), .int (-1), .int 0])), (h0_told, .inl (k0_told, 8, .inl g_5))], []), rfl, (Or.inr ⟨g_5, rfl, ht_24, hk_6, hk_7, hk_8, hk_9, hk_10, hk_11, hk_12, hk_13, rfl⟩), (by rw [ht]; exact hP9), va_K.moved hW.alike hK9, hD9⟩, hS.F ht⟩) hS.2.2 dX7_readTold_88
          · skip
            refine lv_iconst (v := 1) hx hb dX7_readTold_62 (by decide) ?_
            refine lv_goto (tgt := 67) hx hb dX7_readTold_63 (by decide) ?_
            refine lv_istore (lv' := [(6, .int 1), (0, .ref h0), (1, .int p1), (2, .int p2), (3, .int p3), (4, .int p4), (5, .int 0)]) hx hb dX7_readTold_67 hl (by decide) rfl (fun ls hl => ?_)
            refine lv_iload hx hb dX7_readTold_69 (lv_at hl 0 rfl) ?_
            refine lv_if_ne (tgt := 89) hx hb dX7_readTold_71 (by decide) (fun c_25 => ?_) (fun c_25 => ?_)
            rotate_left
            · exact absurd c_25 (by decide)
            refine lv_iinc (v := 1) (lv' := [(5, .int 1), (6, .int 1), (0, .ref h0), (1, .int p1), (2, .int p2), (3, .int p3), (4, .int p4)]) hx hb dX7_readTold_89 hl (k := 6) rfl (by decide) (by decide) rfl (fun ls hl => ?_)
            refine lv_goto (tgt := 29) hx hb dX7_readTold_92 (by decide) ?_
            exact ih 1 ls (by omega) (tk_s hI (ok_n c_17 c_21)) (lv_sub hl [2, 3, 4, 5, 6, 0] rfl)
      · skip
        have hl : lv_has ls 7 [(0, .ref h0), (1, .int p1), (2, .int p2), (3, .int p3), (4, .int p4), (5, .int 1)] := hl
        refine lv_iload hx hb dX7_readTold_29 (lv_at hl 5 rfl) ?_
        refine lv_bipush (v := 8) hx hb dX7_readTold_31 (by decide) ?_
        refine lv_icmp_ge (tgt := 95) hx hb dX7_readTold_33 (by decide) (fun c_26 => ?_) (fun c_26 => ?_)
        · exact absurd c_26 (by decide)
        refine lv_aload_n hx hb dX7_readTold_36 rfl (lv_at hl 0 rfl) ?_
        refine va_get (D := (dC, dI)) (ci := 7) (v := .ref h0_told) (C := RX7) (T := TX7) (N := 14) hx hb hts hi7 hown hK hP 0 rfl rfl 7 (by decide) (hts (.fieldLink RX7 67 "AskTree" "told" "[I") (by decide +kernel)) (fun _ h9 => h9) rfl dX7_readTold_37 ?_
        refine lv_iload hx hb dX7_readTold_40 (lv_at hl 5 rfl) ?_
        refine va_iald hx hb hK hP 1 0 rfl rfl (vi _ _ (by decide)) dX7_readTold_42 ?_
        refine tvv (v := .int (tm p1 p2 p3 p4 1)) (ci g_5 (k := 1) (by decide) hk_7) ?_
        refine lv_sipush (v := (-1000)) hx hb dX7_readTold_43 (by decide) ?_
        refine lv_icmp_lt (tgt := 66) hx hb dX7_readTold_46 (by decide) (fun c_27 => ?_) (fun c_27 => ?_)
        · skip
          refine lv_iconst (v := 0) hx hb dX7_readTold_66 (by decide) ?_
          refine lv_istore (lv' := [(6, .int 0), (0, .ref h0), (1, .int p1), (2, .int p2), (3, .int p3), (4, .int p4), (5, .int 1)]) hx hb dX7_readTold_67 hl (by decide) rfl (fun ls hl => ?_)
          refine lv_iload hx hb dX7_readTold_69 (lv_at hl 0 rfl) ?_
          refine lv_if_ne (tgt := 89) hx hb dX7_readTold_71 (by decide) (fun c_28 => ?_) (fun c_28 => ?_)
          · exact absurd c_28 (by decide)
          refine lv_aload_n hx hb dX7_readTold_74 rfl (lv_at hl 1 rfl) ?_
          refine va_get (D := (dC, dI)) (ci := 7) (v := .ref h0_told) (C := RX7) (T := TX7) (N := 14) hx hb hts hi7 hown hK hP 0 rfl rfl 7 (by decide) (hts (.fieldLink RX7 67 "AskTree" "told" "[I") (by decide +kernel)) (fun _ h9 => h9) rfl dX7_readTold_75 ?_
          refine lv_iload hx hb dX7_readTold_78 (lv_at hl 6 rfl) ?_
          refine va_iald hx hb hK hP 1 0 rfl rfl (vi _ _ (by decide)) dX7_readTold_80 ?_
          refine tvv (v := .int (tm p1 p2 p3 p4 1)) (ci g_5 (k := 1) (by decide) hk_7) ?_
          refine lv_sipush (v := (-32768)) hx hb dX7_readTold_81 (by decide) ?_
          refine lv_icmp_eq (tgt := 89) hx hb dX7_readTold_84 (by decide) (fun c_29 => ?_) (fun c_29 => ?_)
          · skip
            refine lv_iinc (v := 2) (lv' := [(5, .int 2), (6, .int 0), (0, .ref h0), (1, .int p1), (2, .int p2), (3, .int p3), (4, .int p4)]) hx hb dX7_readTold_89 hl (k := 6) rfl (by decide) (by decide) rfl (fun ls hl => ?_)
            refine lv_goto (tgt := 29) hx hb dX7_readTold_92 (by decide) ?_
            exact ih 2 ls (by omega) (tk_s hI (ok_g c_29)) (lv_sub hl [2, 3, 4, 5, 6, 0] rfl)
          · skip
            refine lv_iconst (v := 0) hx hb dX7_readTold_87 (by decide) ?_
            have ht_30 : ¬ tok p1 p2 p3 p4 := tk_t (no_l c_27 c_29) (by decide)
            have hP9 := hP.sub (ws' := [(h0, .inr (7, [.ref a0_cases, .ref a0_rows, .ref a0_grower, .ref a0_finder, .ref a0_pruner, .ref a0_rules, .ref a0_trees, .ref h0_told, .ref a0_turnedMarks, .ref a0_ballots, .int 0, .int (-1), .int (-1), .int 0])), (h0_told, .inl (k0_told, 8, .inl g_5))]) [0, 1] rfl
            have hD9 := hD.sub (ws' := [(h0, .inr (7, [.ref a0_cases, .ref a0_rows, .ref a0_grower, .ref a0_finder, .ref a0_pruner, .ref a0_rules, .ref a0_trees, .ref h0_told, .ref a0_turnedMarks, .ref a0_ballots, .int 0, .int (-1), .int (-1), .int 0])), (h0_told, .inl (k0_told, 8, .inl g_5))]) [0, 1] (by decide) rfl
            have hK9 := hK.sub (tys' := []) [] rfl
            exact W.zret (v := 0) hx hb hr rfl (fun t ht hW => ⟨⟨0, ([(h0, .inr (7, [.ref a0_cases, .ref a0_rows, .ref a0_grower, .ref a0_finder, .ref a0_pruner, .ref a0_rules, .ref a0_trees, .ref h0_told, .ref a0_turnedMarks, .ref a0_ballots, .int 0, .int (-1), .int (-1), .int 0])), (h0_told, .inl (k0_told, 8, .inl g_5))], []), rfl, (Or.inr ⟨g_5, rfl, ht_30, hk_6, hk_7, hk_8, hk_9, hk_10, hk_11, hk_12, hk_13, rfl⟩), (by rw [ht]; exact hP9), va_K.moved hW.alike hK9, hD9⟩, hS.F ht⟩) hS.2.2 dX7_readTold_88
        · skip
          refine lv_aload_n hx hb dX7_readTold_49 rfl (lv_at hl 0 rfl) ?_
          refine va_get (D := (dC, dI)) (ci := 7) (v := .ref h0_told) (C := RX7) (T := TX7) (N := 14) hx hb hts hi7 hown hK hP 0 rfl rfl 7 (by decide) (hts (.fieldLink RX7 67 "AskTree" "told" "[I") (by decide +kernel)) (fun _ h9 => h9) rfl dX7_readTold_50 ?_
          refine lv_iload hx hb dX7_readTold_53 (lv_at hl 5 rfl) ?_
          refine va_iald hx hb hK hP 1 0 rfl rfl (vi _ _ (by decide)) dX7_readTold_55 ?_
          refine tvv (v := .int (tm p1 p2 p3 p4 1)) (ci g_5 (k := 1) (by decide) hk_7) ?_
          refine lv_sipush (v := 1000) hx hb dX7_readTold_56 (by decide) ?_
          refine lv_icmp_gt (tgt := 66) hx hb dX7_readTold_59 (by decide) (fun c_31 => ?_) (fun c_31 => ?_)
          · skip
            refine lv_iconst (v := 0) hx hb dX7_readTold_66 (by decide) ?_
            refine lv_istore (lv' := [(6, .int 0), (0, .ref h0), (1, .int p1), (2, .int p2), (3, .int p3), (4, .int p4), (5, .int 1)]) hx hb dX7_readTold_67 hl (by decide) rfl (fun ls hl => ?_)
            refine lv_iload hx hb dX7_readTold_69 (lv_at hl 0 rfl) ?_
            refine lv_if_ne (tgt := 89) hx hb dX7_readTold_71 (by decide) (fun c_32 => ?_) (fun c_32 => ?_)
            · exact absurd c_32 (by decide)
            refine lv_aload_n hx hb dX7_readTold_74 rfl (lv_at hl 1 rfl) ?_
            refine va_get (D := (dC, dI)) (ci := 7) (v := .ref h0_told) (C := RX7) (T := TX7) (N := 14) hx hb hts hi7 hown hK hP 0 rfl rfl 7 (by decide) (hts (.fieldLink RX7 67 "AskTree" "told" "[I") (by decide +kernel)) (fun _ h9 => h9) rfl dX7_readTold_75 ?_
            refine lv_iload hx hb dX7_readTold_78 (lv_at hl 6 rfl) ?_
            refine va_iald hx hb hK hP 1 0 rfl rfl (vi _ _ (by decide)) dX7_readTold_80 ?_
            refine tvv (v := .int (tm p1 p2 p3 p4 1)) (ci g_5 (k := 1) (by decide) hk_7) ?_
            refine lv_sipush (v := (-32768)) hx hb dX7_readTold_81 (by decide) ?_
            refine lv_icmp_eq (tgt := 89) hx hb dX7_readTold_84 (by decide) (fun c_33 => ?_) (fun c_33 => ?_)
            · exact False.elim (lf_readTold_2 p1 p2 p3 p4 c_27 c_31 c_33)
            refine lv_iconst (v := 0) hx hb dX7_readTold_87 (by decide) ?_
            have ht_34 : ¬ tok p1 p2 p3 p4 := tk_t (no_H c_31) (by decide)
            have hP9 := hP.sub (ws' := [(h0, .inr (7, [.ref a0_cases, .ref a0_rows, .ref a0_grower, .ref a0_finder, .ref a0_pruner, .ref a0_rules, .ref a0_trees, .ref h0_told, .ref a0_turnedMarks, .ref a0_ballots, .int 0, .int (-1), .int (-1), .int 0])), (h0_told, .inl (k0_told, 8, .inl g_5))]) [0, 1] rfl
            have hD9 := hD.sub (ws' := [(h0, .inr (7, [.ref a0_cases, .ref a0_rows, .ref a0_grower, .ref a0_finder, .ref a0_pruner, .ref a0_rules, .ref a0_trees, .ref h0_told, .ref a0_turnedMarks, .ref a0_ballots, .int 0, .int (-1), .int (-1), .int 0])), (h0_told, .inl (k0_told, 8, .inl g_5))]) [0, 1] (by decide) rfl
            have hK9 := hK.sub (tys' := []) [] rfl
            exact W.zret (v := 0) hx hb hr rfl (fun t ht hW => ⟨⟨0, ([(h0, .inr (7, [.ref a0_cases, .ref a0_rows, .ref a0_grower, .ref a0_finder, .ref a0_pruner, .ref a0_rules, .ref a0_trees, .ref h0_told, .ref a0_turnedMarks, .ref a0_ballots, .int 0, .int (-1), .int (-1), .int 0])), (h0_told, .inl (k0_told, 8, .inl g_5))], []), rfl, (Or.inr ⟨g_5, rfl, ht_34, hk_6, hk_7, hk_8, hk_9, hk_10, hk_11, hk_12, hk_13, rfl⟩), (by rw [ht]; exact hP9), va_K.moved hW.alike hK9, hD9⟩, hS.F ht⟩) hS.2.2 dX7_readTold_88
          · skip
            refine lv_iconst (v := 1) hx hb dX7_readTold_62 (by decide) ?_
            refine lv_goto (tgt := 67) hx hb dX7_readTold_63 (by decide) ?_
            refine lv_istore (lv' := [(6, .int 1), (0, .ref h0), (1, .int p1), (2, .int p2), (3, .int p3), (4, .int p4), (5, .int 1)]) hx hb dX7_readTold_67 hl (by decide) rfl (fun ls hl => ?_)
            refine lv_iload hx hb dX7_readTold_69 (lv_at hl 0 rfl) ?_
            refine lv_if_ne (tgt := 89) hx hb dX7_readTold_71 (by decide) (fun c_35 => ?_) (fun c_35 => ?_)
            rotate_left
            · exact absurd c_35 (by decide)
            refine lv_iinc (v := 2) (lv' := [(5, .int 2), (6, .int 1), (0, .ref h0), (1, .int p1), (2, .int p2), (3, .int p3), (4, .int p4)]) hx hb dX7_readTold_89 hl (k := 6) rfl (by decide) (by decide) rfl (fun ls hl => ?_)
            refine lv_goto (tgt := 29) hx hb dX7_readTold_92 (by decide) ?_
            exact ih 2 ls (by omega) (tk_s hI (ok_n c_27 c_31)) (lv_sub hl [2, 3, 4, 5, 6, 0] rfl)
      · skip
        have hl : lv_has ls 7 [(0, .ref h0), (1, .int p1), (2, .int p2), (3, .int p3), (4, .int p4), (5, .int 2)] := hl
        refine lv_iload hx hb dX7_readTold_29 (lv_at hl 5 rfl) ?_
        refine lv_bipush (v := 8) hx hb dX7_readTold_31 (by decide) ?_
        refine lv_icmp_ge (tgt := 95) hx hb dX7_readTold_33 (by decide) (fun c_36 => ?_) (fun c_36 => ?_)
        · exact absurd c_36 (by decide)
        refine lv_aload_n hx hb dX7_readTold_36 rfl (lv_at hl 0 rfl) ?_
        refine va_get (D := (dC, dI)) (ci := 7) (v := .ref h0_told) (C := RX7) (T := TX7) (N := 14) hx hb hts hi7 hown hK hP 0 rfl rfl 7 (by decide) (hts (.fieldLink RX7 67 "AskTree" "told" "[I") (by decide +kernel)) (fun _ h9 => h9) rfl dX7_readTold_37 ?_
        refine lv_iload hx hb dX7_readTold_40 (lv_at hl 5 rfl) ?_
        refine va_iald hx hb hK hP 1 0 rfl rfl (vi _ _ (by decide)) dX7_readTold_42 ?_
        refine tvv (v := .int (tm p1 p2 p3 p4 2)) (ci g_5 (k := 2) (by decide) hk_8) ?_
        refine lv_sipush (v := (-1000)) hx hb dX7_readTold_43 (by decide) ?_
        refine lv_icmp_lt (tgt := 66) hx hb dX7_readTold_46 (by decide) (fun c_37 => ?_) (fun c_37 => ?_)
        · skip
          refine lv_iconst (v := 0) hx hb dX7_readTold_66 (by decide) ?_
          refine lv_istore (lv' := [(6, .int 0), (0, .ref h0), (1, .int p1), (2, .int p2), (3, .int p3), (4, .int p4), (5, .int 2)]) hx hb dX7_readTold_67 hl (by decide) rfl (fun ls hl => ?_)
          refine lv_iload hx hb dX7_readTold_69 (lv_at hl 0 rfl) ?_
          refine lv_if_ne (tgt := 89) hx hb dX7_readTold_71 (by decide) (fun c_38 => ?_) (fun c_38 => ?_)
          · exact absurd c_38 (by decide)
          refine lv_aload_n hx hb dX7_readTold_74 rfl (lv_at hl 1 rfl) ?_
          refine va_get (D := (dC, dI)) (ci := 7) (v := .ref h0_told) (C := RX7) (T := TX7) (N := 14) hx hb hts hi7 hown hK hP 0 rfl rfl 7 (by decide) (hts (.fieldLink RX7 67 "AskTree" "told" "[I") (by decide +kernel)) (fun _ h9 => h9) rfl dX7_readTold_75 ?_
          refine lv_iload hx hb dX7_readTold_78 (lv_at hl 6 rfl) ?_
          refine va_iald hx hb hK hP 1 0 rfl rfl (vi _ _ (by decide)) dX7_readTold_80 ?_
          refine tvv (v := .int (tm p1 p2 p3 p4 2)) (ci g_5 (k := 2) (by decide) hk_8) ?_
          refine lv_sipush (v := (-32768)) hx hb dX7_readTold_81 (by decide) ?_
          refine lv_icmp_eq (tgt := 89) hx hb dX7_readTold_84 (by decide) (fun c_39 => ?_) (fun c_39 => ?_)
          · skip
            refine lv_iinc (v := 3) (lv' := [(5, .int 3), (6, .int 0), (0, .ref h0), (1, .int p1), (2, .int p2), (3, .int p3), (4, .int p4)]) hx hb dX7_readTold_89 hl (k := 6) rfl (by decide) (by decide) rfl (fun ls hl => ?_)
            refine lv_goto (tgt := 29) hx hb dX7_readTold_92 (by decide) ?_
            exact ih 3 ls (by omega) (tk_s hI (ok_g c_39)) (lv_sub hl [2, 3, 4, 5, 6, 0] rfl)
          · skip
            refine lv_iconst (v := 0) hx hb dX7_readTold_87 (by decide) ?_
            have ht_40 : ¬ tok p1 p2 p3 p4 := tk_t (no_l c_37 c_39) (by decide)
            have hP9 := hP.sub (ws' := [(h0, .inr (7, [.ref a0_cases, .ref a0_rows, .ref a0_grower, .ref a0_finder, .ref a0_pruner, .ref a0_rules, .ref a0_trees, .ref h0_told, .ref a0_turnedMarks, .ref a0_ballots, .int 0, .int (-1), .int (-1), .int 0])), (h0_told, .inl (k0_told, 8, .inl g_5))]) [0, 1] rfl
            have hD9 := hD.sub (ws' := [(h0, .inr (7, [.ref a0_cases, .ref a0_rows, .ref a0_grower, .ref a0_finder, .ref a0_pruner, .ref a0_rules, .ref a0_trees, .ref h0_told, .ref a0_turnedMarks, .ref a0_ballots, .int 0, .int (-1), .int (-1), .int 0])), (h0_told, .inl (k0_told, 8, .inl g_5))]) [0, 1] (by decide) rfl
            have hK9 := hK.sub (tys' := []) [] rfl
            exact W.zret (v := 0) hx hb hr rfl (fun t ht hW => ⟨⟨0, ([(h0, .inr (7, [.ref a0_cases, .ref a0_rows, .ref a0_grower, .ref a0_finder, .ref a0_pruner, .ref a0_rules, .ref a0_trees, .ref h0_told, .ref a0_turnedMarks, .ref a0_ballots, .int 0, .int (-1), .int (-1), .int 0])), (h0_told, .inl (k0_told, 8, .inl g_5))], []), rfl, (Or.inr ⟨g_5, rfl, ht_40, hk_6, hk_7, hk_8, hk_9, hk_10, hk_11, hk_12, hk_13, rfl⟩), (by rw [ht]; exact hP9), va_K.moved hW.alike hK9, hD9⟩, hS.F ht⟩) hS.2.2 dX7_readTold_88
        · skip
          refine lv_aload_n hx hb dX7_readTold_49 rfl (lv_at hl 0 rfl) ?_
          refine va_get (D := (dC, dI)) (ci := 7) (v := .ref h0_told) (C := RX7) (T := TX7) (N := 14) hx hb hts hi7 hown hK hP 0 rfl rfl 7 (by decide) (hts (.fieldLink RX7 67 "AskTree" "told" "[I") (by decide +kernel)) (fun _ h9 => h9) rfl dX7_readTold_50 ?_
          refine lv_iload hx hb dX7_readTold_53 (lv_at hl 5 rfl) ?_
          refine va_iald hx hb hK hP 1 0 rfl rfl (vi _ _ (by decide)) dX7_readTold_55 ?_
          refine tvv (v := .int (tm p1 p2 p3 p4 2)) (ci g_5 (k := 2) (by decide) hk_8) ?_
          refine lv_sipush (v := 1000) hx hb dX7_readTold_56 (by decide) ?_
          refine lv_icmp_gt (tgt := 66) hx hb dX7_readTold_59 (by decide) (fun c_41 => ?_) (fun c_41 => ?_)
          · skip
            refine lv_iconst (v := 0) hx hb dX7_readTold_66 (by decide) ?_
            refine lv_istore (lv' := [(6, .int 0), (0, .ref h0), (1, .int p1), (2, .int p2), (3, .int p3), (4, .int p4), (5, .int 2)]) hx hb dX7_readTold_67 hl (by decide) rfl (fun ls hl => ?_)
            refine lv_iload hx hb dX7_readTold_69 (lv_at hl 0 rfl) ?_
            refine lv_if_ne (tgt := 89) hx hb dX7_readTold_71 (by decide) (fun c_42 => ?_) (fun c_42 => ?_)
            · exact absurd c_42 (by decide)
            refine lv_aload_n hx hb dX7_readTold_74 rfl (lv_at hl 1 rfl) ?_
            refine va_get (D := (dC, dI)) (ci := 7) (v := .ref h0_told) (C := RX7) (T := TX7) (N := 14) hx hb hts hi7 hown hK hP 0 rfl rfl 7 (by decide) (hts (.fieldLink RX7 67 "AskTree" "told" "[I") (by decide +kernel)) (fun _ h9 => h9) rfl dX7_readTold_75 ?_
            refine lv_iload hx hb dX7_readTold_78 (lv_at hl 6 rfl) ?_
            refine va_iald hx hb hK hP 1 0 rfl rfl (vi _ _ (by decide)) dX7_readTold_80 ?_
            refine tvv (v := .int (tm p1 p2 p3 p4 2)) (ci g_5 (k := 2) (by decide) hk_8) ?_
            refine lv_sipush (v := (-32768)) hx hb dX7_readTold_81 (by decide) ?_
            refine lv_icmp_eq (tgt := 89) hx hb dX7_readTold_84 (by decide) (fun c_43 => ?_) (fun c_43 => ?_)
            · exact False.elim (lf_readTold_3 p1 p2 p3 p4 c_37 c_41 c_43)
            refine lv_iconst (v := 0) hx hb dX7_readTold_87 (by decide) ?_
            have ht_44 : ¬ tok p1 p2 p3 p4 := tk_t (no_H c_41) (by decide)
            have hP9 := hP.sub (ws' := [(h0, .inr (7, [.ref a0_cases, .ref a0_rows, .ref a0_grower, .ref a0_finder, .ref a0_pruner, .ref a0_rules, .ref a0_trees, .ref h0_told, .ref a0_turnedMarks, .ref a0_ballots, .int 0, .int (-1), .int (-1), .int 0])), (h0_told, .inl (k0_told, 8, .inl g_5))]) [0, 1] rfl
            have hD9 := hD.sub (ws' := [(h0, .inr (7, [.ref a0_cases, .ref a0_rows, .ref a0_grower, .ref a0_finder, .ref a0_pruner, .ref a0_rules, .ref a0_trees, .ref h0_told, .ref a0_turnedMarks, .ref a0_ballots, .int 0, .int (-1), .int (-1), .int 0])), (h0_told, .inl (k0_told, 8, .inl g_5))]) [0, 1] (by decide) rfl
            have hK9 := hK.sub (tys' := []) [] rfl
            exact W.zret (v := 0) hx hb hr rfl (fun t ht hW => ⟨⟨0, ([(h0, .inr (7, [.ref a0_cases, .ref a0_rows, .ref a0_grower, .ref a0_finder, .ref a0_pruner, .ref a0_rules, .ref a0_trees, .ref h0_told, .ref a0_turnedMarks, .ref a0_ballots, .int 0, .int (-1), .int (-1), .int 0])), (h0_told, .inl (k0_told, 8, .inl g_5))], []), rfl, (Or.inr ⟨g_5, rfl, ht_44, hk_6, hk_7, hk_8, hk_9, hk_10, hk_11, hk_12, hk_13, rfl⟩), (by rw [ht]; exact hP9), va_K.moved hW.alike hK9, hD9⟩, hS.F ht⟩) hS.2.2 dX7_readTold_88
          · skip
            refine lv_iconst (v := 1) hx hb dX7_readTold_62 (by decide) ?_
            refine lv_goto (tgt := 67) hx hb dX7_readTold_63 (by decide) ?_
            refine lv_istore (lv' := [(6, .int 1), (0, .ref h0), (1, .int p1), (2, .int p2), (3, .int p3), (4, .int p4), (5, .int 2)]) hx hb dX7_readTold_67 hl (by decide) rfl (fun ls hl => ?_)
            refine lv_iload hx hb dX7_readTold_69 (lv_at hl 0 rfl) ?_
            refine lv_if_ne (tgt := 89) hx hb dX7_readTold_71 (by decide) (fun c_45 => ?_) (fun c_45 => ?_)
            rotate_left
            · exact absurd c_45 (by decide)
            refine lv_iinc (v := 3) (lv' := [(5, .int 3), (6, .int 1), (0, .ref h0), (1, .int p1), (2, .int p2), (3, .int p3), (4, .int p4)]) hx hb dX7_readTold_89 hl (k := 6) rfl (by decide) (by decide) rfl (fun ls hl => ?_)
            refine lv_goto (tgt := 29) hx hb dX7_readTold_92 (by decide) ?_
            exact ih 3 ls (by omega) (tk_s hI (ok_n c_37 c_41)) (lv_sub hl [2, 3, 4, 5, 6, 0] rfl)
      · skip
        have hl : lv_has ls 7 [(0, .ref h0), (1, .int p1), (2, .int p2), (3, .int p3), (4, .int p4), (5, .int 3)] := hl
        refine lv_iload hx hb dX7_readTold_29 (lv_at hl 5 rfl) ?_
        refine lv_bipush (v := 8) hx hb dX7_readTold_31 (by decide) ?_
        refine lv_icmp_ge (tgt := 95) hx hb dX7_readTold_33 (by decide) (fun c_46 => ?_) (fun c_46 => ?_)
        · exact absurd c_46 (by decide)
        refine lv_aload_n hx hb dX7_readTold_36 rfl (lv_at hl 0 rfl) ?_
        refine va_get (D := (dC, dI)) (ci := 7) (v := .ref h0_told) (C := RX7) (T := TX7) (N := 14) hx hb hts hi7 hown hK hP 0 rfl rfl 7 (by decide) (hts (.fieldLink RX7 67 "AskTree" "told" "[I") (by decide +kernel)) (fun _ h9 => h9) rfl dX7_readTold_37 ?_
        refine lv_iload hx hb dX7_readTold_40 (lv_at hl 5 rfl) ?_
        refine va_iald hx hb hK hP 1 0 rfl rfl (vi _ _ (by decide)) dX7_readTold_42 ?_
        refine tvv (v := .int (tm p1 p2 p3 p4 3)) (ci g_5 (k := 3) (by decide) hk_9) ?_
        refine lv_sipush (v := (-1000)) hx hb dX7_readTold_43 (by decide) ?_
        refine lv_icmp_lt (tgt := 66) hx hb dX7_readTold_46 (by decide) (fun c_47 => ?_) (fun c_47 => ?_)
        · skip
          refine lv_iconst (v := 0) hx hb dX7_readTold_66 (by decide) ?_
          refine lv_istore (lv' := [(6, .int 0), (0, .ref h0), (1, .int p1), (2, .int p2), (3, .int p3), (4, .int p4), (5, .int 3)]) hx hb dX7_readTold_67 hl (by decide) rfl (fun ls hl => ?_)
          refine lv_iload hx hb dX7_readTold_69 (lv_at hl 0 rfl) ?_
          refine lv_if_ne (tgt := 89) hx hb dX7_readTold_71 (by decide) (fun c_48 => ?_) (fun c_48 => ?_)
          · exact absurd c_48 (by decide)
          refine lv_aload_n hx hb dX7_readTold_74 rfl (lv_at hl 1 rfl) ?_
          refine va_get (D := (dC, dI)) (ci := 7) (v := .ref h0_told) (C := RX7) (T := TX7) (N := 14) hx hb hts hi7 hown hK hP 0 rfl rfl 7 (by decide) (hts (.fieldLink RX7 67 "AskTree" "told" "[I") (by decide +kernel)) (fun _ h9 => h9) rfl dX7_readTold_75 ?_
          refine lv_iload hx hb dX7_readTold_78 (lv_at hl 6 rfl) ?_
          refine va_iald hx hb hK hP 1 0 rfl rfl (vi _ _ (by decide)) dX7_readTold_80 ?_
          refine tvv (v := .int (tm p1 p2 p3 p4 3)) (ci g_5 (k := 3) (by decide) hk_9) ?_
          refine lv_sipush (v := (-32768)) hx hb dX7_readTold_81 (by decide) ?_
          refine lv_icmp_eq (tgt := 89) hx hb dX7_readTold_84 (by decide) (fun c_49 => ?_) (fun c_49 => ?_)
          · skip
            refine lv_iinc (v := 4) (lv' := [(5, .int 4), (6, .int 0), (0, .ref h0), (1, .int p1), (2, .int p2), (3, .int p3), (4, .int p4)]) hx hb dX7_readTold_89 hl (k := 6) rfl (by decide) (by decide) rfl (fun ls hl => ?_)
            refine lv_goto (tgt := 29) hx hb dX7_readTold_92 (by decide) ?_
            exact ih 4 ls (by omega) (tk_s hI (ok_g c_49)) (lv_sub hl [2, 3, 4, 5, 6, 0] rfl)
          · skip
            refine lv_iconst (v := 0) hx hb dX7_readTold_87 (by decide) ?_
            have ht_50 : ¬ tok p1 p2 p3 p4 := tk_t (no_l c_47 c_49) (by decide)
            have hP9 := hP.sub (ws' := [(h0, .inr (7, [.ref a0_cases, .ref a0_rows, .ref a0_grower, .ref a0_finder, .ref a0_pruner, .ref a0_rules, .ref a0_trees, .ref h0_told, .ref a0_turnedMarks, .ref a0_ballots, .int 0, .int (-1), .int (-1), .int 0])), (h0_told, .inl (k0_told, 8, .inl g_5))]) [0, 1] rfl
            have hD9 := hD.sub (ws' := [(h0, .inr (7, [.ref a0_cases, .ref a0_rows, .ref a0_grower, .ref a0_finder, .ref a0_pruner, .ref a0_rules, .ref a0_trees, .ref h0_told, .ref a0_turnedMarks, .ref a0_ballots, .int 0, .int (-1), .int (-1), .int 0])), (h0_told, .inl (k0_told, 8, .inl g_5))]) [0, 1] (by decide) rfl
            have hK9 := hK.sub (tys' := []) [] rfl
            exact W.zret (v := 0) hx hb hr rfl (fun t ht hW => ⟨⟨0, ([(h0, .inr (7, [.ref a0_cases, .ref a0_rows, .ref a0_grower, .ref a0_finder, .ref a0_pruner, .ref a0_rules, .ref a0_trees, .ref h0_told, .ref a0_turnedMarks, .ref a0_ballots, .int 0, .int (-1), .int (-1), .int 0])), (h0_told, .inl (k0_told, 8, .inl g_5))], []), rfl, (Or.inr ⟨g_5, rfl, ht_50, hk_6, hk_7, hk_8, hk_9, hk_10, hk_11, hk_12, hk_13, rfl⟩), (by rw [ht]; exact hP9), va_K.moved hW.alike hK9, hD9⟩, hS.F ht⟩) hS.2.2 dX7_readTold_88
        · skip
          refine lv_aload_n hx hb dX7_readTold_49 rfl (lv_at hl 0 rfl) ?_
          refine va_get (D := (dC, dI)) (ci := 7) (v := .ref h0_told) (C := RX7) (T := TX7) (N := 14) hx hb hts hi7 hown hK hP 0 rfl rfl 7 (by decide) (hts (.fieldLink RX7 67 "AskTree" "told" "[I") (by decide +kernel)) (fun _ h9 => h9) rfl dX7_readTold_50 ?_
          refine lv_iload hx hb dX7_readTold_53 (lv_at hl 5 rfl) ?_
          refine va_iald hx hb hK hP 1 0 rfl rfl (vi _ _ (by decide)) dX7_readTold_55 ?_
          refine tvv (v := .int (tm p1 p2 p3 p4 3)) (ci g_5 (k := 3) (by decide) hk_9) ?_
          refine lv_sipush (v := 1000) hx hb dX7_readTold_56 (by decide) ?_
          refine lv_icmp_gt (tgt := 66) hx hb dX7_readTold_59 (by decide) (fun c_51 => ?_) (fun c_51 => ?_)
          · skip
            refine lv_iconst (v := 0) hx hb dX7_readTold_66 (by decide) ?_
            refine lv_istore (lv' := [(6, .int 0), (0, .ref h0), (1, .int p1), (2, .int p2), (3, .int p3), (4, .int p4), (5, .int 3)]) hx hb dX7_readTold_67 hl (by decide) rfl (fun ls hl => ?_)
            refine lv_iload hx hb dX7_readTold_69 (lv_at hl 0 rfl) ?_
            refine lv_if_ne (tgt := 89) hx hb dX7_readTold_71 (by decide) (fun c_52 => ?_) (fun c_52 => ?_)
            · exact absurd c_52 (by decide)
            refine lv_aload_n hx hb dX7_readTold_74 rfl (lv_at hl 1 rfl) ?_
            refine va_get (D := (dC, dI)) (ci := 7) (v := .ref h0_told) (C := RX7) (T := TX7) (N := 14) hx hb hts hi7 hown hK hP 0 rfl rfl 7 (by decide) (hts (.fieldLink RX7 67 "AskTree" "told" "[I") (by decide +kernel)) (fun _ h9 => h9) rfl dX7_readTold_75 ?_
            refine lv_iload hx hb dX7_readTold_78 (lv_at hl 6 rfl) ?_
            refine va_iald hx hb hK hP 1 0 rfl rfl (vi _ _ (by decide)) dX7_readTold_80 ?_
            refine tvv (v := .int (tm p1 p2 p3 p4 3)) (ci g_5 (k := 3) (by decide) hk_9) ?_
            refine lv_sipush (v := (-32768)) hx hb dX7_readTold_81 (by decide) ?_
            refine lv_icmp_eq (tgt := 89) hx hb dX7_readTold_84 (by decide) (fun c_53 => ?_) (fun c_53 => ?_)
            · exact False.elim (lf_readTold_4 p1 p2 p3 p4 c_47 c_51 c_53)
            refine lv_iconst (v := 0) hx hb dX7_readTold_87 (by decide) ?_
            have ht_54 : ¬ tok p1 p2 p3 p4 := tk_t (no_H c_51) (by decide)
            have hP9 := hP.sub (ws' := [(h0, .inr (7, [.ref a0_cases, .ref a0_rows, .ref a0_grower, .ref a0_finder, .ref a0_pruner, .ref a0_rules, .ref a0_trees, .ref h0_told, .ref a0_turnedMarks, .ref a0_ballots, .int 0, .int (-1), .int (-1), .int 0])), (h0_told, .inl (k0_told, 8, .inl g_5))]) [0, 1] rfl
            have hD9 := hD.sub (ws' := [(h0, .inr (7, [.ref a0_cases, .ref a0_rows, .ref a0_grower, .ref a0_finder, .ref a0_pruner, .ref a0_rules, .ref a0_trees, .ref h0_told, .ref a0_turnedMarks, .ref a0_ballots, .int 0, .int (-1), .int (-1), .int 0])), (h0_told, .inl (k0_told, 8, .inl g_5))]) [0, 1] (by decide) rfl
            have hK9 := hK.sub (tys' := []) [] rfl
            exact W.zret (v := 0) hx hb hr rfl (fun t ht hW => ⟨⟨0, ([(h0, .inr (7, [.ref a0_cases, .ref a0_rows, .ref a0_grower, .ref a0_finder, .ref a0_pruner, .ref a0_rules, .ref a0_trees, .ref h0_told, .ref a0_turnedMarks, .ref a0_ballots, .int 0, .int (-1), .int (-1), .int 0])), (h0_told, .inl (k0_told, 8, .inl g_5))], []), rfl, (Or.inr ⟨g_5, rfl, ht_54, hk_6, hk_7, hk_8, hk_9, hk_10, hk_11, hk_12, hk_13, rfl⟩), (by rw [ht]; exact hP9), va_K.moved hW.alike hK9, hD9⟩, hS.F ht⟩) hS.2.2 dX7_readTold_88
          · skip
            refine lv_iconst (v := 1) hx hb dX7_readTold_62 (by decide) ?_
            refine lv_goto (tgt := 67) hx hb dX7_readTold_63 (by decide) ?_
            refine lv_istore (lv' := [(6, .int 1), (0, .ref h0), (1, .int p1), (2, .int p2), (3, .int p3), (4, .int p4), (5, .int 3)]) hx hb dX7_readTold_67 hl (by decide) rfl (fun ls hl => ?_)
            refine lv_iload hx hb dX7_readTold_69 (lv_at hl 0 rfl) ?_
            refine lv_if_ne (tgt := 89) hx hb dX7_readTold_71 (by decide) (fun c_55 => ?_) (fun c_55 => ?_)
            rotate_left
            · exact absurd c_55 (by decide)
            refine lv_iinc (v := 4) (lv' := [(5, .int 4), (6, .int 1), (0, .ref h0), (1, .int p1), (2, .int p2), (3, .int p3), (4, .int p4)]) hx hb dX7_readTold_89 hl (k := 6) rfl (by decide) (by decide) rfl (fun ls hl => ?_)
            refine lv_goto (tgt := 29) hx hb dX7_readTold_92 (by decide) ?_
            exact ih 4 ls (by omega) (tk_s hI (ok_n c_47 c_51)) (lv_sub hl [2, 3, 4, 5, 6, 0] rfl)
      · skip
        have hl : lv_has ls 7 [(0, .ref h0), (1, .int p1), (2, .int p2), (3, .int p3), (4, .int p4), (5, .int 4)] := hl
        refine lv_iload hx hb dX7_readTold_29 (lv_at hl 5 rfl) ?_
        refine lv_bipush (v := 8) hx hb dX7_readTold_31 (by decide) ?_
        refine lv_icmp_ge (tgt := 95) hx hb dX7_readTold_33 (by decide) (fun c_56 => ?_) (fun c_56 => ?_)
        · exact absurd c_56 (by decide)
        refine lv_aload_n hx hb dX7_readTold_36 rfl (lv_at hl 0 rfl) ?_
        refine va_get (D := (dC, dI)) (ci := 7) (v := .ref h0_told) (C := RX7) (T := TX7) (N := 14) hx hb hts hi7 hown hK hP 0 rfl rfl 7 (by decide) (hts (.fieldLink RX7 67 "AskTree" "told" "[I") (by decide +kernel)) (fun _ h9 => h9) rfl dX7_readTold_37 ?_
        refine lv_iload hx hb dX7_readTold_40 (lv_at hl 5 rfl) ?_
        refine va_iald hx hb hK hP 1 0 rfl rfl (vi _ _ (by decide)) dX7_readTold_42 ?_
        refine tvv (v := .int (tm p1 p2 p3 p4 4)) (ci g_5 (k := 4) (by decide) hk_10) ?_
        refine lv_sipush (v := (-1000)) hx hb dX7_readTold_43 (by decide) ?_
        refine lv_icmp_lt (tgt := 66) hx hb dX7_readTold_46 (by decide) (fun c_57 => ?_) (fun c_57 => ?_)
        · skip
          refine lv_iconst (v := 0) hx hb dX7_readTold_66 (by decide) ?_
          refine lv_istore (lv' := [(6, .int 0), (0, .ref h0), (1, .int p1), (2, .int p2), (3, .int p3), (4, .int p4), (5, .int 4)]) hx hb dX7_readTold_67 hl (by decide) rfl (fun ls hl => ?_)
          refine lv_iload hx hb dX7_readTold_69 (lv_at hl 0 rfl) ?_
          refine lv_if_ne (tgt := 89) hx hb dX7_readTold_71 (by decide) (fun c_58 => ?_) (fun c_58 => ?_)
          · exact absurd c_58 (by decide)
          refine lv_aload_n hx hb dX7_readTold_74 rfl (lv_at hl 1 rfl) ?_
          refine va_get (D := (dC, dI)) (ci := 7) (v := .ref h0_told) (C := RX7) (T := TX7) (N := 14) hx hb hts hi7 hown hK hP 0 rfl rfl 7 (by decide) (hts (.fieldLink RX7 67 "AskTree" "told" "[I") (by decide +kernel)) (fun _ h9 => h9) rfl dX7_readTold_75 ?_
          refine lv_iload hx hb dX7_readTold_78 (lv_at hl 6 rfl) ?_
          refine va_iald hx hb hK hP 1 0 rfl rfl (vi _ _ (by decide)) dX7_readTold_80 ?_
          refine tvv (v := .int (tm p1 p2 p3 p4 4)) (ci g_5 (k := 4) (by decide) hk_10) ?_
          refine lv_sipush (v := (-32768)) hx hb dX7_readTold_81 (by decide) ?_
          refine lv_icmp_eq (tgt := 89) hx hb dX7_readTold_84 (by decide) (fun c_59 => ?_) (fun c_59 => ?_)
          · skip
            refine lv_iinc (v := 5) (lv' := [(5, .int 5), (6, .int 0), (0, .ref h0), (1, .int p1), (2, .int p2), (3, .int p3), (4, .int p4)]) hx hb dX7_readTold_89 hl (k := 6) rfl (by decide) (by decide) rfl (fun ls hl => ?_)
            refine lv_goto (tgt := 29) hx hb dX7_readTold_92 (by decide) ?_
            exact ih 5 ls (by omega) (tk_s hI (ok_g c_59)) (lv_sub hl [2, 3, 4, 5, 6, 0] rfl)
          · skip
            refine lv_iconst (v := 0) hx hb dX7_readTold_87 (by decide) ?_
            have ht_60 : ¬ tok p1 p2 p3 p4 := tk_t (no_l c_57 c_59) (by decide)
            have hP9 := hP.sub (ws' := [(h0, .inr (7, [.ref a0_cases, .ref a0_rows, .ref a0_grower, .ref a0_finder, .ref a0_pruner, .ref a0_rules, .ref a0_trees, .ref h0_told, .ref a0_turnedMarks, .ref a0_ballots, .int 0, .int (-1), .int (-1), .int 0])), (h0_told, .inl (k0_told, 8, .inl g_5))]) [0, 1] rfl
            have hD9 := hD.sub (ws' := [(h0, .inr (7, [.ref a0_cases, .ref a0_rows, .ref a0_grower, .ref a0_finder, .ref a0_pruner, .ref a0_rules, .ref a0_trees, .ref h0_told, .ref a0_turnedMarks, .ref a0_ballots, .int 0, .int (-1), .int (-1), .int 0])), (h0_told, .inl (k0_told, 8, .inl g_5))]) [0, 1] (by decide) rfl
            have hK9 := hK.sub (tys' := []) [] rfl
            exact W.zret (v := 0) hx hb hr rfl (fun t ht hW => ⟨⟨0, ([(h0, .inr (7, [.ref a0_cases, .ref a0_rows, .ref a0_grower, .ref a0_finder, .ref a0_pruner, .ref a0_rules, .ref a0_trees, .ref h0_told, .ref a0_turnedMarks, .ref a0_ballots, .int 0, .int (-1), .int (-1), .int 0])), (h0_told, .inl (k0_told, 8, .inl g_5))], []), rfl, (Or.inr ⟨g_5, rfl, ht_60, hk_6, hk_7, hk_8, hk_9, hk_10, hk_11, hk_12, hk_13, rfl⟩), (by rw [ht]; exact hP9), va_K.moved hW.alike hK9, hD9⟩, hS.F ht⟩) hS.2.2 dX7_readTold_88
        · skip
          refine lv_aload_n hx hb dX7_readTold_49 rfl (lv_at hl 0 rfl) ?_
          refine va_get (D := (dC, dI)) (ci := 7) (v := .ref h0_told) (C := RX7) (T := TX7) (N := 14) hx hb hts hi7 hown hK hP 0 rfl rfl 7 (by decide) (hts (.fieldLink RX7 67 "AskTree" "told" "[I") (by decide +kernel)) (fun _ h9 => h9) rfl dX7_readTold_50 ?_
          refine lv_iload hx hb dX7_readTold_53 (lv_at hl 5 rfl) ?_
          refine va_iald hx hb hK hP 1 0 rfl rfl (vi _ _ (by decide)) dX7_readTold_55 ?_
          refine tvv (v := .int (tm p1 p2 p3 p4 4)) (ci g_5 (k := 4) (by decide) hk_10) ?_
          refine lv_sipush (v := 1000) hx hb dX7_readTold_56 (by decide) ?_
          refine lv_icmp_gt (tgt := 66) hx hb dX7_readTold_59 (by decide) (fun c_61 => ?_) (fun c_61 => ?_)
          · skip
            refine lv_iconst (v := 0) hx hb dX7_readTold_66 (by decide) ?_
            refine lv_istore (lv' := [(6, .int 0), (0, .ref h0), (1, .int p1), (2, .int p2), (3, .int p3), (4, .int p4), (5, .int 4)]) hx hb dX7_readTold_67 hl (by decide) rfl (fun ls hl => ?_)
            refine lv_iload hx hb dX7_readTold_69 (lv_at hl 0 rfl) ?_
            refine lv_if_ne (tgt := 89) hx hb dX7_readTold_71 (by decide) (fun c_62 => ?_) (fun c_62 => ?_)
            · exact absurd c_62 (by decide)
            refine lv_aload_n hx hb dX7_readTold_74 rfl (lv_at hl 1 rfl) ?_
            refine va_get (D := (dC, dI)) (ci := 7) (v := .ref h0_told) (C := RX7) (T := TX7) (N := 14) hx hb hts hi7 hown hK hP 0 rfl rfl 7 (by decide) (hts (.fieldLink RX7 67 "AskTree" "told" "[I") (by decide +kernel)) (fun _ h9 => h9) rfl dX7_readTold_75 ?_
            refine lv_iload hx hb dX7_readTold_78 (lv_at hl 6 rfl) ?_
            refine va_iald hx hb hK hP 1 0 rfl rfl (vi _ _ (by decide)) dX7_readTold_80 ?_
            refine tvv (v := .int (tm p1 p2 p3 p4 4)) (ci g_5 (k := 4) (by decide) hk_10) ?_
            refine lv_sipush (v := (-32768)) hx hb dX7_readTold_81 (by decide) ?_
            refine lv_icmp_eq (tgt := 89) hx hb dX7_readTold_84 (by decide) (fun c_63 => ?_) (fun c_63 => ?_)
            · exact False.elim (lf_readTold_5 p1 p2 p3 p4 c_57 c_61 c_63)
            refine lv_iconst (v := 0) hx hb dX7_readTold_87 (by decide) ?_
            have ht_64 : ¬ tok p1 p2 p3 p4 := tk_t (no_H c_61) (by decide)
            have hP9 := hP.sub (ws' := [(h0, .inr (7, [.ref a0_cases, .ref a0_rows, .ref a0_grower, .ref a0_finder, .ref a0_pruner, .ref a0_rules, .ref a0_trees, .ref h0_told, .ref a0_turnedMarks, .ref a0_ballots, .int 0, .int (-1), .int (-1), .int 0])), (h0_told, .inl (k0_told, 8, .inl g_5))]) [0, 1] rfl
            have hD9 := hD.sub (ws' := [(h0, .inr (7, [.ref a0_cases, .ref a0_rows, .ref a0_grower, .ref a0_finder, .ref a0_pruner, .ref a0_rules, .ref a0_trees, .ref h0_told, .ref a0_turnedMarks, .ref a0_ballots, .int 0, .int (-1), .int (-1), .int 0])), (h0_told, .inl (k0_told, 8, .inl g_5))]) [0, 1] (by decide) rfl
            have hK9 := hK.sub (tys' := []) [] rfl
            exact W.zret (v := 0) hx hb hr rfl (fun t ht hW => ⟨⟨0, ([(h0, .inr (7, [.ref a0_cases, .ref a0_rows, .ref a0_grower, .ref a0_finder, .ref a0_pruner, .ref a0_rules, .ref a0_trees, .ref h0_told, .ref a0_turnedMarks, .ref a0_ballots, .int 0, .int (-1), .int (-1), .int 0])), (h0_told, .inl (k0_told, 8, .inl g_5))], []), rfl, (Or.inr ⟨g_5, rfl, ht_64, hk_6, hk_7, hk_8, hk_9, hk_10, hk_11, hk_12, hk_13, rfl⟩), (by rw [ht]; exact hP9), va_K.moved hW.alike hK9, hD9⟩, hS.F ht⟩) hS.2.2 dX7_readTold_88
          · skip
            refine lv_iconst (v := 1) hx hb dX7_readTold_62 (by decide) ?_
            refine lv_goto (tgt := 67) hx hb dX7_readTold_63 (by decide) ?_
            refine lv_istore (lv' := [(6, .int 1), (0, .ref h0), (1, .int p1), (2, .int p2), (3, .int p3), (4, .int p4), (5, .int 4)]) hx hb dX7_readTold_67 hl (by decide) rfl (fun ls hl => ?_)
            refine lv_iload hx hb dX7_readTold_69 (lv_at hl 0 rfl) ?_
            refine lv_if_ne (tgt := 89) hx hb dX7_readTold_71 (by decide) (fun c_65 => ?_) (fun c_65 => ?_)
            rotate_left
            · exact absurd c_65 (by decide)
            refine lv_iinc (v := 5) (lv' := [(5, .int 5), (6, .int 1), (0, .ref h0), (1, .int p1), (2, .int p2), (3, .int p3), (4, .int p4)]) hx hb dX7_readTold_89 hl (k := 6) rfl (by decide) (by decide) rfl (fun ls hl => ?_)
            refine lv_goto (tgt := 29) hx hb dX7_readTold_92 (by decide) ?_
            exact ih 5 ls (by omega) (tk_s hI (ok_n c_57 c_61)) (lv_sub hl [2, 3, 4, 5, 6, 0] rfl)
      · skip
        have hl : lv_has ls 7 [(0, .ref h0), (1, .int p1), (2, .int p2), (3, .int p3), (4, .int p4), (5, .int 5)] := hl
        refine lv_iload hx hb dX7_readTold_29 (lv_at hl 5 rfl) ?_
        refine lv_bipush (v := 8) hx hb dX7_readTold_31 (by decide) ?_
        refine lv_icmp_ge (tgt := 95) hx hb dX7_readTold_33 (by decide) (fun c_66 => ?_) (fun c_66 => ?_)
        · exact absurd c_66 (by decide)
        refine lv_aload_n hx hb dX7_readTold_36 rfl (lv_at hl 0 rfl) ?_
        refine va_get (D := (dC, dI)) (ci := 7) (v := .ref h0_told) (C := RX7) (T := TX7) (N := 14) hx hb hts hi7 hown hK hP 0 rfl rfl 7 (by decide) (hts (.fieldLink RX7 67 "AskTree" "told" "[I") (by decide +kernel)) (fun _ h9 => h9) rfl dX7_readTold_37 ?_
        refine lv_iload hx hb dX7_readTold_40 (lv_at hl 5 rfl) ?_
        refine va_iald hx hb hK hP 1 0 rfl rfl (vi _ _ (by decide)) dX7_readTold_42 ?_
        refine tvv (v := .int (tm p1 p2 p3 p4 5)) (ci g_5 (k := 5) (by decide) hk_11) ?_
        refine lv_sipush (v := (-1000)) hx hb dX7_readTold_43 (by decide) ?_
        refine lv_icmp_lt (tgt := 66) hx hb dX7_readTold_46 (by decide) (fun c_67 => ?_) (fun c_67 => ?_)
        · skip
          refine lv_iconst (v := 0) hx hb dX7_readTold_66 (by decide) ?_
          refine lv_istore (lv' := [(6, .int 0), (0, .ref h0), (1, .int p1), (2, .int p2), (3, .int p3), (4, .int p4), (5, .int 5)]) hx hb dX7_readTold_67 hl (by decide) rfl (fun ls hl => ?_)
          refine lv_iload hx hb dX7_readTold_69 (lv_at hl 0 rfl) ?_
          refine lv_if_ne (tgt := 89) hx hb dX7_readTold_71 (by decide) (fun c_68 => ?_) (fun c_68 => ?_)
          · exact absurd c_68 (by decide)
          refine lv_aload_n hx hb dX7_readTold_74 rfl (lv_at hl 1 rfl) ?_
          refine va_get (D := (dC, dI)) (ci := 7) (v := .ref h0_told) (C := RX7) (T := TX7) (N := 14) hx hb hts hi7 hown hK hP 0 rfl rfl 7 (by decide) (hts (.fieldLink RX7 67 "AskTree" "told" "[I") (by decide +kernel)) (fun _ h9 => h9) rfl dX7_readTold_75 ?_
          refine lv_iload hx hb dX7_readTold_78 (lv_at hl 6 rfl) ?_
          refine va_iald hx hb hK hP 1 0 rfl rfl (vi _ _ (by decide)) dX7_readTold_80 ?_
          refine tvv (v := .int (tm p1 p2 p3 p4 5)) (ci g_5 (k := 5) (by decide) hk_11) ?_
          refine lv_sipush (v := (-32768)) hx hb dX7_readTold_81 (by decide) ?_
          refine lv_icmp_eq (tgt := 89) hx hb dX7_readTold_84 (by decide) (fun c_69 => ?_) (fun c_69 => ?_)
          · skip
            refine lv_iinc (v := 6) (lv' := [(5, .int 6), (6, .int 0), (0, .ref h0), (1, .int p1), (2, .int p2), (3, .int p3), (4, .int p4)]) hx hb dX7_readTold_89 hl (k := 6) rfl (by decide) (by decide) rfl (fun ls hl => ?_)
            refine lv_goto (tgt := 29) hx hb dX7_readTold_92 (by decide) ?_
            exact ih 6 ls (by omega) (tk_s hI (ok_g c_69)) (lv_sub hl [2, 3, 4, 5, 6, 0] rfl)
          · skip
            refine lv_iconst (v := 0) hx hb dX7_readTold_87 (by decide) ?_
            have ht_70 : ¬ tok p1 p2 p3 p4 := tk_t (no_l c_67 c_69) (by decide)
            have hP9 := hP.sub (ws' := [(h0, .inr (7, [.ref a0_cases, .ref a0_rows, .ref a0_grower, .ref a0_finder, .ref a0_pruner, .ref a0_rules, .ref a0_trees, .ref h0_told, .ref a0_turnedMarks, .ref a0_ballots, .int 0, .int (-1), .int (-1), .int 0])), (h0_told, .inl (k0_told, 8, .inl g_5))]) [0, 1] rfl
            have hD9 := hD.sub (ws' := [(h0, .inr (7, [.ref a0_cases, .ref a0_rows, .ref a0_grower, .ref a0_finder, .ref a0_pruner, .ref a0_rules, .ref a0_trees, .ref h0_told, .ref a0_turnedMarks, .ref a0_ballots, .int 0, .int (-1), .int (-1), .int 0])), (h0_told, .inl (k0_told, 8, .inl g_5))]) [0, 1] (by decide) rfl
            have hK9 := hK.sub (tys' := []) [] rfl
            exact W.zret (v := 0) hx hb hr rfl (fun t ht hW => ⟨⟨0, ([(h0, .inr (7, [.ref a0_cases, .ref a0_rows, .ref a0_grower, .ref a0_finder, .ref a0_pruner, .ref a0_rules, .ref a0_trees, .ref h0_told, .ref a0_turnedMarks, .ref a0_ballots, .int 0, .int (-1), .int (-1), .int 0])), (h0_told, .inl (k0_told, 8, .inl g_5))], []), rfl, (Or.inr ⟨g_5, rfl, ht_70, hk_6, hk_7, hk_8, hk_9, hk_10, hk_11, hk_12, hk_13, rfl⟩), (by rw [ht]; exact hP9), va_K.moved hW.alike hK9, hD9⟩, hS.F ht⟩) hS.2.2 dX7_readTold_88
        · skip
          refine lv_aload_n hx hb dX7_readTold_49 rfl (lv_at hl 0 rfl) ?_
          refine va_get (D := (dC, dI)) (ci := 7) (v := .ref h0_told) (C := RX7) (T := TX7) (N := 14) hx hb hts hi7 hown hK hP 0 rfl rfl 7 (by decide) (hts (.fieldLink RX7 67 "AskTree" "told" "[I") (by decide +kernel)) (fun _ h9 => h9) rfl dX7_readTold_50 ?_
          refine lv_iload hx hb dX7_readTold_53 (lv_at hl 5 rfl) ?_
          refine va_iald hx hb hK hP 1 0 rfl rfl (vi _ _ (by decide)) dX7_readTold_55 ?_
          refine tvv (v := .int (tm p1 p2 p3 p4 5)) (ci g_5 (k := 5) (by decide) hk_11) ?_
          refine lv_sipush (v := 1000) hx hb dX7_readTold_56 (by decide) ?_
          refine lv_icmp_gt (tgt := 66) hx hb dX7_readTold_59 (by decide) (fun c_71 => ?_) (fun c_71 => ?_)
          · skip
            refine lv_iconst (v := 0) hx hb dX7_readTold_66 (by decide) ?_
            refine lv_istore (lv' := [(6, .int 0), (0, .ref h0), (1, .int p1), (2, .int p2), (3, .int p3), (4, .int p4), (5, .int 5)]) hx hb dX7_readTold_67 hl (by decide) rfl (fun ls hl => ?_)
            refine lv_iload hx hb dX7_readTold_69 (lv_at hl 0 rfl) ?_
            refine lv_if_ne (tgt := 89) hx hb dX7_readTold_71 (by decide) (fun c_72 => ?_) (fun c_72 => ?_)
            · exact absurd c_72 (by decide)
            refine lv_aload_n hx hb dX7_readTold_74 rfl (lv_at hl 1 rfl) ?_
            refine va_get (D := (dC, dI)) (ci := 7) (v := .ref h0_told) (C := RX7) (T := TX7) (N := 14) hx hb hts hi7 hown hK hP 0 rfl rfl 7 (by decide) (hts (.fieldLink RX7 67 "AskTree" "told" "[I") (by decide +kernel)) (fun _ h9 => h9) rfl dX7_readTold_75 ?_
            refine lv_iload hx hb dX7_readTold_78 (lv_at hl 6 rfl) ?_
            refine va_iald hx hb hK hP 1 0 rfl rfl (vi _ _ (by decide)) dX7_readTold_80 ?_
            refine tvv (v := .int (tm p1 p2 p3 p4 5)) (ci g_5 (k := 5) (by decide) hk_11) ?_
            refine lv_sipush (v := (-32768)) hx hb dX7_readTold_81 (by decide) ?_
            refine lv_icmp_eq (tgt := 89) hx hb dX7_readTold_84 (by decide) (fun c_73 => ?_) (fun c_73 => ?_)
            · exact False.elim (lf_readTold_6 p1 p2 p3 p4 c_67 c_71 c_73)
            refine lv_iconst (v := 0) hx hb dX7_readTold_87 (by decide) ?_
            have ht_74 : ¬ tok p1 p2 p3 p4 := tk_t (no_H c_71) (by decide)
            have hP9 := hP.sub (ws' := [(h0, .inr (7, [.ref a0_cases, .ref a0_rows, .ref a0_grower, .ref a0_finder, .ref a0_pruner, .ref a0_rules, .ref a0_trees, .ref h0_told, .ref a0_turnedMarks, .ref a0_ballots, .int 0, .int (-1), .int (-1), .int 0])), (h0_told, .inl (k0_told, 8, .inl g_5))]) [0, 1] rfl
            have hD9 := hD.sub (ws' := [(h0, .inr (7, [.ref a0_cases, .ref a0_rows, .ref a0_grower, .ref a0_finder, .ref a0_pruner, .ref a0_rules, .ref a0_trees, .ref h0_told, .ref a0_turnedMarks, .ref a0_ballots, .int 0, .int (-1), .int (-1), .int 0])), (h0_told, .inl (k0_told, 8, .inl g_5))]) [0, 1] (by decide) rfl
            have hK9 := hK.sub (tys' := []) [] rfl
            exact W.zret (v := 0) hx hb hr rfl (fun t ht hW => ⟨⟨0, ([(h0, .inr (7, [.ref a0_cases, .ref a0_rows, .ref a0_grower, .ref a0_finder, .ref a0_pruner, .ref a0_rules, .ref a0_trees, .ref h0_told, .ref a0_turnedMarks, .ref a0_ballots, .int 0, .int (-1), .int (-1), .int 0])), (h0_told, .inl (k0_told, 8, .inl g_5))], []), rfl, (Or.inr ⟨g_5, rfl, ht_74, hk_6, hk_7, hk_8, hk_9, hk_10, hk_11, hk_12, hk_13, rfl⟩), (by rw [ht]; exact hP9), va_K.moved hW.alike hK9, hD9⟩, hS.F ht⟩) hS.2.2 dX7_readTold_88
          · skip
            refine lv_iconst (v := 1) hx hb dX7_readTold_62 (by decide) ?_
            refine lv_goto (tgt := 67) hx hb dX7_readTold_63 (by decide) ?_
            refine lv_istore (lv' := [(6, .int 1), (0, .ref h0), (1, .int p1), (2, .int p2), (3, .int p3), (4, .int p4), (5, .int 5)]) hx hb dX7_readTold_67 hl (by decide) rfl (fun ls hl => ?_)
            refine lv_iload hx hb dX7_readTold_69 (lv_at hl 0 rfl) ?_
            refine lv_if_ne (tgt := 89) hx hb dX7_readTold_71 (by decide) (fun c_75 => ?_) (fun c_75 => ?_)
            rotate_left
            · exact absurd c_75 (by decide)
            refine lv_iinc (v := 6) (lv' := [(5, .int 6), (6, .int 1), (0, .ref h0), (1, .int p1), (2, .int p2), (3, .int p3), (4, .int p4)]) hx hb dX7_readTold_89 hl (k := 6) rfl (by decide) (by decide) rfl (fun ls hl => ?_)
            refine lv_goto (tgt := 29) hx hb dX7_readTold_92 (by decide) ?_
            exact ih 6 ls (by omega) (tk_s hI (ok_n c_67 c_71)) (lv_sub hl [2, 3, 4, 5, 6, 0] rfl)
      · skip
        have hl : lv_has ls 7 [(0, .ref h0), (1, .int p1), (2, .int p2), (3, .int p3), (4, .int p4), (5, .int 6)] := hl
        refine lv_iload hx hb dX7_readTold_29 (lv_at hl 5 rfl) ?_
        refine lv_bipush (v := 8) hx hb dX7_readTold_31 (by decide) ?_
        refine lv_icmp_ge (tgt := 95) hx hb dX7_readTold_33 (by decide) (fun c_76 => ?_) (fun c_76 => ?_)
        · exact absurd c_76 (by decide)
        refine lv_aload_n hx hb dX7_readTold_36 rfl (lv_at hl 0 rfl) ?_
        refine va_get (D := (dC, dI)) (ci := 7) (v := .ref h0_told) (C := RX7) (T := TX7) (N := 14) hx hb hts hi7 hown hK hP 0 rfl rfl 7 (by decide) (hts (.fieldLink RX7 67 "AskTree" "told" "[I") (by decide +kernel)) (fun _ h9 => h9) rfl dX7_readTold_37 ?_
        refine lv_iload hx hb dX7_readTold_40 (lv_at hl 5 rfl) ?_
        refine va_iald hx hb hK hP 1 0 rfl rfl (vi _ _ (by decide)) dX7_readTold_42 ?_
        refine tvv (v := .int (tm p1 p2 p3 p4 6)) (ci g_5 (k := 6) (by decide) hk_12) ?_
        refine lv_sipush (v := (-1000)) hx hb dX7_readTold_43 (by decide) ?_
        refine lv_icmp_lt (tgt := 66) hx hb dX7_readTold_46 (by decide) (fun c_77 => ?_) (fun c_77 => ?_)
        · skip
          refine lv_iconst (v := 0) hx hb dX7_readTold_66 (by decide) ?_
          refine lv_istore (lv' := [(6, .int 0), (0, .ref h0), (1, .int p1), (2, .int p2), (3, .int p3), (4, .int p4), (5, .int 6)]) hx hb dX7_readTold_67 hl (by decide) rfl (fun ls hl => ?_)
          refine lv_iload hx hb dX7_readTold_69 (lv_at hl 0 rfl) ?_
          refine lv_if_ne (tgt := 89) hx hb dX7_readTold_71 (by decide) (fun c_78 => ?_) (fun c_78 => ?_)
          · exact absurd c_78 (by decide)
          refine lv_aload_n hx hb dX7_readTold_74 rfl (lv_at hl 1 rfl) ?_
          refine va_get (D := (dC, dI)) (ci := 7) (v := .ref h0_told) (C := RX7) (T := TX7) (N := 14) hx hb hts hi7 hown hK hP 0 rfl rfl 7 (by decide) (hts (.fieldLink RX7 67 "AskTree" "told" "[I") (by decide +kernel)) (fun _ h9 => h9) rfl dX7_readTold_75 ?_
          refine lv_iload hx hb dX7_readTold_78 (lv_at hl 6 rfl) ?_
          refine va_iald hx hb hK hP 1 0 rfl rfl (vi _ _ (by decide)) dX7_readTold_80 ?_
          refine tvv (v := .int (tm p1 p2 p3 p4 6)) (ci g_5 (k := 6) (by decide) hk_12) ?_
          refine lv_sipush (v := (-32768)) hx hb dX7_readTold_81 (by decide) ?_
          refine lv_icmp_eq (tgt := 89) hx hb dX7_readTold_84 (by decide) (fun c_79 => ?_) (fun c_79 => ?_)
          · skip
            refine lv_iinc (v := 7) (lv' := [(5, .int 7), (6, .int 0), (0, .ref h0), (1, .int p1), (2, .int p2), (3, .int p3), (4, .int p4)]) hx hb dX7_readTold_89 hl (k := 6) rfl (by decide) (by decide) rfl (fun ls hl => ?_)
            refine lv_goto (tgt := 29) hx hb dX7_readTold_92 (by decide) ?_
            exact ih 7 ls (by omega) (tk_s hI (ok_g c_79)) (lv_sub hl [2, 3, 4, 5, 6, 0] rfl)
          · skip
            refine lv_iconst (v := 0) hx hb dX7_readTold_87 (by decide) ?_
            have ht_80 : ¬ tok p1 p2 p3 p4 := tk_t (no_l c_77 c_79) (by decide)
            have hP9 := hP.sub (ws' := [(h0, .inr (7, [.ref a0_cases, .ref a0_rows, .ref a0_grower, .ref a0_finder, .ref a0_pruner, .ref a0_rules, .ref a0_trees, .ref h0_told, .ref a0_turnedMarks, .ref a0_ballots, .int 0, .int (-1), .int (-1), .int 0])), (h0_told, .inl (k0_told, 8, .inl g_5))]) [0, 1] rfl
            have hD9 := hD.sub (ws' := [(h0, .inr (7, [.ref a0_cases, .ref a0_rows, .ref a0_grower, .ref a0_finder, .ref a0_pruner, .ref a0_rules, .ref a0_trees, .ref h0_told, .ref a0_turnedMarks, .ref a0_ballots, .int 0, .int (-1), .int (-1), .int 0])), (h0_told, .inl (k0_told, 8, .inl g_5))]) [0, 1] (by decide) rfl
            have hK9 := hK.sub (tys' := []) [] rfl
            exact W.zret (v := 0) hx hb hr rfl (fun t ht hW => ⟨⟨0, ([(h0, .inr (7, [.ref a0_cases, .ref a0_rows, .ref a0_grower, .ref a0_finder, .ref a0_pruner, .ref a0_rules, .ref a0_trees, .ref h0_told, .ref a0_turnedMarks, .ref a0_ballots, .int 0, .int (-1), .int (-1), .int 0])), (h0_told, .inl (k0_told, 8, .inl g_5))], []), rfl, (Or.inr ⟨g_5, rfl, ht_80, hk_6, hk_7, hk_8, hk_9, hk_10, hk_11, hk_12, hk_13, rfl⟩), (by rw [ht]; exact hP9), va_K.moved hW.alike hK9, hD9⟩, hS.F ht⟩) hS.2.2 dX7_readTold_88
        · skip
          refine lv_aload_n hx hb dX7_readTold_49 rfl (lv_at hl 0 rfl) ?_
          refine va_get (D := (dC, dI)) (ci := 7) (v := .ref h0_told) (C := RX7) (T := TX7) (N := 14) hx hb hts hi7 hown hK hP 0 rfl rfl 7 (by decide) (hts (.fieldLink RX7 67 "AskTree" "told" "[I") (by decide +kernel)) (fun _ h9 => h9) rfl dX7_readTold_50 ?_
          refine lv_iload hx hb dX7_readTold_53 (lv_at hl 5 rfl) ?_
          refine va_iald hx hb hK hP 1 0 rfl rfl (vi _ _ (by decide)) dX7_readTold_55 ?_
          refine tvv (v := .int (tm p1 p2 p3 p4 6)) (ci g_5 (k := 6) (by decide) hk_12) ?_
          refine lv_sipush (v := 1000) hx hb dX7_readTold_56 (by decide) ?_
          refine lv_icmp_gt (tgt := 66) hx hb dX7_readTold_59 (by decide) (fun c_81 => ?_) (fun c_81 => ?_)
          · skip
            refine lv_iconst (v := 0) hx hb dX7_readTold_66 (by decide) ?_
            refine lv_istore (lv' := [(6, .int 0), (0, .ref h0), (1, .int p1), (2, .int p2), (3, .int p3), (4, .int p4), (5, .int 6)]) hx hb dX7_readTold_67 hl (by decide) rfl (fun ls hl => ?_)
            refine lv_iload hx hb dX7_readTold_69 (lv_at hl 0 rfl) ?_
            refine lv_if_ne (tgt := 89) hx hb dX7_readTold_71 (by decide) (fun c_82 => ?_) (fun c_82 => ?_)
            · exact absurd c_82 (by decide)
            refine lv_aload_n hx hb dX7_readTold_74 rfl (lv_at hl 1 rfl) ?_
            refine va_get (D := (dC, dI)) (ci := 7) (v := .ref h0_told) (C := RX7) (T := TX7) (N := 14) hx hb hts hi7 hown hK hP 0 rfl rfl 7 (by decide) (hts (.fieldLink RX7 67 "AskTree" "told" "[I") (by decide +kernel)) (fun _ h9 => h9) rfl dX7_readTold_75 ?_
            refine lv_iload hx hb dX7_readTold_78 (lv_at hl 6 rfl) ?_
            refine va_iald hx hb hK hP 1 0 rfl rfl (vi _ _ (by decide)) dX7_readTold_80 ?_
            refine tvv (v := .int (tm p1 p2 p3 p4 6)) (ci g_5 (k := 6) (by decide) hk_12) ?_
            refine lv_sipush (v := (-32768)) hx hb dX7_readTold_81 (by decide) ?_
            refine lv_icmp_eq (tgt := 89) hx hb dX7_readTold_84 (by decide) (fun c_83 => ?_) (fun c_83 => ?_)
            · exact False.elim (lf_readTold_7 p1 p2 p3 p4 c_77 c_81 c_83)
            refine lv_iconst (v := 0) hx hb dX7_readTold_87 (by decide) ?_
            have ht_84 : ¬ tok p1 p2 p3 p4 := tk_t (no_H c_81) (by decide)
            have hP9 := hP.sub (ws' := [(h0, .inr (7, [.ref a0_cases, .ref a0_rows, .ref a0_grower, .ref a0_finder, .ref a0_pruner, .ref a0_rules, .ref a0_trees, .ref h0_told, .ref a0_turnedMarks, .ref a0_ballots, .int 0, .int (-1), .int (-1), .int 0])), (h0_told, .inl (k0_told, 8, .inl g_5))]) [0, 1] rfl
            have hD9 := hD.sub (ws' := [(h0, .inr (7, [.ref a0_cases, .ref a0_rows, .ref a0_grower, .ref a0_finder, .ref a0_pruner, .ref a0_rules, .ref a0_trees, .ref h0_told, .ref a0_turnedMarks, .ref a0_ballots, .int 0, .int (-1), .int (-1), .int 0])), (h0_told, .inl (k0_told, 8, .inl g_5))]) [0, 1] (by decide) rfl
            have hK9 := hK.sub (tys' := []) [] rfl
            exact W.zret (v := 0) hx hb hr rfl (fun t ht hW => ⟨⟨0, ([(h0, .inr (7, [.ref a0_cases, .ref a0_rows, .ref a0_grower, .ref a0_finder, .ref a0_pruner, .ref a0_rules, .ref a0_trees, .ref h0_told, .ref a0_turnedMarks, .ref a0_ballots, .int 0, .int (-1), .int (-1), .int 0])), (h0_told, .inl (k0_told, 8, .inl g_5))], []), rfl, (Or.inr ⟨g_5, rfl, ht_84, hk_6, hk_7, hk_8, hk_9, hk_10, hk_11, hk_12, hk_13, rfl⟩), (by rw [ht]; exact hP9), va_K.moved hW.alike hK9, hD9⟩, hS.F ht⟩) hS.2.2 dX7_readTold_88
          · skip
            refine lv_iconst (v := 1) hx hb dX7_readTold_62 (by decide) ?_
            refine lv_goto (tgt := 67) hx hb dX7_readTold_63 (by decide) ?_
            refine lv_istore (lv' := [(6, .int 1), (0, .ref h0), (1, .int p1), (2, .int p2), (3, .int p3), (4, .int p4), (5, .int 6)]) hx hb dX7_readTold_67 hl (by decide) rfl (fun ls hl => ?_)
            refine lv_iload hx hb dX7_readTold_69 (lv_at hl 0 rfl) ?_
            refine lv_if_ne (tgt := 89) hx hb dX7_readTold_71 (by decide) (fun c_85 => ?_) (fun c_85 => ?_)
            rotate_left
            · exact absurd c_85 (by decide)
            refine lv_iinc (v := 7) (lv' := [(5, .int 7), (6, .int 1), (0, .ref h0), (1, .int p1), (2, .int p2), (3, .int p3), (4, .int p4)]) hx hb dX7_readTold_89 hl (k := 6) rfl (by decide) (by decide) rfl (fun ls hl => ?_)
            refine lv_goto (tgt := 29) hx hb dX7_readTold_92 (by decide) ?_
            exact ih 7 ls (by omega) (tk_s hI (ok_n c_77 c_81)) (lv_sub hl [2, 3, 4, 5, 6, 0] rfl)
      · skip
        have hl : lv_has ls 7 [(0, .ref h0), (1, .int p1), (2, .int p2), (3, .int p3), (4, .int p4), (5, .int 7)] := hl
        refine lv_iload hx hb dX7_readTold_29 (lv_at hl 5 rfl) ?_
        refine lv_bipush (v := 8) hx hb dX7_readTold_31 (by decide) ?_
        refine lv_icmp_ge (tgt := 95) hx hb dX7_readTold_33 (by decide) (fun c_86 => ?_) (fun c_86 => ?_)
        · exact absurd c_86 (by decide)
        refine lv_aload_n hx hb dX7_readTold_36 rfl (lv_at hl 0 rfl) ?_
        refine va_get (D := (dC, dI)) (ci := 7) (v := .ref h0_told) (C := RX7) (T := TX7) (N := 14) hx hb hts hi7 hown hK hP 0 rfl rfl 7 (by decide) (hts (.fieldLink RX7 67 "AskTree" "told" "[I") (by decide +kernel)) (fun _ h9 => h9) rfl dX7_readTold_37 ?_
        refine lv_iload hx hb dX7_readTold_40 (lv_at hl 5 rfl) ?_
        refine va_iald hx hb hK hP 1 0 rfl rfl (vi _ _ (by decide)) dX7_readTold_42 ?_
        refine tvv (v := .int (tm p1 p2 p3 p4 7)) (ci g_5 (k := 7) (by decide) hk_13) ?_
        refine lv_sipush (v := (-1000)) hx hb dX7_readTold_43 (by decide) ?_
        refine lv_icmp_lt (tgt := 66) hx hb dX7_readTold_46 (by decide) (fun c_87 => ?_) (fun c_87 => ?_)
        · skip
          refine lv_iconst (v := 0) hx hb dX7_readTold_66 (by decide) ?_
          refine lv_istore (lv' := [(6, .int 0), (0, .ref h0), (1, .int p1), (2, .int p2), (3, .int p3), (4, .int p4), (5, .int 7)]) hx hb dX7_readTold_67 hl (by decide) rfl (fun ls hl => ?_)
          refine lv_iload hx hb dX7_readTold_69 (lv_at hl 0 rfl) ?_
          refine lv_if_ne (tgt := 89) hx hb dX7_readTold_71 (by decide) (fun c_88 => ?_) (fun c_88 => ?_)
          · exact absurd c_88 (by decide)
          refine lv_aload_n hx hb dX7_readTold_74 rfl (lv_at hl 1 rfl) ?_
          refine va_get (D := (dC, dI)) (ci := 7) (v := .ref h0_told) (C := RX7) (T := TX7) (N := 14) hx hb hts hi7 hown hK hP 0 rfl rfl 7 (by decide) (hts (.fieldLink RX7 67 "AskTree" "told" "[I") (by decide +kernel)) (fun _ h9 => h9) rfl dX7_readTold_75 ?_
          refine lv_iload hx hb dX7_readTold_78 (lv_at hl 6 rfl) ?_
          refine va_iald hx hb hK hP 1 0 rfl rfl (vi _ _ (by decide)) dX7_readTold_80 ?_
          refine tvv (v := .int (tm p1 p2 p3 p4 7)) (ci g_5 (k := 7) (by decide) hk_13) ?_
          refine lv_sipush (v := (-32768)) hx hb dX7_readTold_81 (by decide) ?_
          refine lv_icmp_eq (tgt := 89) hx hb dX7_readTold_84 (by decide) (fun c_89 => ?_) (fun c_89 => ?_)
          · skip
            refine lv_iinc (v := 8) (lv' := [(5, .int 8), (6, .int 0), (0, .ref h0), (1, .int p1), (2, .int p2), (3, .int p3), (4, .int p4)]) hx hb dX7_readTold_89 hl (k := 6) rfl (by decide) (by decide) rfl (fun ls hl => ?_)
            refine lv_goto (tgt := 29) hx hb dX7_readTold_92 (by decide) ?_
            exact ih 8 ls (by omega) (tk_s hI (ok_g c_89)) (lv_sub hl [2, 3, 4, 5, 6, 0] rfl)
          · skip
            refine lv_iconst (v := 0) hx hb dX7_readTold_87 (by decide) ?_
            have ht_90 : ¬ tok p1 p2 p3 p4 := tk_t (no_l c_87 c_89) (by decide)
            have hP9 := hP.sub (ws' := [(h0, .inr (7, [.ref a0_cases, .ref a0_rows, .ref a0_grower, .ref a0_finder, .ref a0_pruner, .ref a0_rules, .ref a0_trees, .ref h0_told, .ref a0_turnedMarks, .ref a0_ballots, .int 0, .int (-1), .int (-1), .int 0])), (h0_told, .inl (k0_told, 8, .inl g_5))]) [0, 1] rfl
            have hD9 := hD.sub (ws' := [(h0, .inr (7, [.ref a0_cases, .ref a0_rows, .ref a0_grower, .ref a0_finder, .ref a0_pruner, .ref a0_rules, .ref a0_trees, .ref h0_told, .ref a0_turnedMarks, .ref a0_ballots, .int 0, .int (-1), .int (-1), .int 0])), (h0_told, .inl (k0_told, 8, .inl g_5))]) [0, 1] (by decide) rfl
            have hK9 := hK.sub (tys' := []) [] rfl
            exact W.zret (v := 0) hx hb hr rfl (fun t ht hW => ⟨⟨0, ([(h0, .inr (7, [.ref a0_cases, .ref a0_rows, .ref a0_grower, .ref a0_finder, .ref a0_pruner, .ref a0_rules, .ref a0_trees, .ref h0_told, .ref a0_turnedMarks, .ref a0_ballots, .int 0, .int (-1), .int (-1), .int 0])), (h0_told, .inl (k0_told, 8, .inl g_5))], []), rfl, (Or.inr ⟨g_5, rfl, ht_90, hk_6, hk_7, hk_8, hk_9, hk_10, hk_11, hk_12, hk_13, rfl⟩), (by rw [ht]; exact hP9), va_K.moved hW.alike hK9, hD9⟩, hS.F ht⟩) hS.2.2 dX7_readTold_88
        · skip
          refine lv_aload_n hx hb dX7_readTold_49 rfl (lv_at hl 0 rfl) ?_
          refine va_get (D := (dC, dI)) (ci := 7) (v := .ref h0_told) (C := RX7) (T := TX7) (N := 14) hx hb hts hi7 hown hK hP 0 rfl rfl 7 (by decide) (hts (.fieldLink RX7 67 "AskTree" "told" "[I") (by decide +kernel)) (fun _ h9 => h9) rfl dX7_readTold_50 ?_
          refine lv_iload hx hb dX7_readTold_53 (lv_at hl 5 rfl) ?_
          refine va_iald hx hb hK hP 1 0 rfl rfl (vi _ _ (by decide)) dX7_readTold_55 ?_
          refine tvv (v := .int (tm p1 p2 p3 p4 7)) (ci g_5 (k := 7) (by decide) hk_13) ?_
          refine lv_sipush (v := 1000) hx hb dX7_readTold_56 (by decide) ?_
          refine lv_icmp_gt (tgt := 66) hx hb dX7_readTold_59 (by decide) (fun c_91 => ?_) (fun c_91 => ?_)
          · skip
            refine lv_iconst (v := 0) hx hb dX7_readTold_66 (by decide) ?_
            refine lv_istore (lv' := [(6, .int 0), (0, .ref h0), (1, .int p1), (2, .int p2), (3, .int p3), (4, .int p4), (5, .int 7)]) hx hb dX7_readTold_67 hl (by decide) rfl (fun ls hl => ?_)
            refine lv_iload hx hb dX7_readTold_69 (lv_at hl 0 rfl) ?_
            refine lv_if_ne (tgt := 89) hx hb dX7_readTold_71 (by decide) (fun c_92 => ?_) (fun c_92 => ?_)
            · exact absurd c_92 (by decide)
            refine lv_aload_n hx hb dX7_readTold_74 rfl (lv_at hl 1 rfl) ?_
            refine va_get (D := (dC, dI)) (ci := 7) (v := .ref h0_told) (C := RX7) (T := TX7) (N := 14) hx hb hts hi7 hown hK hP 0 rfl rfl 7 (by decide) (hts (.fieldLink RX7 67 "AskTree" "told" "[I") (by decide +kernel)) (fun _ h9 => h9) rfl dX7_readTold_75 ?_
            refine lv_iload hx hb dX7_readTold_78 (lv_at hl 6 rfl) ?_
            refine va_iald hx hb hK hP 1 0 rfl rfl (vi _ _ (by decide)) dX7_readTold_80 ?_
            refine tvv (v := .int (tm p1 p2 p3 p4 7)) (ci g_5 (k := 7) (by decide) hk_13) ?_
            refine lv_sipush (v := (-32768)) hx hb dX7_readTold_81 (by decide) ?_
            refine lv_icmp_eq (tgt := 89) hx hb dX7_readTold_84 (by decide) (fun c_93 => ?_) (fun c_93 => ?_)
            · exact False.elim (lf_readTold_8 p1 p2 p3 p4 c_87 c_91 c_93)
            refine lv_iconst (v := 0) hx hb dX7_readTold_87 (by decide) ?_
            have ht_94 : ¬ tok p1 p2 p3 p4 := tk_t (no_H c_91) (by decide)
            have hP9 := hP.sub (ws' := [(h0, .inr (7, [.ref a0_cases, .ref a0_rows, .ref a0_grower, .ref a0_finder, .ref a0_pruner, .ref a0_rules, .ref a0_trees, .ref h0_told, .ref a0_turnedMarks, .ref a0_ballots, .int 0, .int (-1), .int (-1), .int 0])), (h0_told, .inl (k0_told, 8, .inl g_5))]) [0, 1] rfl
            have hD9 := hD.sub (ws' := [(h0, .inr (7, [.ref a0_cases, .ref a0_rows, .ref a0_grower, .ref a0_finder, .ref a0_pruner, .ref a0_rules, .ref a0_trees, .ref h0_told, .ref a0_turnedMarks, .ref a0_ballots, .int 0, .int (-1), .int (-1), .int 0])), (h0_told, .inl (k0_told, 8, .inl g_5))]) [0, 1] (by decide) rfl
            have hK9 := hK.sub (tys' := []) [] rfl
            exact W.zret (v := 0) hx hb hr rfl (fun t ht hW => ⟨⟨0, ([(h0, .inr (7, [.ref a0_cases, .ref a0_rows, .ref a0_grower, .ref a0_finder, .ref a0_pruner, .ref a0_rules, .ref a0_trees, .ref h0_told, .ref a0_turnedMarks, .ref a0_ballots, .int 0, .int (-1), .int (-1), .int 0])), (h0_told, .inl (k0_told, 8, .inl g_5))], []), rfl, (Or.inr ⟨g_5, rfl, ht_94, hk_6, hk_7, hk_8, hk_9, hk_10, hk_11, hk_12, hk_13, rfl⟩), (by rw [ht]; exact hP9), va_K.moved hW.alike hK9, hD9⟩, hS.F ht⟩) hS.2.2 dX7_readTold_88
          · skip
            refine lv_iconst (v := 1) hx hb dX7_readTold_62 (by decide) ?_
            refine lv_goto (tgt := 67) hx hb dX7_readTold_63 (by decide) ?_
            refine lv_istore (lv' := [(6, .int 1), (0, .ref h0), (1, .int p1), (2, .int p2), (3, .int p3), (4, .int p4), (5, .int 7)]) hx hb dX7_readTold_67 hl (by decide) rfl (fun ls hl => ?_)
            refine lv_iload hx hb dX7_readTold_69 (lv_at hl 0 rfl) ?_
            refine lv_if_ne (tgt := 89) hx hb dX7_readTold_71 (by decide) (fun c_95 => ?_) (fun c_95 => ?_)
            rotate_left
            · exact absurd c_95 (by decide)
            refine lv_iinc (v := 8) (lv' := [(5, .int 8), (6, .int 1), (0, .ref h0), (1, .int p1), (2, .int p2), (3, .int p3), (4, .int p4)]) hx hb dX7_readTold_89 hl (k := 6) rfl (by decide) (by decide) rfl (fun ls hl => ?_)
            refine lv_goto (tgt := 29) hx hb dX7_readTold_92 (by decide) ?_
            exact ih 8 ls (by omega) (tk_s hI (ok_n c_87 c_91)) (lv_sub hl [2, 3, 4, 5, 6, 0] rfl)
  exact key 8 0 ls rfl (tk_0 p1 p2 p3 p4) (lv_sub hl [1, 2, 3, 4, 5, 0] rfl)

set_option maxHeartbeats 4000000 in
set_option maxRecDepth 100000 in
theorem c_putInOrder0 (l : Launch) (dC : Nat → ClassId) (dI : Nat → Nat → Nat) (sz : Nat) (h0 : Nat) (p2 : Int32) (h0_order : Nat) (a0_kinds : Nat) (a0_classes : Nat) (a0_marks : Nat) (k0_order : ClassId) (f0_order : Nat → Int32)   : Met l yX0_putInOrder wsX0_putInOrder ({ frames := 1, cells := 0, slots := 0, locals := 60 }) (va_Pc [.ref h0, .int 0, .int p2] (pw (dC, dI) [(k0_order, .int)] [(h0, .inr (0, [.ref a0_kinds, .ref a0_classes, .ref a0_marks, .ref h0_order, .int 0])), (h0_order, .inl (k0_order, 2400, .inl f0_order))] sz)) (va_Qv (fun (u : vu) => (∃ (f_3 : Nat → Int32), u = ([(h0, .inr (0, [.ref a0_kinds, .ref a0_classes, .ref a0_marks, .ref h0_order, .int 0])), (h0_order, .inl (k0_order, 2400, .inl f_3))], []) ∧ f_3 0 = 0)) (fun u t => qw (dC, dI) u.2 (va_A [(h0, .inr (0, [.ref a0_kinds, .ref a0_classes, .ref a0_marks, .ref h0_order, .int 0])), (h0_order, .inl (k0_order, 2400, .inl f0_order))] sz) u.1 t) (va_A [(h0, .inr (0, [.ref a0_kinds, .ref a0_classes, .ref a0_marks, .ref h0_order, .int 0])), (h0_order, .inl (k0_order, 2400, .inl f0_order))] sz)) 0 0 (va_A [(h0, .inr (0, [.ref a0_kinds, .ref a0_classes, .ref a0_marks, .ref h0_order, .int 0])), (h0_order, .inl (k0_order, 2400, .inl f0_order))] sz) := by
  refine Met.ofW (cc := cX0_putInOrder) (maxL := 5) (ret := none) (by decide) rfl ?_
  intro p e s m args below meth c s₁ B hml hv
  obtain ⟨rfl, hsz, hP, hK, hD0, hN⟩ := hv
  have hx := B.exec
  have hb := B.bytes
  have hr := B.returns
  have hts := atoms_spec (ws := wsX0_putInOrder) B.pre
  have hown : s.vm.findClass RX0 = some m.cls := findClass_of_methodNamed B.named
  have hlocks := B.notSynchronized
  have hi0 : ∀ w ∈ u_ws RX0 TX0 5, w ∈ wsX0_putInOrder := fun _ h => List.mem_cons_of_mem _ (List.mem_append_right _ h)
  subst hsz
  have hD := hD0.self (sz := s.heap.size)
  generalize hAe : va_A [(h0, .inr (0, [.ref a0_kinds, .ref a0_classes, .ref a0_marks, .ref h0_order, .int 0])), (h0_order, .inl (k0_order, 2400, .inl f0_order))] s.heap.size = A at hD ⊢
  have hA : ∀ q : Nat, s.heap.size ≤ q → A q := fun q h => by rw [← hAe]; exact Or.inr h
  have hS : va_S A s.heap s.heap [] := va_S.rf
  have hl := lv_entry ([.ref h0, .int 0, .int p2]) (n := 5) (Nat.le_of_ble_eq_true rfl)
  rw [lg_entry_eq]
  generalize (lg_sl ([.ref h0, .int 0, .int p2]) ++ List.replicate (5 - (lg_sl ([.ref h0, .int 0, .int p2])).length) Slot.unset).toArray = ls at hl ⊢
  have hl : lv_has ls 5 [(0, .ref h0), (1, .int 0), (2, .int p2)] := hl
  have hP : va_P (dC, dI) vwCl [(h0, .inr (0, [.ref a0_kinds, .ref a0_classes, .ref a0_marks, .ref h0_order, .int 0])), (h0_order, .inl (k0_order, 2400, .inl f0_order))] s.heap := hP
  refine lv_iload_n hx hb dX0_putInOrder_0 rfl (lv_at hl 1 rfl) ?_
  refine lv_sipush (v := 300) hx hb dX0_putInOrder_1 (by decide) ?_
  refine lv_imul hx hb dX0_putInOrder_4 ?_
  refine tvv (v := .int 0) (congrArg Value.int (by decide)) ?_
  refine lv_istore_n (lv' := [(3, .int 0), (0, .ref h0), (1, .int 0), (2, .int p2)]) hx hb dX0_putInOrder_5 rfl hl (by decide) rfl (fun ls hl => ?_)
  refine lv_iload_n hx hb dX0_putInOrder_6 rfl (lv_at hl 0 rfl) ?_
  refine lv_aload_n hx hb dX0_putInOrder_7 rfl (lv_at hl 1 rfl) ?_
  refine va_get (D := (dC, dI)) (ci := 0) (v := .int 0) (C := RX0) (T := TX0) (N := 5) hx hb hts hi0 hown hK hP 0 rfl rfl 4 (by decide) (hts (.fieldLink RX0 24 "AskTree$Cases" "size" "I") (by decide +kernel)) (fun _ h9 => h9) rfl dX0_putInOrder_8 ?_
  refine lv_iadd hx hb dX0_putInOrder_11 ?_
  refine tvv (v := .int 0) (congrArg Value.int (by decide)) ?_
  refine lv_istore (lv' := [(4, .int 0), (3, .int 0), (0, .ref h0), (1, .int 0), (2, .int p2)]) hx hb dX0_putInOrder_12 hl (by decide) rfl (fun ls hl => ?_)
  refine lv_iload hx hb dX0_putInOrder_14 (lv_at hl 0 rfl) ?_
  refine lv_iload_n hx hb dX0_putInOrder_16 rfl (lv_at hl 1 rfl) ?_
  refine lv_icmp_le (tgt := 49) hx hb dX0_putInOrder_17 (by decide) (fun c_1 => ?_) (fun c_1 => ?_)
  rotate_left
  · exact absurd c_1 (by decide)
  refine lv_aload_n hx hb dX0_putInOrder_49 rfl (lv_at hl 2 rfl) ?_
  refine va_get (D := (dC, dI)) (ci := 0) (v := .ref h0_order) (C := RX0) (T := TX0) (N := 5) hx hb hts hi0 hown hK hP 0 rfl rfl 3 (by decide) (hts (.fieldLink RX0 21 "AskTree$Cases" "order" "[I") (by decide +kernel)) (fun _ h9 => h9) rfl dX0_putInOrder_50 ?_
  refine lv_iload hx hb dX0_putInOrder_53 (lv_at hl 0 rfl) ?_
  refine lv_aload_n hx hb dX0_putInOrder_55 rfl (lv_at hl 2 rfl) ?_
  refine va_get (D := (dC, dI)) (ci := 0) (v := .ref h0_order) (C := RX0) (T := TX0) (N := 5) hx hb hts hi0 hown hK hP 0 rfl rfl 3 (by decide) (hts (.fieldLink RX0 21 "AskTree$Cases" "order" "[I") (by decide +kernel)) (fun _ h9 => h9) rfl dX0_putInOrder_56 ?_
  refine lv_iload hx hb dX0_putInOrder_59 (lv_at hl 0 rfl) ?_
  refine lv_iconst (v := 1) hx hb dX0_putInOrder_61 (by decide) ?_
  refine lv_iadd hx hb dX0_putInOrder_62 ?_
  refine tvv (v := .int 1) (congrArg Value.int (by decide)) ?_
  refine lv_iload_n hx hb dX0_putInOrder_63 rfl (lv_at hl 1 rfl) ?_
  refine lv_aload_n hx hb dX0_putInOrder_64 rfl (lv_at hl 2 rfl) ?_
  refine va_get (D := (dC, dI)) (ci := 0) (v := .int 0) (C := RX0) (T := TX0) (N := 5) hx hb hts hi0 hown hK hP 0 rfl rfl 4 (by decide) (hts (.fieldLink RX0 24 "AskTree$Cases" "size" "I") (by decide +kernel)) (fun _ h9 => h9) rfl dX0_putInOrder_65 ?_
  refine lv_iadd hx hb dX0_putInOrder_68 ?_
  refine tvv (v := .int 0) (congrArg Value.int (by decide)) ?_
  refine lv_iload hx hb dX0_putInOrder_69 (lv_at hl 0 rfl) ?_
  refine lv_isub hx hb dX0_putInOrder_71 ?_
  refine tvv (v := .int 0) (congrArg Value.int (by decide)) ?_
  refine va_copyi (ty := .int) hx hb (by rw [hml]; exact hl.1.symm) hown (hts (.methodLink RX0 32 arraycopyName) (by decide +kernel)) (hts (.native arraycopyName) (by decide +kernel)) (hts (.static arraycopyName) (by decide +kernel)) (hts (.initialized "java/lang/System") (by decide +kernel)) hK hP hD hS 1 1 0 0 rfl rfl rfl rfl rfl (by decide) (by decide) (by decide) (by decide) (by decide) (fun _ _ => rfl) (Nat.le_of_ble_eq_true rfl) (Nat.le_of_ble_eq_true rfl) dX0_putInOrder_72 (fun H locs hP hD hS => ?_)
  have hP : va_P (dC, dI) vwCl [(h0, .inr (0, [.ref a0_kinds, .ref a0_classes, .ref a0_marks, .ref h0_order, .int 0])), (h0_order, .inl (k0_order, 2400, .inl (va_cpy f0_order f0_order (Int32.toNatClampNeg 0) (Int32.toNatClampNeg 1) (Int32.toNatClampNeg 0))))] H := hP
  have hD : va_D A [(h0, .inr (0, [.ref a0_kinds, .ref a0_classes, .ref a0_marks, .ref h0_order, .int 0])), (h0_order, .inl (k0_order, 2400, .inl (va_cpy f0_order f0_order (Int32.toNatClampNeg 0) (Int32.toNatClampNeg 1) (Int32.toNatClampNeg 0))))] := hD
  generalize va_cpy f0_order f0_order (Int32.toNatClampNeg 0) (Int32.toNatClampNeg 1) (Int32.toNatClampNeg 0) = f_2 at hP hD
  refine lv_aload_n hx hb dX0_putInOrder_75 rfl (lv_at hl 2 rfl) ?_
  refine va_get (D := (dC, dI)) (ci := 0) (v := .ref h0_order) (C := RX0) (T := TX0) (N := 5) hx hb hts hi0 hown hK hP 0 rfl rfl 3 (by decide) (hts (.fieldLink RX0 21 "AskTree$Cases" "order" "[I") (by decide +kernel)) (fun _ h9 => h9) rfl dX0_putInOrder_76 ?_
  refine lv_iload hx hb dX0_putInOrder_79 (lv_at hl 0 rfl) ?_
  refine lv_aload_n hx hb dX0_putInOrder_81 rfl (lv_at hl 2 rfl) ?_
  refine va_get (D := (dC, dI)) (ci := 0) (v := .int 0) (C := RX0) (T := TX0) (N := 5) hx hb hts hi0 hown hK hP 0 rfl rfl 4 (by decide) (hts (.fieldLink RX0 24 "AskTree$Cases" "size" "I") (by decide +kernel)) (fun _ h9 => h9) rfl dX0_putInOrder_82 ?_
  refine va_iast hx hb hK hP hD hS 1 0 rfl rfl (vi _ _ (by decide)) dX0_putInOrder_85 (fun H locs hP hD hS => ?_)
  have hP : va_P (dC, dI) vwCl [(h0, .inr (0, [.ref a0_kinds, .ref a0_classes, .ref a0_marks, .ref h0_order, .int 0])), (h0_order, .inl (k0_order, 2400, .inl (upd f_2 (Int32.toNatClampNeg 0) 0)))] H := hP
  have hD : va_D A [(h0, .inr (0, [.ref a0_kinds, .ref a0_classes, .ref a0_marks, .ref h0_order, .int 0])), (h0_order, .inl (k0_order, 2400, .inl (upd f_2 (Int32.toNatClampNeg 0) 0)))] := hD
  generalize hf_4 : upd f_2 (Int32.toNatClampNeg 0) 0 = f_3 at hP hD
  have hk_5 : f_3 0 = 0 := by rw [← hf_4]; exact up_s (by decide)
  clear hf_4
  have hP9 := hP.sub (ws' := [(h0, .inr (0, [.ref a0_kinds, .ref a0_classes, .ref a0_marks, .ref h0_order, .int 0])), (h0_order, .inl (k0_order, 2400, .inl f_3))]) [0, 1] rfl
  have hD9 := hD.sub (ws' := [(h0, .inr (0, [.ref a0_kinds, .ref a0_classes, .ref a0_marks, .ref h0_order, .int 0])), (h0_order, .inl (k0_order, 2400, .inl f_3))]) [0, 1] (by decide) rfl
  have hK9 := hK.sub (tys' := []) [] rfl
  exact W.vret hx hb hr (fun t ht hW => ⟨⟨([(h0, .inr (0, [.ref a0_kinds, .ref a0_classes, .ref a0_marks, .ref h0_order, .int 0])), (h0_order, .inl (k0_order, 2400, .inl f_3))], []), rfl, ⟨f_3, rfl, hk_5⟩, (by rw [ht]; exact hP9), va_K.moved hW.alike hK9, hD9⟩, hS.F ht⟩) hS.2.2 dX0_putInOrder_86

set_option maxHeartbeats 4000000 in
set_option maxRecDepth 100000 in
theorem c_putInOrder1 (l : Launch) (dC : Nat → ClassId) (dI : Nat → Nat → Nat) (sz : Nat) (h0 : Nat) (p2 : Int32) (h0_order : Nat) (a0_kinds : Nat) (a0_classes : Nat) (a0_marks : Nat) (k0_order : ClassId) (f0_order : Nat → Int32)   : Met l yX0_putInOrder wsX0_putInOrder ({ frames := 1, cells := 0, slots := 0, locals := 60 }) (va_Pc [.ref h0, .int 1, .int p2] (pw (dC, dI) [(k0_order, .int)] [(h0, .inr (0, [.ref a0_kinds, .ref a0_classes, .ref a0_marks, .ref h0_order, .int 0])), (h0_order, .inl (k0_order, 2400, .inl f0_order))] sz)) (va_Qv (fun (u : vu) => (∃ (f_3 : Nat → Int32), u = ([(h0, .inr (0, [.ref a0_kinds, .ref a0_classes, .ref a0_marks, .ref h0_order, .int 0])), (h0_order, .inl (k0_order, 2400, .inl f_3))], []) ∧ f_3 300 = 0)) (fun u t => qw (dC, dI) u.2 (va_A [(h0, .inr (0, [.ref a0_kinds, .ref a0_classes, .ref a0_marks, .ref h0_order, .int 0])), (h0_order, .inl (k0_order, 2400, .inl f0_order))] sz) u.1 t) (va_A [(h0, .inr (0, [.ref a0_kinds, .ref a0_classes, .ref a0_marks, .ref h0_order, .int 0])), (h0_order, .inl (k0_order, 2400, .inl f0_order))] sz)) 0 0 (va_A [(h0, .inr (0, [.ref a0_kinds, .ref a0_classes, .ref a0_marks, .ref h0_order, .int 0])), (h0_order, .inl (k0_order, 2400, .inl f0_order))] sz) := by
  refine Met.ofW (cc := cX0_putInOrder) (maxL := 5) (ret := none) (by decide) rfl ?_
  intro p e s m args below meth c s₁ B hml hv
  obtain ⟨rfl, hsz, hP, hK, hD0, hN⟩ := hv
  have hx := B.exec
  have hb := B.bytes
  have hr := B.returns
  have hts := atoms_spec (ws := wsX0_putInOrder) B.pre
  have hown : s.vm.findClass RX0 = some m.cls := findClass_of_methodNamed B.named
  have hlocks := B.notSynchronized
  have hi0 : ∀ w ∈ u_ws RX0 TX0 5, w ∈ wsX0_putInOrder := fun _ h => List.mem_cons_of_mem _ (List.mem_append_right _ h)
  subst hsz
  have hD := hD0.self (sz := s.heap.size)
  generalize hAe : va_A [(h0, .inr (0, [.ref a0_kinds, .ref a0_classes, .ref a0_marks, .ref h0_order, .int 0])), (h0_order, .inl (k0_order, 2400, .inl f0_order))] s.heap.size = A at hD ⊢
  have hA : ∀ q : Nat, s.heap.size ≤ q → A q := fun q h => by rw [← hAe]; exact Or.inr h
  have hS : va_S A s.heap s.heap [] := va_S.rf
  have hl := lv_entry ([.ref h0, .int 1, .int p2]) (n := 5) (Nat.le_of_ble_eq_true rfl)
  rw [lg_entry_eq]
  generalize (lg_sl ([.ref h0, .int 1, .int p2]) ++ List.replicate (5 - (lg_sl ([.ref h0, .int 1, .int p2])).length) Slot.unset).toArray = ls at hl ⊢
  have hl : lv_has ls 5 [(0, .ref h0), (1, .int 1), (2, .int p2)] := hl
  have hP : va_P (dC, dI) vwCl [(h0, .inr (0, [.ref a0_kinds, .ref a0_classes, .ref a0_marks, .ref h0_order, .int 0])), (h0_order, .inl (k0_order, 2400, .inl f0_order))] s.heap := hP
  refine lv_iload_n hx hb dX0_putInOrder_0 rfl (lv_at hl 1 rfl) ?_
  refine lv_sipush (v := 300) hx hb dX0_putInOrder_1 (by decide) ?_
  refine lv_imul hx hb dX0_putInOrder_4 ?_
  refine tvv (v := .int 300) (congrArg Value.int (by decide)) ?_
  refine lv_istore_n (lv' := [(3, .int 300), (0, .ref h0), (1, .int 1), (2, .int p2)]) hx hb dX0_putInOrder_5 rfl hl (by decide) rfl (fun ls hl => ?_)
  refine lv_iload_n hx hb dX0_putInOrder_6 rfl (lv_at hl 0 rfl) ?_
  refine lv_aload_n hx hb dX0_putInOrder_7 rfl (lv_at hl 1 rfl) ?_
  refine va_get (D := (dC, dI)) (ci := 0) (v := .int 0) (C := RX0) (T := TX0) (N := 5) hx hb hts hi0 hown hK hP 0 rfl rfl 4 (by decide) (hts (.fieldLink RX0 24 "AskTree$Cases" "size" "I") (by decide +kernel)) (fun _ h9 => h9) rfl dX0_putInOrder_8 ?_
  refine lv_iadd hx hb dX0_putInOrder_11 ?_
  refine tvv (v := .int 300) (congrArg Value.int (by decide)) ?_
  refine lv_istore (lv' := [(4, .int 300), (3, .int 300), (0, .ref h0), (1, .int 1), (2, .int p2)]) hx hb dX0_putInOrder_12 hl (by decide) rfl (fun ls hl => ?_)
  refine lv_iload hx hb dX0_putInOrder_14 (lv_at hl 0 rfl) ?_
  refine lv_iload_n hx hb dX0_putInOrder_16 rfl (lv_at hl 1 rfl) ?_
  refine lv_icmp_le (tgt := 49) hx hb dX0_putInOrder_17 (by decide) (fun c_1 => ?_) (fun c_1 => ?_)
  rotate_left
  · exact absurd c_1 (by decide)
  refine lv_aload_n hx hb dX0_putInOrder_49 rfl (lv_at hl 2 rfl) ?_
  refine va_get (D := (dC, dI)) (ci := 0) (v := .ref h0_order) (C := RX0) (T := TX0) (N := 5) hx hb hts hi0 hown hK hP 0 rfl rfl 3 (by decide) (hts (.fieldLink RX0 21 "AskTree$Cases" "order" "[I") (by decide +kernel)) (fun _ h9 => h9) rfl dX0_putInOrder_50 ?_
  refine lv_iload hx hb dX0_putInOrder_53 (lv_at hl 0 rfl) ?_
  refine lv_aload_n hx hb dX0_putInOrder_55 rfl (lv_at hl 2 rfl) ?_
  refine va_get (D := (dC, dI)) (ci := 0) (v := .ref h0_order) (C := RX0) (T := TX0) (N := 5) hx hb hts hi0 hown hK hP 0 rfl rfl 3 (by decide) (hts (.fieldLink RX0 21 "AskTree$Cases" "order" "[I") (by decide +kernel)) (fun _ h9 => h9) rfl dX0_putInOrder_56 ?_
  refine lv_iload hx hb dX0_putInOrder_59 (lv_at hl 0 rfl) ?_
  refine lv_iconst (v := 1) hx hb dX0_putInOrder_61 (by decide) ?_
  refine lv_iadd hx hb dX0_putInOrder_62 ?_
  refine tvv (v := .int 301) (congrArg Value.int (by decide)) ?_
  refine lv_iload_n hx hb dX0_putInOrder_63 rfl (lv_at hl 1 rfl) ?_
  refine lv_aload_n hx hb dX0_putInOrder_64 rfl (lv_at hl 2 rfl) ?_
  refine va_get (D := (dC, dI)) (ci := 0) (v := .int 0) (C := RX0) (T := TX0) (N := 5) hx hb hts hi0 hown hK hP 0 rfl rfl 4 (by decide) (hts (.fieldLink RX0 24 "AskTree$Cases" "size" "I") (by decide +kernel)) (fun _ h9 => h9) rfl dX0_putInOrder_65 ?_
  refine lv_iadd hx hb dX0_putInOrder_68 ?_
  refine tvv (v := .int 300) (congrArg Value.int (by decide)) ?_
  refine lv_iload hx hb dX0_putInOrder_69 (lv_at hl 0 rfl) ?_
  refine lv_isub hx hb dX0_putInOrder_71 ?_
  refine tvv (v := .int 0) (congrArg Value.int (by decide)) ?_
  refine va_copyi (ty := .int) hx hb (by rw [hml]; exact hl.1.symm) hown (hts (.methodLink RX0 32 arraycopyName) (by decide +kernel)) (hts (.native arraycopyName) (by decide +kernel)) (hts (.static arraycopyName) (by decide +kernel)) (hts (.initialized "java/lang/System") (by decide +kernel)) hK hP hD hS 1 1 0 0 rfl rfl rfl rfl rfl (by decide) (by decide) (by decide) (by decide) (by decide) (fun _ _ => rfl) (Nat.le_of_ble_eq_true rfl) (Nat.le_of_ble_eq_true rfl) dX0_putInOrder_72 (fun H locs hP hD hS => ?_)
  have hP : va_P (dC, dI) vwCl [(h0, .inr (0, [.ref a0_kinds, .ref a0_classes, .ref a0_marks, .ref h0_order, .int 0])), (h0_order, .inl (k0_order, 2400, .inl (va_cpy f0_order f0_order (Int32.toNatClampNeg 300) (Int32.toNatClampNeg 301) (Int32.toNatClampNeg 0))))] H := hP
  have hD : va_D A [(h0, .inr (0, [.ref a0_kinds, .ref a0_classes, .ref a0_marks, .ref h0_order, .int 0])), (h0_order, .inl (k0_order, 2400, .inl (va_cpy f0_order f0_order (Int32.toNatClampNeg 300) (Int32.toNatClampNeg 301) (Int32.toNatClampNeg 0))))] := hD
  generalize va_cpy f0_order f0_order (Int32.toNatClampNeg 300) (Int32.toNatClampNeg 301) (Int32.toNatClampNeg 0) = f_2 at hP hD
  refine lv_aload_n hx hb dX0_putInOrder_75 rfl (lv_at hl 2 rfl) ?_
  refine va_get (D := (dC, dI)) (ci := 0) (v := .ref h0_order) (C := RX0) (T := TX0) (N := 5) hx hb hts hi0 hown hK hP 0 rfl rfl 3 (by decide) (hts (.fieldLink RX0 21 "AskTree$Cases" "order" "[I") (by decide +kernel)) (fun _ h9 => h9) rfl dX0_putInOrder_76 ?_
  refine lv_iload hx hb dX0_putInOrder_79 (lv_at hl 0 rfl) ?_
  refine lv_aload_n hx hb dX0_putInOrder_81 rfl (lv_at hl 2 rfl) ?_
  refine va_get (D := (dC, dI)) (ci := 0) (v := .int 0) (C := RX0) (T := TX0) (N := 5) hx hb hts hi0 hown hK hP 0 rfl rfl 4 (by decide) (hts (.fieldLink RX0 24 "AskTree$Cases" "size" "I") (by decide +kernel)) (fun _ h9 => h9) rfl dX0_putInOrder_82 ?_
  refine va_iast hx hb hK hP hD hS 1 0 rfl rfl (vi _ _ (by decide)) dX0_putInOrder_85 (fun H locs hP hD hS => ?_)
  have hP : va_P (dC, dI) vwCl [(h0, .inr (0, [.ref a0_kinds, .ref a0_classes, .ref a0_marks, .ref h0_order, .int 0])), (h0_order, .inl (k0_order, 2400, .inl (upd f_2 (Int32.toNatClampNeg 300) 0)))] H := hP
  have hD : va_D A [(h0, .inr (0, [.ref a0_kinds, .ref a0_classes, .ref a0_marks, .ref h0_order, .int 0])), (h0_order, .inl (k0_order, 2400, .inl (upd f_2 (Int32.toNatClampNeg 300) 0)))] := hD
  generalize hf_4 : upd f_2 (Int32.toNatClampNeg 300) 0 = f_3 at hP hD
  have hk_5 : f_3 300 = 0 := by rw [← hf_4]; exact up_s (by decide)
  clear hf_4
  have hP9 := hP.sub (ws' := [(h0, .inr (0, [.ref a0_kinds, .ref a0_classes, .ref a0_marks, .ref h0_order, .int 0])), (h0_order, .inl (k0_order, 2400, .inl f_3))]) [0, 1] rfl
  have hD9 := hD.sub (ws' := [(h0, .inr (0, [.ref a0_kinds, .ref a0_classes, .ref a0_marks, .ref h0_order, .int 0])), (h0_order, .inl (k0_order, 2400, .inl f_3))]) [0, 1] (by decide) rfl
  have hK9 := hK.sub (tys' := []) [] rfl
  exact W.vret hx hb hr (fun t ht hW => ⟨⟨([(h0, .inr (0, [.ref a0_kinds, .ref a0_classes, .ref a0_marks, .ref h0_order, .int 0])), (h0_order, .inl (k0_order, 2400, .inl f_3))], []), rfl, ⟨f_3, rfl, hk_5⟩, (by rw [ht]; exact hP9), va_K.moved hW.alike hK9, hD9⟩, hS.F ht⟩) hS.2.2 dX0_putInOrder_86

set_option maxHeartbeats 4000000 in
set_option maxRecDepth 100000 in
theorem c_putInOrder2 (l : Launch) (dC : Nat → ClassId) (dI : Nat → Nat → Nat) (sz : Nat) (h0 : Nat) (p2 : Int32) (h0_order : Nat) (a0_kinds : Nat) (a0_classes : Nat) (a0_marks : Nat) (k0_order : ClassId) (f0_order : Nat → Int32)   : Met l yX0_putInOrder wsX0_putInOrder ({ frames := 1, cells := 0, slots := 0, locals := 60 }) (va_Pc [.ref h0, .int 2, .int p2] (pw (dC, dI) [(k0_order, .int)] [(h0, .inr (0, [.ref a0_kinds, .ref a0_classes, .ref a0_marks, .ref h0_order, .int 0])), (h0_order, .inl (k0_order, 2400, .inl f0_order))] sz)) (va_Qv (fun (u : vu) => (∃ (f_3 : Nat → Int32), u = ([(h0, .inr (0, [.ref a0_kinds, .ref a0_classes, .ref a0_marks, .ref h0_order, .int 0])), (h0_order, .inl (k0_order, 2400, .inl f_3))], []) ∧ f_3 600 = 0)) (fun u t => qw (dC, dI) u.2 (va_A [(h0, .inr (0, [.ref a0_kinds, .ref a0_classes, .ref a0_marks, .ref h0_order, .int 0])), (h0_order, .inl (k0_order, 2400, .inl f0_order))] sz) u.1 t) (va_A [(h0, .inr (0, [.ref a0_kinds, .ref a0_classes, .ref a0_marks, .ref h0_order, .int 0])), (h0_order, .inl (k0_order, 2400, .inl f0_order))] sz)) 0 0 (va_A [(h0, .inr (0, [.ref a0_kinds, .ref a0_classes, .ref a0_marks, .ref h0_order, .int 0])), (h0_order, .inl (k0_order, 2400, .inl f0_order))] sz) := by
  refine Met.ofW (cc := cX0_putInOrder) (maxL := 5) (ret := none) (by decide) rfl ?_
  intro p e s m args below meth c s₁ B hml hv
  obtain ⟨rfl, hsz, hP, hK, hD0, hN⟩ := hv
  have hx := B.exec
  have hb := B.bytes
  have hr := B.returns
  have hts := atoms_spec (ws := wsX0_putInOrder) B.pre
  have hown : s.vm.findClass RX0 = some m.cls := findClass_of_methodNamed B.named
  have hlocks := B.notSynchronized
  have hi0 : ∀ w ∈ u_ws RX0 TX0 5, w ∈ wsX0_putInOrder := fun _ h => List.mem_cons_of_mem _ (List.mem_append_right _ h)
  subst hsz
  have hD := hD0.self (sz := s.heap.size)
  generalize hAe : va_A [(h0, .inr (0, [.ref a0_kinds, .ref a0_classes, .ref a0_marks, .ref h0_order, .int 0])), (h0_order, .inl (k0_order, 2400, .inl f0_order))] s.heap.size = A at hD ⊢
  have hA : ∀ q : Nat, s.heap.size ≤ q → A q := fun q h => by rw [← hAe]; exact Or.inr h
  have hS : va_S A s.heap s.heap [] := va_S.rf
  have hl := lv_entry ([.ref h0, .int 2, .int p2]) (n := 5) (Nat.le_of_ble_eq_true rfl)
  rw [lg_entry_eq]
  generalize (lg_sl ([.ref h0, .int 2, .int p2]) ++ List.replicate (5 - (lg_sl ([.ref h0, .int 2, .int p2])).length) Slot.unset).toArray = ls at hl ⊢
  have hl : lv_has ls 5 [(0, .ref h0), (1, .int 2), (2, .int p2)] := hl
  have hP : va_P (dC, dI) vwCl [(h0, .inr (0, [.ref a0_kinds, .ref a0_classes, .ref a0_marks, .ref h0_order, .int 0])), (h0_order, .inl (k0_order, 2400, .inl f0_order))] s.heap := hP
  refine lv_iload_n hx hb dX0_putInOrder_0 rfl (lv_at hl 1 rfl) ?_
  refine lv_sipush (v := 300) hx hb dX0_putInOrder_1 (by decide) ?_
  refine lv_imul hx hb dX0_putInOrder_4 ?_
  refine tvv (v := .int 600) (congrArg Value.int (by decide)) ?_
  refine lv_istore_n (lv' := [(3, .int 600), (0, .ref h0), (1, .int 2), (2, .int p2)]) hx hb dX0_putInOrder_5 rfl hl (by decide) rfl (fun ls hl => ?_)
  refine lv_iload_n hx hb dX0_putInOrder_6 rfl (lv_at hl 0 rfl) ?_
  refine lv_aload_n hx hb dX0_putInOrder_7 rfl (lv_at hl 1 rfl) ?_
  refine va_get (D := (dC, dI)) (ci := 0) (v := .int 0) (C := RX0) (T := TX0) (N := 5) hx hb hts hi0 hown hK hP 0 rfl rfl 4 (by decide) (hts (.fieldLink RX0 24 "AskTree$Cases" "size" "I") (by decide +kernel)) (fun _ h9 => h9) rfl dX0_putInOrder_8 ?_
  refine lv_iadd hx hb dX0_putInOrder_11 ?_
  refine tvv (v := .int 600) (congrArg Value.int (by decide)) ?_
  refine lv_istore (lv' := [(4, .int 600), (3, .int 600), (0, .ref h0), (1, .int 2), (2, .int p2)]) hx hb dX0_putInOrder_12 hl (by decide) rfl (fun ls hl => ?_)
  refine lv_iload hx hb dX0_putInOrder_14 (lv_at hl 0 rfl) ?_
  refine lv_iload_n hx hb dX0_putInOrder_16 rfl (lv_at hl 1 rfl) ?_
  refine lv_icmp_le (tgt := 49) hx hb dX0_putInOrder_17 (by decide) (fun c_1 => ?_) (fun c_1 => ?_)
  rotate_left
  · exact absurd c_1 (by decide)
  refine lv_aload_n hx hb dX0_putInOrder_49 rfl (lv_at hl 2 rfl) ?_
  refine va_get (D := (dC, dI)) (ci := 0) (v := .ref h0_order) (C := RX0) (T := TX0) (N := 5) hx hb hts hi0 hown hK hP 0 rfl rfl 3 (by decide) (hts (.fieldLink RX0 21 "AskTree$Cases" "order" "[I") (by decide +kernel)) (fun _ h9 => h9) rfl dX0_putInOrder_50 ?_
  refine lv_iload hx hb dX0_putInOrder_53 (lv_at hl 0 rfl) ?_
  refine lv_aload_n hx hb dX0_putInOrder_55 rfl (lv_at hl 2 rfl) ?_
  refine va_get (D := (dC, dI)) (ci := 0) (v := .ref h0_order) (C := RX0) (T := TX0) (N := 5) hx hb hts hi0 hown hK hP 0 rfl rfl 3 (by decide) (hts (.fieldLink RX0 21 "AskTree$Cases" "order" "[I") (by decide +kernel)) (fun _ h9 => h9) rfl dX0_putInOrder_56 ?_
  refine lv_iload hx hb dX0_putInOrder_59 (lv_at hl 0 rfl) ?_
  refine lv_iconst (v := 1) hx hb dX0_putInOrder_61 (by decide) ?_
  refine lv_iadd hx hb dX0_putInOrder_62 ?_
  refine tvv (v := .int 601) (congrArg Value.int (by decide)) ?_
  refine lv_iload_n hx hb dX0_putInOrder_63 rfl (lv_at hl 1 rfl) ?_
  refine lv_aload_n hx hb dX0_putInOrder_64 rfl (lv_at hl 2 rfl) ?_
  refine va_get (D := (dC, dI)) (ci := 0) (v := .int 0) (C := RX0) (T := TX0) (N := 5) hx hb hts hi0 hown hK hP 0 rfl rfl 4 (by decide) (hts (.fieldLink RX0 24 "AskTree$Cases" "size" "I") (by decide +kernel)) (fun _ h9 => h9) rfl dX0_putInOrder_65 ?_
  refine lv_iadd hx hb dX0_putInOrder_68 ?_
  refine tvv (v := .int 600) (congrArg Value.int (by decide)) ?_
  refine lv_iload hx hb dX0_putInOrder_69 (lv_at hl 0 rfl) ?_
  refine lv_isub hx hb dX0_putInOrder_71 ?_
  refine tvv (v := .int 0) (congrArg Value.int (by decide)) ?_
  refine va_copyi (ty := .int) hx hb (by rw [hml]; exact hl.1.symm) hown (hts (.methodLink RX0 32 arraycopyName) (by decide +kernel)) (hts (.native arraycopyName) (by decide +kernel)) (hts (.static arraycopyName) (by decide +kernel)) (hts (.initialized "java/lang/System") (by decide +kernel)) hK hP hD hS 1 1 0 0 rfl rfl rfl rfl rfl (by decide) (by decide) (by decide) (by decide) (by decide) (fun _ _ => rfl) (Nat.le_of_ble_eq_true rfl) (Nat.le_of_ble_eq_true rfl) dX0_putInOrder_72 (fun H locs hP hD hS => ?_)
  have hP : va_P (dC, dI) vwCl [(h0, .inr (0, [.ref a0_kinds, .ref a0_classes, .ref a0_marks, .ref h0_order, .int 0])), (h0_order, .inl (k0_order, 2400, .inl (va_cpy f0_order f0_order (Int32.toNatClampNeg 600) (Int32.toNatClampNeg 601) (Int32.toNatClampNeg 0))))] H := hP
  have hD : va_D A [(h0, .inr (0, [.ref a0_kinds, .ref a0_classes, .ref a0_marks, .ref h0_order, .int 0])), (h0_order, .inl (k0_order, 2400, .inl (va_cpy f0_order f0_order (Int32.toNatClampNeg 600) (Int32.toNatClampNeg 601) (Int32.toNatClampNeg 0))))] := hD
  generalize va_cpy f0_order f0_order (Int32.toNatClampNeg 600) (Int32.toNatClampNeg 601) (Int32.toNatClampNeg 0) = f_2 at hP hD
  refine lv_aload_n hx hb dX0_putInOrder_75 rfl (lv_at hl 2 rfl) ?_
  refine va_get (D := (dC, dI)) (ci := 0) (v := .ref h0_order) (C := RX0) (T := TX0) (N := 5) hx hb hts hi0 hown hK hP 0 rfl rfl 3 (by decide) (hts (.fieldLink RX0 21 "AskTree$Cases" "order" "[I") (by decide +kernel)) (fun _ h9 => h9) rfl dX0_putInOrder_76 ?_
  refine lv_iload hx hb dX0_putInOrder_79 (lv_at hl 0 rfl) ?_
  refine lv_aload_n hx hb dX0_putInOrder_81 rfl (lv_at hl 2 rfl) ?_
  refine va_get (D := (dC, dI)) (ci := 0) (v := .int 0) (C := RX0) (T := TX0) (N := 5) hx hb hts hi0 hown hK hP 0 rfl rfl 4 (by decide) (hts (.fieldLink RX0 24 "AskTree$Cases" "size" "I") (by decide +kernel)) (fun _ h9 => h9) rfl dX0_putInOrder_82 ?_
  refine va_iast hx hb hK hP hD hS 1 0 rfl rfl (vi _ _ (by decide)) dX0_putInOrder_85 (fun H locs hP hD hS => ?_)
  have hP : va_P (dC, dI) vwCl [(h0, .inr (0, [.ref a0_kinds, .ref a0_classes, .ref a0_marks, .ref h0_order, .int 0])), (h0_order, .inl (k0_order, 2400, .inl (upd f_2 (Int32.toNatClampNeg 600) 0)))] H := hP
  have hD : va_D A [(h0, .inr (0, [.ref a0_kinds, .ref a0_classes, .ref a0_marks, .ref h0_order, .int 0])), (h0_order, .inl (k0_order, 2400, .inl (upd f_2 (Int32.toNatClampNeg 600) 0)))] := hD
  generalize hf_4 : upd f_2 (Int32.toNatClampNeg 600) 0 = f_3 at hP hD
  have hk_5 : f_3 600 = 0 := by rw [← hf_4]; exact up_s (by decide)
  clear hf_4
  have hP9 := hP.sub (ws' := [(h0, .inr (0, [.ref a0_kinds, .ref a0_classes, .ref a0_marks, .ref h0_order, .int 0])), (h0_order, .inl (k0_order, 2400, .inl f_3))]) [0, 1] rfl
  have hD9 := hD.sub (ws' := [(h0, .inr (0, [.ref a0_kinds, .ref a0_classes, .ref a0_marks, .ref h0_order, .int 0])), (h0_order, .inl (k0_order, 2400, .inl f_3))]) [0, 1] (by decide) rfl
  have hK9 := hK.sub (tys' := []) [] rfl
  exact W.vret hx hb hr (fun t ht hW => ⟨⟨([(h0, .inr (0, [.ref a0_kinds, .ref a0_classes, .ref a0_marks, .ref h0_order, .int 0])), (h0_order, .inl (k0_order, 2400, .inl f_3))], []), rfl, ⟨f_3, rfl, hk_5⟩, (by rw [ht]; exact hP9), va_K.moved hW.alike hK9, hD9⟩, hS.F ht⟩) hS.2.2 dX0_putInOrder_86

set_option maxHeartbeats 4000000 in
set_option maxRecDepth 100000 in
theorem c_putInOrder3 (l : Launch) (dC : Nat → ClassId) (dI : Nat → Nat → Nat) (sz : Nat) (h0 : Nat) (p2 : Int32) (h0_order : Nat) (a0_kinds : Nat) (a0_classes : Nat) (a0_marks : Nat) (k0_order : ClassId) (f0_order : Nat → Int32)   : Met l yX0_putInOrder wsX0_putInOrder ({ frames := 1, cells := 0, slots := 0, locals := 60 }) (va_Pc [.ref h0, .int 3, .int p2] (pw (dC, dI) [(k0_order, .int)] [(h0, .inr (0, [.ref a0_kinds, .ref a0_classes, .ref a0_marks, .ref h0_order, .int 0])), (h0_order, .inl (k0_order, 2400, .inl f0_order))] sz)) (va_Qv (fun (u : vu) => (∃ (f_3 : Nat → Int32), u = ([(h0, .inr (0, [.ref a0_kinds, .ref a0_classes, .ref a0_marks, .ref h0_order, .int 0])), (h0_order, .inl (k0_order, 2400, .inl f_3))], []) ∧ f_3 900 = 0)) (fun u t => qw (dC, dI) u.2 (va_A [(h0, .inr (0, [.ref a0_kinds, .ref a0_classes, .ref a0_marks, .ref h0_order, .int 0])), (h0_order, .inl (k0_order, 2400, .inl f0_order))] sz) u.1 t) (va_A [(h0, .inr (0, [.ref a0_kinds, .ref a0_classes, .ref a0_marks, .ref h0_order, .int 0])), (h0_order, .inl (k0_order, 2400, .inl f0_order))] sz)) 0 0 (va_A [(h0, .inr (0, [.ref a0_kinds, .ref a0_classes, .ref a0_marks, .ref h0_order, .int 0])), (h0_order, .inl (k0_order, 2400, .inl f0_order))] sz) := by
  refine Met.ofW (cc := cX0_putInOrder) (maxL := 5) (ret := none) (by decide) rfl ?_
  intro p e s m args below meth c s₁ B hml hv
  obtain ⟨rfl, hsz, hP, hK, hD0, hN⟩ := hv
  have hx := B.exec
  have hb := B.bytes
  have hr := B.returns
  have hts := atoms_spec (ws := wsX0_putInOrder) B.pre
  have hown : s.vm.findClass RX0 = some m.cls := findClass_of_methodNamed B.named
  have hlocks := B.notSynchronized
  have hi0 : ∀ w ∈ u_ws RX0 TX0 5, w ∈ wsX0_putInOrder := fun _ h => List.mem_cons_of_mem _ (List.mem_append_right _ h)
  subst hsz
  have hD := hD0.self (sz := s.heap.size)
  generalize hAe : va_A [(h0, .inr (0, [.ref a0_kinds, .ref a0_classes, .ref a0_marks, .ref h0_order, .int 0])), (h0_order, .inl (k0_order, 2400, .inl f0_order))] s.heap.size = A at hD ⊢
  have hA : ∀ q : Nat, s.heap.size ≤ q → A q := fun q h => by rw [← hAe]; exact Or.inr h
  have hS : va_S A s.heap s.heap [] := va_S.rf
  have hl := lv_entry ([.ref h0, .int 3, .int p2]) (n := 5) (Nat.le_of_ble_eq_true rfl)
  rw [lg_entry_eq]
  generalize (lg_sl ([.ref h0, .int 3, .int p2]) ++ List.replicate (5 - (lg_sl ([.ref h0, .int 3, .int p2])).length) Slot.unset).toArray = ls at hl ⊢
  have hl : lv_has ls 5 [(0, .ref h0), (1, .int 3), (2, .int p2)] := hl
  have hP : va_P (dC, dI) vwCl [(h0, .inr (0, [.ref a0_kinds, .ref a0_classes, .ref a0_marks, .ref h0_order, .int 0])), (h0_order, .inl (k0_order, 2400, .inl f0_order))] s.heap := hP
  refine lv_iload_n hx hb dX0_putInOrder_0 rfl (lv_at hl 1 rfl) ?_
  refine lv_sipush (v := 300) hx hb dX0_putInOrder_1 (by decide) ?_
  refine lv_imul hx hb dX0_putInOrder_4 ?_
  refine tvv (v := .int 900) (congrArg Value.int (by decide)) ?_
  refine lv_istore_n (lv' := [(3, .int 900), (0, .ref h0), (1, .int 3), (2, .int p2)]) hx hb dX0_putInOrder_5 rfl hl (by decide) rfl (fun ls hl => ?_)
  refine lv_iload_n hx hb dX0_putInOrder_6 rfl (lv_at hl 0 rfl) ?_
  refine lv_aload_n hx hb dX0_putInOrder_7 rfl (lv_at hl 1 rfl) ?_
  refine va_get (D := (dC, dI)) (ci := 0) (v := .int 0) (C := RX0) (T := TX0) (N := 5) hx hb hts hi0 hown hK hP 0 rfl rfl 4 (by decide) (hts (.fieldLink RX0 24 "AskTree$Cases" "size" "I") (by decide +kernel)) (fun _ h9 => h9) rfl dX0_putInOrder_8 ?_
  refine lv_iadd hx hb dX0_putInOrder_11 ?_
  refine tvv (v := .int 900) (congrArg Value.int (by decide)) ?_
  refine lv_istore (lv' := [(4, .int 900), (3, .int 900), (0, .ref h0), (1, .int 3), (2, .int p2)]) hx hb dX0_putInOrder_12 hl (by decide) rfl (fun ls hl => ?_)
  refine lv_iload hx hb dX0_putInOrder_14 (lv_at hl 0 rfl) ?_
  refine lv_iload_n hx hb dX0_putInOrder_16 rfl (lv_at hl 1 rfl) ?_
  refine lv_icmp_le (tgt := 49) hx hb dX0_putInOrder_17 (by decide) (fun c_1 => ?_) (fun c_1 => ?_)
  rotate_left
  · exact absurd c_1 (by decide)
  refine lv_aload_n hx hb dX0_putInOrder_49 rfl (lv_at hl 2 rfl) ?_
  refine va_get (D := (dC, dI)) (ci := 0) (v := .ref h0_order) (C := RX0) (T := TX0) (N := 5) hx hb hts hi0 hown hK hP 0 rfl rfl 3 (by decide) (hts (.fieldLink RX0 21 "AskTree$Cases" "order" "[I") (by decide +kernel)) (fun _ h9 => h9) rfl dX0_putInOrder_50 ?_
  refine lv_iload hx hb dX0_putInOrder_53 (lv_at hl 0 rfl) ?_
  refine lv_aload_n hx hb dX0_putInOrder_55 rfl (lv_at hl 2 rfl) ?_
  refine va_get (D := (dC, dI)) (ci := 0) (v := .ref h0_order) (C := RX0) (T := TX0) (N := 5) hx hb hts hi0 hown hK hP 0 rfl rfl 3 (by decide) (hts (.fieldLink RX0 21 "AskTree$Cases" "order" "[I") (by decide +kernel)) (fun _ h9 => h9) rfl dX0_putInOrder_56 ?_
  refine lv_iload hx hb dX0_putInOrder_59 (lv_at hl 0 rfl) ?_
  refine lv_iconst (v := 1) hx hb dX0_putInOrder_61 (by decide) ?_
  refine lv_iadd hx hb dX0_putInOrder_62 ?_
  refine tvv (v := .int 901) (congrArg Value.int (by decide)) ?_
  refine lv_iload_n hx hb dX0_putInOrder_63 rfl (lv_at hl 1 rfl) ?_
  refine lv_aload_n hx hb dX0_putInOrder_64 rfl (lv_at hl 2 rfl) ?_
  refine va_get (D := (dC, dI)) (ci := 0) (v := .int 0) (C := RX0) (T := TX0) (N := 5) hx hb hts hi0 hown hK hP 0 rfl rfl 4 (by decide) (hts (.fieldLink RX0 24 "AskTree$Cases" "size" "I") (by decide +kernel)) (fun _ h9 => h9) rfl dX0_putInOrder_65 ?_
  refine lv_iadd hx hb dX0_putInOrder_68 ?_
  refine tvv (v := .int 900) (congrArg Value.int (by decide)) ?_
  refine lv_iload hx hb dX0_putInOrder_69 (lv_at hl 0 rfl) ?_
  refine lv_isub hx hb dX0_putInOrder_71 ?_
  refine tvv (v := .int 0) (congrArg Value.int (by decide)) ?_
  refine va_copyi (ty := .int) hx hb (by rw [hml]; exact hl.1.symm) hown (hts (.methodLink RX0 32 arraycopyName) (by decide +kernel)) (hts (.native arraycopyName) (by decide +kernel)) (hts (.static arraycopyName) (by decide +kernel)) (hts (.initialized "java/lang/System") (by decide +kernel)) hK hP hD hS 1 1 0 0 rfl rfl rfl rfl rfl (by decide) (by decide) (by decide) (by decide) (by decide) (fun _ _ => rfl) (Nat.le_of_ble_eq_true rfl) (Nat.le_of_ble_eq_true rfl) dX0_putInOrder_72 (fun H locs hP hD hS => ?_)
  have hP : va_P (dC, dI) vwCl [(h0, .inr (0, [.ref a0_kinds, .ref a0_classes, .ref a0_marks, .ref h0_order, .int 0])), (h0_order, .inl (k0_order, 2400, .inl (va_cpy f0_order f0_order (Int32.toNatClampNeg 900) (Int32.toNatClampNeg 901) (Int32.toNatClampNeg 0))))] H := hP
  have hD : va_D A [(h0, .inr (0, [.ref a0_kinds, .ref a0_classes, .ref a0_marks, .ref h0_order, .int 0])), (h0_order, .inl (k0_order, 2400, .inl (va_cpy f0_order f0_order (Int32.toNatClampNeg 900) (Int32.toNatClampNeg 901) (Int32.toNatClampNeg 0))))] := hD
  generalize va_cpy f0_order f0_order (Int32.toNatClampNeg 900) (Int32.toNatClampNeg 901) (Int32.toNatClampNeg 0) = f_2 at hP hD
  refine lv_aload_n hx hb dX0_putInOrder_75 rfl (lv_at hl 2 rfl) ?_
  refine va_get (D := (dC, dI)) (ci := 0) (v := .ref h0_order) (C := RX0) (T := TX0) (N := 5) hx hb hts hi0 hown hK hP 0 rfl rfl 3 (by decide) (hts (.fieldLink RX0 21 "AskTree$Cases" "order" "[I") (by decide +kernel)) (fun _ h9 => h9) rfl dX0_putInOrder_76 ?_
  refine lv_iload hx hb dX0_putInOrder_79 (lv_at hl 0 rfl) ?_
  refine lv_aload_n hx hb dX0_putInOrder_81 rfl (lv_at hl 2 rfl) ?_
  refine va_get (D := (dC, dI)) (ci := 0) (v := .int 0) (C := RX0) (T := TX0) (N := 5) hx hb hts hi0 hown hK hP 0 rfl rfl 4 (by decide) (hts (.fieldLink RX0 24 "AskTree$Cases" "size" "I") (by decide +kernel)) (fun _ h9 => h9) rfl dX0_putInOrder_82 ?_
  refine va_iast hx hb hK hP hD hS 1 0 rfl rfl (vi _ _ (by decide)) dX0_putInOrder_85 (fun H locs hP hD hS => ?_)
  have hP : va_P (dC, dI) vwCl [(h0, .inr (0, [.ref a0_kinds, .ref a0_classes, .ref a0_marks, .ref h0_order, .int 0])), (h0_order, .inl (k0_order, 2400, .inl (upd f_2 (Int32.toNatClampNeg 900) 0)))] H := hP
  have hD : va_D A [(h0, .inr (0, [.ref a0_kinds, .ref a0_classes, .ref a0_marks, .ref h0_order, .int 0])), (h0_order, .inl (k0_order, 2400, .inl (upd f_2 (Int32.toNatClampNeg 900) 0)))] := hD
  generalize hf_4 : upd f_2 (Int32.toNatClampNeg 900) 0 = f_3 at hP hD
  have hk_5 : f_3 900 = 0 := by rw [← hf_4]; exact up_s (by decide)
  clear hf_4
  have hP9 := hP.sub (ws' := [(h0, .inr (0, [.ref a0_kinds, .ref a0_classes, .ref a0_marks, .ref h0_order, .int 0])), (h0_order, .inl (k0_order, 2400, .inl f_3))]) [0, 1] rfl
  have hD9 := hD.sub (ws' := [(h0, .inr (0, [.ref a0_kinds, .ref a0_classes, .ref a0_marks, .ref h0_order, .int 0])), (h0_order, .inl (k0_order, 2400, .inl f_3))]) [0, 1] (by decide) rfl
  have hK9 := hK.sub (tys' := []) [] rfl
  exact W.vret hx hb hr (fun t ht hW => ⟨⟨([(h0, .inr (0, [.ref a0_kinds, .ref a0_classes, .ref a0_marks, .ref h0_order, .int 0])), (h0_order, .inl (k0_order, 2400, .inl f_3))], []), rfl, ⟨f_3, rfl, hk_5⟩, (by rw [ht]; exact hP9), va_K.moved hW.alike hK9, hD9⟩, hS.F ht⟩) hS.2.2 dX0_putInOrder_86

set_option maxHeartbeats 4000000 in
set_option maxRecDepth 100000 in
theorem c_putInOrder4 (l : Launch) (dC : Nat → ClassId) (dI : Nat → Nat → Nat) (sz : Nat) (h0 : Nat) (p2 : Int32) (h0_order : Nat) (a0_kinds : Nat) (a0_classes : Nat) (a0_marks : Nat) (k0_order : ClassId) (f0_order : Nat → Int32)   : Met l yX0_putInOrder wsX0_putInOrder ({ frames := 1, cells := 0, slots := 0, locals := 60 }) (va_Pc [.ref h0, .int 4, .int p2] (pw (dC, dI) [(k0_order, .int)] [(h0, .inr (0, [.ref a0_kinds, .ref a0_classes, .ref a0_marks, .ref h0_order, .int 0])), (h0_order, .inl (k0_order, 2400, .inl f0_order))] sz)) (va_Qv (fun (u : vu) => (∃ (f_3 : Nat → Int32), u = ([(h0, .inr (0, [.ref a0_kinds, .ref a0_classes, .ref a0_marks, .ref h0_order, .int 0])), (h0_order, .inl (k0_order, 2400, .inl f_3))], []) ∧ f_3 1200 = 0)) (fun u t => qw (dC, dI) u.2 (va_A [(h0, .inr (0, [.ref a0_kinds, .ref a0_classes, .ref a0_marks, .ref h0_order, .int 0])), (h0_order, .inl (k0_order, 2400, .inl f0_order))] sz) u.1 t) (va_A [(h0, .inr (0, [.ref a0_kinds, .ref a0_classes, .ref a0_marks, .ref h0_order, .int 0])), (h0_order, .inl (k0_order, 2400, .inl f0_order))] sz)) 0 0 (va_A [(h0, .inr (0, [.ref a0_kinds, .ref a0_classes, .ref a0_marks, .ref h0_order, .int 0])), (h0_order, .inl (k0_order, 2400, .inl f0_order))] sz) := by
  refine Met.ofW (cc := cX0_putInOrder) (maxL := 5) (ret := none) (by decide) rfl ?_
  intro p e s m args below meth c s₁ B hml hv
  obtain ⟨rfl, hsz, hP, hK, hD0, hN⟩ := hv
  have hx := B.exec
  have hb := B.bytes
  have hr := B.returns
  have hts := atoms_spec (ws := wsX0_putInOrder) B.pre
  have hown : s.vm.findClass RX0 = some m.cls := findClass_of_methodNamed B.named
  have hlocks := B.notSynchronized
  have hi0 : ∀ w ∈ u_ws RX0 TX0 5, w ∈ wsX0_putInOrder := fun _ h => List.mem_cons_of_mem _ (List.mem_append_right _ h)
  subst hsz
  have hD := hD0.self (sz := s.heap.size)
  generalize hAe : va_A [(h0, .inr (0, [.ref a0_kinds, .ref a0_classes, .ref a0_marks, .ref h0_order, .int 0])), (h0_order, .inl (k0_order, 2400, .inl f0_order))] s.heap.size = A at hD ⊢
  have hA : ∀ q : Nat, s.heap.size ≤ q → A q := fun q h => by rw [← hAe]; exact Or.inr h
  have hS : va_S A s.heap s.heap [] := va_S.rf
  have hl := lv_entry ([.ref h0, .int 4, .int p2]) (n := 5) (Nat.le_of_ble_eq_true rfl)
  rw [lg_entry_eq]
  generalize (lg_sl ([.ref h0, .int 4, .int p2]) ++ List.replicate (5 - (lg_sl ([.ref h0, .int 4, .int p2])).length) Slot.unset).toArray = ls at hl ⊢
  have hl : lv_has ls 5 [(0, .ref h0), (1, .int 4), (2, .int p2)] := hl
  have hP : va_P (dC, dI) vwCl [(h0, .inr (0, [.ref a0_kinds, .ref a0_classes, .ref a0_marks, .ref h0_order, .int 0])), (h0_order, .inl (k0_order, 2400, .inl f0_order))] s.heap := hP
  refine lv_iload_n hx hb dX0_putInOrder_0 rfl (lv_at hl 1 rfl) ?_
  refine lv_sipush (v := 300) hx hb dX0_putInOrder_1 (by decide) ?_
  refine lv_imul hx hb dX0_putInOrder_4 ?_
  refine tvv (v := .int 1200) (congrArg Value.int (by decide)) ?_
  refine lv_istore_n (lv' := [(3, .int 1200), (0, .ref h0), (1, .int 4), (2, .int p2)]) hx hb dX0_putInOrder_5 rfl hl (by decide) rfl (fun ls hl => ?_)
  refine lv_iload_n hx hb dX0_putInOrder_6 rfl (lv_at hl 0 rfl) ?_
  refine lv_aload_n hx hb dX0_putInOrder_7 rfl (lv_at hl 1 rfl) ?_
  refine va_get (D := (dC, dI)) (ci := 0) (v := .int 0) (C := RX0) (T := TX0) (N := 5) hx hb hts hi0 hown hK hP 0 rfl rfl 4 (by decide) (hts (.fieldLink RX0 24 "AskTree$Cases" "size" "I") (by decide +kernel)) (fun _ h9 => h9) rfl dX0_putInOrder_8 ?_
  refine lv_iadd hx hb dX0_putInOrder_11 ?_
  refine tvv (v := .int 1200) (congrArg Value.int (by decide)) ?_
  refine lv_istore (lv' := [(4, .int 1200), (3, .int 1200), (0, .ref h0), (1, .int 4), (2, .int p2)]) hx hb dX0_putInOrder_12 hl (by decide) rfl (fun ls hl => ?_)
  refine lv_iload hx hb dX0_putInOrder_14 (lv_at hl 0 rfl) ?_
  refine lv_iload_n hx hb dX0_putInOrder_16 rfl (lv_at hl 1 rfl) ?_
  refine lv_icmp_le (tgt := 49) hx hb dX0_putInOrder_17 (by decide) (fun c_1 => ?_) (fun c_1 => ?_)
  rotate_left
  · exact absurd c_1 (by decide)
  refine lv_aload_n hx hb dX0_putInOrder_49 rfl (lv_at hl 2 rfl) ?_
  refine va_get (D := (dC, dI)) (ci := 0) (v := .ref h0_order) (C := RX0) (T := TX0) (N := 5) hx hb hts hi0 hown hK hP 0 rfl rfl 3 (by decide) (hts (.fieldLink RX0 21 "AskTree$Cases" "order" "[I") (by decide +kernel)) (fun _ h9 => h9) rfl dX0_putInOrder_50 ?_
  refine lv_iload hx hb dX0_putInOrder_53 (lv_at hl 0 rfl) ?_
  refine lv_aload_n hx hb dX0_putInOrder_55 rfl (lv_at hl 2 rfl) ?_
  refine va_get (D := (dC, dI)) (ci := 0) (v := .ref h0_order) (C := RX0) (T := TX0) (N := 5) hx hb hts hi0 hown hK hP 0 rfl rfl 3 (by decide) (hts (.fieldLink RX0 21 "AskTree$Cases" "order" "[I") (by decide +kernel)) (fun _ h9 => h9) rfl dX0_putInOrder_56 ?_
  refine lv_iload hx hb dX0_putInOrder_59 (lv_at hl 0 rfl) ?_
  refine lv_iconst (v := 1) hx hb dX0_putInOrder_61 (by decide) ?_
  refine lv_iadd hx hb dX0_putInOrder_62 ?_
  refine tvv (v := .int 1201) (congrArg Value.int (by decide)) ?_
  refine lv_iload_n hx hb dX0_putInOrder_63 rfl (lv_at hl 1 rfl) ?_
  refine lv_aload_n hx hb dX0_putInOrder_64 rfl (lv_at hl 2 rfl) ?_
  refine va_get (D := (dC, dI)) (ci := 0) (v := .int 0) (C := RX0) (T := TX0) (N := 5) hx hb hts hi0 hown hK hP 0 rfl rfl 4 (by decide) (hts (.fieldLink RX0 24 "AskTree$Cases" "size" "I") (by decide +kernel)) (fun _ h9 => h9) rfl dX0_putInOrder_65 ?_
  refine lv_iadd hx hb dX0_putInOrder_68 ?_
  refine tvv (v := .int 1200) (congrArg Value.int (by decide)) ?_
  refine lv_iload hx hb dX0_putInOrder_69 (lv_at hl 0 rfl) ?_
  refine lv_isub hx hb dX0_putInOrder_71 ?_
  refine tvv (v := .int 0) (congrArg Value.int (by decide)) ?_
  refine va_copyi (ty := .int) hx hb (by rw [hml]; exact hl.1.symm) hown (hts (.methodLink RX0 32 arraycopyName) (by decide +kernel)) (hts (.native arraycopyName) (by decide +kernel)) (hts (.static arraycopyName) (by decide +kernel)) (hts (.initialized "java/lang/System") (by decide +kernel)) hK hP hD hS 1 1 0 0 rfl rfl rfl rfl rfl (by decide) (by decide) (by decide) (by decide) (by decide) (fun _ _ => rfl) (Nat.le_of_ble_eq_true rfl) (Nat.le_of_ble_eq_true rfl) dX0_putInOrder_72 (fun H locs hP hD hS => ?_)
  have hP : va_P (dC, dI) vwCl [(h0, .inr (0, [.ref a0_kinds, .ref a0_classes, .ref a0_marks, .ref h0_order, .int 0])), (h0_order, .inl (k0_order, 2400, .inl (va_cpy f0_order f0_order (Int32.toNatClampNeg 1200) (Int32.toNatClampNeg 1201) (Int32.toNatClampNeg 0))))] H := hP
  have hD : va_D A [(h0, .inr (0, [.ref a0_kinds, .ref a0_classes, .ref a0_marks, .ref h0_order, .int 0])), (h0_order, .inl (k0_order, 2400, .inl (va_cpy f0_order f0_order (Int32.toNatClampNeg 1200) (Int32.toNatClampNeg 1201) (Int32.toNatClampNeg 0))))] := hD
  generalize va_cpy f0_order f0_order (Int32.toNatClampNeg 1200) (Int32.toNatClampNeg 1201) (Int32.toNatClampNeg 0) = f_2 at hP hD
  refine lv_aload_n hx hb dX0_putInOrder_75 rfl (lv_at hl 2 rfl) ?_
  refine va_get (D := (dC, dI)) (ci := 0) (v := .ref h0_order) (C := RX0) (T := TX0) (N := 5) hx hb hts hi0 hown hK hP 0 rfl rfl 3 (by decide) (hts (.fieldLink RX0 21 "AskTree$Cases" "order" "[I") (by decide +kernel)) (fun _ h9 => h9) rfl dX0_putInOrder_76 ?_
  refine lv_iload hx hb dX0_putInOrder_79 (lv_at hl 0 rfl) ?_
  refine lv_aload_n hx hb dX0_putInOrder_81 rfl (lv_at hl 2 rfl) ?_
  refine va_get (D := (dC, dI)) (ci := 0) (v := .int 0) (C := RX0) (T := TX0) (N := 5) hx hb hts hi0 hown hK hP 0 rfl rfl 4 (by decide) (hts (.fieldLink RX0 24 "AskTree$Cases" "size" "I") (by decide +kernel)) (fun _ h9 => h9) rfl dX0_putInOrder_82 ?_
  refine va_iast hx hb hK hP hD hS 1 0 rfl rfl (vi _ _ (by decide)) dX0_putInOrder_85 (fun H locs hP hD hS => ?_)
  have hP : va_P (dC, dI) vwCl [(h0, .inr (0, [.ref a0_kinds, .ref a0_classes, .ref a0_marks, .ref h0_order, .int 0])), (h0_order, .inl (k0_order, 2400, .inl (upd f_2 (Int32.toNatClampNeg 1200) 0)))] H := hP
  have hD : va_D A [(h0, .inr (0, [.ref a0_kinds, .ref a0_classes, .ref a0_marks, .ref h0_order, .int 0])), (h0_order, .inl (k0_order, 2400, .inl (upd f_2 (Int32.toNatClampNeg 1200) 0)))] := hD
  generalize hf_4 : upd f_2 (Int32.toNatClampNeg 1200) 0 = f_3 at hP hD
  have hk_5 : f_3 1200 = 0 := by rw [← hf_4]; exact up_s (by decide)
  clear hf_4
  have hP9 := hP.sub (ws' := [(h0, .inr (0, [.ref a0_kinds, .ref a0_classes, .ref a0_marks, .ref h0_order, .int 0])), (h0_order, .inl (k0_order, 2400, .inl f_3))]) [0, 1] rfl
  have hD9 := hD.sub (ws' := [(h0, .inr (0, [.ref a0_kinds, .ref a0_classes, .ref a0_marks, .ref h0_order, .int 0])), (h0_order, .inl (k0_order, 2400, .inl f_3))]) [0, 1] (by decide) rfl
  have hK9 := hK.sub (tys' := []) [] rfl
  exact W.vret hx hb hr (fun t ht hW => ⟨⟨([(h0, .inr (0, [.ref a0_kinds, .ref a0_classes, .ref a0_marks, .ref h0_order, .int 0])), (h0_order, .inl (k0_order, 2400, .inl f_3))], []), rfl, ⟨f_3, rfl, hk_5⟩, (by rw [ht]; exact hP9), va_K.moved hW.alike hK9, hD9⟩, hS.F ht⟩) hS.2.2 dX0_putInOrder_86

set_option maxHeartbeats 4000000 in
set_option maxRecDepth 100000 in
theorem c_putInOrder5 (l : Launch) (dC : Nat → ClassId) (dI : Nat → Nat → Nat) (sz : Nat) (h0 : Nat) (p2 : Int32) (h0_order : Nat) (a0_kinds : Nat) (a0_classes : Nat) (a0_marks : Nat) (k0_order : ClassId) (f0_order : Nat → Int32)   : Met l yX0_putInOrder wsX0_putInOrder ({ frames := 1, cells := 0, slots := 0, locals := 60 }) (va_Pc [.ref h0, .int 5, .int p2] (pw (dC, dI) [(k0_order, .int)] [(h0, .inr (0, [.ref a0_kinds, .ref a0_classes, .ref a0_marks, .ref h0_order, .int 0])), (h0_order, .inl (k0_order, 2400, .inl f0_order))] sz)) (va_Qv (fun (u : vu) => (∃ (f_3 : Nat → Int32), u = ([(h0, .inr (0, [.ref a0_kinds, .ref a0_classes, .ref a0_marks, .ref h0_order, .int 0])), (h0_order, .inl (k0_order, 2400, .inl f_3))], []) ∧ f_3 1500 = 0)) (fun u t => qw (dC, dI) u.2 (va_A [(h0, .inr (0, [.ref a0_kinds, .ref a0_classes, .ref a0_marks, .ref h0_order, .int 0])), (h0_order, .inl (k0_order, 2400, .inl f0_order))] sz) u.1 t) (va_A [(h0, .inr (0, [.ref a0_kinds, .ref a0_classes, .ref a0_marks, .ref h0_order, .int 0])), (h0_order, .inl (k0_order, 2400, .inl f0_order))] sz)) 0 0 (va_A [(h0, .inr (0, [.ref a0_kinds, .ref a0_classes, .ref a0_marks, .ref h0_order, .int 0])), (h0_order, .inl (k0_order, 2400, .inl f0_order))] sz) := by
  refine Met.ofW (cc := cX0_putInOrder) (maxL := 5) (ret := none) (by decide) rfl ?_
  intro p e s m args below meth c s₁ B hml hv
  obtain ⟨rfl, hsz, hP, hK, hD0, hN⟩ := hv
  have hx := B.exec
  have hb := B.bytes
  have hr := B.returns
  have hts := atoms_spec (ws := wsX0_putInOrder) B.pre
  have hown : s.vm.findClass RX0 = some m.cls := findClass_of_methodNamed B.named
  have hlocks := B.notSynchronized
  have hi0 : ∀ w ∈ u_ws RX0 TX0 5, w ∈ wsX0_putInOrder := fun _ h => List.mem_cons_of_mem _ (List.mem_append_right _ h)
  subst hsz
  have hD := hD0.self (sz := s.heap.size)
  generalize hAe : va_A [(h0, .inr (0, [.ref a0_kinds, .ref a0_classes, .ref a0_marks, .ref h0_order, .int 0])), (h0_order, .inl (k0_order, 2400, .inl f0_order))] s.heap.size = A at hD ⊢
  have hA : ∀ q : Nat, s.heap.size ≤ q → A q := fun q h => by rw [← hAe]; exact Or.inr h
  have hS : va_S A s.heap s.heap [] := va_S.rf
  have hl := lv_entry ([.ref h0, .int 5, .int p2]) (n := 5) (Nat.le_of_ble_eq_true rfl)
  rw [lg_entry_eq]
  generalize (lg_sl ([.ref h0, .int 5, .int p2]) ++ List.replicate (5 - (lg_sl ([.ref h0, .int 5, .int p2])).length) Slot.unset).toArray = ls at hl ⊢
  have hl : lv_has ls 5 [(0, .ref h0), (1, .int 5), (2, .int p2)] := hl
  have hP : va_P (dC, dI) vwCl [(h0, .inr (0, [.ref a0_kinds, .ref a0_classes, .ref a0_marks, .ref h0_order, .int 0])), (h0_order, .inl (k0_order, 2400, .inl f0_order))] s.heap := hP
  refine lv_iload_n hx hb dX0_putInOrder_0 rfl (lv_at hl 1 rfl) ?_
  refine lv_sipush (v := 300) hx hb dX0_putInOrder_1 (by decide) ?_
  refine lv_imul hx hb dX0_putInOrder_4 ?_
  refine tvv (v := .int 1500) (congrArg Value.int (by decide)) ?_
  refine lv_istore_n (lv' := [(3, .int 1500), (0, .ref h0), (1, .int 5), (2, .int p2)]) hx hb dX0_putInOrder_5 rfl hl (by decide) rfl (fun ls hl => ?_)
  refine lv_iload_n hx hb dX0_putInOrder_6 rfl (lv_at hl 0 rfl) ?_
  refine lv_aload_n hx hb dX0_putInOrder_7 rfl (lv_at hl 1 rfl) ?_
  refine va_get (D := (dC, dI)) (ci := 0) (v := .int 0) (C := RX0) (T := TX0) (N := 5) hx hb hts hi0 hown hK hP 0 rfl rfl 4 (by decide) (hts (.fieldLink RX0 24 "AskTree$Cases" "size" "I") (by decide +kernel)) (fun _ h9 => h9) rfl dX0_putInOrder_8 ?_
  refine lv_iadd hx hb dX0_putInOrder_11 ?_
  refine tvv (v := .int 1500) (congrArg Value.int (by decide)) ?_
  refine lv_istore (lv' := [(4, .int 1500), (3, .int 1500), (0, .ref h0), (1, .int 5), (2, .int p2)]) hx hb dX0_putInOrder_12 hl (by decide) rfl (fun ls hl => ?_)
  refine lv_iload hx hb dX0_putInOrder_14 (lv_at hl 0 rfl) ?_
  refine lv_iload_n hx hb dX0_putInOrder_16 rfl (lv_at hl 1 rfl) ?_
  refine lv_icmp_le (tgt := 49) hx hb dX0_putInOrder_17 (by decide) (fun c_1 => ?_) (fun c_1 => ?_)
  rotate_left
  · exact absurd c_1 (by decide)
  refine lv_aload_n hx hb dX0_putInOrder_49 rfl (lv_at hl 2 rfl) ?_
  refine va_get (D := (dC, dI)) (ci := 0) (v := .ref h0_order) (C := RX0) (T := TX0) (N := 5) hx hb hts hi0 hown hK hP 0 rfl rfl 3 (by decide) (hts (.fieldLink RX0 21 "AskTree$Cases" "order" "[I") (by decide +kernel)) (fun _ h9 => h9) rfl dX0_putInOrder_50 ?_
  refine lv_iload hx hb dX0_putInOrder_53 (lv_at hl 0 rfl) ?_
  refine lv_aload_n hx hb dX0_putInOrder_55 rfl (lv_at hl 2 rfl) ?_
  refine va_get (D := (dC, dI)) (ci := 0) (v := .ref h0_order) (C := RX0) (T := TX0) (N := 5) hx hb hts hi0 hown hK hP 0 rfl rfl 3 (by decide) (hts (.fieldLink RX0 21 "AskTree$Cases" "order" "[I") (by decide +kernel)) (fun _ h9 => h9) rfl dX0_putInOrder_56 ?_
  refine lv_iload hx hb dX0_putInOrder_59 (lv_at hl 0 rfl) ?_
  refine lv_iconst (v := 1) hx hb dX0_putInOrder_61 (by decide) ?_
  refine lv_iadd hx hb dX0_putInOrder_62 ?_
  refine tvv (v := .int 1501) (congrArg Value.int (by decide)) ?_
  refine lv_iload_n hx hb dX0_putInOrder_63 rfl (lv_at hl 1 rfl) ?_
  refine lv_aload_n hx hb dX0_putInOrder_64 rfl (lv_at hl 2 rfl) ?_
  refine va_get (D := (dC, dI)) (ci := 0) (v := .int 0) (C := RX0) (T := TX0) (N := 5) hx hb hts hi0 hown hK hP 0 rfl rfl 4 (by decide) (hts (.fieldLink RX0 24 "AskTree$Cases" "size" "I") (by decide +kernel)) (fun _ h9 => h9) rfl dX0_putInOrder_65 ?_
  refine lv_iadd hx hb dX0_putInOrder_68 ?_
  refine tvv (v := .int 1500) (congrArg Value.int (by decide)) ?_
  refine lv_iload hx hb dX0_putInOrder_69 (lv_at hl 0 rfl) ?_
  refine lv_isub hx hb dX0_putInOrder_71 ?_
  refine tvv (v := .int 0) (congrArg Value.int (by decide)) ?_
  refine va_copyi (ty := .int) hx hb (by rw [hml]; exact hl.1.symm) hown (hts (.methodLink RX0 32 arraycopyName) (by decide +kernel)) (hts (.native arraycopyName) (by decide +kernel)) (hts (.static arraycopyName) (by decide +kernel)) (hts (.initialized "java/lang/System") (by decide +kernel)) hK hP hD hS 1 1 0 0 rfl rfl rfl rfl rfl (by decide) (by decide) (by decide) (by decide) (by decide) (fun _ _ => rfl) (Nat.le_of_ble_eq_true rfl) (Nat.le_of_ble_eq_true rfl) dX0_putInOrder_72 (fun H locs hP hD hS => ?_)
  have hP : va_P (dC, dI) vwCl [(h0, .inr (0, [.ref a0_kinds, .ref a0_classes, .ref a0_marks, .ref h0_order, .int 0])), (h0_order, .inl (k0_order, 2400, .inl (va_cpy f0_order f0_order (Int32.toNatClampNeg 1500) (Int32.toNatClampNeg 1501) (Int32.toNatClampNeg 0))))] H := hP
  have hD : va_D A [(h0, .inr (0, [.ref a0_kinds, .ref a0_classes, .ref a0_marks, .ref h0_order, .int 0])), (h0_order, .inl (k0_order, 2400, .inl (va_cpy f0_order f0_order (Int32.toNatClampNeg 1500) (Int32.toNatClampNeg 1501) (Int32.toNatClampNeg 0))))] := hD
  generalize va_cpy f0_order f0_order (Int32.toNatClampNeg 1500) (Int32.toNatClampNeg 1501) (Int32.toNatClampNeg 0) = f_2 at hP hD
  refine lv_aload_n hx hb dX0_putInOrder_75 rfl (lv_at hl 2 rfl) ?_
  refine va_get (D := (dC, dI)) (ci := 0) (v := .ref h0_order) (C := RX0) (T := TX0) (N := 5) hx hb hts hi0 hown hK hP 0 rfl rfl 3 (by decide) (hts (.fieldLink RX0 21 "AskTree$Cases" "order" "[I") (by decide +kernel)) (fun _ h9 => h9) rfl dX0_putInOrder_76 ?_
  refine lv_iload hx hb dX0_putInOrder_79 (lv_at hl 0 rfl) ?_
  refine lv_aload_n hx hb dX0_putInOrder_81 rfl (lv_at hl 2 rfl) ?_
  refine va_get (D := (dC, dI)) (ci := 0) (v := .int 0) (C := RX0) (T := TX0) (N := 5) hx hb hts hi0 hown hK hP 0 rfl rfl 4 (by decide) (hts (.fieldLink RX0 24 "AskTree$Cases" "size" "I") (by decide +kernel)) (fun _ h9 => h9) rfl dX0_putInOrder_82 ?_
  refine va_iast hx hb hK hP hD hS 1 0 rfl rfl (vi _ _ (by decide)) dX0_putInOrder_85 (fun H locs hP hD hS => ?_)
  have hP : va_P (dC, dI) vwCl [(h0, .inr (0, [.ref a0_kinds, .ref a0_classes, .ref a0_marks, .ref h0_order, .int 0])), (h0_order, .inl (k0_order, 2400, .inl (upd f_2 (Int32.toNatClampNeg 1500) 0)))] H := hP
  have hD : va_D A [(h0, .inr (0, [.ref a0_kinds, .ref a0_classes, .ref a0_marks, .ref h0_order, .int 0])), (h0_order, .inl (k0_order, 2400, .inl (upd f_2 (Int32.toNatClampNeg 1500) 0)))] := hD
  generalize hf_4 : upd f_2 (Int32.toNatClampNeg 1500) 0 = f_3 at hP hD
  have hk_5 : f_3 1500 = 0 := by rw [← hf_4]; exact up_s (by decide)
  clear hf_4
  have hP9 := hP.sub (ws' := [(h0, .inr (0, [.ref a0_kinds, .ref a0_classes, .ref a0_marks, .ref h0_order, .int 0])), (h0_order, .inl (k0_order, 2400, .inl f_3))]) [0, 1] rfl
  have hD9 := hD.sub (ws' := [(h0, .inr (0, [.ref a0_kinds, .ref a0_classes, .ref a0_marks, .ref h0_order, .int 0])), (h0_order, .inl (k0_order, 2400, .inl f_3))]) [0, 1] (by decide) rfl
  have hK9 := hK.sub (tys' := []) [] rfl
  exact W.vret hx hb hr (fun t ht hW => ⟨⟨([(h0, .inr (0, [.ref a0_kinds, .ref a0_classes, .ref a0_marks, .ref h0_order, .int 0])), (h0_order, .inl (k0_order, 2400, .inl f_3))], []), rfl, ⟨f_3, rfl, hk_5⟩, (by rw [ht]; exact hP9), va_K.moved hW.alike hK9, hD9⟩, hS.F ht⟩) hS.2.2 dX0_putInOrder_86

set_option maxHeartbeats 4000000 in
set_option maxRecDepth 100000 in
theorem c_putInOrder6 (l : Launch) (dC : Nat → ClassId) (dI : Nat → Nat → Nat) (sz : Nat) (h0 : Nat) (p2 : Int32) (h0_order : Nat) (a0_kinds : Nat) (a0_classes : Nat) (a0_marks : Nat) (k0_order : ClassId) (f0_order : Nat → Int32)   : Met l yX0_putInOrder wsX0_putInOrder ({ frames := 1, cells := 0, slots := 0, locals := 60 }) (va_Pc [.ref h0, .int 6, .int p2] (pw (dC, dI) [(k0_order, .int)] [(h0, .inr (0, [.ref a0_kinds, .ref a0_classes, .ref a0_marks, .ref h0_order, .int 0])), (h0_order, .inl (k0_order, 2400, .inl f0_order))] sz)) (va_Qv (fun (u : vu) => (∃ (f_3 : Nat → Int32), u = ([(h0, .inr (0, [.ref a0_kinds, .ref a0_classes, .ref a0_marks, .ref h0_order, .int 0])), (h0_order, .inl (k0_order, 2400, .inl f_3))], []) ∧ f_3 1800 = 0)) (fun u t => qw (dC, dI) u.2 (va_A [(h0, .inr (0, [.ref a0_kinds, .ref a0_classes, .ref a0_marks, .ref h0_order, .int 0])), (h0_order, .inl (k0_order, 2400, .inl f0_order))] sz) u.1 t) (va_A [(h0, .inr (0, [.ref a0_kinds, .ref a0_classes, .ref a0_marks, .ref h0_order, .int 0])), (h0_order, .inl (k0_order, 2400, .inl f0_order))] sz)) 0 0 (va_A [(h0, .inr (0, [.ref a0_kinds, .ref a0_classes, .ref a0_marks, .ref h0_order, .int 0])), (h0_order, .inl (k0_order, 2400, .inl f0_order))] sz) := by
  refine Met.ofW (cc := cX0_putInOrder) (maxL := 5) (ret := none) (by decide) rfl ?_
  intro p e s m args below meth c s₁ B hml hv
  obtain ⟨rfl, hsz, hP, hK, hD0, hN⟩ := hv
  have hx := B.exec
  have hb := B.bytes
  have hr := B.returns
  have hts := atoms_spec (ws := wsX0_putInOrder) B.pre
  have hown : s.vm.findClass RX0 = some m.cls := findClass_of_methodNamed B.named
  have hlocks := B.notSynchronized
  have hi0 : ∀ w ∈ u_ws RX0 TX0 5, w ∈ wsX0_putInOrder := fun _ h => List.mem_cons_of_mem _ (List.mem_append_right _ h)
  subst hsz
  have hD := hD0.self (sz := s.heap.size)
  generalize hAe : va_A [(h0, .inr (0, [.ref a0_kinds, .ref a0_classes, .ref a0_marks, .ref h0_order, .int 0])), (h0_order, .inl (k0_order, 2400, .inl f0_order))] s.heap.size = A at hD ⊢
  have hA : ∀ q : Nat, s.heap.size ≤ q → A q := fun q h => by rw [← hAe]; exact Or.inr h
  have hS : va_S A s.heap s.heap [] := va_S.rf
  have hl := lv_entry ([.ref h0, .int 6, .int p2]) (n := 5) (Nat.le_of_ble_eq_true rfl)
  rw [lg_entry_eq]
  generalize (lg_sl ([.ref h0, .int 6, .int p2]) ++ List.replicate (5 - (lg_sl ([.ref h0, .int 6, .int p2])).length) Slot.unset).toArray = ls at hl ⊢
  have hl : lv_has ls 5 [(0, .ref h0), (1, .int 6), (2, .int p2)] := hl
  have hP : va_P (dC, dI) vwCl [(h0, .inr (0, [.ref a0_kinds, .ref a0_classes, .ref a0_marks, .ref h0_order, .int 0])), (h0_order, .inl (k0_order, 2400, .inl f0_order))] s.heap := hP
  refine lv_iload_n hx hb dX0_putInOrder_0 rfl (lv_at hl 1 rfl) ?_
  refine lv_sipush (v := 300) hx hb dX0_putInOrder_1 (by decide) ?_
  refine lv_imul hx hb dX0_putInOrder_4 ?_
  refine tvv (v := .int 1800) (congrArg Value.int (by decide)) ?_
  refine lv_istore_n (lv' := [(3, .int 1800), (0, .ref h0), (1, .int 6), (2, .int p2)]) hx hb dX0_putInOrder_5 rfl hl (by decide) rfl (fun ls hl => ?_)
  refine lv_iload_n hx hb dX0_putInOrder_6 rfl (lv_at hl 0 rfl) ?_
  refine lv_aload_n hx hb dX0_putInOrder_7 rfl (lv_at hl 1 rfl) ?_
  refine va_get (D := (dC, dI)) (ci := 0) (v := .int 0) (C := RX0) (T := TX0) (N := 5) hx hb hts hi0 hown hK hP 0 rfl rfl 4 (by decide) (hts (.fieldLink RX0 24 "AskTree$Cases" "size" "I") (by decide +kernel)) (fun _ h9 => h9) rfl dX0_putInOrder_8 ?_
  refine lv_iadd hx hb dX0_putInOrder_11 ?_
  refine tvv (v := .int 1800) (congrArg Value.int (by decide)) ?_
  refine lv_istore (lv' := [(4, .int 1800), (3, .int 1800), (0, .ref h0), (1, .int 6), (2, .int p2)]) hx hb dX0_putInOrder_12 hl (by decide) rfl (fun ls hl => ?_)
  refine lv_iload hx hb dX0_putInOrder_14 (lv_at hl 0 rfl) ?_
  refine lv_iload_n hx hb dX0_putInOrder_16 rfl (lv_at hl 1 rfl) ?_
  refine lv_icmp_le (tgt := 49) hx hb dX0_putInOrder_17 (by decide) (fun c_1 => ?_) (fun c_1 => ?_)
  rotate_left
  · exact absurd c_1 (by decide)
  refine lv_aload_n hx hb dX0_putInOrder_49 rfl (lv_at hl 2 rfl) ?_
  refine va_get (D := (dC, dI)) (ci := 0) (v := .ref h0_order) (C := RX0) (T := TX0) (N := 5) hx hb hts hi0 hown hK hP 0 rfl rfl 3 (by decide) (hts (.fieldLink RX0 21 "AskTree$Cases" "order" "[I") (by decide +kernel)) (fun _ h9 => h9) rfl dX0_putInOrder_50 ?_
  refine lv_iload hx hb dX0_putInOrder_53 (lv_at hl 0 rfl) ?_
  refine lv_aload_n hx hb dX0_putInOrder_55 rfl (lv_at hl 2 rfl) ?_
  refine va_get (D := (dC, dI)) (ci := 0) (v := .ref h0_order) (C := RX0) (T := TX0) (N := 5) hx hb hts hi0 hown hK hP 0 rfl rfl 3 (by decide) (hts (.fieldLink RX0 21 "AskTree$Cases" "order" "[I") (by decide +kernel)) (fun _ h9 => h9) rfl dX0_putInOrder_56 ?_
  refine lv_iload hx hb dX0_putInOrder_59 (lv_at hl 0 rfl) ?_
  refine lv_iconst (v := 1) hx hb dX0_putInOrder_61 (by decide) ?_
  refine lv_iadd hx hb dX0_putInOrder_62 ?_
  refine tvv (v := .int 1801) (congrArg Value.int (by decide)) ?_
  refine lv_iload_n hx hb dX0_putInOrder_63 rfl (lv_at hl 1 rfl) ?_
  refine lv_aload_n hx hb dX0_putInOrder_64 rfl (lv_at hl 2 rfl) ?_
  refine va_get (D := (dC, dI)) (ci := 0) (v := .int 0) (C := RX0) (T := TX0) (N := 5) hx hb hts hi0 hown hK hP 0 rfl rfl 4 (by decide) (hts (.fieldLink RX0 24 "AskTree$Cases" "size" "I") (by decide +kernel)) (fun _ h9 => h9) rfl dX0_putInOrder_65 ?_
  refine lv_iadd hx hb dX0_putInOrder_68 ?_
  refine tvv (v := .int 1800) (congrArg Value.int (by decide)) ?_
  refine lv_iload hx hb dX0_putInOrder_69 (lv_at hl 0 rfl) ?_
  refine lv_isub hx hb dX0_putInOrder_71 ?_
  refine tvv (v := .int 0) (congrArg Value.int (by decide)) ?_
  refine va_copyi (ty := .int) hx hb (by rw [hml]; exact hl.1.symm) hown (hts (.methodLink RX0 32 arraycopyName) (by decide +kernel)) (hts (.native arraycopyName) (by decide +kernel)) (hts (.static arraycopyName) (by decide +kernel)) (hts (.initialized "java/lang/System") (by decide +kernel)) hK hP hD hS 1 1 0 0 rfl rfl rfl rfl rfl (by decide) (by decide) (by decide) (by decide) (by decide) (fun _ _ => rfl) (Nat.le_of_ble_eq_true rfl) (Nat.le_of_ble_eq_true rfl) dX0_putInOrder_72 (fun H locs hP hD hS => ?_)
  have hP : va_P (dC, dI) vwCl [(h0, .inr (0, [.ref a0_kinds, .ref a0_classes, .ref a0_marks, .ref h0_order, .int 0])), (h0_order, .inl (k0_order, 2400, .inl (va_cpy f0_order f0_order (Int32.toNatClampNeg 1800) (Int32.toNatClampNeg 1801) (Int32.toNatClampNeg 0))))] H := hP
  have hD : va_D A [(h0, .inr (0, [.ref a0_kinds, .ref a0_classes, .ref a0_marks, .ref h0_order, .int 0])), (h0_order, .inl (k0_order, 2400, .inl (va_cpy f0_order f0_order (Int32.toNatClampNeg 1800) (Int32.toNatClampNeg 1801) (Int32.toNatClampNeg 0))))] := hD
  generalize va_cpy f0_order f0_order (Int32.toNatClampNeg 1800) (Int32.toNatClampNeg 1801) (Int32.toNatClampNeg 0) = f_2 at hP hD
  refine lv_aload_n hx hb dX0_putInOrder_75 rfl (lv_at hl 2 rfl) ?_
  refine va_get (D := (dC, dI)) (ci := 0) (v := .ref h0_order) (C := RX0) (T := TX0) (N := 5) hx hb hts hi0 hown hK hP 0 rfl rfl 3 (by decide) (hts (.fieldLink RX0 21 "AskTree$Cases" "order" "[I") (by decide +kernel)) (fun _ h9 => h9) rfl dX0_putInOrder_76 ?_
  refine lv_iload hx hb dX0_putInOrder_79 (lv_at hl 0 rfl) ?_
  refine lv_aload_n hx hb dX0_putInOrder_81 rfl (lv_at hl 2 rfl) ?_
  refine va_get (D := (dC, dI)) (ci := 0) (v := .int 0) (C := RX0) (T := TX0) (N := 5) hx hb hts hi0 hown hK hP 0 rfl rfl 4 (by decide) (hts (.fieldLink RX0 24 "AskTree$Cases" "size" "I") (by decide +kernel)) (fun _ h9 => h9) rfl dX0_putInOrder_82 ?_
  refine va_iast hx hb hK hP hD hS 1 0 rfl rfl (vi _ _ (by decide)) dX0_putInOrder_85 (fun H locs hP hD hS => ?_)
  have hP : va_P (dC, dI) vwCl [(h0, .inr (0, [.ref a0_kinds, .ref a0_classes, .ref a0_marks, .ref h0_order, .int 0])), (h0_order, .inl (k0_order, 2400, .inl (upd f_2 (Int32.toNatClampNeg 1800) 0)))] H := hP
  have hD : va_D A [(h0, .inr (0, [.ref a0_kinds, .ref a0_classes, .ref a0_marks, .ref h0_order, .int 0])), (h0_order, .inl (k0_order, 2400, .inl (upd f_2 (Int32.toNatClampNeg 1800) 0)))] := hD
  generalize hf_4 : upd f_2 (Int32.toNatClampNeg 1800) 0 = f_3 at hP hD
  have hk_5 : f_3 1800 = 0 := by rw [← hf_4]; exact up_s (by decide)
  clear hf_4
  have hP9 := hP.sub (ws' := [(h0, .inr (0, [.ref a0_kinds, .ref a0_classes, .ref a0_marks, .ref h0_order, .int 0])), (h0_order, .inl (k0_order, 2400, .inl f_3))]) [0, 1] rfl
  have hD9 := hD.sub (ws' := [(h0, .inr (0, [.ref a0_kinds, .ref a0_classes, .ref a0_marks, .ref h0_order, .int 0])), (h0_order, .inl (k0_order, 2400, .inl f_3))]) [0, 1] (by decide) rfl
  have hK9 := hK.sub (tys' := []) [] rfl
  exact W.vret hx hb hr (fun t ht hW => ⟨⟨([(h0, .inr (0, [.ref a0_kinds, .ref a0_classes, .ref a0_marks, .ref h0_order, .int 0])), (h0_order, .inl (k0_order, 2400, .inl f_3))], []), rfl, ⟨f_3, rfl, hk_5⟩, (by rw [ht]; exact hP9), va_K.moved hW.alike hK9, hD9⟩, hS.F ht⟩) hS.2.2 dX0_putInOrder_86

set_option maxHeartbeats 4000000 in
set_option maxRecDepth 100000 in
theorem c_putInOrder7 (l : Launch) (dC : Nat → ClassId) (dI : Nat → Nat → Nat) (sz : Nat) (h0 : Nat) (p2 : Int32) (h0_order : Nat) (a0_kinds : Nat) (a0_classes : Nat) (a0_marks : Nat) (k0_order : ClassId) (f0_order : Nat → Int32)   : Met l yX0_putInOrder wsX0_putInOrder ({ frames := 1, cells := 0, slots := 0, locals := 60 }) (va_Pc [.ref h0, .int 7, .int p2] (pw (dC, dI) [(k0_order, .int)] [(h0, .inr (0, [.ref a0_kinds, .ref a0_classes, .ref a0_marks, .ref h0_order, .int 0])), (h0_order, .inl (k0_order, 2400, .inl f0_order))] sz)) (va_Qv (fun (u : vu) => (∃ (f_3 : Nat → Int32), u = ([(h0, .inr (0, [.ref a0_kinds, .ref a0_classes, .ref a0_marks, .ref h0_order, .int 0])), (h0_order, .inl (k0_order, 2400, .inl f_3))], []) ∧ f_3 2100 = 0)) (fun u t => qw (dC, dI) u.2 (va_A [(h0, .inr (0, [.ref a0_kinds, .ref a0_classes, .ref a0_marks, .ref h0_order, .int 0])), (h0_order, .inl (k0_order, 2400, .inl f0_order))] sz) u.1 t) (va_A [(h0, .inr (0, [.ref a0_kinds, .ref a0_classes, .ref a0_marks, .ref h0_order, .int 0])), (h0_order, .inl (k0_order, 2400, .inl f0_order))] sz)) 0 0 (va_A [(h0, .inr (0, [.ref a0_kinds, .ref a0_classes, .ref a0_marks, .ref h0_order, .int 0])), (h0_order, .inl (k0_order, 2400, .inl f0_order))] sz) := by
  refine Met.ofW (cc := cX0_putInOrder) (maxL := 5) (ret := none) (by decide) rfl ?_
  intro p e s m args below meth c s₁ B hml hv
  obtain ⟨rfl, hsz, hP, hK, hD0, hN⟩ := hv
  have hx := B.exec
  have hb := B.bytes
  have hr := B.returns
  have hts := atoms_spec (ws := wsX0_putInOrder) B.pre
  have hown : s.vm.findClass RX0 = some m.cls := findClass_of_methodNamed B.named
  have hlocks := B.notSynchronized
  have hi0 : ∀ w ∈ u_ws RX0 TX0 5, w ∈ wsX0_putInOrder := fun _ h => List.mem_cons_of_mem _ (List.mem_append_right _ h)
  subst hsz
  have hD := hD0.self (sz := s.heap.size)
  generalize hAe : va_A [(h0, .inr (0, [.ref a0_kinds, .ref a0_classes, .ref a0_marks, .ref h0_order, .int 0])), (h0_order, .inl (k0_order, 2400, .inl f0_order))] s.heap.size = A at hD ⊢
  have hA : ∀ q : Nat, s.heap.size ≤ q → A q := fun q h => by rw [← hAe]; exact Or.inr h
  have hS : va_S A s.heap s.heap [] := va_S.rf
  have hl := lv_entry ([.ref h0, .int 7, .int p2]) (n := 5) (Nat.le_of_ble_eq_true rfl)
  rw [lg_entry_eq]
  generalize (lg_sl ([.ref h0, .int 7, .int p2]) ++ List.replicate (5 - (lg_sl ([.ref h0, .int 7, .int p2])).length) Slot.unset).toArray = ls at hl ⊢
  have hl : lv_has ls 5 [(0, .ref h0), (1, .int 7), (2, .int p2)] := hl
  have hP : va_P (dC, dI) vwCl [(h0, .inr (0, [.ref a0_kinds, .ref a0_classes, .ref a0_marks, .ref h0_order, .int 0])), (h0_order, .inl (k0_order, 2400, .inl f0_order))] s.heap := hP
  refine lv_iload_n hx hb dX0_putInOrder_0 rfl (lv_at hl 1 rfl) ?_
  refine lv_sipush (v := 300) hx hb dX0_putInOrder_1 (by decide) ?_
  refine lv_imul hx hb dX0_putInOrder_4 ?_
  refine tvv (v := .int 2100) (congrArg Value.int (by decide)) ?_
  refine lv_istore_n (lv' := [(3, .int 2100), (0, .ref h0), (1, .int 7), (2, .int p2)]) hx hb dX0_putInOrder_5 rfl hl (by decide) rfl (fun ls hl => ?_)
  refine lv_iload_n hx hb dX0_putInOrder_6 rfl (lv_at hl 0 rfl) ?_
  refine lv_aload_n hx hb dX0_putInOrder_7 rfl (lv_at hl 1 rfl) ?_
  refine va_get (D := (dC, dI)) (ci := 0) (v := .int 0) (C := RX0) (T := TX0) (N := 5) hx hb hts hi0 hown hK hP 0 rfl rfl 4 (by decide) (hts (.fieldLink RX0 24 "AskTree$Cases" "size" "I") (by decide +kernel)) (fun _ h9 => h9) rfl dX0_putInOrder_8 ?_
  refine lv_iadd hx hb dX0_putInOrder_11 ?_
  refine tvv (v := .int 2100) (congrArg Value.int (by decide)) ?_
  refine lv_istore (lv' := [(4, .int 2100), (3, .int 2100), (0, .ref h0), (1, .int 7), (2, .int p2)]) hx hb dX0_putInOrder_12 hl (by decide) rfl (fun ls hl => ?_)
  refine lv_iload hx hb dX0_putInOrder_14 (lv_at hl 0 rfl) ?_
  refine lv_iload_n hx hb dX0_putInOrder_16 rfl (lv_at hl 1 rfl) ?_
  refine lv_icmp_le (tgt := 49) hx hb dX0_putInOrder_17 (by decide) (fun c_1 => ?_) (fun c_1 => ?_)
  rotate_left
  · exact absurd c_1 (by decide)
  refine lv_aload_n hx hb dX0_putInOrder_49 rfl (lv_at hl 2 rfl) ?_
  refine va_get (D := (dC, dI)) (ci := 0) (v := .ref h0_order) (C := RX0) (T := TX0) (N := 5) hx hb hts hi0 hown hK hP 0 rfl rfl 3 (by decide) (hts (.fieldLink RX0 21 "AskTree$Cases" "order" "[I") (by decide +kernel)) (fun _ h9 => h9) rfl dX0_putInOrder_50 ?_
  refine lv_iload hx hb dX0_putInOrder_53 (lv_at hl 0 rfl) ?_
  refine lv_aload_n hx hb dX0_putInOrder_55 rfl (lv_at hl 2 rfl) ?_
  refine va_get (D := (dC, dI)) (ci := 0) (v := .ref h0_order) (C := RX0) (T := TX0) (N := 5) hx hb hts hi0 hown hK hP 0 rfl rfl 3 (by decide) (hts (.fieldLink RX0 21 "AskTree$Cases" "order" "[I") (by decide +kernel)) (fun _ h9 => h9) rfl dX0_putInOrder_56 ?_
  refine lv_iload hx hb dX0_putInOrder_59 (lv_at hl 0 rfl) ?_
  refine lv_iconst (v := 1) hx hb dX0_putInOrder_61 (by decide) ?_
  refine lv_iadd hx hb dX0_putInOrder_62 ?_
  refine tvv (v := .int 2101) (congrArg Value.int (by decide)) ?_
  refine lv_iload_n hx hb dX0_putInOrder_63 rfl (lv_at hl 1 rfl) ?_
  refine lv_aload_n hx hb dX0_putInOrder_64 rfl (lv_at hl 2 rfl) ?_
  refine va_get (D := (dC, dI)) (ci := 0) (v := .int 0) (C := RX0) (T := TX0) (N := 5) hx hb hts hi0 hown hK hP 0 rfl rfl 4 (by decide) (hts (.fieldLink RX0 24 "AskTree$Cases" "size" "I") (by decide +kernel)) (fun _ h9 => h9) rfl dX0_putInOrder_65 ?_
  refine lv_iadd hx hb dX0_putInOrder_68 ?_
  refine tvv (v := .int 2100) (congrArg Value.int (by decide)) ?_
  refine lv_iload hx hb dX0_putInOrder_69 (lv_at hl 0 rfl) ?_
  refine lv_isub hx hb dX0_putInOrder_71 ?_
  refine tvv (v := .int 0) (congrArg Value.int (by decide)) ?_
  refine va_copyi (ty := .int) hx hb (by rw [hml]; exact hl.1.symm) hown (hts (.methodLink RX0 32 arraycopyName) (by decide +kernel)) (hts (.native arraycopyName) (by decide +kernel)) (hts (.static arraycopyName) (by decide +kernel)) (hts (.initialized "java/lang/System") (by decide +kernel)) hK hP hD hS 1 1 0 0 rfl rfl rfl rfl rfl (by decide) (by decide) (by decide) (by decide) (by decide) (fun _ _ => rfl) (Nat.le_of_ble_eq_true rfl) (Nat.le_of_ble_eq_true rfl) dX0_putInOrder_72 (fun H locs hP hD hS => ?_)
  have hP : va_P (dC, dI) vwCl [(h0, .inr (0, [.ref a0_kinds, .ref a0_classes, .ref a0_marks, .ref h0_order, .int 0])), (h0_order, .inl (k0_order, 2400, .inl (va_cpy f0_order f0_order (Int32.toNatClampNeg 2100) (Int32.toNatClampNeg 2101) (Int32.toNatClampNeg 0))))] H := hP
  have hD : va_D A [(h0, .inr (0, [.ref a0_kinds, .ref a0_classes, .ref a0_marks, .ref h0_order, .int 0])), (h0_order, .inl (k0_order, 2400, .inl (va_cpy f0_order f0_order (Int32.toNatClampNeg 2100) (Int32.toNatClampNeg 2101) (Int32.toNatClampNeg 0))))] := hD
  generalize va_cpy f0_order f0_order (Int32.toNatClampNeg 2100) (Int32.toNatClampNeg 2101) (Int32.toNatClampNeg 0) = f_2 at hP hD
  refine lv_aload_n hx hb dX0_putInOrder_75 rfl (lv_at hl 2 rfl) ?_
  refine va_get (D := (dC, dI)) (ci := 0) (v := .ref h0_order) (C := RX0) (T := TX0) (N := 5) hx hb hts hi0 hown hK hP 0 rfl rfl 3 (by decide) (hts (.fieldLink RX0 21 "AskTree$Cases" "order" "[I") (by decide +kernel)) (fun _ h9 => h9) rfl dX0_putInOrder_76 ?_
  refine lv_iload hx hb dX0_putInOrder_79 (lv_at hl 0 rfl) ?_
  refine lv_aload_n hx hb dX0_putInOrder_81 rfl (lv_at hl 2 rfl) ?_
  refine va_get (D := (dC, dI)) (ci := 0) (v := .int 0) (C := RX0) (T := TX0) (N := 5) hx hb hts hi0 hown hK hP 0 rfl rfl 4 (by decide) (hts (.fieldLink RX0 24 "AskTree$Cases" "size" "I") (by decide +kernel)) (fun _ h9 => h9) rfl dX0_putInOrder_82 ?_
  refine va_iast hx hb hK hP hD hS 1 0 rfl rfl (vi _ _ (by decide)) dX0_putInOrder_85 (fun H locs hP hD hS => ?_)
  have hP : va_P (dC, dI) vwCl [(h0, .inr (0, [.ref a0_kinds, .ref a0_classes, .ref a0_marks, .ref h0_order, .int 0])), (h0_order, .inl (k0_order, 2400, .inl (upd f_2 (Int32.toNatClampNeg 2100) 0)))] H := hP
  have hD : va_D A [(h0, .inr (0, [.ref a0_kinds, .ref a0_classes, .ref a0_marks, .ref h0_order, .int 0])), (h0_order, .inl (k0_order, 2400, .inl (upd f_2 (Int32.toNatClampNeg 2100) 0)))] := hD
  generalize hf_4 : upd f_2 (Int32.toNatClampNeg 2100) 0 = f_3 at hP hD
  have hk_5 : f_3 2100 = 0 := by rw [← hf_4]; exact up_s (by decide)
  clear hf_4
  have hP9 := hP.sub (ws' := [(h0, .inr (0, [.ref a0_kinds, .ref a0_classes, .ref a0_marks, .ref h0_order, .int 0])), (h0_order, .inl (k0_order, 2400, .inl f_3))]) [0, 1] rfl
  have hD9 := hD.sub (ws' := [(h0, .inr (0, [.ref a0_kinds, .ref a0_classes, .ref a0_marks, .ref h0_order, .int 0])), (h0_order, .inl (k0_order, 2400, .inl f_3))]) [0, 1] (by decide) rfl
  have hK9 := hK.sub (tys' := []) [] rfl
  exact W.vret hx hb hr (fun t ht hW => ⟨⟨([(h0, .inr (0, [.ref a0_kinds, .ref a0_classes, .ref a0_marks, .ref h0_order, .int 0])), (h0_order, .inl (k0_order, 2400, .inl f_3))], []), rfl, ⟨f_3, rfl, hk_5⟩, (by rw [ht]; exact hP9), va_K.moved hW.alike hK9, hD9⟩, hS.F ht⟩) hS.2.2 dX0_putInOrder_86

set_option maxHeartbeats 4000000 in
set_option maxRecDepth 100000 in
theorem c_append (l : Launch) (dC : Nat → ClassId) (dI : Nat → Nat → Nat) (sz : Nat) (h0 : Nat) (p1 : Int32) (h2 : Nat) (h0_classes : Nat) (h0_marks : Nat) (h0_order : Nat) (a0_kinds : Nat) (k0_classes : ClassId) (f0_classes : Nat → Int32) (k0_marks : ClassId) (f0_marks : Nat → Int32) (k0_order : ClassId) (f0_order : Nat → Int32) (k2 : ClassId) (f2 : Nat → Int32)   : Met l yX0_append wsX0_append ({ frames := 2, cells := 0, slots := 0, locals := 84 }) (va_Pc [.ref h0, .int p1, .ref h2] (pw (dC, dI) [(k0_classes, .int), (k0_marks, .int), (k0_order, .int), (k2, .int)] [(h0, .inr (0, [.ref a0_kinds, .ref h0_classes, .ref h0_marks, .ref h0_order, .int 0])), (h0_classes, .inl (k0_classes, 300, .inl f0_classes)), (h0_marks, .inl (k0_marks, 2400, .inl f0_marks)), (h0_order, .inl (k0_order, 2400, .inl f0_order)), (h2, .inl (k2, 8, .inl f2))] sz)) (va_Qv (fun (u : vu) => (∃ (f_2 : Nat → Int32) (f_76 : Nat → Int32) (f_87 : Nat → Int32), u = ([(h0, .inr (0, [.ref a0_kinds, .ref h0_classes, .ref h0_marks, .ref h0_order, .int 1])), (h0_classes, .inl (k0_classes, 300, .inl f_2)), (h0_marks, .inl (k0_marks, 2400, .inl f_76)), (h0_order, .inl (k0_order, 2400, .inl f_87)), (h2, .inl (k2, 8, .inl f2))], []))) (fun u t => qw (dC, dI) u.2 (va_A [(h0, .inr (0, [.ref a0_kinds, .ref h0_classes, .ref h0_marks, .ref h0_order, .int 0])), (h0_classes, .inl (k0_classes, 300, .inl f0_classes)), (h0_marks, .inl (k0_marks, 2400, .inl f0_marks)), (h0_order, .inl (k0_order, 2400, .inl f0_order)), (h2, .inl (k2, 8, .inl f2))] sz) u.1 t) (va_A [(h0, .inr (0, [.ref a0_kinds, .ref h0_classes, .ref h0_marks, .ref h0_order, .int 0])), (h0_classes, .inl (k0_classes, 300, .inl f0_classes)), (h0_marks, .inl (k0_marks, 2400, .inl f0_marks)), (h0_order, .inl (k0_order, 2400, .inl f0_order)), (h2, .inl (k2, 8, .inl f2))] sz)) 0 0 (va_A [(h0, .inr (0, [.ref a0_kinds, .ref h0_classes, .ref h0_marks, .ref h0_order, .int 0])), (h0_classes, .inl (k0_classes, 300, .inl f0_classes)), (h0_marks, .inl (k0_marks, 2400, .inl f0_marks)), (h0_order, .inl (k0_order, 2400, .inl f0_order)), (h2, .inl (k2, 8, .inl f2))] sz) := by
  refine Met.ofW (cc := cX0_append) (maxL := 4) (ret := none) (by decide) rfl ?_
  intro p e s m args below meth c s₁ B hml hv
  obtain ⟨rfl, hsz, hP, hK, hD0, hN⟩ := hv
  have hx := B.exec
  have hb := B.bytes
  have hr := B.returns
  have hts := atoms_spec (ws := wsX0_append) B.pre
  have hown : s.vm.findClass RX0 = some m.cls := findClass_of_methodNamed B.named
  have hlocks := B.notSynchronized
  have hi0 : ∀ w ∈ u_ws RX0 TX0 5, w ∈ wsX0_append := fun _ h => List.mem_cons_of_mem _ (List.mem_append_right _ h)
  subst hsz
  have hD := hD0.self (sz := s.heap.size)
  generalize hAe : va_A [(h0, .inr (0, [.ref a0_kinds, .ref h0_classes, .ref h0_marks, .ref h0_order, .int 0])), (h0_classes, .inl (k0_classes, 300, .inl f0_classes)), (h0_marks, .inl (k0_marks, 2400, .inl f0_marks)), (h0_order, .inl (k0_order, 2400, .inl f0_order)), (h2, .inl (k2, 8, .inl f2))] s.heap.size = A at hD ⊢
  have hA : ∀ q : Nat, s.heap.size ≤ q → A q := fun q h => by rw [← hAe]; exact Or.inr h
  have hS : va_S A s.heap s.heap [] := va_S.rf
  have hl := lv_entry ([.ref h0, .int p1, .ref h2]) (n := 4) (Nat.le_of_ble_eq_true rfl)
  rw [lg_entry_eq]
  generalize (lg_sl ([.ref h0, .int p1, .ref h2]) ++ List.replicate (4 - (lg_sl ([.ref h0, .int p1, .ref h2])).length) Slot.unset).toArray = ls at hl ⊢
  have hl : lv_has ls 4 [(0, .ref h0), (1, .int p1), (2, .ref h2)] := hl
  have hP : va_P (dC, dI) vwCl [(h0, .inr (0, [.ref a0_kinds, .ref h0_classes, .ref h0_marks, .ref h0_order, .int 0])), (h0_classes, .inl (k0_classes, 300, .inl f0_classes)), (h0_marks, .inl (k0_marks, 2400, .inl f0_marks)), (h0_order, .inl (k0_order, 2400, .inl f0_order)), (h2, .inl (k2, 8, .inl f2))] s.heap := hP
  refine lv_aload_n hx hb dX0_append_0 rfl (lv_at hl 0 rfl) ?_
  refine va_get (D := (dC, dI)) (ci := 0) (v := .int 0) (C := RX0) (T := TX0) (N := 5) hx hb hts hi0 hown hK hP 0 rfl rfl 4 (by decide) (hts (.fieldLink RX0 24 "AskTree$Cases" "size" "I") (by decide +kernel)) (fun _ h9 => h9) rfl dX0_append_1 ?_
  refine lv_sipush (v := 300) hx hb dX0_append_4 (by decide) ?_
  refine lv_icmp_lt (tgt := 11) hx hb dX0_append_7 (by decide) (fun c_1 => ?_) (fun c_1 => ?_)
  rotate_left
  · exact absurd c_1 (by decide)
  refine lv_aload_n hx hb dX0_append_11 rfl (lv_at hl 0 rfl) ?_
  refine va_get (D := (dC, dI)) (ci := 0) (v := .ref h0_classes) (C := RX0) (T := TX0) (N := 5) hx hb hts hi0 hown hK hP 0 rfl rfl 1 (by decide) (hts (.fieldLink RX0 15 "AskTree$Cases" "classes" "[I") (by decide +kernel)) (fun _ h9 => h9) rfl dX0_append_12 ?_
  refine lv_aload_n hx hb dX0_append_15 rfl (lv_at hl 0 rfl) ?_
  refine va_get (D := (dC, dI)) (ci := 0) (v := .int 0) (C := RX0) (T := TX0) (N := 5) hx hb hts hi0 hown hK hP 0 rfl rfl 4 (by decide) (hts (.fieldLink RX0 24 "AskTree$Cases" "size" "I") (by decide +kernel)) (fun _ h9 => h9) rfl dX0_append_16 ?_
  refine lv_iload_n hx hb dX0_append_19 rfl (lv_at hl 1 rfl) ?_
  refine va_iast hx hb hK hP hD hS 1 0 rfl rfl (vi _ _ (by decide)) dX0_append_20 (fun H locs hP hD hS => ?_)
  have hP : va_P (dC, dI) vwCl [(h0, .inr (0, [.ref a0_kinds, .ref h0_classes, .ref h0_marks, .ref h0_order, .int 0])), (h0_classes, .inl (k0_classes, 300, .inl (upd f0_classes (Int32.toNatClampNeg 0) p1))), (h0_marks, .inl (k0_marks, 2400, .inl f0_marks)), (h0_order, .inl (k0_order, 2400, .inl f0_order)), (h2, .inl (k2, 8, .inl f2))] H := hP
  have hD : va_D A [(h0, .inr (0, [.ref a0_kinds, .ref h0_classes, .ref h0_marks, .ref h0_order, .int 0])), (h0_classes, .inl (k0_classes, 300, .inl (upd f0_classes (Int32.toNatClampNeg 0) p1))), (h0_marks, .inl (k0_marks, 2400, .inl f0_marks)), (h0_order, .inl (k0_order, 2400, .inl f0_order)), (h2, .inl (k2, 8, .inl f2))] := hD
  generalize hf_3 : upd f0_classes (Int32.toNatClampNeg 0) p1 = f_2 at hP hD
  have hk_4 : f_2 0 = p1 := by rw [← hf_3]; exact up_s (by decide)
  clear hf_3
  refine lv_iconst (v := 0) hx hb dX0_append_21 (by decide) ?_
  refine lv_istore_n (lv' := [(3, .int 0), (0, .ref h0), (1, .int p1), (2, .ref h2)]) hx hb dX0_append_22 rfl hl (by decide) rfl (fun ls hl => ?_)
  refine lv_iload_n hx hb dX0_append_23 rfl (lv_at hl 0 rfl) ?_
  refine lv_bipush (v := 8) hx hb dX0_append_24 (by decide) ?_
  refine lv_icmp_ge (tgt := 60) hx hb dX0_append_26 (by decide) (fun c_5 => ?_) (fun c_5 => ?_)
  · exact absurd c_5 (by decide)
  refine lv_aload_n hx hb dX0_append_29 rfl (lv_at hl 1 rfl) ?_
  refine va_get (D := (dC, dI)) (ci := 0) (v := .ref h0_marks) (C := RX0) (T := TX0) (N := 5) hx hb hts hi0 hown hK hP 0 rfl rfl 2 (by decide) (hts (.fieldLink RX0 18 "AskTree$Cases" "marks" "[I") (by decide +kernel)) (fun _ h9 => h9) rfl dX0_append_30 ?_
  refine lv_aload_n hx hb dX0_append_33 rfl (lv_at hl 1 rfl) ?_
  refine va_get (D := (dC, dI)) (ci := 0) (v := .int 0) (C := RX0) (T := TX0) (N := 5) hx hb hts hi0 hown hK hP 0 rfl rfl 4 (by decide) (hts (.fieldLink RX0 24 "AskTree$Cases" "size" "I") (by decide +kernel)) (fun _ h9 => h9) rfl dX0_append_34 ?_
  refine lv_bipush (v := 8) hx hb dX0_append_37 (by decide) ?_
  refine lv_imul hx hb dX0_append_39 ?_
  refine tvv (v := .int 0) (congrArg Value.int (by decide)) ?_
  refine lv_iload_n hx hb dX0_append_40 rfl (lv_at hl 0 rfl) ?_
  refine lv_iadd hx hb dX0_append_41 ?_
  refine tvv (v := .int 0) (congrArg Value.int (by decide)) ?_
  refine lv_aload_n hx hb dX0_append_42 rfl (lv_at hl 3 rfl) ?_
  refine lv_iload_n hx hb dX0_append_43 rfl (lv_at hl 0 rfl) ?_
  refine va_iald hx hb hK hP 4 3 rfl rfl (vi _ _ (by decide)) dX0_append_44 ?_
  refine tvv (v := .int (f2 0)) (ci f2 (k := 0) (by decide) rfl) ?_
  refine va_iast hx hb hK hP hD hS 2 1 rfl rfl (vi _ _ (by decide)) dX0_append_45 (fun H locs hP hD hS => ?_)
  have hP : va_P (dC, dI) vwCl [(h0, .inr (0, [.ref a0_kinds, .ref h0_classes, .ref h0_marks, .ref h0_order, .int 0])), (h0_classes, .inl (k0_classes, 300, .inl f_2)), (h0_marks, .inl (k0_marks, 2400, .inl (upd f0_marks (Int32.toNatClampNeg 0) (f2 0)))), (h0_order, .inl (k0_order, 2400, .inl f0_order)), (h2, .inl (k2, 8, .inl f2))] H := hP
  have hD : va_D A [(h0, .inr (0, [.ref a0_kinds, .ref h0_classes, .ref h0_marks, .ref h0_order, .int 0])), (h0_classes, .inl (k0_classes, 300, .inl f_2)), (h0_marks, .inl (k0_marks, 2400, .inl (upd f0_marks (Int32.toNatClampNeg 0) (f2 0)))), (h0_order, .inl (k0_order, 2400, .inl f0_order)), (h2, .inl (k2, 8, .inl f2))] := hD
  generalize hf_7 : upd f0_marks (Int32.toNatClampNeg 0) (f2 0) = f_6 at hP hD
  have hk_8 : f_6 0 = (f2 0) := by rw [← hf_7]; exact up_s (by decide)
  clear hf_7
  refine lv_aload_n hx hb dX0_append_46 rfl (lv_at hl 1 rfl) ?_
  refine lv_iload_n hx hb dX0_append_47 rfl (lv_at hl 0 rfl) ?_
  refine lv_aload_n hx hb dX0_append_48 rfl (lv_at hl 3 rfl) ?_
  refine lv_iload_n hx hb dX0_append_49 rfl (lv_at hl 0 rfl) ?_
  refine va_iald hx hb hK hP 4 3 rfl rfl (vi _ _ (by decide)) dX0_append_50 ?_
  refine tvv (v := .int (f2 0)) (ci f2 (k := 0) (by decide) rfl) ?_
  have hPc := hP.sub (ws' := [(h0, .inr (0, [.ref a0_kinds, .ref h0_classes, .ref h0_marks, .ref h0_order, .int 0])), (h0_order, .inl (k0_order, 2400, .inl f0_order))]) [0, 3] rfl
  have hDc := hD.sub (ws' := [(h0, .inr (0, [.ref a0_kinds, .ref h0_classes, .ref h0_marks, .ref h0_order, .int 0])), (h0_order, .inl (k0_order, 2400, .inl f0_order))]) [0, 3] (by decide) rfl
  have hKc := hK.sub (tys' := [(k0_order, .int)]) [2] rfl
  have hFc := va_free (wc := [(h0, .inr (0, [.ref a0_kinds, .ref h0_classes, .ref h0_marks, .ref h0_order, .int 0])), (h0_order, .inl (k0_order, 2400, .inl f0_order))]) hD hS hA [0, 3] rfl
  refine va_callv (va_runV (As := [.int 0, .int (f2 0)]) (rest := []) ⟨hx, hb, hml, hown, hts⟩ (c_putInOrder0 l dC dI H.size h0 (f2 0) h0_order a0_kinds h0_classes h0_marks k0_order f0_order ) (cwV 2 hts gX0_append_X0_putInOrder rfl rfl rfl (by decide +kernel) ⟨Nat.le_of_ble_eq_true rfl, Nat.le_of_ble_eq_true rfl⟩) (pre_V hPc hKc hDc hN (ci := 0) (q0 := 0) rfl rfl) rfl rfl hl.1 rfl (lv_room (Nat.le_of_ble_eq_true rfl)) dX0_append_51 ⟨Nat.le_of_ble_eq_true rfl, Nat.le_of_ble_eq_true rfl⟩) hS (fun q _ h => hFc q h) hFc (fun u t H1 locs ht hvm hw hB hz1 hk1 hS => ?_)
  clear hPc hDc hKc
  obtain ⟨f_10, rfl, hk_11⟩ := hw
  obtain ⟨hP1, hK1, hD1⟩ := hB
  rw [ht] at hP1
  obtain ⟨hP, hD⟩ := va_join (wr := [(h0_classes, .inl (k0_classes, 300, .inl f_2)), (h0_marks, .inl (k0_marks, 2400, .inl f_6)), (h2, .inl (k2, 8, .inl f2))]) (w1 := [(h0, .inr (0, [.ref a0_kinds, .ref h0_classes, .ref h0_marks, .ref h0_order, .int 0])), (h0_order, .inl (k0_order, 2400, .inl f_10))]) hP hD [0, 3] [1, 2, 4] rfl rfl (by decide) (by decide) hk1 hFc hP1 hD1
  generalize H1 = H at hP hS ⊢
  clear hP1 hD1 hFc hk1 hz1 ht hvm hK1
  have hP : va_P (dC, dI) vwCl [(h0_classes, .inl (k0_classes, 300, .inl f_2)), (h0_marks, .inl (k0_marks, 2400, .inl f_6)), (h2, .inl (k2, 8, .inl f2)), (h0, .inr (0, [.ref a0_kinds, .ref h0_classes, .ref h0_marks, .ref h0_order, .int 0])), (h0_order, .inl (k0_order, 2400, .inl f_10))] H := hP
  have hD : va_D A [(h0_classes, .inl (k0_classes, 300, .inl f_2)), (h0_marks, .inl (k0_marks, 2400, .inl f_6)), (h2, .inl (k2, 8, .inl f2)), (h0, .inr (0, [.ref a0_kinds, .ref h0_classes, .ref h0_marks, .ref h0_order, .int 0])), (h0_order, .inl (k0_order, 2400, .inl f_10))] := hD
  refine lv_iinc (v := 1) (lv' := [(3, .int 1), (0, .ref h0), (1, .int p1), (2, .ref h2)]) hx hb dX0_append_54 hl (k := 0) rfl (by decide) (by decide) rfl (fun ls hl => ?_)
  refine lv_goto (tgt := 23) hx hb dX0_append_57 (by decide) ?_
  refine lv_iload_n hx hb dX0_append_23 rfl (lv_at hl 0 rfl) ?_
  refine lv_bipush (v := 8) hx hb dX0_append_24 (by decide) ?_
  refine lv_icmp_ge (tgt := 60) hx hb dX0_append_26 (by decide) (fun c_12 => ?_) (fun c_12 => ?_)
  · exact absurd c_12 (by decide)
  refine lv_aload_n hx hb dX0_append_29 rfl (lv_at hl 1 rfl) ?_
  refine va_get (D := (dC, dI)) (ci := 0) (v := .ref h0_marks) (C := RX0) (T := TX0) (N := 5) hx hb hts hi0 hown hK hP 3 rfl rfl 2 (by decide) (hts (.fieldLink RX0 18 "AskTree$Cases" "marks" "[I") (by decide +kernel)) (fun _ h9 => h9) rfl dX0_append_30 ?_
  refine lv_aload_n hx hb dX0_append_33 rfl (lv_at hl 1 rfl) ?_
  refine va_get (D := (dC, dI)) (ci := 0) (v := .int 0) (C := RX0) (T := TX0) (N := 5) hx hb hts hi0 hown hK hP 3 rfl rfl 4 (by decide) (hts (.fieldLink RX0 24 "AskTree$Cases" "size" "I") (by decide +kernel)) (fun _ h9 => h9) rfl dX0_append_34 ?_
  refine lv_bipush (v := 8) hx hb dX0_append_37 (by decide) ?_
  refine lv_imul hx hb dX0_append_39 ?_
  refine tvv (v := .int 0) (congrArg Value.int (by decide)) ?_
  refine lv_iload_n hx hb dX0_append_40 rfl (lv_at hl 0 rfl) ?_
  refine lv_iadd hx hb dX0_append_41 ?_
  refine tvv (v := .int 1) (congrArg Value.int (by decide)) ?_
  refine lv_aload_n hx hb dX0_append_42 rfl (lv_at hl 3 rfl) ?_
  refine lv_iload_n hx hb dX0_append_43 rfl (lv_at hl 0 rfl) ?_
  refine va_iald hx hb hK hP 2 3 rfl rfl (vi _ _ (by decide)) dX0_append_44 ?_
  refine tvv (v := .int (f2 1)) (ci f2 (k := 1) (by decide) rfl) ?_
  refine va_iast hx hb hK hP hD hS 1 1 rfl rfl (vi _ _ (by decide)) dX0_append_45 (fun H locs hP hD hS => ?_)
  have hP : va_P (dC, dI) vwCl [(h0_classes, .inl (k0_classes, 300, .inl f_2)), (h0_marks, .inl (k0_marks, 2400, .inl (upd f_6 (Int32.toNatClampNeg 1) (f2 1)))), (h2, .inl (k2, 8, .inl f2)), (h0, .inr (0, [.ref a0_kinds, .ref h0_classes, .ref h0_marks, .ref h0_order, .int 0])), (h0_order, .inl (k0_order, 2400, .inl f_10))] H := hP
  have hD : va_D A [(h0_classes, .inl (k0_classes, 300, .inl f_2)), (h0_marks, .inl (k0_marks, 2400, .inl (upd f_6 (Int32.toNatClampNeg 1) (f2 1)))), (h2, .inl (k2, 8, .inl f2)), (h0, .inr (0, [.ref a0_kinds, .ref h0_classes, .ref h0_marks, .ref h0_order, .int 0])), (h0_order, .inl (k0_order, 2400, .inl f_10))] := hD
  generalize hf_14 : upd f_6 (Int32.toNatClampNeg 1) (f2 1) = f_13 at hP hD
  have hk_15 : f_13 1 = (f2 1) := by rw [← hf_14]; exact up_s (by decide)
  have hk_16 : f_13 0 = (f2 0) := by rw [← hf_14]; exact up_n (k := 1) (by decide) (by decide) hk_8
  clear hf_14
  refine lv_aload_n hx hb dX0_append_46 rfl (lv_at hl 1 rfl) ?_
  refine lv_iload_n hx hb dX0_append_47 rfl (lv_at hl 0 rfl) ?_
  refine lv_aload_n hx hb dX0_append_48 rfl (lv_at hl 3 rfl) ?_
  refine lv_iload_n hx hb dX0_append_49 rfl (lv_at hl 0 rfl) ?_
  refine va_iald hx hb hK hP 2 3 rfl rfl (vi _ _ (by decide)) dX0_append_50 ?_
  refine tvv (v := .int (f2 1)) (ci f2 (k := 1) (by decide) rfl) ?_
  have hPc := hP.sub (ws' := [(h0, .inr (0, [.ref a0_kinds, .ref h0_classes, .ref h0_marks, .ref h0_order, .int 0])), (h0_order, .inl (k0_order, 2400, .inl f_10))]) [3, 4] rfl
  have hDc := hD.sub (ws' := [(h0, .inr (0, [.ref a0_kinds, .ref h0_classes, .ref h0_marks, .ref h0_order, .int 0])), (h0_order, .inl (k0_order, 2400, .inl f_10))]) [3, 4] (by decide) rfl
  have hKc := hK.sub (tys' := [(k0_order, .int)]) [2] rfl
  have hFc := va_free (wc := [(h0, .inr (0, [.ref a0_kinds, .ref h0_classes, .ref h0_marks, .ref h0_order, .int 0])), (h0_order, .inl (k0_order, 2400, .inl f_10))]) hD hS hA [3, 4] rfl
  refine va_callv (va_runV (As := [.int 1, .int (f2 1)]) (rest := []) ⟨hx, hb, hml, hown, hts⟩ (c_putInOrder1 l dC dI H.size h0 (f2 1) h0_order a0_kinds h0_classes h0_marks k0_order f_10 ) (cwV 2 hts gX0_append_X0_putInOrder rfl rfl rfl (by decide +kernel) ⟨Nat.le_of_ble_eq_true rfl, Nat.le_of_ble_eq_true rfl⟩) (pre_V hPc hKc hDc hN (ci := 0) (q0 := 0) rfl rfl) rfl rfl hl.1 rfl (lv_room (Nat.le_of_ble_eq_true rfl)) dX0_append_51 ⟨Nat.le_of_ble_eq_true rfl, Nat.le_of_ble_eq_true rfl⟩) hS (fun q _ h => hFc q h) hFc (fun u t H1 locs ht hvm hw hB hz1 hk1 hS => ?_)
  clear hPc hDc hKc
  obtain ⟨f_18, rfl, hk_19⟩ := hw
  obtain ⟨hP1, hK1, hD1⟩ := hB
  rw [ht] at hP1
  obtain ⟨hP, hD⟩ := va_join (wr := [(h0_classes, .inl (k0_classes, 300, .inl f_2)), (h0_marks, .inl (k0_marks, 2400, .inl f_13)), (h2, .inl (k2, 8, .inl f2))]) (w1 := [(h0, .inr (0, [.ref a0_kinds, .ref h0_classes, .ref h0_marks, .ref h0_order, .int 0])), (h0_order, .inl (k0_order, 2400, .inl f_18))]) hP hD [3, 4] [0, 1, 2] rfl rfl (by decide) (by decide) hk1 hFc hP1 hD1
  generalize H1 = H at hP hS ⊢
  clear hP1 hD1 hFc hk1 hz1 ht hvm hK1
  have hP : va_P (dC, dI) vwCl [(h0_classes, .inl (k0_classes, 300, .inl f_2)), (h0_marks, .inl (k0_marks, 2400, .inl f_13)), (h2, .inl (k2, 8, .inl f2)), (h0, .inr (0, [.ref a0_kinds, .ref h0_classes, .ref h0_marks, .ref h0_order, .int 0])), (h0_order, .inl (k0_order, 2400, .inl f_18))] H := hP
  have hD : va_D A [(h0_classes, .inl (k0_classes, 300, .inl f_2)), (h0_marks, .inl (k0_marks, 2400, .inl f_13)), (h2, .inl (k2, 8, .inl f2)), (h0, .inr (0, [.ref a0_kinds, .ref h0_classes, .ref h0_marks, .ref h0_order, .int 0])), (h0_order, .inl (k0_order, 2400, .inl f_18))] := hD
  refine lv_iinc (v := 2) (lv' := [(3, .int 2), (0, .ref h0), (1, .int p1), (2, .ref h2)]) hx hb dX0_append_54 hl (k := 0) rfl (by decide) (by decide) rfl (fun ls hl => ?_)
  refine lv_goto (tgt := 23) hx hb dX0_append_57 (by decide) ?_
  refine lv_iload_n hx hb dX0_append_23 rfl (lv_at hl 0 rfl) ?_
  refine lv_bipush (v := 8) hx hb dX0_append_24 (by decide) ?_
  refine lv_icmp_ge (tgt := 60) hx hb dX0_append_26 (by decide) (fun c_20 => ?_) (fun c_20 => ?_)
  · exact absurd c_20 (by decide)
  refine lv_aload_n hx hb dX0_append_29 rfl (lv_at hl 1 rfl) ?_
  refine va_get (D := (dC, dI)) (ci := 0) (v := .ref h0_marks) (C := RX0) (T := TX0) (N := 5) hx hb hts hi0 hown hK hP 3 rfl rfl 2 (by decide) (hts (.fieldLink RX0 18 "AskTree$Cases" "marks" "[I") (by decide +kernel)) (fun _ h9 => h9) rfl dX0_append_30 ?_
  refine lv_aload_n hx hb dX0_append_33 rfl (lv_at hl 1 rfl) ?_
  refine va_get (D := (dC, dI)) (ci := 0) (v := .int 0) (C := RX0) (T := TX0) (N := 5) hx hb hts hi0 hown hK hP 3 rfl rfl 4 (by decide) (hts (.fieldLink RX0 24 "AskTree$Cases" "size" "I") (by decide +kernel)) (fun _ h9 => h9) rfl dX0_append_34 ?_
  refine lv_bipush (v := 8) hx hb dX0_append_37 (by decide) ?_
  refine lv_imul hx hb dX0_append_39 ?_
  refine tvv (v := .int 0) (congrArg Value.int (by decide)) ?_
  refine lv_iload_n hx hb dX0_append_40 rfl (lv_at hl 0 rfl) ?_
  refine lv_iadd hx hb dX0_append_41 ?_
  refine tvv (v := .int 2) (congrArg Value.int (by decide)) ?_
  refine lv_aload_n hx hb dX0_append_42 rfl (lv_at hl 3 rfl) ?_
  refine lv_iload_n hx hb dX0_append_43 rfl (lv_at hl 0 rfl) ?_
  refine va_iald hx hb hK hP 2 3 rfl rfl (vi _ _ (by decide)) dX0_append_44 ?_
  refine tvv (v := .int (f2 2)) (ci f2 (k := 2) (by decide) rfl) ?_
  refine va_iast hx hb hK hP hD hS 1 1 rfl rfl (vi _ _ (by decide)) dX0_append_45 (fun H locs hP hD hS => ?_)
  have hP : va_P (dC, dI) vwCl [(h0_classes, .inl (k0_classes, 300, .inl f_2)), (h0_marks, .inl (k0_marks, 2400, .inl (upd f_13 (Int32.toNatClampNeg 2) (f2 2)))), (h2, .inl (k2, 8, .inl f2)), (h0, .inr (0, [.ref a0_kinds, .ref h0_classes, .ref h0_marks, .ref h0_order, .int 0])), (h0_order, .inl (k0_order, 2400, .inl f_18))] H := hP
  have hD : va_D A [(h0_classes, .inl (k0_classes, 300, .inl f_2)), (h0_marks, .inl (k0_marks, 2400, .inl (upd f_13 (Int32.toNatClampNeg 2) (f2 2)))), (h2, .inl (k2, 8, .inl f2)), (h0, .inr (0, [.ref a0_kinds, .ref h0_classes, .ref h0_marks, .ref h0_order, .int 0])), (h0_order, .inl (k0_order, 2400, .inl f_18))] := hD
  generalize hf_22 : upd f_13 (Int32.toNatClampNeg 2) (f2 2) = f_21 at hP hD
  have hk_23 : f_21 2 = (f2 2) := by rw [← hf_22]; exact up_s (by decide)
  have hk_24 : f_21 1 = (f2 1) := by rw [← hf_22]; exact up_n (k := 2) (by decide) (by decide) hk_15
  have hk_25 : f_21 0 = (f2 0) := by rw [← hf_22]; exact up_n (k := 2) (by decide) (by decide) hk_16
  clear hf_22
  refine lv_aload_n hx hb dX0_append_46 rfl (lv_at hl 1 rfl) ?_
  refine lv_iload_n hx hb dX0_append_47 rfl (lv_at hl 0 rfl) ?_
  refine lv_aload_n hx hb dX0_append_48 rfl (lv_at hl 3 rfl) ?_
  refine lv_iload_n hx hb dX0_append_49 rfl (lv_at hl 0 rfl) ?_
  refine va_iald hx hb hK hP 2 3 rfl rfl (vi _ _ (by decide)) dX0_append_50 ?_
  refine tvv (v := .int (f2 2)) (ci f2 (k := 2) (by decide) rfl) ?_
  have hPc := hP.sub (ws' := [(h0, .inr (0, [.ref a0_kinds, .ref h0_classes, .ref h0_marks, .ref h0_order, .int 0])), (h0_order, .inl (k0_order, 2400, .inl f_18))]) [3, 4] rfl
  have hDc := hD.sub (ws' := [(h0, .inr (0, [.ref a0_kinds, .ref h0_classes, .ref h0_marks, .ref h0_order, .int 0])), (h0_order, .inl (k0_order, 2400, .inl f_18))]) [3, 4] (by decide) rfl
  have hKc := hK.sub (tys' := [(k0_order, .int)]) [2] rfl
  have hFc := va_free (wc := [(h0, .inr (0, [.ref a0_kinds, .ref h0_classes, .ref h0_marks, .ref h0_order, .int 0])), (h0_order, .inl (k0_order, 2400, .inl f_18))]) hD hS hA [3, 4] rfl
  refine va_callv (va_runV (As := [.int 2, .int (f2 2)]) (rest := []) ⟨hx, hb, hml, hown, hts⟩ (c_putInOrder2 l dC dI H.size h0 (f2 2) h0_order a0_kinds h0_classes h0_marks k0_order f_18 ) (cwV 2 hts gX0_append_X0_putInOrder rfl rfl rfl (by decide +kernel) ⟨Nat.le_of_ble_eq_true rfl, Nat.le_of_ble_eq_true rfl⟩) (pre_V hPc hKc hDc hN (ci := 0) (q0 := 0) rfl rfl) rfl rfl hl.1 rfl (lv_room (Nat.le_of_ble_eq_true rfl)) dX0_append_51 ⟨Nat.le_of_ble_eq_true rfl, Nat.le_of_ble_eq_true rfl⟩) hS (fun q _ h => hFc q h) hFc (fun u t H1 locs ht hvm hw hB hz1 hk1 hS => ?_)
  clear hPc hDc hKc
  obtain ⟨f_27, rfl, hk_28⟩ := hw
  obtain ⟨hP1, hK1, hD1⟩ := hB
  rw [ht] at hP1
  obtain ⟨hP, hD⟩ := va_join (wr := [(h0_classes, .inl (k0_classes, 300, .inl f_2)), (h0_marks, .inl (k0_marks, 2400, .inl f_21)), (h2, .inl (k2, 8, .inl f2))]) (w1 := [(h0, .inr (0, [.ref a0_kinds, .ref h0_classes, .ref h0_marks, .ref h0_order, .int 0])), (h0_order, .inl (k0_order, 2400, .inl f_27))]) hP hD [3, 4] [0, 1, 2] rfl rfl (by decide) (by decide) hk1 hFc hP1 hD1
  generalize H1 = H at hP hS ⊢
  clear hP1 hD1 hFc hk1 hz1 ht hvm hK1
  have hP : va_P (dC, dI) vwCl [(h0_classes, .inl (k0_classes, 300, .inl f_2)), (h0_marks, .inl (k0_marks, 2400, .inl f_21)), (h2, .inl (k2, 8, .inl f2)), (h0, .inr (0, [.ref a0_kinds, .ref h0_classes, .ref h0_marks, .ref h0_order, .int 0])), (h0_order, .inl (k0_order, 2400, .inl f_27))] H := hP
  have hD : va_D A [(h0_classes, .inl (k0_classes, 300, .inl f_2)), (h0_marks, .inl (k0_marks, 2400, .inl f_21)), (h2, .inl (k2, 8, .inl f2)), (h0, .inr (0, [.ref a0_kinds, .ref h0_classes, .ref h0_marks, .ref h0_order, .int 0])), (h0_order, .inl (k0_order, 2400, .inl f_27))] := hD
  refine lv_iinc (v := 3) (lv' := [(3, .int 3), (0, .ref h0), (1, .int p1), (2, .ref h2)]) hx hb dX0_append_54 hl (k := 0) rfl (by decide) (by decide) rfl (fun ls hl => ?_)
  refine lv_goto (tgt := 23) hx hb dX0_append_57 (by decide) ?_
  refine lv_iload_n hx hb dX0_append_23 rfl (lv_at hl 0 rfl) ?_
  refine lv_bipush (v := 8) hx hb dX0_append_24 (by decide) ?_
  refine lv_icmp_ge (tgt := 60) hx hb dX0_append_26 (by decide) (fun c_29 => ?_) (fun c_29 => ?_)
  · exact absurd c_29 (by decide)
  refine lv_aload_n hx hb dX0_append_29 rfl (lv_at hl 1 rfl) ?_
  refine va_get (D := (dC, dI)) (ci := 0) (v := .ref h0_marks) (C := RX0) (T := TX0) (N := 5) hx hb hts hi0 hown hK hP 3 rfl rfl 2 (by decide) (hts (.fieldLink RX0 18 "AskTree$Cases" "marks" "[I") (by decide +kernel)) (fun _ h9 => h9) rfl dX0_append_30 ?_
  refine lv_aload_n hx hb dX0_append_33 rfl (lv_at hl 1 rfl) ?_
  refine va_get (D := (dC, dI)) (ci := 0) (v := .int 0) (C := RX0) (T := TX0) (N := 5) hx hb hts hi0 hown hK hP 3 rfl rfl 4 (by decide) (hts (.fieldLink RX0 24 "AskTree$Cases" "size" "I") (by decide +kernel)) (fun _ h9 => h9) rfl dX0_append_34 ?_
  refine lv_bipush (v := 8) hx hb dX0_append_37 (by decide) ?_
  refine lv_imul hx hb dX0_append_39 ?_
  refine tvv (v := .int 0) (congrArg Value.int (by decide)) ?_
  refine lv_iload_n hx hb dX0_append_40 rfl (lv_at hl 0 rfl) ?_
  refine lv_iadd hx hb dX0_append_41 ?_
  refine tvv (v := .int 3) (congrArg Value.int (by decide)) ?_
  refine lv_aload_n hx hb dX0_append_42 rfl (lv_at hl 3 rfl) ?_
  refine lv_iload_n hx hb dX0_append_43 rfl (lv_at hl 0 rfl) ?_
  refine va_iald hx hb hK hP 2 3 rfl rfl (vi _ _ (by decide)) dX0_append_44 ?_
  refine tvv (v := .int (f2 3)) (ci f2 (k := 3) (by decide) rfl) ?_
  refine va_iast hx hb hK hP hD hS 1 1 rfl rfl (vi _ _ (by decide)) dX0_append_45 (fun H locs hP hD hS => ?_)
  have hP : va_P (dC, dI) vwCl [(h0_classes, .inl (k0_classes, 300, .inl f_2)), (h0_marks, .inl (k0_marks, 2400, .inl (upd f_21 (Int32.toNatClampNeg 3) (f2 3)))), (h2, .inl (k2, 8, .inl f2)), (h0, .inr (0, [.ref a0_kinds, .ref h0_classes, .ref h0_marks, .ref h0_order, .int 0])), (h0_order, .inl (k0_order, 2400, .inl f_27))] H := hP
  have hD : va_D A [(h0_classes, .inl (k0_classes, 300, .inl f_2)), (h0_marks, .inl (k0_marks, 2400, .inl (upd f_21 (Int32.toNatClampNeg 3) (f2 3)))), (h2, .inl (k2, 8, .inl f2)), (h0, .inr (0, [.ref a0_kinds, .ref h0_classes, .ref h0_marks, .ref h0_order, .int 0])), (h0_order, .inl (k0_order, 2400, .inl f_27))] := hD
  generalize hf_31 : upd f_21 (Int32.toNatClampNeg 3) (f2 3) = f_30 at hP hD
  have hk_32 : f_30 3 = (f2 3) := by rw [← hf_31]; exact up_s (by decide)
  have hk_33 : f_30 2 = (f2 2) := by rw [← hf_31]; exact up_n (k := 3) (by decide) (by decide) hk_23
  have hk_34 : f_30 1 = (f2 1) := by rw [← hf_31]; exact up_n (k := 3) (by decide) (by decide) hk_24
  have hk_35 : f_30 0 = (f2 0) := by rw [← hf_31]; exact up_n (k := 3) (by decide) (by decide) hk_25
  clear hf_31
  refine lv_aload_n hx hb dX0_append_46 rfl (lv_at hl 1 rfl) ?_
  refine lv_iload_n hx hb dX0_append_47 rfl (lv_at hl 0 rfl) ?_
  refine lv_aload_n hx hb dX0_append_48 rfl (lv_at hl 3 rfl) ?_
  refine lv_iload_n hx hb dX0_append_49 rfl (lv_at hl 0 rfl) ?_
  refine va_iald hx hb hK hP 2 3 rfl rfl (vi _ _ (by decide)) dX0_append_50 ?_
  refine tvv (v := .int (f2 3)) (ci f2 (k := 3) (by decide) rfl) ?_
  have hPc := hP.sub (ws' := [(h0, .inr (0, [.ref a0_kinds, .ref h0_classes, .ref h0_marks, .ref h0_order, .int 0])), (h0_order, .inl (k0_order, 2400, .inl f_27))]) [3, 4] rfl
  have hDc := hD.sub (ws' := [(h0, .inr (0, [.ref a0_kinds, .ref h0_classes, .ref h0_marks, .ref h0_order, .int 0])), (h0_order, .inl (k0_order, 2400, .inl f_27))]) [3, 4] (by decide) rfl
  have hKc := hK.sub (tys' := [(k0_order, .int)]) [2] rfl
  have hFc := va_free (wc := [(h0, .inr (0, [.ref a0_kinds, .ref h0_classes, .ref h0_marks, .ref h0_order, .int 0])), (h0_order, .inl (k0_order, 2400, .inl f_27))]) hD hS hA [3, 4] rfl
  refine va_callv (va_runV (As := [.int 3, .int (f2 3)]) (rest := []) ⟨hx, hb, hml, hown, hts⟩ (c_putInOrder3 l dC dI H.size h0 (f2 3) h0_order a0_kinds h0_classes h0_marks k0_order f_27 ) (cwV 2 hts gX0_append_X0_putInOrder rfl rfl rfl (by decide +kernel) ⟨Nat.le_of_ble_eq_true rfl, Nat.le_of_ble_eq_true rfl⟩) (pre_V hPc hKc hDc hN (ci := 0) (q0 := 0) rfl rfl) rfl rfl hl.1 rfl (lv_room (Nat.le_of_ble_eq_true rfl)) dX0_append_51 ⟨Nat.le_of_ble_eq_true rfl, Nat.le_of_ble_eq_true rfl⟩) hS (fun q _ h => hFc q h) hFc (fun u t H1 locs ht hvm hw hB hz1 hk1 hS => ?_)
  clear hPc hDc hKc
  obtain ⟨f_37, rfl, hk_38⟩ := hw
  obtain ⟨hP1, hK1, hD1⟩ := hB
  rw [ht] at hP1
  obtain ⟨hP, hD⟩ := va_join (wr := [(h0_classes, .inl (k0_classes, 300, .inl f_2)), (h0_marks, .inl (k0_marks, 2400, .inl f_30)), (h2, .inl (k2, 8, .inl f2))]) (w1 := [(h0, .inr (0, [.ref a0_kinds, .ref h0_classes, .ref h0_marks, .ref h0_order, .int 0])), (h0_order, .inl (k0_order, 2400, .inl f_37))]) hP hD [3, 4] [0, 1, 2] rfl rfl (by decide) (by decide) hk1 hFc hP1 hD1
  generalize H1 = H at hP hS ⊢
  clear hP1 hD1 hFc hk1 hz1 ht hvm hK1
  have hP : va_P (dC, dI) vwCl [(h0_classes, .inl (k0_classes, 300, .inl f_2)), (h0_marks, .inl (k0_marks, 2400, .inl f_30)), (h2, .inl (k2, 8, .inl f2)), (h0, .inr (0, [.ref a0_kinds, .ref h0_classes, .ref h0_marks, .ref h0_order, .int 0])), (h0_order, .inl (k0_order, 2400, .inl f_37))] H := hP
  have hD : va_D A [(h0_classes, .inl (k0_classes, 300, .inl f_2)), (h0_marks, .inl (k0_marks, 2400, .inl f_30)), (h2, .inl (k2, 8, .inl f2)), (h0, .inr (0, [.ref a0_kinds, .ref h0_classes, .ref h0_marks, .ref h0_order, .int 0])), (h0_order, .inl (k0_order, 2400, .inl f_37))] := hD
  refine lv_iinc (v := 4) (lv' := [(3, .int 4), (0, .ref h0), (1, .int p1), (2, .ref h2)]) hx hb dX0_append_54 hl (k := 0) rfl (by decide) (by decide) rfl (fun ls hl => ?_)
  refine lv_goto (tgt := 23) hx hb dX0_append_57 (by decide) ?_
  refine lv_iload_n hx hb dX0_append_23 rfl (lv_at hl 0 rfl) ?_
  refine lv_bipush (v := 8) hx hb dX0_append_24 (by decide) ?_
  refine lv_icmp_ge (tgt := 60) hx hb dX0_append_26 (by decide) (fun c_39 => ?_) (fun c_39 => ?_)
  · exact absurd c_39 (by decide)
  refine lv_aload_n hx hb dX0_append_29 rfl (lv_at hl 1 rfl) ?_
  refine va_get (D := (dC, dI)) (ci := 0) (v := .ref h0_marks) (C := RX0) (T := TX0) (N := 5) hx hb hts hi0 hown hK hP 3 rfl rfl 2 (by decide) (hts (.fieldLink RX0 18 "AskTree$Cases" "marks" "[I") (by decide +kernel)) (fun _ h9 => h9) rfl dX0_append_30 ?_
  refine lv_aload_n hx hb dX0_append_33 rfl (lv_at hl 1 rfl) ?_
  refine va_get (D := (dC, dI)) (ci := 0) (v := .int 0) (C := RX0) (T := TX0) (N := 5) hx hb hts hi0 hown hK hP 3 rfl rfl 4 (by decide) (hts (.fieldLink RX0 24 "AskTree$Cases" "size" "I") (by decide +kernel)) (fun _ h9 => h9) rfl dX0_append_34 ?_
  refine lv_bipush (v := 8) hx hb dX0_append_37 (by decide) ?_
  refine lv_imul hx hb dX0_append_39 ?_
  refine tvv (v := .int 0) (congrArg Value.int (by decide)) ?_
  refine lv_iload_n hx hb dX0_append_40 rfl (lv_at hl 0 rfl) ?_
  refine lv_iadd hx hb dX0_append_41 ?_
  refine tvv (v := .int 4) (congrArg Value.int (by decide)) ?_
  refine lv_aload_n hx hb dX0_append_42 rfl (lv_at hl 3 rfl) ?_
  refine lv_iload_n hx hb dX0_append_43 rfl (lv_at hl 0 rfl) ?_
  refine va_iald hx hb hK hP 2 3 rfl rfl (vi _ _ (by decide)) dX0_append_44 ?_
  refine tvv (v := .int (f2 4)) (ci f2 (k := 4) (by decide) rfl) ?_
  refine va_iast hx hb hK hP hD hS 1 1 rfl rfl (vi _ _ (by decide)) dX0_append_45 (fun H locs hP hD hS => ?_)
  have hP : va_P (dC, dI) vwCl [(h0_classes, .inl (k0_classes, 300, .inl f_2)), (h0_marks, .inl (k0_marks, 2400, .inl (upd f_30 (Int32.toNatClampNeg 4) (f2 4)))), (h2, .inl (k2, 8, .inl f2)), (h0, .inr (0, [.ref a0_kinds, .ref h0_classes, .ref h0_marks, .ref h0_order, .int 0])), (h0_order, .inl (k0_order, 2400, .inl f_37))] H := hP
  have hD : va_D A [(h0_classes, .inl (k0_classes, 300, .inl f_2)), (h0_marks, .inl (k0_marks, 2400, .inl (upd f_30 (Int32.toNatClampNeg 4) (f2 4)))), (h2, .inl (k2, 8, .inl f2)), (h0, .inr (0, [.ref a0_kinds, .ref h0_classes, .ref h0_marks, .ref h0_order, .int 0])), (h0_order, .inl (k0_order, 2400, .inl f_37))] := hD
  generalize hf_41 : upd f_30 (Int32.toNatClampNeg 4) (f2 4) = f_40 at hP hD
  have hk_42 : f_40 4 = (f2 4) := by rw [← hf_41]; exact up_s (by decide)
  have hk_43 : f_40 3 = (f2 3) := by rw [← hf_41]; exact up_n (k := 4) (by decide) (by decide) hk_32
  have hk_44 : f_40 2 = (f2 2) := by rw [← hf_41]; exact up_n (k := 4) (by decide) (by decide) hk_33
  have hk_45 : f_40 1 = (f2 1) := by rw [← hf_41]; exact up_n (k := 4) (by decide) (by decide) hk_34
  have hk_46 : f_40 0 = (f2 0) := by rw [← hf_41]; exact up_n (k := 4) (by decide) (by decide) hk_35
  clear hf_41
  refine lv_aload_n hx hb dX0_append_46 rfl (lv_at hl 1 rfl) ?_
  refine lv_iload_n hx hb dX0_append_47 rfl (lv_at hl 0 rfl) ?_
  refine lv_aload_n hx hb dX0_append_48 rfl (lv_at hl 3 rfl) ?_
  refine lv_iload_n hx hb dX0_append_49 rfl (lv_at hl 0 rfl) ?_
  refine va_iald hx hb hK hP 2 3 rfl rfl (vi _ _ (by decide)) dX0_append_50 ?_
  refine tvv (v := .int (f2 4)) (ci f2 (k := 4) (by decide) rfl) ?_
  have hPc := hP.sub (ws' := [(h0, .inr (0, [.ref a0_kinds, .ref h0_classes, .ref h0_marks, .ref h0_order, .int 0])), (h0_order, .inl (k0_order, 2400, .inl f_37))]) [3, 4] rfl
  have hDc := hD.sub (ws' := [(h0, .inr (0, [.ref a0_kinds, .ref h0_classes, .ref h0_marks, .ref h0_order, .int 0])), (h0_order, .inl (k0_order, 2400, .inl f_37))]) [3, 4] (by decide) rfl
  have hKc := hK.sub (tys' := [(k0_order, .int)]) [2] rfl
  have hFc := va_free (wc := [(h0, .inr (0, [.ref a0_kinds, .ref h0_classes, .ref h0_marks, .ref h0_order, .int 0])), (h0_order, .inl (k0_order, 2400, .inl f_37))]) hD hS hA [3, 4] rfl
  refine va_callv (va_runV (As := [.int 4, .int (f2 4)]) (rest := []) ⟨hx, hb, hml, hown, hts⟩ (c_putInOrder4 l dC dI H.size h0 (f2 4) h0_order a0_kinds h0_classes h0_marks k0_order f_37 ) (cwV 2 hts gX0_append_X0_putInOrder rfl rfl rfl (by decide +kernel) ⟨Nat.le_of_ble_eq_true rfl, Nat.le_of_ble_eq_true rfl⟩) (pre_V hPc hKc hDc hN (ci := 0) (q0 := 0) rfl rfl) rfl rfl hl.1 rfl (lv_room (Nat.le_of_ble_eq_true rfl)) dX0_append_51 ⟨Nat.le_of_ble_eq_true rfl, Nat.le_of_ble_eq_true rfl⟩) hS (fun q _ h => hFc q h) hFc (fun u t H1 locs ht hvm hw hB hz1 hk1 hS => ?_)
  clear hPc hDc hKc
  obtain ⟨f_48, rfl, hk_49⟩ := hw
  obtain ⟨hP1, hK1, hD1⟩ := hB
  rw [ht] at hP1
  obtain ⟨hP, hD⟩ := va_join (wr := [(h0_classes, .inl (k0_classes, 300, .inl f_2)), (h0_marks, .inl (k0_marks, 2400, .inl f_40)), (h2, .inl (k2, 8, .inl f2))]) (w1 := [(h0, .inr (0, [.ref a0_kinds, .ref h0_classes, .ref h0_marks, .ref h0_order, .int 0])), (h0_order, .inl (k0_order, 2400, .inl f_48))]) hP hD [3, 4] [0, 1, 2] rfl rfl (by decide) (by decide) hk1 hFc hP1 hD1
  generalize H1 = H at hP hS ⊢
  clear hP1 hD1 hFc hk1 hz1 ht hvm hK1
  have hP : va_P (dC, dI) vwCl [(h0_classes, .inl (k0_classes, 300, .inl f_2)), (h0_marks, .inl (k0_marks, 2400, .inl f_40)), (h2, .inl (k2, 8, .inl f2)), (h0, .inr (0, [.ref a0_kinds, .ref h0_classes, .ref h0_marks, .ref h0_order, .int 0])), (h0_order, .inl (k0_order, 2400, .inl f_48))] H := hP
  have hD : va_D A [(h0_classes, .inl (k0_classes, 300, .inl f_2)), (h0_marks, .inl (k0_marks, 2400, .inl f_40)), (h2, .inl (k2, 8, .inl f2)), (h0, .inr (0, [.ref a0_kinds, .ref h0_classes, .ref h0_marks, .ref h0_order, .int 0])), (h0_order, .inl (k0_order, 2400, .inl f_48))] := hD
  refine lv_iinc (v := 5) (lv' := [(3, .int 5), (0, .ref h0), (1, .int p1), (2, .ref h2)]) hx hb dX0_append_54 hl (k := 0) rfl (by decide) (by decide) rfl (fun ls hl => ?_)
  refine lv_goto (tgt := 23) hx hb dX0_append_57 (by decide) ?_
  refine lv_iload_n hx hb dX0_append_23 rfl (lv_at hl 0 rfl) ?_
  refine lv_bipush (v := 8) hx hb dX0_append_24 (by decide) ?_
  refine lv_icmp_ge (tgt := 60) hx hb dX0_append_26 (by decide) (fun c_50 => ?_) (fun c_50 => ?_)
  · exact absurd c_50 (by decide)
  refine lv_aload_n hx hb dX0_append_29 rfl (lv_at hl 1 rfl) ?_
  refine va_get (D := (dC, dI)) (ci := 0) (v := .ref h0_marks) (C := RX0) (T := TX0) (N := 5) hx hb hts hi0 hown hK hP 3 rfl rfl 2 (by decide) (hts (.fieldLink RX0 18 "AskTree$Cases" "marks" "[I") (by decide +kernel)) (fun _ h9 => h9) rfl dX0_append_30 ?_
  refine lv_aload_n hx hb dX0_append_33 rfl (lv_at hl 1 rfl) ?_
  refine va_get (D := (dC, dI)) (ci := 0) (v := .int 0) (C := RX0) (T := TX0) (N := 5) hx hb hts hi0 hown hK hP 3 rfl rfl 4 (by decide) (hts (.fieldLink RX0 24 "AskTree$Cases" "size" "I") (by decide +kernel)) (fun _ h9 => h9) rfl dX0_append_34 ?_
  refine lv_bipush (v := 8) hx hb dX0_append_37 (by decide) ?_
  refine lv_imul hx hb dX0_append_39 ?_
  refine tvv (v := .int 0) (congrArg Value.int (by decide)) ?_
  refine lv_iload_n hx hb dX0_append_40 rfl (lv_at hl 0 rfl) ?_
  refine lv_iadd hx hb dX0_append_41 ?_
  refine tvv (v := .int 5) (congrArg Value.int (by decide)) ?_
  refine lv_aload_n hx hb dX0_append_42 rfl (lv_at hl 3 rfl) ?_
  refine lv_iload_n hx hb dX0_append_43 rfl (lv_at hl 0 rfl) ?_
  refine va_iald hx hb hK hP 2 3 rfl rfl (vi _ _ (by decide)) dX0_append_44 ?_
  refine tvv (v := .int (f2 5)) (ci f2 (k := 5) (by decide) rfl) ?_
  refine va_iast hx hb hK hP hD hS 1 1 rfl rfl (vi _ _ (by decide)) dX0_append_45 (fun H locs hP hD hS => ?_)
  have hP : va_P (dC, dI) vwCl [(h0_classes, .inl (k0_classes, 300, .inl f_2)), (h0_marks, .inl (k0_marks, 2400, .inl (upd f_40 (Int32.toNatClampNeg 5) (f2 5)))), (h2, .inl (k2, 8, .inl f2)), (h0, .inr (0, [.ref a0_kinds, .ref h0_classes, .ref h0_marks, .ref h0_order, .int 0])), (h0_order, .inl (k0_order, 2400, .inl f_48))] H := hP
  have hD : va_D A [(h0_classes, .inl (k0_classes, 300, .inl f_2)), (h0_marks, .inl (k0_marks, 2400, .inl (upd f_40 (Int32.toNatClampNeg 5) (f2 5)))), (h2, .inl (k2, 8, .inl f2)), (h0, .inr (0, [.ref a0_kinds, .ref h0_classes, .ref h0_marks, .ref h0_order, .int 0])), (h0_order, .inl (k0_order, 2400, .inl f_48))] := hD
  generalize hf_52 : upd f_40 (Int32.toNatClampNeg 5) (f2 5) = f_51 at hP hD
  have hk_53 : f_51 5 = (f2 5) := by rw [← hf_52]; exact up_s (by decide)
  have hk_54 : f_51 4 = (f2 4) := by rw [← hf_52]; exact up_n (k := 5) (by decide) (by decide) hk_42
  have hk_55 : f_51 3 = (f2 3) := by rw [← hf_52]; exact up_n (k := 5) (by decide) (by decide) hk_43
  have hk_56 : f_51 2 = (f2 2) := by rw [← hf_52]; exact up_n (k := 5) (by decide) (by decide) hk_44
  have hk_57 : f_51 1 = (f2 1) := by rw [← hf_52]; exact up_n (k := 5) (by decide) (by decide) hk_45
  have hk_58 : f_51 0 = (f2 0) := by rw [← hf_52]; exact up_n (k := 5) (by decide) (by decide) hk_46
  clear hf_52
  refine lv_aload_n hx hb dX0_append_46 rfl (lv_at hl 1 rfl) ?_
  refine lv_iload_n hx hb dX0_append_47 rfl (lv_at hl 0 rfl) ?_
  refine lv_aload_n hx hb dX0_append_48 rfl (lv_at hl 3 rfl) ?_
  refine lv_iload_n hx hb dX0_append_49 rfl (lv_at hl 0 rfl) ?_
  refine va_iald hx hb hK hP 2 3 rfl rfl (vi _ _ (by decide)) dX0_append_50 ?_
  refine tvv (v := .int (f2 5)) (ci f2 (k := 5) (by decide) rfl) ?_
  have hPc := hP.sub (ws' := [(h0, .inr (0, [.ref a0_kinds, .ref h0_classes, .ref h0_marks, .ref h0_order, .int 0])), (h0_order, .inl (k0_order, 2400, .inl f_48))]) [3, 4] rfl
  have hDc := hD.sub (ws' := [(h0, .inr (0, [.ref a0_kinds, .ref h0_classes, .ref h0_marks, .ref h0_order, .int 0])), (h0_order, .inl (k0_order, 2400, .inl f_48))]) [3, 4] (by decide) rfl
  have hKc := hK.sub (tys' := [(k0_order, .int)]) [2] rfl
  have hFc := va_free (wc := [(h0, .inr (0, [.ref a0_kinds, .ref h0_classes, .ref h0_marks, .ref h0_order, .int 0])), (h0_order, .inl (k0_order, 2400, .inl f_48))]) hD hS hA [3, 4] rfl
  refine va_callv (va_runV (As := [.int 5, .int (f2 5)]) (rest := []) ⟨hx, hb, hml, hown, hts⟩ (c_putInOrder5 l dC dI H.size h0 (f2 5) h0_order a0_kinds h0_classes h0_marks k0_order f_48 ) (cwV 2 hts gX0_append_X0_putInOrder rfl rfl rfl (by decide +kernel) ⟨Nat.le_of_ble_eq_true rfl, Nat.le_of_ble_eq_true rfl⟩) (pre_V hPc hKc hDc hN (ci := 0) (q0 := 0) rfl rfl) rfl rfl hl.1 rfl (lv_room (Nat.le_of_ble_eq_true rfl)) dX0_append_51 ⟨Nat.le_of_ble_eq_true rfl, Nat.le_of_ble_eq_true rfl⟩) hS (fun q _ h => hFc q h) hFc (fun u t H1 locs ht hvm hw hB hz1 hk1 hS => ?_)
  clear hPc hDc hKc
  obtain ⟨f_60, rfl, hk_61⟩ := hw
  obtain ⟨hP1, hK1, hD1⟩ := hB
  rw [ht] at hP1
  obtain ⟨hP, hD⟩ := va_join (wr := [(h0_classes, .inl (k0_classes, 300, .inl f_2)), (h0_marks, .inl (k0_marks, 2400, .inl f_51)), (h2, .inl (k2, 8, .inl f2))]) (w1 := [(h0, .inr (0, [.ref a0_kinds, .ref h0_classes, .ref h0_marks, .ref h0_order, .int 0])), (h0_order, .inl (k0_order, 2400, .inl f_60))]) hP hD [3, 4] [0, 1, 2] rfl rfl (by decide) (by decide) hk1 hFc hP1 hD1
  generalize H1 = H at hP hS ⊢
  clear hP1 hD1 hFc hk1 hz1 ht hvm hK1
  have hP : va_P (dC, dI) vwCl [(h0_classes, .inl (k0_classes, 300, .inl f_2)), (h0_marks, .inl (k0_marks, 2400, .inl f_51)), (h2, .inl (k2, 8, .inl f2)), (h0, .inr (0, [.ref a0_kinds, .ref h0_classes, .ref h0_marks, .ref h0_order, .int 0])), (h0_order, .inl (k0_order, 2400, .inl f_60))] H := hP
  have hD : va_D A [(h0_classes, .inl (k0_classes, 300, .inl f_2)), (h0_marks, .inl (k0_marks, 2400, .inl f_51)), (h2, .inl (k2, 8, .inl f2)), (h0, .inr (0, [.ref a0_kinds, .ref h0_classes, .ref h0_marks, .ref h0_order, .int 0])), (h0_order, .inl (k0_order, 2400, .inl f_60))] := hD
  refine lv_iinc (v := 6) (lv' := [(3, .int 6), (0, .ref h0), (1, .int p1), (2, .ref h2)]) hx hb dX0_append_54 hl (k := 0) rfl (by decide) (by decide) rfl (fun ls hl => ?_)
  refine lv_goto (tgt := 23) hx hb dX0_append_57 (by decide) ?_
  refine lv_iload_n hx hb dX0_append_23 rfl (lv_at hl 0 rfl) ?_
  refine lv_bipush (v := 8) hx hb dX0_append_24 (by decide) ?_
  refine lv_icmp_ge (tgt := 60) hx hb dX0_append_26 (by decide) (fun c_62 => ?_) (fun c_62 => ?_)
  · exact absurd c_62 (by decide)
  refine lv_aload_n hx hb dX0_append_29 rfl (lv_at hl 1 rfl) ?_
  refine va_get (D := (dC, dI)) (ci := 0) (v := .ref h0_marks) (C := RX0) (T := TX0) (N := 5) hx hb hts hi0 hown hK hP 3 rfl rfl 2 (by decide) (hts (.fieldLink RX0 18 "AskTree$Cases" "marks" "[I") (by decide +kernel)) (fun _ h9 => h9) rfl dX0_append_30 ?_
  refine lv_aload_n hx hb dX0_append_33 rfl (lv_at hl 1 rfl) ?_
  refine va_get (D := (dC, dI)) (ci := 0) (v := .int 0) (C := RX0) (T := TX0) (N := 5) hx hb hts hi0 hown hK hP 3 rfl rfl 4 (by decide) (hts (.fieldLink RX0 24 "AskTree$Cases" "size" "I") (by decide +kernel)) (fun _ h9 => h9) rfl dX0_append_34 ?_
  refine lv_bipush (v := 8) hx hb dX0_append_37 (by decide) ?_
  refine lv_imul hx hb dX0_append_39 ?_
  refine tvv (v := .int 0) (congrArg Value.int (by decide)) ?_
  refine lv_iload_n hx hb dX0_append_40 rfl (lv_at hl 0 rfl) ?_
  refine lv_iadd hx hb dX0_append_41 ?_
  refine tvv (v := .int 6) (congrArg Value.int (by decide)) ?_
  refine lv_aload_n hx hb dX0_append_42 rfl (lv_at hl 3 rfl) ?_
  refine lv_iload_n hx hb dX0_append_43 rfl (lv_at hl 0 rfl) ?_
  refine va_iald hx hb hK hP 2 3 rfl rfl (vi _ _ (by decide)) dX0_append_44 ?_
  refine tvv (v := .int (f2 6)) (ci f2 (k := 6) (by decide) rfl) ?_
  refine va_iast hx hb hK hP hD hS 1 1 rfl rfl (vi _ _ (by decide)) dX0_append_45 (fun H locs hP hD hS => ?_)
  have hP : va_P (dC, dI) vwCl [(h0_classes, .inl (k0_classes, 300, .inl f_2)), (h0_marks, .inl (k0_marks, 2400, .inl (upd f_51 (Int32.toNatClampNeg 6) (f2 6)))), (h2, .inl (k2, 8, .inl f2)), (h0, .inr (0, [.ref a0_kinds, .ref h0_classes, .ref h0_marks, .ref h0_order, .int 0])), (h0_order, .inl (k0_order, 2400, .inl f_60))] H := hP
  have hD : va_D A [(h0_classes, .inl (k0_classes, 300, .inl f_2)), (h0_marks, .inl (k0_marks, 2400, .inl (upd f_51 (Int32.toNatClampNeg 6) (f2 6)))), (h2, .inl (k2, 8, .inl f2)), (h0, .inr (0, [.ref a0_kinds, .ref h0_classes, .ref h0_marks, .ref h0_order, .int 0])), (h0_order, .inl (k0_order, 2400, .inl f_60))] := hD
  generalize hf_64 : upd f_51 (Int32.toNatClampNeg 6) (f2 6) = f_63 at hP hD
  have hk_65 : f_63 6 = (f2 6) := by rw [← hf_64]; exact up_s (by decide)
  have hk_66 : f_63 5 = (f2 5) := by rw [← hf_64]; exact up_n (k := 6) (by decide) (by decide) hk_53
  have hk_67 : f_63 4 = (f2 4) := by rw [← hf_64]; exact up_n (k := 6) (by decide) (by decide) hk_54
  have hk_68 : f_63 3 = (f2 3) := by rw [← hf_64]; exact up_n (k := 6) (by decide) (by decide) hk_55
  have hk_69 : f_63 2 = (f2 2) := by rw [← hf_64]; exact up_n (k := 6) (by decide) (by decide) hk_56
  have hk_70 : f_63 1 = (f2 1) := by rw [← hf_64]; exact up_n (k := 6) (by decide) (by decide) hk_57
  have hk_71 : f_63 0 = (f2 0) := by rw [← hf_64]; exact up_n (k := 6) (by decide) (by decide) hk_58
  clear hf_64
  refine lv_aload_n hx hb dX0_append_46 rfl (lv_at hl 1 rfl) ?_
  refine lv_iload_n hx hb dX0_append_47 rfl (lv_at hl 0 rfl) ?_
  refine lv_aload_n hx hb dX0_append_48 rfl (lv_at hl 3 rfl) ?_
  refine lv_iload_n hx hb dX0_append_49 rfl (lv_at hl 0 rfl) ?_
  refine va_iald hx hb hK hP 2 3 rfl rfl (vi _ _ (by decide)) dX0_append_50 ?_
  refine tvv (v := .int (f2 6)) (ci f2 (k := 6) (by decide) rfl) ?_
  have hPc := hP.sub (ws' := [(h0, .inr (0, [.ref a0_kinds, .ref h0_classes, .ref h0_marks, .ref h0_order, .int 0])), (h0_order, .inl (k0_order, 2400, .inl f_60))]) [3, 4] rfl
  have hDc := hD.sub (ws' := [(h0, .inr (0, [.ref a0_kinds, .ref h0_classes, .ref h0_marks, .ref h0_order, .int 0])), (h0_order, .inl (k0_order, 2400, .inl f_60))]) [3, 4] (by decide) rfl
  have hKc := hK.sub (tys' := [(k0_order, .int)]) [2] rfl
  have hFc := va_free (wc := [(h0, .inr (0, [.ref a0_kinds, .ref h0_classes, .ref h0_marks, .ref h0_order, .int 0])), (h0_order, .inl (k0_order, 2400, .inl f_60))]) hD hS hA [3, 4] rfl
  refine va_callv (va_runV (As := [.int 6, .int (f2 6)]) (rest := []) ⟨hx, hb, hml, hown, hts⟩ (c_putInOrder6 l dC dI H.size h0 (f2 6) h0_order a0_kinds h0_classes h0_marks k0_order f_60 ) (cwV 2 hts gX0_append_X0_putInOrder rfl rfl rfl (by decide +kernel) ⟨Nat.le_of_ble_eq_true rfl, Nat.le_of_ble_eq_true rfl⟩) (pre_V hPc hKc hDc hN (ci := 0) (q0 := 0) rfl rfl) rfl rfl hl.1 rfl (lv_room (Nat.le_of_ble_eq_true rfl)) dX0_append_51 ⟨Nat.le_of_ble_eq_true rfl, Nat.le_of_ble_eq_true rfl⟩) hS (fun q _ h => hFc q h) hFc (fun u t H1 locs ht hvm hw hB hz1 hk1 hS => ?_)
  clear hPc hDc hKc
  obtain ⟨f_73, rfl, hk_74⟩ := hw
  obtain ⟨hP1, hK1, hD1⟩ := hB
  rw [ht] at hP1
  obtain ⟨hP, hD⟩ := va_join (wr := [(h0_classes, .inl (k0_classes, 300, .inl f_2)), (h0_marks, .inl (k0_marks, 2400, .inl f_63)), (h2, .inl (k2, 8, .inl f2))]) (w1 := [(h0, .inr (0, [.ref a0_kinds, .ref h0_classes, .ref h0_marks, .ref h0_order, .int 0])), (h0_order, .inl (k0_order, 2400, .inl f_73))]) hP hD [3, 4] [0, 1, 2] rfl rfl (by decide) (by decide) hk1 hFc hP1 hD1
  generalize H1 = H at hP hS ⊢
  clear hP1 hD1 hFc hk1 hz1 ht hvm hK1
  have hP : va_P (dC, dI) vwCl [(h0_classes, .inl (k0_classes, 300, .inl f_2)), (h0_marks, .inl (k0_marks, 2400, .inl f_63)), (h2, .inl (k2, 8, .inl f2)), (h0, .inr (0, [.ref a0_kinds, .ref h0_classes, .ref h0_marks, .ref h0_order, .int 0])), (h0_order, .inl (k0_order, 2400, .inl f_73))] H := hP
  have hD : va_D A [(h0_classes, .inl (k0_classes, 300, .inl f_2)), (h0_marks, .inl (k0_marks, 2400, .inl f_63)), (h2, .inl (k2, 8, .inl f2)), (h0, .inr (0, [.ref a0_kinds, .ref h0_classes, .ref h0_marks, .ref h0_order, .int 0])), (h0_order, .inl (k0_order, 2400, .inl f_73))] := hD
  refine lv_iinc (v := 7) (lv' := [(3, .int 7), (0, .ref h0), (1, .int p1), (2, .ref h2)]) hx hb dX0_append_54 hl (k := 0) rfl (by decide) (by decide) rfl (fun ls hl => ?_)
  refine lv_goto (tgt := 23) hx hb dX0_append_57 (by decide) ?_
  refine lv_iload_n hx hb dX0_append_23 rfl (lv_at hl 0 rfl) ?_
  refine lv_bipush (v := 8) hx hb dX0_append_24 (by decide) ?_
  refine lv_icmp_ge (tgt := 60) hx hb dX0_append_26 (by decide) (fun c_75 => ?_) (fun c_75 => ?_)
  · exact absurd c_75 (by decide)
  refine lv_aload_n hx hb dX0_append_29 rfl (lv_at hl 1 rfl) ?_
  refine va_get (D := (dC, dI)) (ci := 0) (v := .ref h0_marks) (C := RX0) (T := TX0) (N := 5) hx hb hts hi0 hown hK hP 3 rfl rfl 2 (by decide) (hts (.fieldLink RX0 18 "AskTree$Cases" "marks" "[I") (by decide +kernel)) (fun _ h9 => h9) rfl dX0_append_30 ?_
  refine lv_aload_n hx hb dX0_append_33 rfl (lv_at hl 1 rfl) ?_
  refine va_get (D := (dC, dI)) (ci := 0) (v := .int 0) (C := RX0) (T := TX0) (N := 5) hx hb hts hi0 hown hK hP 3 rfl rfl 4 (by decide) (hts (.fieldLink RX0 24 "AskTree$Cases" "size" "I") (by decide +kernel)) (fun _ h9 => h9) rfl dX0_append_34 ?_
  refine lv_bipush (v := 8) hx hb dX0_append_37 (by decide) ?_
  refine lv_imul hx hb dX0_append_39 ?_
  refine tvv (v := .int 0) (congrArg Value.int (by decide)) ?_
  refine lv_iload_n hx hb dX0_append_40 rfl (lv_at hl 0 rfl) ?_
  refine lv_iadd hx hb dX0_append_41 ?_
  refine tvv (v := .int 7) (congrArg Value.int (by decide)) ?_
  refine lv_aload_n hx hb dX0_append_42 rfl (lv_at hl 3 rfl) ?_
  refine lv_iload_n hx hb dX0_append_43 rfl (lv_at hl 0 rfl) ?_
  refine va_iald hx hb hK hP 2 3 rfl rfl (vi _ _ (by decide)) dX0_append_44 ?_
  refine tvv (v := .int (f2 7)) (ci f2 (k := 7) (by decide) rfl) ?_
  refine va_iast hx hb hK hP hD hS 1 1 rfl rfl (vi _ _ (by decide)) dX0_append_45 (fun H locs hP hD hS => ?_)
  have hP : va_P (dC, dI) vwCl [(h0_classes, .inl (k0_classes, 300, .inl f_2)), (h0_marks, .inl (k0_marks, 2400, .inl (upd f_63 (Int32.toNatClampNeg 7) (f2 7)))), (h2, .inl (k2, 8, .inl f2)), (h0, .inr (0, [.ref a0_kinds, .ref h0_classes, .ref h0_marks, .ref h0_order, .int 0])), (h0_order, .inl (k0_order, 2400, .inl f_73))] H := hP
  have hD : va_D A [(h0_classes, .inl (k0_classes, 300, .inl f_2)), (h0_marks, .inl (k0_marks, 2400, .inl (upd f_63 (Int32.toNatClampNeg 7) (f2 7)))), (h2, .inl (k2, 8, .inl f2)), (h0, .inr (0, [.ref a0_kinds, .ref h0_classes, .ref h0_marks, .ref h0_order, .int 0])), (h0_order, .inl (k0_order, 2400, .inl f_73))] := hD
  generalize hf_77 : upd f_63 (Int32.toNatClampNeg 7) (f2 7) = f_76 at hP hD
  have hk_78 : f_76 7 = (f2 7) := by rw [← hf_77]; exact up_s (by decide)
  have hk_79 : f_76 6 = (f2 6) := by rw [← hf_77]; exact up_n (k := 7) (by decide) (by decide) hk_65
  have hk_80 : f_76 5 = (f2 5) := by rw [← hf_77]; exact up_n (k := 7) (by decide) (by decide) hk_66
  have hk_81 : f_76 4 = (f2 4) := by rw [← hf_77]; exact up_n (k := 7) (by decide) (by decide) hk_67
  have hk_82 : f_76 3 = (f2 3) := by rw [← hf_77]; exact up_n (k := 7) (by decide) (by decide) hk_68
  have hk_83 : f_76 2 = (f2 2) := by rw [← hf_77]; exact up_n (k := 7) (by decide) (by decide) hk_69
  have hk_84 : f_76 1 = (f2 1) := by rw [← hf_77]; exact up_n (k := 7) (by decide) (by decide) hk_70
  have hk_85 : f_76 0 = (f2 0) := by rw [← hf_77]; exact up_n (k := 7) (by decide) (by decide) hk_71
  clear hf_77
  refine lv_aload_n hx hb dX0_append_46 rfl (lv_at hl 1 rfl) ?_
  refine lv_iload_n hx hb dX0_append_47 rfl (lv_at hl 0 rfl) ?_
  refine lv_aload_n hx hb dX0_append_48 rfl (lv_at hl 3 rfl) ?_
  refine lv_iload_n hx hb dX0_append_49 rfl (lv_at hl 0 rfl) ?_
  refine va_iald hx hb hK hP 2 3 rfl rfl (vi _ _ (by decide)) dX0_append_50 ?_
  refine tvv (v := .int (f2 7)) (ci f2 (k := 7) (by decide) rfl) ?_
  have hPc := hP.sub (ws' := [(h0, .inr (0, [.ref a0_kinds, .ref h0_classes, .ref h0_marks, .ref h0_order, .int 0])), (h0_order, .inl (k0_order, 2400, .inl f_73))]) [3, 4] rfl
  have hDc := hD.sub (ws' := [(h0, .inr (0, [.ref a0_kinds, .ref h0_classes, .ref h0_marks, .ref h0_order, .int 0])), (h0_order, .inl (k0_order, 2400, .inl f_73))]) [3, 4] (by decide) rfl
  have hKc := hK.sub (tys' := [(k0_order, .int)]) [2] rfl
  have hFc := va_free (wc := [(h0, .inr (0, [.ref a0_kinds, .ref h0_classes, .ref h0_marks, .ref h0_order, .int 0])), (h0_order, .inl (k0_order, 2400, .inl f_73))]) hD hS hA [3, 4] rfl
  refine va_callv (va_runV (As := [.int 7, .int (f2 7)]) (rest := []) ⟨hx, hb, hml, hown, hts⟩ (c_putInOrder7 l dC dI H.size h0 (f2 7) h0_order a0_kinds h0_classes h0_marks k0_order f_73 ) (cwV 2 hts gX0_append_X0_putInOrder rfl rfl rfl (by decide +kernel) ⟨Nat.le_of_ble_eq_true rfl, Nat.le_of_ble_eq_true rfl⟩) (pre_V hPc hKc hDc hN (ci := 0) (q0 := 0) rfl rfl) rfl rfl hl.1 rfl (lv_room (Nat.le_of_ble_eq_true rfl)) dX0_append_51 ⟨Nat.le_of_ble_eq_true rfl, Nat.le_of_ble_eq_true rfl⟩) hS (fun q _ h => hFc q h) hFc (fun u t H1 locs ht hvm hw hB hz1 hk1 hS => ?_)
  clear hPc hDc hKc
  obtain ⟨f_87, rfl, hk_88⟩ := hw
  obtain ⟨hP1, hK1, hD1⟩ := hB
  rw [ht] at hP1
  obtain ⟨hP, hD⟩ := va_join (wr := [(h0_classes, .inl (k0_classes, 300, .inl f_2)), (h0_marks, .inl (k0_marks, 2400, .inl f_76)), (h2, .inl (k2, 8, .inl f2))]) (w1 := [(h0, .inr (0, [.ref a0_kinds, .ref h0_classes, .ref h0_marks, .ref h0_order, .int 0])), (h0_order, .inl (k0_order, 2400, .inl f_87))]) hP hD [3, 4] [0, 1, 2] rfl rfl (by decide) (by decide) hk1 hFc hP1 hD1
  generalize H1 = H at hP hS ⊢
  clear hP1 hD1 hFc hk1 hz1 ht hvm hK1
  have hP : va_P (dC, dI) vwCl [(h0_classes, .inl (k0_classes, 300, .inl f_2)), (h0_marks, .inl (k0_marks, 2400, .inl f_76)), (h2, .inl (k2, 8, .inl f2)), (h0, .inr (0, [.ref a0_kinds, .ref h0_classes, .ref h0_marks, .ref h0_order, .int 0])), (h0_order, .inl (k0_order, 2400, .inl f_87))] H := hP
  have hD : va_D A [(h0_classes, .inl (k0_classes, 300, .inl f_2)), (h0_marks, .inl (k0_marks, 2400, .inl f_76)), (h2, .inl (k2, 8, .inl f2)), (h0, .inr (0, [.ref a0_kinds, .ref h0_classes, .ref h0_marks, .ref h0_order, .int 0])), (h0_order, .inl (k0_order, 2400, .inl f_87))] := hD
  refine lv_iinc (v := 8) (lv' := [(3, .int 8), (0, .ref h0), (1, .int p1), (2, .ref h2)]) hx hb dX0_append_54 hl (k := 0) rfl (by decide) (by decide) rfl (fun ls hl => ?_)
  refine lv_goto (tgt := 23) hx hb dX0_append_57 (by decide) ?_
  refine lv_iload_n hx hb dX0_append_23 rfl (lv_at hl 0 rfl) ?_
  refine lv_bipush (v := 8) hx hb dX0_append_24 (by decide) ?_
  refine lv_icmp_ge (tgt := 60) hx hb dX0_append_26 (by decide) (fun c_89 => ?_) (fun c_89 => ?_)
  rotate_left
  · exact absurd c_89 (by decide)
  refine lv_aload_n hx hb dX0_append_60 rfl (lv_at hl 1 rfl) ?_
  refine lv_dup hx hb dX0_append_61 rfl ?_
  refine va_get (D := (dC, dI)) (ci := 0) (v := .int 0) (C := RX0) (T := TX0) (N := 5) hx hb hts hi0 hown hK hP 3 rfl rfl 4 (by decide) (hts (.fieldLink RX0 24 "AskTree$Cases" "size" "I") (by decide +kernel)) (fun _ h9 => h9) rfl dX0_append_62 ?_
  refine lv_iconst (v := 1) hx hb dX0_append_65 (by decide) ?_
  refine lv_iadd hx hb dX0_append_66 ?_
  refine tvv (v := .int 1) (congrArg Value.int (by decide)) ?_
  refine va_put (D := (dC, dI)) (ci := 0) (v := .int 1) (ty := .int) (C := RX0) (T := TX0) (N := 5) hx hb hts hi0 tyX0 tyX0_ok nmX0 hown hK hP hD hS 3 rfl rfl 4 (by decide) (hts (.fieldLink RX0 24 "AskTree$Cases" "size" "I") (by decide +kernel)) (fun _ h9 => h9) rfl (by decide +kernel) rfl rfl (Nat.le_of_ble_eq_true rfl) dX0_append_67 (fun H locs hP hD hS => ?_)
  have hP : va_P (dC, dI) vwCl [(h0_classes, .inl (k0_classes, 300, .inl f_2)), (h0_marks, .inl (k0_marks, 2400, .inl f_76)), (h2, .inl (k2, 8, .inl f2)), (h0, .inr (0, [.ref a0_kinds, .ref h0_classes, .ref h0_marks, .ref h0_order, .int 1])), (h0_order, .inl (k0_order, 2400, .inl f_87))] H := hP
  have hD : va_D A [(h0_classes, .inl (k0_classes, 300, .inl f_2)), (h0_marks, .inl (k0_marks, 2400, .inl f_76)), (h2, .inl (k2, 8, .inl f2)), (h0, .inr (0, [.ref a0_kinds, .ref h0_classes, .ref h0_marks, .ref h0_order, .int 1])), (h0_order, .inl (k0_order, 2400, .inl f_87))] := hD
  have hP9 := hP.sub (ws' := [(h0, .inr (0, [.ref a0_kinds, .ref h0_classes, .ref h0_marks, .ref h0_order, .int 1])), (h0_classes, .inl (k0_classes, 300, .inl f_2)), (h0_marks, .inl (k0_marks, 2400, .inl f_76)), (h0_order, .inl (k0_order, 2400, .inl f_87)), (h2, .inl (k2, 8, .inl f2))]) [3, 0, 1, 4, 2] rfl
  have hD9 := hD.sub (ws' := [(h0, .inr (0, [.ref a0_kinds, .ref h0_classes, .ref h0_marks, .ref h0_order, .int 1])), (h0_classes, .inl (k0_classes, 300, .inl f_2)), (h0_marks, .inl (k0_marks, 2400, .inl f_76)), (h0_order, .inl (k0_order, 2400, .inl f_87)), (h2, .inl (k2, 8, .inl f2))]) [3, 0, 1, 4, 2] (by decide) rfl
  have hK9 := hK.sub (tys' := []) [] rfl
  exact W.vret hx hb hr (fun t ht hW => ⟨⟨([(h0, .inr (0, [.ref a0_kinds, .ref h0_classes, .ref h0_marks, .ref h0_order, .int 1])), (h0_classes, .inl (k0_classes, 300, .inl f_2)), (h0_marks, .inl (k0_marks, 2400, .inl f_76)), (h0_order, .inl (k0_order, 2400, .inl f_87)), (h2, .inl (k2, 8, .inl f2))], []), rfl, ⟨f_2, f_76, f_87, rfl⟩, (by rw [ht]; exact hP9), va_K.moved hW.alike hK9, hD9⟩, hS.F ht⟩) hS.2.2 dX0_append_70
