set_option maxHeartbeats 4000000 in
set_option maxRecDepth 100000 in
theorem c_isMark (l : Launch) (dC : Nat → ClassId) (dI : Nat → Nat → Nat) (sz : Nat) (p0 : Int32)   : Met l yX7_isMark wsX7_isMark ({ frames := 1, cells := 0, slots := 0, locals := 60 }) (va_Pc [.int p0] (pw (dC, dI) [] [] sz)) (va_Qi (fun (r : Int32) (u : vu) => (u = ([], []) ∧ p0 < 0 ∧ r = 0) ∨ (u = ([], []) ∧ ¬ p0 < 0 ∧ 8 ≤ p0 ∧ r = 0) ∨ (u = ([], []) ∧ ¬ p0 < 0 ∧ ¬ 8 ≤ p0 ∧ r = 1)) (fun u t => qw (dC, dI) u.2 (va_A [] sz) u.1 t) (va_A [] sz)) 0 0 (va_A [] sz) := by
  refine Met.ofW (cc := cX7_isMark) (maxL := 1) (ret := (some .boolean)) (by decide) rfl ?_
  intro p e s m args below meth c s₁ B hml hv
  obtain ⟨rfl, hsz, hP, hK, hD0, hN⟩ := hv
  have hx := B.exec
  have hb := B.bytes
  have hr := B.returns
  have hts := atoms_spec (ws := wsX7_isMark) B.pre
  have hown : s.vm.findClass RX7 = some m.cls := findClass_of_methodNamed B.named
  have hlocks := B.notSynchronized
  subst hsz
  have hD := hD0.self (sz := s.heap.size)
  generalize hAe : va_A [] s.heap.size = A at hD ⊢
  have hA : ∀ q : Nat, s.heap.size ≤ q → A q := fun q h => by rw [← hAe]; exact Or.inr h
  have hS : va_S A s.heap s.heap [] := va_S.rf
  have hl := lv_entry ([.int p0]) (n := 1) (Nat.le_of_ble_eq_true rfl)
  rw [lg_entry_eq]
  generalize (lg_sl ([.int p0]) ++ List.replicate (1 - (lg_sl ([.int p0])).length) Slot.unset).toArray = ls at hl ⊢
  have hl : lv_has ls 1 [(0, .int p0)] := hl
  have hP : va_P (dC, dI) vwCl [] s.heap := hP
  refine lv_iload_n hx hb dX7_isMark_0 rfl (lv_at hl 0 rfl) ?_
  refine lv_if_lt (tgt := 14) hx hb dX7_isMark_1 (by decide) (fun c_1 => ?_) (fun c_1 => ?_)
  · skip
    refine lv_iconst (v := 0) hx hb dX7_isMark_14 (by decide) ?_
    have hP9 := hP.sub (ws' := []) [] rfl
    have hD9 := hD.sub (ws' := []) [] (by decide) rfl
    have hK9 := hK.sub (tys' := []) [] rfl
    exact W.zret (v := 0) hx hb hr rfl (fun t ht hW => ⟨⟨0, ([], []), rfl, (Or.inl ⟨rfl, c_1, rfl⟩), (by rw [ht]; exact hP9), va_K.moved hW.alike hK9, hD9⟩, hS.F ht⟩) hS.2.2 dX7_isMark_15
  · skip
    refine lv_iload_n hx hb dX7_isMark_4 rfl (lv_at hl 0 rfl) ?_
    refine lv_bipush (v := 8) hx hb dX7_isMark_5 (by decide) ?_
    refine lv_icmp_ge (tgt := 14) hx hb dX7_isMark_7 (by decide) (fun c_2 => ?_) (fun c_2 => ?_)
    · skip
      refine lv_iconst (v := 0) hx hb dX7_isMark_14 (by decide) ?_
      have hP9 := hP.sub (ws' := []) [] rfl
      have hD9 := hD.sub (ws' := []) [] (by decide) rfl
      have hK9 := hK.sub (tys' := []) [] rfl
      exact W.zret (v := 0) hx hb hr rfl (fun t ht hW => ⟨⟨0, ([], []), rfl, (Or.inr (Or.inl ⟨rfl, c_1, c_2, rfl⟩)), (by rw [ht]; exact hP9), va_K.moved hW.alike hK9, hD9⟩, hS.F ht⟩) hS.2.2 dX7_isMark_15
    · skip
      refine lv_iconst (v := 1) hx hb dX7_isMark_10 (by decide) ?_
      refine lv_goto (tgt := 15) hx hb dX7_isMark_11 (by decide) ?_
      have hP9 := hP.sub (ws' := []) [] rfl
      have hD9 := hD.sub (ws' := []) [] (by decide) rfl
      have hK9 := hK.sub (tys' := []) [] rfl
      exact W.zret (v := 1) hx hb hr rfl (fun t ht hW => ⟨⟨1, ([], []), rfl, (Or.inr (Or.inr ⟨rfl, c_1, c_2, rfl⟩)), (by rw [ht]; exact hP9), va_K.moved hW.alike hK9, hD9⟩, hS.F ht⟩) hS.2.2 dX7_isMark_15

set_option maxHeartbeats 4000000 in
set_option maxRecDepth 100000 in
theorem c_isClass (l : Launch) (dC : Nat → ClassId) (dI : Nat → Nat → Nat) (sz : Nat) (p0 : Int32)   : Met l yX7_isClass wsX7_isClass ({ frames := 1, cells := 0, slots := 0, locals := 60 }) (va_Pc [.int p0] (pw (dC, dI) [] [] sz)) (va_Qi (fun (r : Int32) (u : vu) => (u = ([], []) ∧ p0 < 0 ∧ r = 0) ∨ (u = ([], []) ∧ ¬ p0 < 0 ∧ 4 ≤ p0 ∧ r = 0) ∨ (u = ([], []) ∧ ¬ p0 < 0 ∧ ¬ 4 ≤ p0 ∧ r = 1)) (fun u t => qw (dC, dI) u.2 (va_A [] sz) u.1 t) (va_A [] sz)) 0 0 (va_A [] sz) := by
  refine Met.ofW (cc := cX7_isClass) (maxL := 1) (ret := (some .boolean)) (by decide) rfl ?_
  intro p e s m args below meth c s₁ B hml hv
  obtain ⟨rfl, hsz, hP, hK, hD0, hN⟩ := hv
  have hx := B.exec
  have hb := B.bytes
  have hr := B.returns
  have hts := atoms_spec (ws := wsX7_isClass) B.pre
  have hown : s.vm.findClass RX7 = some m.cls := findClass_of_methodNamed B.named
  have hlocks := B.notSynchronized
  subst hsz
  have hD := hD0.self (sz := s.heap.size)
  generalize hAe : va_A [] s.heap.size = A at hD ⊢
  have hA : ∀ q : Nat, s.heap.size ≤ q → A q := fun q h => by rw [← hAe]; exact Or.inr h
  have hS : va_S A s.heap s.heap [] := va_S.rf
  have hl := lv_entry ([.int p0]) (n := 1) (Nat.le_of_ble_eq_true rfl)
  rw [lg_entry_eq]
  generalize (lg_sl ([.int p0]) ++ List.replicate (1 - (lg_sl ([.int p0])).length) Slot.unset).toArray = ls at hl ⊢
  have hl : lv_has ls 1 [(0, .int p0)] := hl
  have hP : va_P (dC, dI) vwCl [] s.heap := hP
  refine lv_iload_n hx hb dX7_isClass_0 rfl (lv_at hl 0 rfl) ?_
  refine lv_if_lt (tgt := 13) hx hb dX7_isClass_1 (by decide) (fun c_1 => ?_) (fun c_1 => ?_)
  · skip
    refine lv_iconst (v := 0) hx hb dX7_isClass_13 (by decide) ?_
    have hP9 := hP.sub (ws' := []) [] rfl
    have hD9 := hD.sub (ws' := []) [] (by decide) rfl
    have hK9 := hK.sub (tys' := []) [] rfl
    exact W.zret (v := 0) hx hb hr rfl (fun t ht hW => ⟨⟨0, ([], []), rfl, (Or.inl ⟨rfl, c_1, rfl⟩), (by rw [ht]; exact hP9), va_K.moved hW.alike hK9, hD9⟩, hS.F ht⟩) hS.2.2 dX7_isClass_14
  · skip
    refine lv_iload_n hx hb dX7_isClass_4 rfl (lv_at hl 0 rfl) ?_
    refine lv_iconst (v := 4) hx hb dX7_isClass_5 (by decide) ?_
    refine lv_icmp_ge (tgt := 13) hx hb dX7_isClass_6 (by decide) (fun c_2 => ?_) (fun c_2 => ?_)
    · skip
      refine lv_iconst (v := 0) hx hb dX7_isClass_13 (by decide) ?_
      have hP9 := hP.sub (ws' := []) [] rfl
      have hD9 := hD.sub (ws' := []) [] (by decide) rfl
      have hK9 := hK.sub (tys' := []) [] rfl
      exact W.zret (v := 0) hx hb hr rfl (fun t ht hW => ⟨⟨0, ([], []), rfl, (Or.inr (Or.inl ⟨rfl, c_1, c_2, rfl⟩)), (by rw [ht]; exact hP9), va_K.moved hW.alike hK9, hD9⟩, hS.F ht⟩) hS.2.2 dX7_isClass_14
    · skip
      refine lv_iconst (v := 1) hx hb dX7_isClass_9 (by decide) ?_
      refine lv_goto (tgt := 14) hx hb dX7_isClass_10 (by decide) ?_
      have hP9 := hP.sub (ws' := []) [] rfl
      have hD9 := hD.sub (ws' := []) [] (by decide) rfl
      have hK9 := hK.sub (tys' := []) [] rfl
      exact W.zret (v := 1) hx hb hr rfl (fun t ht hW => ⟨⟨1, ([], []), rfl, (Or.inr (Or.inr ⟨rfl, c_1, c_2, rfl⟩)), (by rw [ht]; exact hP9), va_K.moved hW.alike hK9, hD9⟩, hS.F ht⟩) hS.2.2 dX7_isClass_14

set_option maxHeartbeats 4000000 in
set_option maxRecDepth 100000 in
theorem c_canGrow (l : Launch) (dC : Nat → ClassId) (dI : Nat → Nat → Nat) (sz : Nat) (p0 : Int32) (p1 : Int32)   : Met l yX7_canGrow wsX7_canGrow ({ frames := 1, cells := 0, slots := 0, locals := 60 }) (va_Pc [.int p0, .int p1] (pw (dC, dI) [] [] sz)) (va_Qi (fun (r : Int32) (u : vu) => (u = ([], []) ∧ p0 < 0 ∧ r = 0) ∨ (u = ([], []) ∧ ¬ p0 < 0 ∧ 8 < p0 ∧ r = 0) ∨ (u = ([], []) ∧ ¬ p0 < 0 ∧ ¬ 8 < p0 ∧ p1 < 1 ∧ r = 0) ∨ (u = ([], []) ∧ ¬ p0 < 0 ∧ ¬ 8 < p0 ∧ ¬ p1 < 1 ∧ 100 < p1 ∧ r = 0) ∨ (u = ([], []) ∧ ¬ p0 < 0 ∧ ¬ 8 < p0 ∧ ¬ p1 < 1 ∧ ¬ 100 < p1 ∧ r = 1)) (fun u t => qw (dC, dI) u.2 (va_A [] sz) u.1 t) (va_A [] sz)) 0 0 (va_A [] sz) := by
  refine Met.ofW (cc := cX7_canGrow) (maxL := 2) (ret := (some .boolean)) (by decide) rfl ?_
  intro p e s m args below meth c s₁ B hml hv
  obtain ⟨rfl, hsz, hP, hK, hD0, hN⟩ := hv
  have hx := B.exec
  have hb := B.bytes
  have hr := B.returns
  have hts := atoms_spec (ws := wsX7_canGrow) B.pre
  have hown : s.vm.findClass RX7 = some m.cls := findClass_of_methodNamed B.named
  have hlocks := B.notSynchronized
  subst hsz
  have hD := hD0.self (sz := s.heap.size)
  generalize hAe : va_A [] s.heap.size = A at hD ⊢
  have hA : ∀ q : Nat, s.heap.size ≤ q → A q := fun q h => by rw [← hAe]; exact Or.inr h
  have hS : va_S A s.heap s.heap [] := va_S.rf
  have hl := lv_entry ([.int p0, .int p1]) (n := 2) (Nat.le_of_ble_eq_true rfl)
  rw [lg_entry_eq]
  generalize (lg_sl ([.int p0, .int p1]) ++ List.replicate (2 - (lg_sl ([.int p0, .int p1])).length) Slot.unset).toArray = ls at hl ⊢
  have hl : lv_has ls 2 [(0, .int p0), (1, .int p1)] := hl
  have hP : va_P (dC, dI) vwCl [] s.heap := hP
  refine lv_iload_n hx hb dX7_canGrow_0 rfl (lv_at hl 0 rfl) ?_
  refine lv_if_lt (tgt := 25) hx hb dX7_canGrow_1 (by decide) (fun c_1 => ?_) (fun c_1 => ?_)
  · skip
    refine lv_iconst (v := 0) hx hb dX7_canGrow_25 (by decide) ?_
    have hP9 := hP.sub (ws' := []) [] rfl
    have hD9 := hD.sub (ws' := []) [] (by decide) rfl
    have hK9 := hK.sub (tys' := []) [] rfl
    exact W.zret (v := 0) hx hb hr rfl (fun t ht hW => ⟨⟨0, ([], []), rfl, (Or.inl ⟨rfl, c_1, rfl⟩), (by rw [ht]; exact hP9), va_K.moved hW.alike hK9, hD9⟩, hS.F ht⟩) hS.2.2 dX7_canGrow_26
  · skip
    refine lv_iload_n hx hb dX7_canGrow_4 rfl (lv_at hl 0 rfl) ?_
    refine lv_bipush (v := 8) hx hb dX7_canGrow_5 (by decide) ?_
    refine lv_icmp_gt (tgt := 25) hx hb dX7_canGrow_7 (by decide) (fun c_2 => ?_) (fun c_2 => ?_)
    · skip
      refine lv_iconst (v := 0) hx hb dX7_canGrow_25 (by decide) ?_
      have hP9 := hP.sub (ws' := []) [] rfl
      have hD9 := hD.sub (ws' := []) [] (by decide) rfl
      have hK9 := hK.sub (tys' := []) [] rfl
      exact W.zret (v := 0) hx hb hr rfl (fun t ht hW => ⟨⟨0, ([], []), rfl, (Or.inr (Or.inl ⟨rfl, c_1, c_2, rfl⟩)), (by rw [ht]; exact hP9), va_K.moved hW.alike hK9, hD9⟩, hS.F ht⟩) hS.2.2 dX7_canGrow_26
    · skip
      refine lv_iload_n hx hb dX7_canGrow_10 rfl (lv_at hl 1 rfl) ?_
      refine lv_iconst (v := 1) hx hb dX7_canGrow_11 (by decide) ?_
      refine lv_icmp_lt (tgt := 25) hx hb dX7_canGrow_12 (by decide) (fun c_3 => ?_) (fun c_3 => ?_)
      · skip
        refine lv_iconst (v := 0) hx hb dX7_canGrow_25 (by decide) ?_
        have hP9 := hP.sub (ws' := []) [] rfl
        have hD9 := hD.sub (ws' := []) [] (by decide) rfl
        have hK9 := hK.sub (tys' := []) [] rfl
        exact W.zret (v := 0) hx hb hr rfl (fun t ht hW => ⟨⟨0, ([], []), rfl, (Or.inr (Or.inr (Or.inl ⟨rfl, c_1, c_2, c_3, rfl⟩))), (by rw [ht]; exact hP9), va_K.moved hW.alike hK9, hD9⟩, hS.F ht⟩) hS.2.2 dX7_canGrow_26
      · skip
        refine lv_iload_n hx hb dX7_canGrow_15 rfl (lv_at hl 1 rfl) ?_
        refine lv_bipush (v := 100) hx hb dX7_canGrow_16 (by decide) ?_
        refine lv_icmp_gt (tgt := 25) hx hb dX7_canGrow_18 (by decide) (fun c_4 => ?_) (fun c_4 => ?_)
        · skip
          refine lv_iconst (v := 0) hx hb dX7_canGrow_25 (by decide) ?_
          have hP9 := hP.sub (ws' := []) [] rfl
          have hD9 := hD.sub (ws' := []) [] (by decide) rfl
          have hK9 := hK.sub (tys' := []) [] rfl
          exact W.zret (v := 0) hx hb hr rfl (fun t ht hW => ⟨⟨0, ([], []), rfl, (Or.inr (Or.inr (Or.inr (Or.inl ⟨rfl, c_1, c_2, c_3, c_4, rfl⟩)))), (by rw [ht]; exact hP9), va_K.moved hW.alike hK9, hD9⟩, hS.F ht⟩) hS.2.2 dX7_canGrow_26
        · skip
          refine lv_iconst (v := 1) hx hb dX7_canGrow_21 (by decide) ?_
          refine lv_goto (tgt := 26) hx hb dX7_canGrow_22 (by decide) ?_
          have hP9 := hP.sub (ws' := []) [] rfl
          have hD9 := hD.sub (ws' := []) [] (by decide) rfl
          have hK9 := hK.sub (tys' := []) [] rfl
          exact W.zret (v := 1) hx hb hr rfl (fun t ht hW => ⟨⟨1, ([], []), rfl, (Or.inr (Or.inr (Or.inr (Or.inr ⟨rfl, c_1, c_2, c_3, c_4, rfl⟩)))), (by rw [ht]; exact hP9), va_K.moved hW.alike hK9, hD9⟩, hS.F ht⟩) hS.2.2 dX7_canGrow_26

theorem lf_isCase_1 (p1 : Int32) (e0 : ¬ p1 < 0) (e1 : ¬ 0 ≤ p1) : False := by
  (try simp only [Int32.lt_iff_toInt_lt, Int32.le_iff_toInt_le, ← Int32.toInt_inj, ln_0, ln_1, ln_2, ln_3, ln_4, ln_6, ln_8, ln_10, ln_50, ln_100, ln_300, ln_1000, ln_m1000, ln_m32768, ln_m1, ln_m2, ln_m40000, ln_20] at *)
  all_goals omega
set_option maxHeartbeats 4000000 in
set_option maxRecDepth 100000 in
theorem c_isCase (l : Launch) (dC : Nat → ClassId) (dI : Nat → Nat → Nat) (sz : Nat) (h0 : Nat) (p1 : Int32) (h0_cases : Nat) (a0_rows : Nat) (a0_grower : Nat) (a0_finder : Nat) (a0_pruner : Nat) (a0_rules : Nat) (a0_trees : Nat) (a0_told : Nat) (a0_turnedMarks : Nat) (a0_ballots : Nat) (a0_cases_kinds : Nat) (a0_cases_classes : Nat) (a0_cases_marks : Nat) (a0_cases_order : Nat)   : Met l yX7_isCase wsX7_isCase ({ frames := 1, cells := 0, slots := 0, locals := 60 }) (va_Pc [.ref h0, .int p1] (pw (dC, dI) [] [(h0, .inr (7, [.ref h0_cases, .ref a0_rows, .ref a0_grower, .ref a0_finder, .ref a0_pruner, .ref a0_rules, .ref a0_trees, .ref a0_told, .ref a0_turnedMarks, .ref a0_ballots, .int 0, .int (-1), .int (-1), .int 0])), (h0_cases, .inr (0, [.ref a0_cases_kinds, .ref a0_cases_classes, .ref a0_cases_marks, .ref a0_cases_order, .int 0]))] sz)) (va_Qi (fun (r : Int32) (u : vu) => (u = ([(h0, .inr (7, [.ref h0_cases, .ref a0_rows, .ref a0_grower, .ref a0_finder, .ref a0_pruner, .ref a0_rules, .ref a0_trees, .ref a0_told, .ref a0_turnedMarks, .ref a0_ballots, .int 0, .int (-1), .int (-1), .int 0])), (h0_cases, .inr (0, [.ref a0_cases_kinds, .ref a0_cases_classes, .ref a0_cases_marks, .ref a0_cases_order, .int 0]))], []) ∧ r = 0)) (fun u t => qw (dC, dI) u.2 (va_A [(h0, .inr (7, [.ref h0_cases, .ref a0_rows, .ref a0_grower, .ref a0_finder, .ref a0_pruner, .ref a0_rules, .ref a0_trees, .ref a0_told, .ref a0_turnedMarks, .ref a0_ballots, .int 0, .int (-1), .int (-1), .int 0])), (h0_cases, .inr (0, [.ref a0_cases_kinds, .ref a0_cases_classes, .ref a0_cases_marks, .ref a0_cases_order, .int 0]))] sz) u.1 t) (va_A [(h0, .inr (7, [.ref h0_cases, .ref a0_rows, .ref a0_grower, .ref a0_finder, .ref a0_pruner, .ref a0_rules, .ref a0_trees, .ref a0_told, .ref a0_turnedMarks, .ref a0_ballots, .int 0, .int (-1), .int (-1), .int 0])), (h0_cases, .inr (0, [.ref a0_cases_kinds, .ref a0_cases_classes, .ref a0_cases_marks, .ref a0_cases_order, .int 0]))] sz)) 0 0 (va_A [(h0, .inr (7, [.ref h0_cases, .ref a0_rows, .ref a0_grower, .ref a0_finder, .ref a0_pruner, .ref a0_rules, .ref a0_trees, .ref a0_told, .ref a0_turnedMarks, .ref a0_ballots, .int 0, .int (-1), .int (-1), .int 0])), (h0_cases, .inr (0, [.ref a0_cases_kinds, .ref a0_cases_classes, .ref a0_cases_marks, .ref a0_cases_order, .int 0]))] sz) := by
  refine Met.ofW (cc := cX7_isCase) (maxL := 2) (ret := (some .boolean)) (by decide) rfl ?_
  intro p e s m args below meth c s₁ B hml hv
  obtain ⟨rfl, hsz, hP, hK, hD0, hN⟩ := hv
  have hx := B.exec
  have hb := B.bytes
  have hr := B.returns
  have hts := atoms_spec (ws := wsX7_isCase) B.pre
  have hown : s.vm.findClass RX7 = some m.cls := findClass_of_methodNamed B.named
  have hlocks := B.notSynchronized
  have hi7 : ∀ w ∈ u_ws RX7 TX7 14, w ∈ wsX7_isCase := fun _ h => List.mem_cons_of_mem _ (List.mem_append_left _ (List.mem_append_right _ h))
  have hi0 : ∀ w ∈ u_ws RX0 TX0 5, w ∈ wsX7_isCase := fun _ h => List.mem_cons_of_mem _ (List.mem_append_right _ h)
  subst hsz
  have hD := hD0.self (sz := s.heap.size)
  generalize hAe : va_A [(h0, .inr (7, [.ref h0_cases, .ref a0_rows, .ref a0_grower, .ref a0_finder, .ref a0_pruner, .ref a0_rules, .ref a0_trees, .ref a0_told, .ref a0_turnedMarks, .ref a0_ballots, .int 0, .int (-1), .int (-1), .int 0])), (h0_cases, .inr (0, [.ref a0_cases_kinds, .ref a0_cases_classes, .ref a0_cases_marks, .ref a0_cases_order, .int 0]))] s.heap.size = A at hD ⊢
  have hA : ∀ q : Nat, s.heap.size ≤ q → A q := fun q h => by rw [← hAe]; exact Or.inr h
  have hS : va_S A s.heap s.heap [] := va_S.rf
  have hl := lv_entry ([.ref h0, .int p1]) (n := 2) (Nat.le_of_ble_eq_true rfl)
  rw [lg_entry_eq]
  generalize (lg_sl ([.ref h0, .int p1]) ++ List.replicate (2 - (lg_sl ([.ref h0, .int p1])).length) Slot.unset).toArray = ls at hl ⊢
  have hl : lv_has ls 2 [(0, .ref h0), (1, .int p1)] := hl
  have hP : va_P (dC, dI) vwCl [(h0, .inr (7, [.ref h0_cases, .ref a0_rows, .ref a0_grower, .ref a0_finder, .ref a0_pruner, .ref a0_rules, .ref a0_trees, .ref a0_told, .ref a0_turnedMarks, .ref a0_ballots, .int 0, .int (-1), .int (-1), .int 0])), (h0_cases, .inr (0, [.ref a0_cases_kinds, .ref a0_cases_classes, .ref a0_cases_marks, .ref a0_cases_order, .int 0]))] s.heap := hP
  refine lv_iload_n hx hb dX7_isCase_0 rfl (lv_at hl 1 rfl) ?_
  refine lv_if_lt (tgt := 19) hx hb dX7_isCase_1 (by decide) (fun c_1 => ?_) (fun c_1 => ?_)
  · skip
    refine lv_iconst (v := 0) hx hb dX7_isCase_19 (by decide) ?_
    have hP9 := hP.sub (ws' := [(h0, .inr (7, [.ref h0_cases, .ref a0_rows, .ref a0_grower, .ref a0_finder, .ref a0_pruner, .ref a0_rules, .ref a0_trees, .ref a0_told, .ref a0_turnedMarks, .ref a0_ballots, .int 0, .int (-1), .int (-1), .int 0])), (h0_cases, .inr (0, [.ref a0_cases_kinds, .ref a0_cases_classes, .ref a0_cases_marks, .ref a0_cases_order, .int 0]))]) [0, 1] rfl
    have hD9 := hD.sub (ws' := [(h0, .inr (7, [.ref h0_cases, .ref a0_rows, .ref a0_grower, .ref a0_finder, .ref a0_pruner, .ref a0_rules, .ref a0_trees, .ref a0_told, .ref a0_turnedMarks, .ref a0_ballots, .int 0, .int (-1), .int (-1), .int 0])), (h0_cases, .inr (0, [.ref a0_cases_kinds, .ref a0_cases_classes, .ref a0_cases_marks, .ref a0_cases_order, .int 0]))]) [0, 1] (by decide) rfl
    have hK9 := hK.sub (tys' := []) [] rfl
    exact W.zret (v := 0) hx hb hr rfl (fun t ht hW => ⟨⟨0, ([(h0, .inr (7, [.ref h0_cases, .ref a0_rows, .ref a0_grower, .ref a0_finder, .ref a0_pruner, .ref a0_rules, .ref a0_trees, .ref a0_told, .ref a0_turnedMarks, .ref a0_ballots, .int 0, .int (-1), .int (-1), .int 0])), (h0_cases, .inr (0, [.ref a0_cases_kinds, .ref a0_cases_classes, .ref a0_cases_marks, .ref a0_cases_order, .int 0]))], []), rfl, ⟨rfl, rfl⟩, (by rw [ht]; exact hP9), va_K.moved hW.alike hK9, hD9⟩, hS.F ht⟩) hS.2.2 dX7_isCase_20
  · skip
    refine lv_iload_n hx hb dX7_isCase_4 rfl (lv_at hl 1 rfl) ?_
    refine lv_aload_n hx hb dX7_isCase_5 rfl (lv_at hl 0 rfl) ?_
    refine va_get (D := (dC, dI)) (ci := 7) (v := .ref h0_cases) (C := RX7) (T := TX7) (N := 14) hx hb hts hi7 hown hK hP 0 rfl rfl 0 (by decide) (hts (.fieldLink RX7 12 "AskTree" "cases" "LAskTree$Cases;") (by decide +kernel)) (fun _ h9 => h9) rfl dX7_isCase_6 ?_
    refine va_get (D := (dC, dI)) (ci := 0) (v := .int 0) (C := RX0) (T := TX0) (N := 5) hx hb hts hi0 hown hK hP 1 rfl rfl 4 (by decide) (hts (.fieldLink RX7 94 "AskTree$Cases" "size" "I") (by decide +kernel)) (fun _ h9 => h9) rfl dX7_isCase_9 ?_
    refine lv_icmp_ge (tgt := 19) hx hb dX7_isCase_12 (by decide) (fun c_2 => ?_) (fun c_2 => ?_)
    rotate_left
    · exact False.elim (lf_isCase_1 p1 c_1 c_2)
    refine lv_iconst (v := 0) hx hb dX7_isCase_19 (by decide) ?_
    have hP9 := hP.sub (ws' := [(h0, .inr (7, [.ref h0_cases, .ref a0_rows, .ref a0_grower, .ref a0_finder, .ref a0_pruner, .ref a0_rules, .ref a0_trees, .ref a0_told, .ref a0_turnedMarks, .ref a0_ballots, .int 0, .int (-1), .int (-1), .int 0])), (h0_cases, .inr (0, [.ref a0_cases_kinds, .ref a0_cases_classes, .ref a0_cases_marks, .ref a0_cases_order, .int 0]))]) [0, 1] rfl
    have hD9 := hD.sub (ws' := [(h0, .inr (7, [.ref h0_cases, .ref a0_rows, .ref a0_grower, .ref a0_finder, .ref a0_pruner, .ref a0_rules, .ref a0_trees, .ref a0_told, .ref a0_turnedMarks, .ref a0_ballots, .int 0, .int (-1), .int (-1), .int 0])), (h0_cases, .inr (0, [.ref a0_cases_kinds, .ref a0_cases_classes, .ref a0_cases_marks, .ref a0_cases_order, .int 0]))]) [0, 1] (by decide) rfl
    have hK9 := hK.sub (tys' := []) [] rfl
    exact W.zret (v := 0) hx hb hr rfl (fun t ht hW => ⟨⟨0, ([(h0, .inr (7, [.ref h0_cases, .ref a0_rows, .ref a0_grower, .ref a0_finder, .ref a0_pruner, .ref a0_rules, .ref a0_trees, .ref a0_told, .ref a0_turnedMarks, .ref a0_ballots, .int 0, .int (-1), .int (-1), .int 0])), (h0_cases, .inr (0, [.ref a0_cases_kinds, .ref a0_cases_classes, .ref a0_cases_marks, .ref a0_cases_order, .int 0]))], []), rfl, ⟨rfl, rfl⟩, (by rw [ht]; exact hP9), va_K.moved hW.alike hK9, hD9⟩, hS.F ht⟩) hS.2.2 dX7_isCase_20

theorem lf_treeAt_1 (p1 : Int32) (e0 : ¬ p1 < 0) (e1 : ¬ 0 ≤ p1) : False := by
  (try simp only [Int32.lt_iff_toInt_lt, Int32.le_iff_toInt_le, ← Int32.toInt_inj, ln_0, ln_1, ln_2, ln_3, ln_4, ln_6, ln_8, ln_10, ln_50, ln_100, ln_300, ln_1000, ln_m1000, ln_m32768, ln_m1, ln_m2, ln_m40000, ln_20] at *)
  all_goals omega
set_option maxHeartbeats 4000000 in
set_option maxRecDepth 100000 in
theorem c_treeAt (l : Launch) (dC : Nat → ClassId) (dI : Nat → Nat → Nat) (sz : Nat) (h0 : Nat) (p1 : Int32) (a0_cases : Nat) (a0_rows : Nat) (a0_grower : Nat) (a0_finder : Nat) (a0_pruner : Nat) (a0_rules : Nat) (a0_trees : Nat) (a0_told : Nat) (a0_turnedMarks : Nat) (a0_ballots : Nat)   : Met l yX7_treeAt wsX7_treeAt ({ frames := 1, cells := 0, slots := 0, locals := 60 }) (va_Pc [.ref h0, .int p1] (pw (dC, dI) [] [(h0, .inr (7, [.ref a0_cases, .ref a0_rows, .ref a0_grower, .ref a0_finder, .ref a0_pruner, .ref a0_rules, .ref a0_trees, .ref a0_told, .ref a0_turnedMarks, .ref a0_ballots, .int 0, .int (-1), .int (-1), .int 0]))] sz)) (va_Qq (fun (r : Option Nat) (u : vu) => (u = ([(h0, .inr (7, [.ref a0_cases, .ref a0_rows, .ref a0_grower, .ref a0_finder, .ref a0_pruner, .ref a0_rules, .ref a0_trees, .ref a0_told, .ref a0_turnedMarks, .ref a0_ballots, .int 0, .int (-1), .int (-1), .int 0]))], []) ∧ r = none)) (fun u t => qw (dC, dI) u.2 (va_A [(h0, .inr (7, [.ref a0_cases, .ref a0_rows, .ref a0_grower, .ref a0_finder, .ref a0_pruner, .ref a0_rules, .ref a0_trees, .ref a0_told, .ref a0_turnedMarks, .ref a0_ballots, .int 0, .int (-1), .int (-1), .int 0]))] sz) u.1 t) (va_A [(h0, .inr (7, [.ref a0_cases, .ref a0_rows, .ref a0_grower, .ref a0_finder, .ref a0_pruner, .ref a0_rules, .ref a0_trees, .ref a0_told, .ref a0_turnedMarks, .ref a0_ballots, .int 0, .int (-1), .int (-1), .int 0]))] sz)) 0 0 (va_A [(h0, .inr (7, [.ref a0_cases, .ref a0_rows, .ref a0_grower, .ref a0_finder, .ref a0_pruner, .ref a0_rules, .ref a0_trees, .ref a0_told, .ref a0_turnedMarks, .ref a0_ballots, .int 0, .int (-1), .int (-1), .int 0]))] sz) := by
  refine Met.ofW (cc := cX7_treeAt) (maxL := 2) (ret := (some (.object "AskTree$Tree"))) (by decide) rfl ?_
  intro p e s m args below meth c s₁ B hml hv
  obtain ⟨rfl, hsz, hP, hK, hD0, hN⟩ := hv
  have hx := B.exec
  have hb := B.bytes
  have hr := B.returns
  have hts := atoms_spec (ws := wsX7_treeAt) B.pre
  have hown : s.vm.findClass RX7 = some m.cls := findClass_of_methodNamed B.named
  have hlocks := B.notSynchronized
  have hi7 : ∀ w ∈ u_ws RX7 TX7 14, w ∈ wsX7_treeAt := fun _ h => List.mem_cons_of_mem _ (List.mem_append_right _ h)
  subst hsz
  have hD := hD0.self (sz := s.heap.size)
  generalize hAe : va_A [(h0, .inr (7, [.ref a0_cases, .ref a0_rows, .ref a0_grower, .ref a0_finder, .ref a0_pruner, .ref a0_rules, .ref a0_trees, .ref a0_told, .ref a0_turnedMarks, .ref a0_ballots, .int 0, .int (-1), .int (-1), .int 0]))] s.heap.size = A at hD ⊢
  have hA : ∀ q : Nat, s.heap.size ≤ q → A q := fun q h => by rw [← hAe]; exact Or.inr h
  have hS : va_S A s.heap s.heap [] := va_S.rf
  have hl := lv_entry ([.ref h0, .int p1]) (n := 2) (Nat.le_of_ble_eq_true rfl)
  rw [lg_entry_eq]
  generalize (lg_sl ([.ref h0, .int p1]) ++ List.replicate (2 - (lg_sl ([.ref h0, .int p1])).length) Slot.unset).toArray = ls at hl ⊢
  have hl : lv_has ls 2 [(0, .ref h0), (1, .int p1)] := hl
  have hP : va_P (dC, dI) vwCl [(h0, .inr (7, [.ref a0_cases, .ref a0_rows, .ref a0_grower, .ref a0_finder, .ref a0_pruner, .ref a0_rules, .ref a0_trees, .ref a0_told, .ref a0_turnedMarks, .ref a0_ballots, .int 0, .int (-1), .int (-1), .int 0]))] s.heap := hP
  refine lv_iload_n hx hb dX7_treeAt_0 rfl (lv_at hl 1 rfl) ?_
  refine lv_if_lt (tgt := 21) hx hb dX7_treeAt_1 (by decide) (fun c_1 => ?_) (fun c_1 => ?_)
  · skip
    refine lv_null hx hb dX7_treeAt_21 ?_
    have hP9 := hP.sub (ws' := [(h0, .inr (7, [.ref a0_cases, .ref a0_rows, .ref a0_grower, .ref a0_finder, .ref a0_pruner, .ref a0_rules, .ref a0_trees, .ref a0_told, .ref a0_turnedMarks, .ref a0_ballots, .int 0, .int (-1), .int (-1), .int 0]))]) [0] rfl
    have hD9 := hD.sub (ws' := [(h0, .inr (7, [.ref a0_cases, .ref a0_rows, .ref a0_grower, .ref a0_finder, .ref a0_pruner, .ref a0_rules, .ref a0_trees, .ref a0_told, .ref a0_turnedMarks, .ref a0_ballots, .int 0, .int (-1), .int (-1), .int 0]))]) [0] (by decide) rfl
    have hK9 := hK.sub (tys' := []) [] rfl
    exact W.aret hx hb hr (Or.inl ⟨_, rfl⟩) (Or.inl rfl) (fun t ht hW => ⟨⟨none, ([(h0, .inr (7, [.ref a0_cases, .ref a0_rows, .ref a0_grower, .ref a0_finder, .ref a0_pruner, .ref a0_rules, .ref a0_trees, .ref a0_told, .ref a0_turnedMarks, .ref a0_ballots, .int 0, .int (-1), .int (-1), .int 0]))], []), rfl, ⟨rfl, rfl⟩, (by rw [ht]; exact hP9), va_K.moved hW.alike hK9, hD9⟩, hS.F ht⟩) hS.2.2 dX7_treeAt_22
  · skip
    refine lv_iload_n hx hb dX7_treeAt_4 rfl (lv_at hl 1 rfl) ?_
    refine lv_aload_n hx hb dX7_treeAt_5 rfl (lv_at hl 0 rfl) ?_
    refine va_get (D := (dC, dI)) (ci := 7) (v := .int 0) (C := RX7) (T := TX7) (N := 14) hx hb hts hi7 hown hK hP 0 rfl rfl 10 (by decide) (hts (.fieldLink RX7 76 "AskTree" "treeCount" "I") (by decide +kernel)) (fun _ h9 => h9) rfl dX7_treeAt_6 ?_
    refine lv_icmp_ge (tgt := 21) hx hb dX7_treeAt_9 (by decide) (fun c_2 => ?_) (fun c_2 => ?_)
    rotate_left
    · exact False.elim (lf_treeAt_1 p1 c_1 c_2)
    refine lv_null hx hb dX7_treeAt_21 ?_
    have hP9 := hP.sub (ws' := [(h0, .inr (7, [.ref a0_cases, .ref a0_rows, .ref a0_grower, .ref a0_finder, .ref a0_pruner, .ref a0_rules, .ref a0_trees, .ref a0_told, .ref a0_turnedMarks, .ref a0_ballots, .int 0, .int (-1), .int (-1), .int 0]))]) [0] rfl
    have hD9 := hD.sub (ws' := [(h0, .inr (7, [.ref a0_cases, .ref a0_rows, .ref a0_grower, .ref a0_finder, .ref a0_pruner, .ref a0_rules, .ref a0_trees, .ref a0_told, .ref a0_turnedMarks, .ref a0_ballots, .int 0, .int (-1), .int (-1), .int 0]))]) [0] (by decide) rfl
    have hK9 := hK.sub (tys' := []) [] rfl
    exact W.aret hx hb hr (Or.inl ⟨_, rfl⟩) (Or.inl rfl) (fun t ht hW => ⟨⟨none, ([(h0, .inr (7, [.ref a0_cases, .ref a0_rows, .ref a0_grower, .ref a0_finder, .ref a0_pruner, .ref a0_rules, .ref a0_trees, .ref a0_told, .ref a0_turnedMarks, .ref a0_ballots, .int 0, .int (-1), .int (-1), .int 0]))], []), rfl, ⟨rfl, rfl⟩, (by rw [ht]; exact hP9), va_K.moved hW.alike hK9, hD9⟩, hS.F ht⟩) hS.2.2 dX7_treeAt_22

set_option maxHeartbeats 4000000 in
set_option maxRecDepth 100000 in
theorem c_clear (l : Launch) (dC : Nat → ClassId) (dI : Nat → Nat → Nat) (sz : Nat) (h0 : Nat) (k0 : ClassId) (f0 : Nat → Int32)   : Met l yX7_clear wsX7_clear ({ frames := 1, cells := 0, slots := 0, locals := 60 }) (va_Pc [.ref h0] (pw (dC, dI) [(k0, .int)] [(h0, .inl (k0, 4, .inl f0))] sz)) (va_Qv (fun (u : vu) => (∃ (f_17 : Nat → Int32), u = ([(h0, .inl (k0, 4, .inl f_17))], []) ∧ f_17 0 = 0 ∧ f_17 1 = 0 ∧ f_17 2 = 0 ∧ f_17 3 = 0)) (fun u t => qw (dC, dI) u.2 (va_A [(h0, .inl (k0, 4, .inl f0))] sz) u.1 t) (va_A [(h0, .inl (k0, 4, .inl f0))] sz)) 0 0 (va_A [(h0, .inl (k0, 4, .inl f0))] sz) := by
  refine Met.ofW (cc := cX7_clear) (maxL := 2) (ret := none) (by decide) rfl ?_
  intro p e s m args below meth c s₁ B hml hv
  obtain ⟨rfl, hsz, hP, hK, hD0, hN⟩ := hv
  have hx := B.exec
  have hb := B.bytes
  have hr := B.returns
  have hts := atoms_spec (ws := wsX7_clear) B.pre
  have hown : s.vm.findClass RX7 = some m.cls := findClass_of_methodNamed B.named
  have hlocks := B.notSynchronized
  subst hsz
  have hD := hD0.self (sz := s.heap.size)
  generalize hAe : va_A [(h0, .inl (k0, 4, .inl f0))] s.heap.size = A at hD ⊢
  have hA : ∀ q : Nat, s.heap.size ≤ q → A q := fun q h => by rw [← hAe]; exact Or.inr h
  have hS : va_S A s.heap s.heap [] := va_S.rf
  have hl := lv_entry ([.ref h0]) (n := 2) (Nat.le_of_ble_eq_true rfl)
  rw [lg_entry_eq]
  generalize (lg_sl ([.ref h0]) ++ List.replicate (2 - (lg_sl ([.ref h0])).length) Slot.unset).toArray = ls at hl ⊢
  have hl : lv_has ls 2 [(0, .ref h0)] := hl
  have hP : va_P (dC, dI) vwCl [(h0, .inl (k0, 4, .inl f0))] s.heap := hP
  refine lv_iconst (v := 0) hx hb dX7_clear_0 (by decide) ?_
  refine lv_istore_n (lv' := [(1, .int 0), (0, .ref h0)]) hx hb dX7_clear_1 rfl hl (by decide) rfl (fun ls hl => ?_)
  refine lv_iload_n hx hb dX7_clear_2 rfl (lv_at hl 0 rfl) ?_
  refine lv_iconst (v := 4) hx hb dX7_clear_3 (by decide) ?_
  refine lv_icmp_ge (tgt := 17) hx hb dX7_clear_4 (by decide) (fun c_1 => ?_) (fun c_1 => ?_)
  · exact absurd c_1 (by decide)
  refine lv_aload_n hx hb dX7_clear_7 rfl (lv_at hl 1 rfl) ?_
  refine lv_iload_n hx hb dX7_clear_8 rfl (lv_at hl 0 rfl) ?_
  refine lv_iconst (v := 0) hx hb dX7_clear_9 (by decide) ?_
  refine va_iast hx hb hK hP hD hS 0 0 rfl rfl (vi _ _ (by decide)) dX7_clear_10 (fun H locs hP hD hS => ?_)
  have hP : va_P (dC, dI) vwCl [(h0, .inl (k0, 4, .inl (upd f0 (Int32.toNatClampNeg 0) 0)))] H := hP
  have hD : va_D A [(h0, .inl (k0, 4, .inl (upd f0 (Int32.toNatClampNeg 0) 0)))] := hD
  generalize hf_3 : upd f0 (Int32.toNatClampNeg 0) 0 = f_2 at hP hD
  have hk_4 : f_2 0 = 0 := by rw [← hf_3]; exact up_s (by decide)
  clear hf_3
  refine lv_iinc (v := 1) (lv' := [(1, .int 1), (0, .ref h0)]) hx hb dX7_clear_11 hl (k := 0) rfl (by decide) (by decide) rfl (fun ls hl => ?_)
  refine lv_goto (tgt := 2) hx hb dX7_clear_14 (by decide) ?_
  refine lv_iload_n hx hb dX7_clear_2 rfl (lv_at hl 0 rfl) ?_
  refine lv_iconst (v := 4) hx hb dX7_clear_3 (by decide) ?_
  refine lv_icmp_ge (tgt := 17) hx hb dX7_clear_4 (by decide) (fun c_5 => ?_) (fun c_5 => ?_)
  · exact absurd c_5 (by decide)
  refine lv_aload_n hx hb dX7_clear_7 rfl (lv_at hl 1 rfl) ?_
  refine lv_iload_n hx hb dX7_clear_8 rfl (lv_at hl 0 rfl) ?_
  refine lv_iconst (v := 0) hx hb dX7_clear_9 (by decide) ?_
  refine va_iast hx hb hK hP hD hS 0 0 rfl rfl (vi _ _ (by decide)) dX7_clear_10 (fun H locs hP hD hS => ?_)
  have hP : va_P (dC, dI) vwCl [(h0, .inl (k0, 4, .inl (upd f_2 (Int32.toNatClampNeg 1) 0)))] H := hP
  have hD : va_D A [(h0, .inl (k0, 4, .inl (upd f_2 (Int32.toNatClampNeg 1) 0)))] := hD
  generalize hf_7 : upd f_2 (Int32.toNatClampNeg 1) 0 = f_6 at hP hD
  have hk_8 : f_6 1 = 0 := by rw [← hf_7]; exact up_s (by decide)
  have hk_9 : f_6 0 = 0 := by rw [← hf_7]; exact up_n (k := 1) (by decide) (by decide) hk_4
  clear hf_7
  refine lv_iinc (v := 2) (lv' := [(1, .int 2), (0, .ref h0)]) hx hb dX7_clear_11 hl (k := 0) rfl (by decide) (by decide) rfl (fun ls hl => ?_)
  refine lv_goto (tgt := 2) hx hb dX7_clear_14 (by decide) ?_
  refine lv_iload_n hx hb dX7_clear_2 rfl (lv_at hl 0 rfl) ?_
  refine lv_iconst (v := 4) hx hb dX7_clear_3 (by decide) ?_
  refine lv_icmp_ge (tgt := 17) hx hb dX7_clear_4 (by decide) (fun c_10 => ?_) (fun c_10 => ?_)
  · exact absurd c_10 (by decide)
  refine lv_aload_n hx hb dX7_clear_7 rfl (lv_at hl 1 rfl) ?_
  refine lv_iload_n hx hb dX7_clear_8 rfl (lv_at hl 0 rfl) ?_
  refine lv_iconst (v := 0) hx hb dX7_clear_9 (by decide) ?_
  refine va_iast hx hb hK hP hD hS 0 0 rfl rfl (vi _ _ (by decide)) dX7_clear_10 (fun H locs hP hD hS => ?_)
  have hP : va_P (dC, dI) vwCl [(h0, .inl (k0, 4, .inl (upd f_6 (Int32.toNatClampNeg 2) 0)))] H := hP
  have hD : va_D A [(h0, .inl (k0, 4, .inl (upd f_6 (Int32.toNatClampNeg 2) 0)))] := hD
  generalize hf_12 : upd f_6 (Int32.toNatClampNeg 2) 0 = f_11 at hP hD
  have hk_13 : f_11 2 = 0 := by rw [← hf_12]; exact up_s (by decide)
  have hk_14 : f_11 1 = 0 := by rw [← hf_12]; exact up_n (k := 2) (by decide) (by decide) hk_8
  have hk_15 : f_11 0 = 0 := by rw [← hf_12]; exact up_n (k := 2) (by decide) (by decide) hk_9
  clear hf_12
  refine lv_iinc (v := 3) (lv' := [(1, .int 3), (0, .ref h0)]) hx hb dX7_clear_11 hl (k := 0) rfl (by decide) (by decide) rfl (fun ls hl => ?_)
  refine lv_goto (tgt := 2) hx hb dX7_clear_14 (by decide) ?_
  refine lv_iload_n hx hb dX7_clear_2 rfl (lv_at hl 0 rfl) ?_
  refine lv_iconst (v := 4) hx hb dX7_clear_3 (by decide) ?_
  refine lv_icmp_ge (tgt := 17) hx hb dX7_clear_4 (by decide) (fun c_16 => ?_) (fun c_16 => ?_)
  · exact absurd c_16 (by decide)
  refine lv_aload_n hx hb dX7_clear_7 rfl (lv_at hl 1 rfl) ?_
  refine lv_iload_n hx hb dX7_clear_8 rfl (lv_at hl 0 rfl) ?_
  refine lv_iconst (v := 0) hx hb dX7_clear_9 (by decide) ?_
  refine va_iast hx hb hK hP hD hS 0 0 rfl rfl (vi _ _ (by decide)) dX7_clear_10 (fun H locs hP hD hS => ?_)
  have hP : va_P (dC, dI) vwCl [(h0, .inl (k0, 4, .inl (upd f_11 (Int32.toNatClampNeg 3) 0)))] H := hP
  have hD : va_D A [(h0, .inl (k0, 4, .inl (upd f_11 (Int32.toNatClampNeg 3) 0)))] := hD
  generalize hf_18 : upd f_11 (Int32.toNatClampNeg 3) 0 = f_17 at hP hD
  have hk_19 : f_17 3 = 0 := by rw [← hf_18]; exact up_s (by decide)
  have hk_20 : f_17 2 = 0 := by rw [← hf_18]; exact up_n (k := 3) (by decide) (by decide) hk_13
  have hk_21 : f_17 1 = 0 := by rw [← hf_18]; exact up_n (k := 3) (by decide) (by decide) hk_14
  have hk_22 : f_17 0 = 0 := by rw [← hf_18]; exact up_n (k := 3) (by decide) (by decide) hk_15
  clear hf_18
  refine lv_iinc (v := 4) (lv' := [(1, .int 4), (0, .ref h0)]) hx hb dX7_clear_11 hl (k := 0) rfl (by decide) (by decide) rfl (fun ls hl => ?_)
  refine lv_goto (tgt := 2) hx hb dX7_clear_14 (by decide) ?_
  refine lv_iload_n hx hb dX7_clear_2 rfl (lv_at hl 0 rfl) ?_
  refine lv_iconst (v := 4) hx hb dX7_clear_3 (by decide) ?_
  refine lv_icmp_ge (tgt := 17) hx hb dX7_clear_4 (by decide) (fun c_23 => ?_) (fun c_23 => ?_)
  rotate_left
  · exact absurd c_23 (by decide)
  have hP9 := hP.sub (ws' := [(h0, .inl (k0, 4, .inl f_17))]) [0] rfl
  have hD9 := hD.sub (ws' := [(h0, .inl (k0, 4, .inl f_17))]) [0] (by decide) rfl
  have hK9 := hK.sub (tys' := []) [] rfl
  exact W.vret hx hb hr (fun t ht hW => ⟨⟨([(h0, .inl (k0, 4, .inl f_17))], []), rfl, ⟨f_17, rfl, hk_22, hk_21, hk_20, hk_19⟩, (by rw [ht]; exact hP9), va_K.moved hW.alike hK9, hD9⟩, hS.F ht⟩) hS.2.2 dX7_clear_17

set_option maxHeartbeats 4000000 in
set_option maxRecDepth 100000 in
theorem c_firstGreatest (l : Launch) (dC : Nat → ClassId) (dI : Nat → Nat → Nat) (sz : Nat) (h0 : Nat) (k0 : ClassId) (f0 : Nat → Int32) (hy0_0 : f0 0 = 0) (hy0_1 : f0 1 = 0) (hy0_2 : f0 2 = 0) (hy0_3 : f0 3 = 0)  : Met l yX7_firstGreatest wsX7_firstGreatest ({ frames := 1, cells := 0, slots := 0, locals := 60 }) (va_Pc [.ref h0, .int 0] (pw (dC, dI) [(k0, .int)] [(h0, .inl (k0, 4, .inl f0))] sz)) (va_Qi (fun (r : Int32) (u : vu) => (u = ([(h0, .inl (k0, 4, .inl f0))], []) ∧ r = 0)) (fun u t => qw (dC, dI) u.2 (va_A [(h0, .inl (k0, 4, .inl f0))] sz) u.1 t) (va_A [(h0, .inl (k0, 4, .inl f0))] sz)) 0 0 (va_A [(h0, .inl (k0, 4, .inl f0))] sz) := by
  refine Met.ofW (cc := cX7_firstGreatest) (maxL := 4) (ret := (some .int)) (by decide) rfl ?_
  intro p e s m args below meth c s₁ B hml hv
  obtain ⟨rfl, hsz, hP, hK, hD0, hN⟩ := hv
  have hx := B.exec
  have hb := B.bytes
  have hr := B.returns
  have hts := atoms_spec (ws := wsX7_firstGreatest) B.pre
  have hown : s.vm.findClass RX7 = some m.cls := findClass_of_methodNamed B.named
  have hlocks := B.notSynchronized
  subst hsz
  have hD := hD0.self (sz := s.heap.size)
  generalize hAe : va_A [(h0, .inl (k0, 4, .inl f0))] s.heap.size = A at hD ⊢
  have hA : ∀ q : Nat, s.heap.size ≤ q → A q := fun q h => by rw [← hAe]; exact Or.inr h
  have hS : va_S A s.heap s.heap [] := va_S.rf
  have hl := lv_entry ([.ref h0, .int 0]) (n := 4) (Nat.le_of_ble_eq_true rfl)
  rw [lg_entry_eq]
  generalize (lg_sl ([.ref h0, .int 0]) ++ List.replicate (4 - (lg_sl ([.ref h0, .int 0])).length) Slot.unset).toArray = ls at hl ⊢
  have hl : lv_has ls 4 [(0, .ref h0), (1, .int 0)] := hl
  have hP : va_P (dC, dI) vwCl [(h0, .inl (k0, 4, .inl f0))] s.heap := hP
  refine lv_iconst (v := 0) hx hb dX7_firstGreatest_0 (by decide) ?_
  refine lv_istore_n (lv' := [(2, .int 0), (0, .ref h0), (1, .int 0)]) hx hb dX7_firstGreatest_1 rfl hl (by decide) rfl (fun ls hl => ?_)
  refine lv_iconst (v := 1) hx hb dX7_firstGreatest_2 (by decide) ?_
  refine lv_istore_n (lv' := [(3, .int 1), (2, .int 0), (0, .ref h0), (1, .int 0)]) hx hb dX7_firstGreatest_3 rfl hl (by decide) rfl (fun ls hl => ?_)
  refine lv_iload_n hx hb dX7_firstGreatest_4 rfl (lv_at hl 0 rfl) ?_
  refine lv_iconst (v := 4) hx hb dX7_firstGreatest_5 (by decide) ?_
  refine lv_icmp_ge (tgt := 30) hx hb dX7_firstGreatest_6 (by decide) (fun c_1 => ?_) (fun c_1 => ?_)
  · exact absurd c_1 (by decide)
  refine lv_aload_n hx hb dX7_firstGreatest_9 rfl (lv_at hl 2 rfl) ?_
  refine lv_iload_n hx hb dX7_firstGreatest_10 rfl (lv_at hl 3 rfl) ?_
  refine lv_iload_n hx hb dX7_firstGreatest_11 rfl (lv_at hl 0 rfl) ?_
  refine lv_iadd hx hb dX7_firstGreatest_12 ?_
  refine tvv (v := .int 1) (congrArg Value.int (by decide)) ?_
  refine va_iald hx hb hK hP 0 0 rfl rfl (vi _ _ (by decide)) dX7_firstGreatest_13 ?_
  refine tvv (v := .int 0) (ci f0 (k := 1) (by decide) hy0_1) ?_
  refine lv_aload_n hx hb dX7_firstGreatest_14 rfl (lv_at hl 2 rfl) ?_
  refine lv_iload_n hx hb dX7_firstGreatest_15 rfl (lv_at hl 3 rfl) ?_
  refine lv_iload_n hx hb dX7_firstGreatest_16 rfl (lv_at hl 1 rfl) ?_
  refine lv_iadd hx hb dX7_firstGreatest_17 ?_
  refine tvv (v := .int 0) (congrArg Value.int (by decide)) ?_
  refine va_iald hx hb hK hP 0 0 rfl rfl (vi _ _ (by decide)) dX7_firstGreatest_18 ?_
  refine tvv (v := .int 0) (ci f0 (k := 0) (by decide) hy0_0) ?_
  refine lv_icmp_le (tgt := 24) hx hb dX7_firstGreatest_19 (by decide) (fun c_2 => ?_) (fun c_2 => ?_)
  rotate_left
  · exact absurd c_2 (by decide)
  refine lv_iinc (v := 2) (lv' := [(3, .int 2), (2, .int 0), (0, .ref h0), (1, .int 0)]) hx hb dX7_firstGreatest_24 hl (k := 0) rfl (by decide) (by decide) rfl (fun ls hl => ?_)
  refine lv_goto (tgt := 4) hx hb dX7_firstGreatest_27 (by decide) ?_
  refine lv_iload_n hx hb dX7_firstGreatest_4 rfl (lv_at hl 0 rfl) ?_
  refine lv_iconst (v := 4) hx hb dX7_firstGreatest_5 (by decide) ?_
  refine lv_icmp_ge (tgt := 30) hx hb dX7_firstGreatest_6 (by decide) (fun c_3 => ?_) (fun c_3 => ?_)
  · exact absurd c_3 (by decide)
  refine lv_aload_n hx hb dX7_firstGreatest_9 rfl (lv_at hl 2 rfl) ?_
  refine lv_iload_n hx hb dX7_firstGreatest_10 rfl (lv_at hl 3 rfl) ?_
  refine lv_iload_n hx hb dX7_firstGreatest_11 rfl (lv_at hl 0 rfl) ?_
  refine lv_iadd hx hb dX7_firstGreatest_12 ?_
  refine tvv (v := .int 2) (congrArg Value.int (by decide)) ?_
  refine va_iald hx hb hK hP 0 0 rfl rfl (vi _ _ (by decide)) dX7_firstGreatest_13 ?_
  refine tvv (v := .int 0) (ci f0 (k := 2) (by decide) hy0_2) ?_
  refine lv_aload_n hx hb dX7_firstGreatest_14 rfl (lv_at hl 2 rfl) ?_
  refine lv_iload_n hx hb dX7_firstGreatest_15 rfl (lv_at hl 3 rfl) ?_
  refine lv_iload_n hx hb dX7_firstGreatest_16 rfl (lv_at hl 1 rfl) ?_
  refine lv_iadd hx hb dX7_firstGreatest_17 ?_
  refine tvv (v := .int 0) (congrArg Value.int (by decide)) ?_
  refine va_iald hx hb hK hP 0 0 rfl rfl (vi _ _ (by decide)) dX7_firstGreatest_18 ?_
  refine tvv (v := .int 0) (ci f0 (k := 0) (by decide) hy0_0) ?_
  refine lv_icmp_le (tgt := 24) hx hb dX7_firstGreatest_19 (by decide) (fun c_4 => ?_) (fun c_4 => ?_)
  rotate_left
  · exact absurd c_4 (by decide)
  refine lv_iinc (v := 3) (lv' := [(3, .int 3), (2, .int 0), (0, .ref h0), (1, .int 0)]) hx hb dX7_firstGreatest_24 hl (k := 0) rfl (by decide) (by decide) rfl (fun ls hl => ?_)
  refine lv_goto (tgt := 4) hx hb dX7_firstGreatest_27 (by decide) ?_
  refine lv_iload_n hx hb dX7_firstGreatest_4 rfl (lv_at hl 0 rfl) ?_
  refine lv_iconst (v := 4) hx hb dX7_firstGreatest_5 (by decide) ?_
  refine lv_icmp_ge (tgt := 30) hx hb dX7_firstGreatest_6 (by decide) (fun c_5 => ?_) (fun c_5 => ?_)
  · exact absurd c_5 (by decide)
  refine lv_aload_n hx hb dX7_firstGreatest_9 rfl (lv_at hl 2 rfl) ?_
  refine lv_iload_n hx hb dX7_firstGreatest_10 rfl (lv_at hl 3 rfl) ?_
  refine lv_iload_n hx hb dX7_firstGreatest_11 rfl (lv_at hl 0 rfl) ?_
  refine lv_iadd hx hb dX7_firstGreatest_12 ?_
  refine tvv (v := .int 3) (congrArg Value.int (by decide)) ?_
  refine va_iald hx hb hK hP 0 0 rfl rfl (vi _ _ (by decide)) dX7_firstGreatest_13 ?_
  refine tvv (v := .int 0) (ci f0 (k := 3) (by decide) hy0_3) ?_
  refine lv_aload_n hx hb dX7_firstGreatest_14 rfl (lv_at hl 2 rfl) ?_
  refine lv_iload_n hx hb dX7_firstGreatest_15 rfl (lv_at hl 3 rfl) ?_
  refine lv_iload_n hx hb dX7_firstGreatest_16 rfl (lv_at hl 1 rfl) ?_
  refine lv_iadd hx hb dX7_firstGreatest_17 ?_
  refine tvv (v := .int 0) (congrArg Value.int (by decide)) ?_
  refine va_iald hx hb hK hP 0 0 rfl rfl (vi _ _ (by decide)) dX7_firstGreatest_18 ?_
  refine tvv (v := .int 0) (ci f0 (k := 0) (by decide) hy0_0) ?_
  refine lv_icmp_le (tgt := 24) hx hb dX7_firstGreatest_19 (by decide) (fun c_6 => ?_) (fun c_6 => ?_)
  rotate_left
  · exact absurd c_6 (by decide)
  refine lv_iinc (v := 4) (lv' := [(3, .int 4), (2, .int 0), (0, .ref h0), (1, .int 0)]) hx hb dX7_firstGreatest_24 hl (k := 0) rfl (by decide) (by decide) rfl (fun ls hl => ?_)
  refine lv_goto (tgt := 4) hx hb dX7_firstGreatest_27 (by decide) ?_
  refine lv_iload_n hx hb dX7_firstGreatest_4 rfl (lv_at hl 0 rfl) ?_
  refine lv_iconst (v := 4) hx hb dX7_firstGreatest_5 (by decide) ?_
  refine lv_icmp_ge (tgt := 30) hx hb dX7_firstGreatest_6 (by decide) (fun c_7 => ?_) (fun c_7 => ?_)
  rotate_left
  · exact absurd c_7 (by decide)
  refine lv_iload_n hx hb dX7_firstGreatest_30 rfl (lv_at hl 1 rfl) ?_
  have hP9 := hP.sub (ws' := [(h0, .inl (k0, 4, .inl f0))]) [0] rfl
  have hD9 := hD.sub (ws' := [(h0, .inl (k0, 4, .inl f0))]) [0] (by decide) rfl
  have hK9 := hK.sub (tys' := []) [] rfl
  exact W.iret (v := 0) hx hb hr (fun t ht hW => ⟨⟨0, ([(h0, .inl (k0, 4, .inl f0))], []), rfl, ⟨rfl, rfl⟩, (by rw [ht]; exact hP9), va_K.moved hW.alike hK9, hD9⟩, hS.F ht⟩) hS.2.2 dX7_firstGreatest_31
