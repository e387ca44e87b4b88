set_option maxHeartbeats 4000000 in
set_option maxRecDepth 100000 in
theorem c_x_cut (l : Launch) (dC : Nat → ClassId) (dI : Nat → Nat → Nat) (sz : Nat) (h0 : Nat) (p1 : Int32) (p2 : Int32) (p3 : Int32) (a0_cases : Nat) (a0_rows : Nat) (a0_grower : Nat) (a0_finder : Nat) (a0_pruner : Nat) (a0_rules : Nat) (a0_trees : Nat) (a0_told : Nat) (a0_turnedMarks : Nat) (a0_ballots : Nat)   : Met l yX7_cut wsX7_cut ({ frames := 2, cells := 0, slots := 0, locals := 81 }) (va_Pc [.ref h0, .int p1, .int p2, .int p3] (pw (dC, dI) [] [(h0, .inr (7, [.ref a0_cases, .ref a0_rows, .ref a0_grower, .ref a0_finder, .ref a0_pruner, .ref a0_rules, .ref a0_trees, .ref a0_told, .ref a0_turnedMarks, .ref a0_ballots, .int 0, .int (-1), .int (-1), .int 0]))] sz)) (va_Qi (fun (r : Int32) (_ : Unit) => r = (-1)) (fun _ _ => True) (va_A [(h0, .inr (7, [.ref a0_cases, .ref a0_rows, .ref a0_grower, .ref a0_finder, .ref a0_pruner, .ref a0_rules, .ref a0_trees, .ref a0_told, .ref a0_turnedMarks, .ref a0_ballots, .int 0, .int (-1), .int (-1), .int 0]))] sz)) 0 0 (va_A [(h0, .inr (7, [.ref a0_cases, .ref a0_rows, .ref a0_grower, .ref a0_finder, .ref a0_pruner, .ref a0_rules, .ref a0_trees, .ref a0_told, .ref a0_turnedMarks, .ref a0_ballots, .int 0, .int (-1), .int (-1), .int 0]))] sz) := by
  refine Met.ofW (cc := cX7_cut) (maxL := 5) (ret := (some .int)) (by decide) rfl ?_
  intro p e s m args below meth c s₁ B hml hv
  obtain ⟨rfl, hsz, hP, hK, hD0, hN⟩ := hv
  have hx := B.exec
  have hb := B.bytes
  have hr := B.returns
  have hts := atoms_spec (ws := wsX7_cut) B.pre
  have hown : s.vm.findClass RX7 = some m.cls := findClass_of_methodNamed B.named
  have hlocks := B.notSynchronized
  have hi7 : ∀ w ∈ u_ws RX7 TX7 14, w ∈ wsX7_cut := fun _ h => List.mem_cons_of_mem _ (List.mem_append_left _ (List.mem_append_left _ (List.mem_append_right _ h)))
  have hi6 : ∀ w ∈ u_ws RX6 TX6 7, w ∈ wsX7_cut := fun _ h => List.mem_cons_of_mem _ (List.mem_append_left _ (List.mem_append_right _ h))
  have hi3 : ∀ w ∈ u_ws RX3 TX3 5, w ∈ wsX7_cut := fun _ h => List.mem_cons_of_mem _ (List.mem_append_right _ h)
  subst hsz
  have hD := hD0.self (sz := s.heap.size)
  generalize hAe : va_A [(h0, .inr (7, [.ref a0_cases, .ref a0_rows, .ref a0_grower, .ref a0_finder, .ref a0_pruner, .ref a0_rules, .ref a0_trees, .ref a0_told, .ref a0_turnedMarks, .ref a0_ballots, .int 0, .int (-1), .int (-1), .int 0]))] s.heap.size = A at hD ⊢
  have hA : ∀ q : Nat, s.heap.size ≤ q → A q := fun q h => by rw [← hAe]; exact Or.inr h
  have hS : va_S A s.heap s.heap [] := va_S.rf
  have hl := lv_entry ([.ref h0, .int p1, .int p2, .int p3]) (n := 5) (Nat.le_of_ble_eq_true rfl)
  rw [lg_entry_eq]
  generalize (lg_sl ([.ref h0, .int p1, .int p2, .int p3]) ++ List.replicate (5 - (lg_sl ([.ref h0, .int p1, .int p2, .int p3])).length) Slot.unset).toArray = ls at hl ⊢
  have hl : lv_has ls 5 [(0, .ref h0), (1, .int p1), (2, .int p2), (3, .int p3)] := hl
  have hP : va_P (dC, dI) vwCl [(h0, .inr (7, [.ref a0_cases, .ref a0_rows, .ref a0_grower, .ref a0_finder, .ref a0_pruner, .ref a0_rules, .ref a0_trees, .ref a0_told, .ref a0_turnedMarks, .ref a0_ballots, .int 0, .int (-1), .int (-1), .int 0]))] s.heap := hP
  refine lv_aload_n hx hb dX7_cut_0 rfl (lv_at hl 0 rfl) ?_
  refine lv_iload_n hx hb dX7_cut_1 rfl (lv_at hl 1 rfl) ?_
  have hPc := hP.sub (ws' := [(h0, .inr (7, [.ref a0_cases, .ref a0_rows, .ref a0_grower, .ref a0_finder, .ref a0_pruner, .ref a0_rules, .ref a0_trees, .ref a0_told, .ref a0_turnedMarks, .ref a0_ballots, .int 0, .int (-1), .int (-1), .int 0]))]) [0] rfl
  have hDc := hD.sub (ws' := [(h0, .inr (7, [.ref a0_cases, .ref a0_rows, .ref a0_grower, .ref a0_finder, .ref a0_pruner, .ref a0_rules, .ref a0_trees, .ref a0_told, .ref a0_turnedMarks, .ref a0_ballots, .int 0, .int (-1), .int (-1), .int 0]))]) [0] (by decide) rfl
  have hKc := hK.sub (tys' := []) [] rfl
  have hFc := va_free (wc := [(h0, .inr (7, [.ref a0_cases, .ref a0_rows, .ref a0_grower, .ref a0_finder, .ref a0_pruner, .ref a0_rules, .ref a0_trees, .ref a0_told, .ref a0_turnedMarks, .ref a0_ballots, .int 0, .int (-1), .int (-1), .int 0]))]) hD hS hA [0] rfl
  refine va_callq (va_runV (As := [.int p1]) (rest := []) ⟨hx, hb, hml, hown, hts⟩ (c_treeAt l dC dI s.heap.size h0 p1 a0_cases a0_rows a0_grower a0_finder a0_pruner a0_rules a0_trees a0_told a0_turnedMarks a0_ballots ) (cwV 1 hts gX7_cut_X7_treeAt rfl rfl rfl (by decide +kernel) ⟨Nat.le_of_ble_eq_true rfl, Nat.le_of_ble_eq_true rfl⟩) (pre_V hPc hKc hDc hN (ci := 7) (q0 := 0) rfl rfl) rfl rfl hl.1 rfl (lv_room (Nat.le_of_ble_eq_true rfl)) dX7_cut_2 ⟨Nat.le_of_ble_eq_true rfl, Nat.le_of_ble_eq_true rfl⟩) hS (fun q _ h => hFc q h) hFc (fun r_1 u t H1 locs ht hvm hw hB hz1 hk1 hS => ?_)
  clear hPc hDc hKc
  obtain ⟨rfl, rfl⟩ := hw
  obtain ⟨hP1, hK1, hD1⟩ := hB
  rw [ht] at hP1
  obtain ⟨hP, hD⟩ := va_join (wr := []) (w1 := [(h0, .inr (7, [.ref a0_cases, .ref a0_rows, .ref a0_grower, .ref a0_finder, .ref a0_pruner, .ref a0_rules, .ref a0_trees, .ref a0_told, .ref a0_turnedMarks, .ref a0_ballots, .int 0, .int (-1), .int (-1), .int 0]))]) hP hD [0] [] rfl rfl (by decide) (by decide) hk1 hFc hP1 hD1
  generalize H1 = H at hP hS ⊢
  clear hP1 hD1 hFc hk1 hz1 ht hvm hK1
  have hP : va_P (dC, dI) vwCl [(h0, .inr (7, [.ref a0_cases, .ref a0_rows, .ref a0_grower, .ref a0_finder, .ref a0_pruner, .ref a0_rules, .ref a0_trees, .ref a0_told, .ref a0_turnedMarks, .ref a0_ballots, .int 0, .int (-1), .int (-1), .int 0]))] H := hP
  have hD : va_D A [(h0, .inr (7, [.ref a0_cases, .ref a0_rows, .ref a0_grower, .ref a0_finder, .ref a0_pruner, .ref a0_rules, .ref a0_trees, .ref a0_told, .ref a0_turnedMarks, .ref a0_ballots, .int 0, .int (-1), .int (-1), .int 0]))] := hD
  refine tvv (v := .null) rfl ?_
  refine lv_astoreN (lv' := [(4, .null), (0, .ref h0), (1, .int p1), (2, .int p2), (3, .int p3)]) hx hb dX7_cut_5 hl (by decide) rfl (fun ls hl => ?_)
  refine lv_aloadN hx hb dX7_cut_7 (lv_at hl 0 rfl) ?_
  refine lv_ifnullN (tgt := 35) hx hb dX7_cut_9 (by decide) ?_
  refine lv_iconst (v := (-1)) hx hb dX7_cut_35 (by decide) ?_
  exact W.iret (v := (-1)) hx hb hr (fun t ht hW => ⟨⟨(-1), (), rfl, rfl, trivial⟩, hS.F ht⟩) hS.2.2 dX7_cut_36

set_option maxHeartbeats 4000000 in
set_option maxRecDepth 100000 in
theorem c_x_price (l : Launch) (dC : Nat → ClassId) (dI : Nat → Nat → Nat) (sz : Nat) (h0 : Nat) (p1 : Int32) (p2 : Int32) (a0_cases : Nat) (a0_rows : Nat) (a0_grower : Nat) (a0_finder : Nat) (a0_pruner : Nat) (a0_rules : Nat) (a0_trees : Nat) (a0_told : Nat) (a0_turnedMarks : Nat) (a0_ballots : Nat)   : Met l yX7_price wsX7_price ({ frames := 2, cells := 0, slots := 0, locals := 81 }) (va_Pc [.ref h0, .int p1, .int p2] (pw (dC, dI) [] [(h0, .inr (7, [.ref a0_cases, .ref a0_rows, .ref a0_grower, .ref a0_finder, .ref a0_pruner, .ref a0_rules, .ref a0_trees, .ref a0_told, .ref a0_turnedMarks, .ref a0_ballots, .int 0, .int (-1), .int (-1), .int 0]))] sz)) (va_Qi (fun (r : Int32) (_ : Unit) => r = (-1)) (fun _ _ => True) (va_A [(h0, .inr (7, [.ref a0_cases, .ref a0_rows, .ref a0_grower, .ref a0_finder, .ref a0_pruner, .ref a0_rules, .ref a0_trees, .ref a0_told, .ref a0_turnedMarks, .ref a0_ballots, .int 0, .int (-1), .int (-1), .int 0]))] sz)) 0 0 (va_A [(h0, .inr (7, [.ref a0_cases, .ref a0_rows, .ref a0_grower, .ref a0_finder, .ref a0_pruner, .ref a0_rules, .ref a0_trees, .ref a0_told, .ref a0_turnedMarks, .ref a0_ballots, .int 0, .int (-1), .int (-1), .int 0]))] sz) := by
  refine Met.ofW (cc := cX7_price) (maxL := 4) (ret := (some .int)) (by decide) rfl ?_
  intro p e s m args below meth c s₁ B hml hv
  obtain ⟨rfl, hsz, hP, hK, hD0, hN⟩ := hv
  have hx := B.exec
  have hb := B.bytes
  have hr := B.returns
  have hts := atoms_spec (ws := wsX7_price) B.pre
  have hown : s.vm.findClass RX7 = some m.cls := findClass_of_methodNamed B.named
  have hlocks := B.notSynchronized
  have hi6 : ∀ w ∈ u_ws RX6 TX6 7, w ∈ wsX7_price := fun _ h => List.mem_cons_of_mem _ (List.mem_append_left _ (List.mem_append_left _ (List.mem_append_right _ h)))
  have hi7 : ∀ w ∈ u_ws RX7 TX7 14, w ∈ wsX7_price := fun _ h => List.mem_cons_of_mem _ (List.mem_append_left _ (List.mem_append_right _ h))
  have hi3 : ∀ w ∈ u_ws RX3 TX3 5, w ∈ wsX7_price := fun _ h => List.mem_cons_of_mem _ (List.mem_append_right _ h)
  subst hsz
  have hD := hD0.self (sz := s.heap.size)
  generalize hAe : va_A [(h0, .inr (7, [.ref a0_cases, .ref a0_rows, .ref a0_grower, .ref a0_finder, .ref a0_pruner, .ref a0_rules, .ref a0_trees, .ref a0_told, .ref a0_turnedMarks, .ref a0_ballots, .int 0, .int (-1), .int (-1), .int 0]))] s.heap.size = A at hD ⊢
  have hA : ∀ q : Nat, s.heap.size ≤ q → A q := fun q h => by rw [← hAe]; exact Or.inr h
  have hS : va_S A s.heap s.heap [] := va_S.rf
  have hl := lv_entry ([.ref h0, .int p1, .int p2]) (n := 4) (Nat.le_of_ble_eq_true rfl)
  rw [lg_entry_eq]
  generalize (lg_sl ([.ref h0, .int p1, .int p2]) ++ List.replicate (4 - (lg_sl ([.ref h0, .int p1, .int p2])).length) Slot.unset).toArray = ls at hl ⊢
  have hl : lv_has ls 4 [(0, .ref h0), (1, .int p1), (2, .int p2)] := hl
  have hP : va_P (dC, dI) vwCl [(h0, .inr (7, [.ref a0_cases, .ref a0_rows, .ref a0_grower, .ref a0_finder, .ref a0_pruner, .ref a0_rules, .ref a0_trees, .ref a0_told, .ref a0_turnedMarks, .ref a0_ballots, .int 0, .int (-1), .int (-1), .int 0]))] s.heap := hP
  refine lv_aload_n hx hb dX7_price_0 rfl (lv_at hl 0 rfl) ?_
  refine lv_iload_n hx hb dX7_price_1 rfl (lv_at hl 1 rfl) ?_
  have hPc := hP.sub (ws' := [(h0, .inr (7, [.ref a0_cases, .ref a0_rows, .ref a0_grower, .ref a0_finder, .ref a0_pruner, .ref a0_rules, .ref a0_trees, .ref a0_told, .ref a0_turnedMarks, .ref a0_ballots, .int 0, .int (-1), .int (-1), .int 0]))]) [0] rfl
  have hDc := hD.sub (ws' := [(h0, .inr (7, [.ref a0_cases, .ref a0_rows, .ref a0_grower, .ref a0_finder, .ref a0_pruner, .ref a0_rules, .ref a0_trees, .ref a0_told, .ref a0_turnedMarks, .ref a0_ballots, .int 0, .int (-1), .int (-1), .int 0]))]) [0] (by decide) rfl
  have hKc := hK.sub (tys' := []) [] rfl
  have hFc := va_free (wc := [(h0, .inr (7, [.ref a0_cases, .ref a0_rows, .ref a0_grower, .ref a0_finder, .ref a0_pruner, .ref a0_rules, .ref a0_trees, .ref a0_told, .ref a0_turnedMarks, .ref a0_ballots, .int 0, .int (-1), .int (-1), .int 0]))]) hD hS hA [0] rfl
  refine va_callq (va_runV (As := [.int p1]) (rest := []) ⟨hx, hb, hml, hown, hts⟩ (c_treeAt l dC dI s.heap.size h0 p1 a0_cases a0_rows a0_grower a0_finder a0_pruner a0_rules a0_trees a0_told a0_turnedMarks a0_ballots ) (cwV 1 hts gX7_price_X7_treeAt rfl rfl rfl (by decide +kernel) ⟨Nat.le_of_ble_eq_true rfl, Nat.le_of_ble_eq_true rfl⟩) (pre_V hPc hKc hDc hN (ci := 7) (q0 := 0) rfl rfl) rfl rfl hl.1 rfl (lv_room (Nat.le_of_ble_eq_true rfl)) dX7_price_2 ⟨Nat.le_of_ble_eq_true rfl, Nat.le_of_ble_eq_true rfl⟩) hS (fun q _ h => hFc q h) hFc (fun r_1 u t H1 locs ht hvm hw hB hz1 hk1 hS => ?_)
  clear hPc hDc hKc
  obtain ⟨rfl, rfl⟩ := hw
  obtain ⟨hP1, hK1, hD1⟩ := hB
  rw [ht] at hP1
  obtain ⟨hP, hD⟩ := va_join (wr := []) (w1 := [(h0, .inr (7, [.ref a0_cases, .ref a0_rows, .ref a0_grower, .ref a0_finder, .ref a0_pruner, .ref a0_rules, .ref a0_trees, .ref a0_told, .ref a0_turnedMarks, .ref a0_ballots, .int 0, .int (-1), .int (-1), .int 0]))]) hP hD [0] [] rfl rfl (by decide) (by decide) hk1 hFc hP1 hD1
  generalize H1 = H at hP hS ⊢
  clear hP1 hD1 hFc hk1 hz1 ht hvm hK1
  have hP : va_P (dC, dI) vwCl [(h0, .inr (7, [.ref a0_cases, .ref a0_rows, .ref a0_grower, .ref a0_finder, .ref a0_pruner, .ref a0_rules, .ref a0_trees, .ref a0_told, .ref a0_turnedMarks, .ref a0_ballots, .int 0, .int (-1), .int (-1), .int 0]))] H := hP
  have hD : va_D A [(h0, .inr (7, [.ref a0_cases, .ref a0_rows, .ref a0_grower, .ref a0_finder, .ref a0_pruner, .ref a0_rules, .ref a0_trees, .ref a0_told, .ref a0_turnedMarks, .ref a0_ballots, .int 0, .int (-1), .int (-1), .int 0]))] := hD
  refine tvv (v := .null) rfl ?_
  refine lv_astore_nN (lv' := [(3, .null), (0, .ref h0), (1, .int p1), (2, .int p2)]) hx hb dX7_price_5 rfl hl (by decide) rfl (fun ls hl => ?_)
  refine lv_aload_nN hx hb dX7_price_6 rfl (lv_at hl 0 rfl) ?_
  refine lv_ifnullN (tgt := 27) hx hb dX7_price_7 (by decide) ?_
  refine lv_iconst (v := (-1)) hx hb dX7_price_27 (by decide) ?_
  exact W.iret (v := (-1)) hx hb hr (fun t ht hW => ⟨⟨(-1), (), rfl, rfl, trivial⟩, hS.F ht⟩) hS.2.2 dX7_price_28

set_option maxHeartbeats 4000000 in
set_option maxRecDepth 100000 in
theorem c_x_remove (l : Launch) (dC : Nat → ClassId) (dI : Nat → Nat → Nat) (sz : Nat) (h0 : Nat) (a0_cases : Nat) (a0_rows : Nat) (a0_grower : Nat) (a0_finder : Nat) (a0_pruner : Nat) (a0_rules : Nat) (a0_trees : Nat) (a0_told : Nat) (a0_turnedMarks : Nat) (a0_ballots : Nat)   : Met l yX7_remove wsX7_remove ({ frames := 1, cells := 0, slots := 0, locals := 60 }) (va_Pc [.ref h0] (pw (dC, dI) [] [(h0, .inr (7, [.ref a0_cases, .ref a0_rows, .ref a0_grower, .ref a0_finder, .ref a0_pruner, .ref a0_rules, .ref a0_trees, .ref a0_told, .ref a0_turnedMarks, .ref a0_ballots, .int 0, .int (-1), .int (-1), .int 0]))] sz)) (va_Qi (fun (r : Int32) (_ : Unit) => r = (-1)) (fun _ _ => True) (va_A [(h0, .inr (7, [.ref a0_cases, .ref a0_rows, .ref a0_grower, .ref a0_finder, .ref a0_pruner, .ref a0_rules, .ref a0_trees, .ref a0_told, .ref a0_turnedMarks, .ref a0_ballots, .int 0, .int (-1), .int (-1), .int 0]))] sz)) 0 0 (va_A [(h0, .inr (7, [.ref a0_cases, .ref a0_rows, .ref a0_grower, .ref a0_finder, .ref a0_pruner, .ref a0_rules, .ref a0_trees, .ref a0_told, .ref a0_turnedMarks, .ref a0_ballots, .int 0, .int (-1), .int (-1), .int 0]))] sz) := by
  refine Met.ofW (cc := cX7_remove) (maxL := 1) (ret := (some .int)) (by decide) rfl ?_
  intro p e s m args below meth c s₁ B hml hv
  obtain ⟨rfl, hsz, hP, hK, hD0, hN⟩ := hv
  have hx := B.exec
  have hb := B.bytes
  have hr := B.returns
  have hts := atoms_spec (ws := wsX7_remove) B.pre
  have hown : s.vm.findClass RX7 = some m.cls := findClass_of_methodNamed B.named
  have hlocks := B.notSynchronized
  have hi7 : ∀ w ∈ u_ws RX7 TX7 14, w ∈ wsX7_remove := fun _ h => List.mem_cons_of_mem _ (List.mem_append_right _ h)
  subst hsz
  have hD := hD0.self (sz := s.heap.size)
  generalize hAe : va_A [(h0, .inr (7, [.ref a0_cases, .ref a0_rows, .ref a0_grower, .ref a0_finder, .ref a0_pruner, .ref a0_rules, .ref a0_trees, .ref a0_told, .ref a0_turnedMarks, .ref a0_ballots, .int 0, .int (-1), .int (-1), .int 0]))] s.heap.size = A at hD ⊢
  have hA : ∀ q : Nat, s.heap.size ≤ q → A q := fun q h => by rw [← hAe]; exact Or.inr h
  have hS : va_S A s.heap s.heap [] := va_S.rf
  have hl := lv_entry ([.ref h0]) (n := 1) (Nat.le_of_ble_eq_true rfl)
  rw [lg_entry_eq]
  generalize (lg_sl ([.ref h0]) ++ List.replicate (1 - (lg_sl ([.ref h0])).length) Slot.unset).toArray = ls at hl ⊢
  have hl : lv_has ls 1 [(0, .ref h0)] := hl
  have hP : va_P (dC, dI) vwCl [(h0, .inr (7, [.ref a0_cases, .ref a0_rows, .ref a0_grower, .ref a0_finder, .ref a0_pruner, .ref a0_rules, .ref a0_trees, .ref a0_told, .ref a0_turnedMarks, .ref a0_ballots, .int 0, .int (-1), .int (-1), .int 0]))] s.heap := hP
  refine lv_aload_n hx hb dX7_remove_0 rfl (lv_at hl 0 rfl) ?_
  refine va_get (D := (dC, dI)) (ci := 7) (v := .int 0) (C := RX7) (T := TX7) (N := 14) hx hb hts hi7 hown hK hP 0 rfl rfl 10 (by decide) (hts (.fieldLink RX7 76 "AskTree" "treeCount" "I") (by decide +kernel)) (fun _ h9 => h9) rfl dX7_remove_1 ?_
  refine lv_if_ne (tgt := 9) hx hb dX7_remove_4 (by decide) (fun c_1 => ?_) (fun c_1 => ?_)
  · exact absurd c_1 (by decide)
  refine lv_iconst (v := (-1)) hx hb dX7_remove_7 (by decide) ?_
  exact W.iret (v := (-1)) hx hb hr (fun t ht hW => ⟨⟨(-1), (), rfl, rfl, trivial⟩, hS.F ht⟩) hS.2.2 dX7_remove_8

set_option maxHeartbeats 4000000 in
set_option maxRecDepth 100000 in
theorem c_x_tree (l : Launch) (dC : Nat → ClassId) (dI : Nat → Nat → Nat) (sz : Nat) (h0 : Nat) (p1 : Int32) (p2 : Int32) (a0_cases : Nat) (a0_rows : Nat) (a0_grower : Nat) (a0_finder : Nat) (a0_pruner : Nat) (a0_rules : Nat) (a0_trees : Nat) (a0_told : Nat) (a0_turnedMarks : Nat) (a0_ballots : Nat)   : Met l yX7_tree wsX7_tree ({ frames := 2, cells := 0, slots := 0, locals := 81 }) (va_Pc [.ref h0, .int p1, .int p2] (pw (dC, dI) [] [(h0, .inr (7, [.ref a0_cases, .ref a0_rows, .ref a0_grower, .ref a0_finder, .ref a0_pruner, .ref a0_rules, .ref a0_trees, .ref a0_told, .ref a0_turnedMarks, .ref a0_ballots, .int 0, .int (-1), .int (-1), .int 0]))] sz)) (va_Qi (fun (r : Int32) (_ : Unit) => r = (-1)) (fun _ _ => True) (va_A [(h0, .inr (7, [.ref a0_cases, .ref a0_rows, .ref a0_grower, .ref a0_finder, .ref a0_pruner, .ref a0_rules, .ref a0_trees, .ref a0_told, .ref a0_turnedMarks, .ref a0_ballots, .int 0, .int (-1), .int (-1), .int 0]))] sz)) 0 0 (va_A [(h0, .inr (7, [.ref a0_cases, .ref a0_rows, .ref a0_grower, .ref a0_finder, .ref a0_pruner, .ref a0_rules, .ref a0_trees, .ref a0_told, .ref a0_turnedMarks, .ref a0_ballots, .int 0, .int (-1), .int (-1), .int 0]))] sz) := by
  refine Met.ofW (cc := cX7_tree) (maxL := 4) (ret := (some .int)) (by decide) rfl ?_
  intro p e s m args below meth c s₁ B hml hv
  obtain ⟨rfl, hsz, hP, hK, hD0, hN⟩ := hv
  have hx := B.exec
  have hb := B.bytes
  have hr := B.returns
  have hts := atoms_spec (ws := wsX7_tree) B.pre
  have hown : s.vm.findClass RX7 = some m.cls := findClass_of_methodNamed B.named
  have hlocks := B.notSynchronized
  have hi6 : ∀ w ∈ u_ws RX6 TX6 7, w ∈ wsX7_tree := fun _ h => List.mem_cons_of_mem _ (List.mem_append_left _ (List.mem_append_left _ (List.mem_append_right _ h)))
  have hi7 : ∀ w ∈ u_ws RX7 TX7 14, w ∈ wsX7_tree := fun _ h => List.mem_cons_of_mem _ (List.mem_append_left _ (List.mem_append_right _ h))
  have hi0 : ∀ w ∈ u_ws RX0 TX0 5, w ∈ wsX7_tree := fun _ h => List.mem_cons_of_mem _ (List.mem_append_right _ h)
  subst hsz
  have hD := hD0.self (sz := s.heap.size)
  generalize hAe : va_A [(h0, .inr (7, [.ref a0_cases, .ref a0_rows, .ref a0_grower, .ref a0_finder, .ref a0_pruner, .ref a0_rules, .ref a0_trees, .ref a0_told, .ref a0_turnedMarks, .ref a0_ballots, .int 0, .int (-1), .int (-1), .int 0]))] s.heap.size = A at hD ⊢
  have hA : ∀ q : Nat, s.heap.size ≤ q → A q := fun q h => by rw [← hAe]; exact Or.inr h
  have hS : va_S A s.heap s.heap [] := va_S.rf
  have hl := lv_entry ([.ref h0, .int p1, .int p2]) (n := 4) (Nat.le_of_ble_eq_true rfl)
  rw [lg_entry_eq]
  generalize (lg_sl ([.ref h0, .int p1, .int p2]) ++ List.replicate (4 - (lg_sl ([.ref h0, .int p1, .int p2])).length) Slot.unset).toArray = ls at hl ⊢
  have hl : lv_has ls 4 [(0, .ref h0), (1, .int p1), (2, .int p2)] := hl
  have hP : va_P (dC, dI) vwCl [(h0, .inr (7, [.ref a0_cases, .ref a0_rows, .ref a0_grower, .ref a0_finder, .ref a0_pruner, .ref a0_rules, .ref a0_trees, .ref a0_told, .ref a0_turnedMarks, .ref a0_ballots, .int 0, .int (-1), .int (-1), .int 0]))] s.heap := hP
  refine lv_aload_n hx hb dX7_tree_0 rfl (lv_at hl 0 rfl) ?_
  refine lv_iload_n hx hb dX7_tree_1 rfl (lv_at hl 1 rfl) ?_
  have hPc := hP.sub (ws' := [(h0, .inr (7, [.ref a0_cases, .ref a0_rows, .ref a0_grower, .ref a0_finder, .ref a0_pruner, .ref a0_rules, .ref a0_trees, .ref a0_told, .ref a0_turnedMarks, .ref a0_ballots, .int 0, .int (-1), .int (-1), .int 0]))]) [0] rfl
  have hDc := hD.sub (ws' := [(h0, .inr (7, [.ref a0_cases, .ref a0_rows, .ref a0_grower, .ref a0_finder, .ref a0_pruner, .ref a0_rules, .ref a0_trees, .ref a0_told, .ref a0_turnedMarks, .ref a0_ballots, .int 0, .int (-1), .int (-1), .int 0]))]) [0] (by decide) rfl
  have hKc := hK.sub (tys' := []) [] rfl
  have hFc := va_free (wc := [(h0, .inr (7, [.ref a0_cases, .ref a0_rows, .ref a0_grower, .ref a0_finder, .ref a0_pruner, .ref a0_rules, .ref a0_trees, .ref a0_told, .ref a0_turnedMarks, .ref a0_ballots, .int 0, .int (-1), .int (-1), .int 0]))]) hD hS hA [0] rfl
  refine va_callq (va_runV (As := [.int p1]) (rest := []) ⟨hx, hb, hml, hown, hts⟩ (c_treeAt l dC dI s.heap.size h0 p1 a0_cases a0_rows a0_grower a0_finder a0_pruner a0_rules a0_trees a0_told a0_turnedMarks a0_ballots ) (cwV 1 hts gX7_tree_X7_treeAt rfl rfl rfl (by decide +kernel) ⟨Nat.le_of_ble_eq_true rfl, Nat.le_of_ble_eq_true rfl⟩) (pre_V hPc hKc hDc hN (ci := 7) (q0 := 0) rfl rfl) rfl rfl hl.1 rfl (lv_room (Nat.le_of_ble_eq_true rfl)) dX7_tree_2 ⟨Nat.le_of_ble_eq_true rfl, Nat.le_of_ble_eq_true rfl⟩) hS (fun q _ h => hFc q h) hFc (fun r_1 u t H1 locs ht hvm hw hB hz1 hk1 hS => ?_)
  clear hPc hDc hKc
  obtain ⟨rfl, rfl⟩ := hw
  obtain ⟨hP1, hK1, hD1⟩ := hB
  rw [ht] at hP1
  obtain ⟨hP, hD⟩ := va_join (wr := []) (w1 := [(h0, .inr (7, [.ref a0_cases, .ref a0_rows, .ref a0_grower, .ref a0_finder, .ref a0_pruner, .ref a0_rules, .ref a0_trees, .ref a0_told, .ref a0_turnedMarks, .ref a0_ballots, .int 0, .int (-1), .int (-1), .int 0]))]) hP hD [0] [] rfl rfl (by decide) (by decide) hk1 hFc hP1 hD1
  generalize H1 = H at hP hS ⊢
  clear hP1 hD1 hFc hk1 hz1 ht hvm hK1
  have hP : va_P (dC, dI) vwCl [(h0, .inr (7, [.ref a0_cases, .ref a0_rows, .ref a0_grower, .ref a0_finder, .ref a0_pruner, .ref a0_rules, .ref a0_trees, .ref a0_told, .ref a0_turnedMarks, .ref a0_ballots, .int 0, .int (-1), .int (-1), .int 0]))] H := hP
  have hD : va_D A [(h0, .inr (7, [.ref a0_cases, .ref a0_rows, .ref a0_grower, .ref a0_finder, .ref a0_pruner, .ref a0_rules, .ref a0_trees, .ref a0_told, .ref a0_turnedMarks, .ref a0_ballots, .int 0, .int (-1), .int (-1), .int 0]))] := hD
  refine tvv (v := .null) rfl ?_
  refine lv_astore_nN (lv' := [(3, .null), (0, .ref h0), (1, .int p1), (2, .int p2)]) hx hb dX7_tree_5 rfl hl (by decide) rfl (fun ls hl => ?_)
  refine lv_aload_nN hx hb dX7_tree_6 rfl (lv_at hl 0 rfl) ?_
  refine lv_ifnonnullN hx hb dX7_tree_7 ?_
  refine lv_iconst (v := (-1)) hx hb dX7_tree_10 (by decide) ?_
  exact W.iret (v := (-1)) hx hb hr (fun t ht hW => ⟨⟨(-1), (), rfl, rfl, trivial⟩, hS.F ht⟩) hS.2.2 dX7_tree_11

set_option maxHeartbeats 4000000 in
set_option maxRecDepth 100000 in
theorem c_x_node (l : Launch) (dC : Nat → ClassId) (dI : Nat → Nat → Nat) (sz : Nat) (h0 : Nat) (p1 : Int32) (p2 : Int32) (p3 : Int32) (a0_cases : Nat) (a0_rows : Nat) (a0_grower : Nat) (a0_finder : Nat) (a0_pruner : Nat) (a0_rules : Nat) (a0_trees : Nat) (a0_told : Nat) (a0_turnedMarks : Nat) (a0_ballots : Nat)   : Met l yX7_node wsX7_node ({ frames := 2, cells := 0, slots := 0, locals := 81 }) (va_Pc [.ref h0, .int p1, .int p2, .int p3] (pw (dC, dI) [] [(h0, .inr (7, [.ref a0_cases, .ref a0_rows, .ref a0_grower, .ref a0_finder, .ref a0_pruner, .ref a0_rules, .ref a0_trees, .ref a0_told, .ref a0_turnedMarks, .ref a0_ballots, .int 0, .int (-1), .int (-1), .int 0]))] sz)) (va_Qi (fun (r : Int32) (_ : Unit) => r = (-1)) (fun _ _ => True) (va_A [(h0, .inr (7, [.ref a0_cases, .ref a0_rows, .ref a0_grower, .ref a0_finder, .ref a0_pruner, .ref a0_rules, .ref a0_trees, .ref a0_told, .ref a0_turnedMarks, .ref a0_ballots, .int 0, .int (-1), .int (-1), .int 0]))] sz)) 0 0 (va_A [(h0, .inr (7, [.ref a0_cases, .ref a0_rows, .ref a0_grower, .ref a0_finder, .ref a0_pruner, .ref a0_rules, .ref a0_trees, .ref a0_told, .ref a0_turnedMarks, .ref a0_ballots, .int 0, .int (-1), .int (-1), .int 0]))] sz) := by
  refine Met.ofW (cc := cX7_node) (maxL := 6) (ret := (some .int)) (by decide) rfl ?_
  intro p e s m args below meth c s₁ B hml hv
  obtain ⟨rfl, hsz, hP, hK, hD0, hN⟩ := hv
  have hx := B.exec
  have hb := B.bytes
  have hr := B.returns
  have hts := atoms_spec (ws := wsX7_node) B.pre
  have hown : s.vm.findClass RX7 = some m.cls := findClass_of_methodNamed B.named
  have hlocks := B.notSynchronized
  have hi6 : ∀ w ∈ u_ws RX6 TX6 7, w ∈ wsX7_node := fun _ h => List.mem_cons_of_mem _ (List.mem_append_left _ (List.mem_append_right _ h))
  have hi7 : ∀ w ∈ u_ws RX7 TX7 14, w ∈ wsX7_node := fun _ h => List.mem_cons_of_mem _ (List.mem_append_right _ h)
  subst hsz
  have hD := hD0.self (sz := s.heap.size)
  generalize hAe : va_A [(h0, .inr (7, [.ref a0_cases, .ref a0_rows, .ref a0_grower, .ref a0_finder, .ref a0_pruner, .ref a0_rules, .ref a0_trees, .ref a0_told, .ref a0_turnedMarks, .ref a0_ballots, .int 0, .int (-1), .int (-1), .int 0]))] s.heap.size = A at hD ⊢
  have hA : ∀ q : Nat, s.heap.size ≤ q → A q := fun q h => by rw [← hAe]; exact Or.inr h
  have hS : va_S A s.heap s.heap [] := va_S.rf
  have hl := lv_entry ([.ref h0, .int p1, .int p2, .int p3]) (n := 6) (Nat.le_of_ble_eq_true rfl)
  rw [lg_entry_eq]
  generalize (lg_sl ([.ref h0, .int p1, .int p2, .int p3]) ++ List.replicate (6 - (lg_sl ([.ref h0, .int p1, .int p2, .int p3])).length) Slot.unset).toArray = ls at hl ⊢
  have hl : lv_has ls 6 [(0, .ref h0), (1, .int p1), (2, .int p2), (3, .int p3)] := hl
  have hP : va_P (dC, dI) vwCl [(h0, .inr (7, [.ref a0_cases, .ref a0_rows, .ref a0_grower, .ref a0_finder, .ref a0_pruner, .ref a0_rules, .ref a0_trees, .ref a0_told, .ref a0_turnedMarks, .ref a0_ballots, .int 0, .int (-1), .int (-1), .int 0]))] s.heap := hP
  refine lv_aload_n hx hb dX7_node_0 rfl (lv_at hl 0 rfl) ?_
  refine lv_iload_n hx hb dX7_node_1 rfl (lv_at hl 1 rfl) ?_
  have hPc := hP.sub (ws' := [(h0, .inr (7, [.ref a0_cases, .ref a0_rows, .ref a0_grower, .ref a0_finder, .ref a0_pruner, .ref a0_rules, .ref a0_trees, .ref a0_told, .ref a0_turnedMarks, .ref a0_ballots, .int 0, .int (-1), .int (-1), .int 0]))]) [0] rfl
  have hDc := hD.sub (ws' := [(h0, .inr (7, [.ref a0_cases, .ref a0_rows, .ref a0_grower, .ref a0_finder, .ref a0_pruner, .ref a0_rules, .ref a0_trees, .ref a0_told, .ref a0_turnedMarks, .ref a0_ballots, .int 0, .int (-1), .int (-1), .int 0]))]) [0] (by decide) rfl
  have hKc := hK.sub (tys' := []) [] rfl
  have hFc := va_free (wc := [(h0, .inr (7, [.ref a0_cases, .ref a0_rows, .ref a0_grower, .ref a0_finder, .ref a0_pruner, .ref a0_rules, .ref a0_trees, .ref a0_told, .ref a0_turnedMarks, .ref a0_ballots, .int 0, .int (-1), .int (-1), .int 0]))]) hD hS hA [0] rfl
  refine va_callq (va_runV (As := [.int p1]) (rest := []) ⟨hx, hb, hml, hown, hts⟩ (c_treeAt l dC dI s.heap.size h0 p1 a0_cases a0_rows a0_grower a0_finder a0_pruner a0_rules a0_trees a0_told a0_turnedMarks a0_ballots ) (cwV 1 hts gX7_node_X7_treeAt rfl rfl rfl (by decide +kernel) ⟨Nat.le_of_ble_eq_true rfl, Nat.le_of_ble_eq_true rfl⟩) (pre_V hPc hKc hDc hN (ci := 7) (q0 := 0) rfl rfl) rfl rfl hl.1 rfl (lv_room (Nat.le_of_ble_eq_true rfl)) dX7_node_2 ⟨Nat.le_of_ble_eq_true rfl, Nat.le_of_ble_eq_true rfl⟩) hS (fun q _ h => hFc q h) hFc (fun r_1 u t H1 locs ht hvm hw hB hz1 hk1 hS => ?_)
  clear hPc hDc hKc
  obtain ⟨rfl, rfl⟩ := hw
  obtain ⟨hP1, hK1, hD1⟩ := hB
  rw [ht] at hP1
  obtain ⟨hP, hD⟩ := va_join (wr := []) (w1 := [(h0, .inr (7, [.ref a0_cases, .ref a0_rows, .ref a0_grower, .ref a0_finder, .ref a0_pruner, .ref a0_rules, .ref a0_trees, .ref a0_told, .ref a0_turnedMarks, .ref a0_ballots, .int 0, .int (-1), .int (-1), .int 0]))]) hP hD [0] [] rfl rfl (by decide) (by decide) hk1 hFc hP1 hD1
  generalize H1 = H at hP hS ⊢
  clear hP1 hD1 hFc hk1 hz1 ht hvm hK1
  have hP : va_P (dC, dI) vwCl [(h0, .inr (7, [.ref a0_cases, .ref a0_rows, .ref a0_grower, .ref a0_finder, .ref a0_pruner, .ref a0_rules, .ref a0_trees, .ref a0_told, .ref a0_turnedMarks, .ref a0_ballots, .int 0, .int (-1), .int (-1), .int 0]))] H := hP
  have hD : va_D A [(h0, .inr (7, [.ref a0_cases, .ref a0_rows, .ref a0_grower, .ref a0_finder, .ref a0_pruner, .ref a0_rules, .ref a0_trees, .ref a0_told, .ref a0_turnedMarks, .ref a0_ballots, .int 0, .int (-1), .int (-1), .int 0]))] := hD
  refine tvv (v := .null) rfl ?_
  refine lv_astoreN (lv' := [(4, .null), (0, .ref h0), (1, .int p1), (2, .int p2), (3, .int p3)]) hx hb dX7_node_5 hl (by decide) rfl (fun ls hl => ?_)
  refine lv_aloadN hx hb dX7_node_7 (lv_at hl 0 rfl) ?_
  refine lv_ifnullN (tgt := 21) hx hb dX7_node_9 (by decide) ?_
  refine lv_iconst (v := (-1)) hx hb dX7_node_21 (by decide) ?_
  exact W.iret (v := (-1)) hx hb hr (fun t ht hW => ⟨⟨(-1), (), rfl, rfl, trivial⟩, hS.F ht⟩) hS.2.2 dX7_node_22

set_option maxHeartbeats 4000000 in
set_option maxRecDepth 100000 in
theorem c_x_share (l : Launch) (dC : Nat → ClassId) (dI : Nat → Nat → Nat) (sz : Nat) (h0 : Nat) (p1 : Int32) (p2 : Int32) (p3 : Int32) (a0_cases : Nat) (a0_rows : Nat) (a0_grower : Nat) (a0_finder : Nat) (a0_pruner : Nat) (a0_rules : Nat) (a0_trees : Nat) (a0_told : Nat) (a0_turnedMarks : Nat) (a0_ballots : Nat)   : Met l yX7_share wsX7_share ({ frames := 2, cells := 0, slots := 0, locals := 81 }) (va_Pc [.ref h0, .int p1, .int p2, .int p3] (pw (dC, dI) [] [(h0, .inr (7, [.ref a0_cases, .ref a0_rows, .ref a0_grower, .ref a0_finder, .ref a0_pruner, .ref a0_rules, .ref a0_trees, .ref a0_told, .ref a0_turnedMarks, .ref a0_ballots, .int 0, .int (-1), .int (-1), .int 0]))] sz)) (va_Qi (fun (r : Int32) (_ : Unit) => r = (-1)) (fun _ _ => True) (va_A [(h0, .inr (7, [.ref a0_cases, .ref a0_rows, .ref a0_grower, .ref a0_finder, .ref a0_pruner, .ref a0_rules, .ref a0_trees, .ref a0_told, .ref a0_turnedMarks, .ref a0_ballots, .int 0, .int (-1), .int (-1), .int 0]))] sz)) 0 0 (va_A [(h0, .inr (7, [.ref a0_cases, .ref a0_rows, .ref a0_grower, .ref a0_finder, .ref a0_pruner, .ref a0_rules, .ref a0_trees, .ref a0_told, .ref a0_turnedMarks, .ref a0_ballots, .int 0, .int (-1), .int (-1), .int 0]))] sz) := by
  refine Met.ofW (cc := cX7_share) (maxL := 5) (ret := (some .int)) (by decide) rfl ?_
  intro p e s m args below meth c s₁ B hml hv
  obtain ⟨rfl, hsz, hP, hK, hD0, hN⟩ := hv
  have hx := B.exec
  have hb := B.bytes
  have hr := B.returns
  have hts := atoms_spec (ws := wsX7_share) B.pre
  have hown : s.vm.findClass RX7 = some m.cls := findClass_of_methodNamed B.named
  have hlocks := B.notSynchronized
  have hi6 : ∀ w ∈ u_ws RX6 TX6 7, w ∈ wsX7_share := fun _ h => List.mem_cons_of_mem _ (List.mem_append_left _ (List.mem_append_right _ h))
  have hi7 : ∀ w ∈ u_ws RX7 TX7 14, w ∈ wsX7_share := fun _ h => List.mem_cons_of_mem _ (List.mem_append_right _ h)
  subst hsz
  have hD := hD0.self (sz := s.heap.size)
  generalize hAe : va_A [(h0, .inr (7, [.ref a0_cases, .ref a0_rows, .ref a0_grower, .ref a0_finder, .ref a0_pruner, .ref a0_rules, .ref a0_trees, .ref a0_told, .ref a0_turnedMarks, .ref a0_ballots, .int 0, .int (-1), .int (-1), .int 0]))] s.heap.size = A at hD ⊢
  have hA : ∀ q : Nat, s.heap.size ≤ q → A q := fun q h => by rw [← hAe]; exact Or.inr h
  have hS : va_S A s.heap s.heap [] := va_S.rf
  have hl := lv_entry ([.ref h0, .int p1, .int p2, .int p3]) (n := 5) (Nat.le_of_ble_eq_true rfl)
  rw [lg_entry_eq]
  generalize (lg_sl ([.ref h0, .int p1, .int p2, .int p3]) ++ List.replicate (5 - (lg_sl ([.ref h0, .int p1, .int p2, .int p3])).length) Slot.unset).toArray = ls at hl ⊢
  have hl : lv_has ls 5 [(0, .ref h0), (1, .int p1), (2, .int p2), (3, .int p3)] := hl
  have hP : va_P (dC, dI) vwCl [(h0, .inr (7, [.ref a0_cases, .ref a0_rows, .ref a0_grower, .ref a0_finder, .ref a0_pruner, .ref a0_rules, .ref a0_trees, .ref a0_told, .ref a0_turnedMarks, .ref a0_ballots, .int 0, .int (-1), .int (-1), .int 0]))] s.heap := hP
  refine lv_aload_n hx hb dX7_share_0 rfl (lv_at hl 0 rfl) ?_
  refine lv_iload_n hx hb dX7_share_1 rfl (lv_at hl 1 rfl) ?_
  have hPc := hP.sub (ws' := [(h0, .inr (7, [.ref a0_cases, .ref a0_rows, .ref a0_grower, .ref a0_finder, .ref a0_pruner, .ref a0_rules, .ref a0_trees, .ref a0_told, .ref a0_turnedMarks, .ref a0_ballots, .int 0, .int (-1), .int (-1), .int 0]))]) [0] rfl
  have hDc := hD.sub (ws' := [(h0, .inr (7, [.ref a0_cases, .ref a0_rows, .ref a0_grower, .ref a0_finder, .ref a0_pruner, .ref a0_rules, .ref a0_trees, .ref a0_told, .ref a0_turnedMarks, .ref a0_ballots, .int 0, .int (-1), .int (-1), .int 0]))]) [0] (by decide) rfl
  have hKc := hK.sub (tys' := []) [] rfl
  have hFc := va_free (wc := [(h0, .inr (7, [.ref a0_cases, .ref a0_rows, .ref a0_grower, .ref a0_finder, .ref a0_pruner, .ref a0_rules, .ref a0_trees, .ref a0_told, .ref a0_turnedMarks, .ref a0_ballots, .int 0, .int (-1), .int (-1), .int 0]))]) hD hS hA [0] rfl
  refine va_callq (va_runV (As := [.int p1]) (rest := []) ⟨hx, hb, hml, hown, hts⟩ (c_treeAt l dC dI s.heap.size h0 p1 a0_cases a0_rows a0_grower a0_finder a0_pruner a0_rules a0_trees a0_told a0_turnedMarks a0_ballots ) (cwV 1 hts gX7_share_X7_treeAt rfl rfl rfl (by decide +kernel) ⟨Nat.le_of_ble_eq_true rfl, Nat.le_of_ble_eq_true rfl⟩) (pre_V hPc hKc hDc hN (ci := 7) (q0 := 0) rfl rfl) rfl rfl hl.1 rfl (lv_room (Nat.le_of_ble_eq_true rfl)) dX7_share_2 ⟨Nat.le_of_ble_eq_true rfl, Nat.le_of_ble_eq_true rfl⟩) hS (fun q _ h => hFc q h) hFc (fun r_1 u t H1 locs ht hvm hw hB hz1 hk1 hS => ?_)
  clear hPc hDc hKc
  obtain ⟨rfl, rfl⟩ := hw
  obtain ⟨hP1, hK1, hD1⟩ := hB
  rw [ht] at hP1
  obtain ⟨hP, hD⟩ := va_join (wr := []) (w1 := [(h0, .inr (7, [.ref a0_cases, .ref a0_rows, .ref a0_grower, .ref a0_finder, .ref a0_pruner, .ref a0_rules, .ref a0_trees, .ref a0_told, .ref a0_turnedMarks, .ref a0_ballots, .int 0, .int (-1), .int (-1), .int 0]))]) hP hD [0] [] rfl rfl (by decide) (by decide) hk1 hFc hP1 hD1
  generalize H1 = H at hP hS ⊢
  clear hP1 hD1 hFc hk1 hz1 ht hvm hK1
  have hP : va_P (dC, dI) vwCl [(h0, .inr (7, [.ref a0_cases, .ref a0_rows, .ref a0_grower, .ref a0_finder, .ref a0_pruner, .ref a0_rules, .ref a0_trees, .ref a0_told, .ref a0_turnedMarks, .ref a0_ballots, .int 0, .int (-1), .int (-1), .int 0]))] H := hP
  have hD : va_D A [(h0, .inr (7, [.ref a0_cases, .ref a0_rows, .ref a0_grower, .ref a0_finder, .ref a0_pruner, .ref a0_rules, .ref a0_trees, .ref a0_told, .ref a0_turnedMarks, .ref a0_ballots, .int 0, .int (-1), .int (-1), .int 0]))] := hD
  refine tvv (v := .null) rfl ?_
  refine lv_astoreN (lv' := [(4, .null), (0, .ref h0), (1, .int p1), (2, .int p2), (3, .int p3)]) hx hb dX7_share_5 hl (by decide) rfl (fun ls hl => ?_)
  refine lv_aloadN hx hb dX7_share_7 (lv_at hl 0 rfl) ?_
  refine lv_ifnullN (tgt := 28) hx hb dX7_share_9 (by decide) ?_
  refine lv_iconst (v := (-1)) hx hb dX7_share_28 (by decide) ?_
  exact W.iret (v := (-1)) hx hb hr (fun t ht hW => ⟨⟨(-1), (), rfl, rfl, trivial⟩, hS.F ht⟩) hS.2.2 dX7_share_29

set_option maxHeartbeats 4000000 in
set_option maxRecDepth 100000 in
theorem c_x_say (l : Launch) (dC : Nat → ClassId) (dI : Nat → Nat → Nat) (sz : Nat) (h0 : Nat) (p1 : Int32) (p2 : Int32) (p3 : Int32) (p4 : Int32) (p5 : Int32) (a0_cases : Nat) (a0_rows : Nat) (a0_grower : Nat) (a0_finder : Nat) (a0_pruner : Nat) (a0_rules : Nat) (a0_trees : Nat) (a0_told : Nat) (a0_turnedMarks : Nat) (a0_ballots : Nat)   : Met l yX7_say wsX7_say ({ frames := 2, cells := 0, slots := 0, locals := 81 }) (va_Pc [.ref h0, .int p1, .int p2, .int p3, .int p4, .int p5] (pw (dC, dI) [] [(h0, .inr (7, [.ref a0_cases, .ref a0_rows, .ref a0_grower, .ref a0_finder, .ref a0_pruner, .ref a0_rules, .ref a0_trees, .ref a0_told, .ref a0_turnedMarks, .ref a0_ballots, .int 0, .int (-1), .int (-1), .int 0]))] sz)) (va_Qi (fun (r : Int32) (_ : Unit) => r = (-1)) (fun _ _ => True) (va_A [(h0, .inr (7, [.ref a0_cases, .ref a0_rows, .ref a0_grower, .ref a0_finder, .ref a0_pruner, .ref a0_rules, .ref a0_trees, .ref a0_told, .ref a0_turnedMarks, .ref a0_ballots, .int 0, .int (-1), .int (-1), .int 0]))] sz)) 0 0 (va_A [(h0, .inr (7, [.ref a0_cases, .ref a0_rows, .ref a0_grower, .ref a0_finder, .ref a0_pruner, .ref a0_rules, .ref a0_trees, .ref a0_told, .ref a0_turnedMarks, .ref a0_ballots, .int 0, .int (-1), .int (-1), .int 0]))] sz) := by
  refine Met.ofW (cc := cX7_say) (maxL := 7) (ret := (some .int)) (by decide) rfl ?_
  intro p e s m args below meth c s₁ B hml hv
  obtain ⟨rfl, hsz, hP, hK, hD0, hN⟩ := hv
  have hx := B.exec
  have hb := B.bytes
  have hr := B.returns
  have hts := atoms_spec (ws := wsX7_say) B.pre
  have hown : s.vm.findClass RX7 = some m.cls := findClass_of_methodNamed B.named
  have hlocks := B.notSynchronized
  have hi7 : ∀ w ∈ u_ws RX7 TX7 14, w ∈ wsX7_say := fun _ h => List.mem_cons_of_mem _ (List.mem_append_left _ (List.mem_append_left _ (List.mem_append_right _ h)))
  have hi0 : ∀ w ∈ u_ws RX0 TX0 5, w ∈ wsX7_say := fun _ h => List.mem_cons_of_mem _ (List.mem_append_left _ (List.mem_append_right _ h))
  have hi6 : ∀ w ∈ u_ws RX6 TX6 7, w ∈ wsX7_say := fun _ h => List.mem_cons_of_mem _ (List.mem_append_right _ h)
  subst hsz
  have hD := hD0.self (sz := s.heap.size)
  generalize hAe : va_A [(h0, .inr (7, [.ref a0_cases, .ref a0_rows, .ref a0_grower, .ref a0_finder, .ref a0_pruner, .ref a0_rules, .ref a0_trees, .ref a0_told, .ref a0_turnedMarks, .ref a0_ballots, .int 0, .int (-1), .int (-1), .int 0]))] s.heap.size = A at hD ⊢
  have hA : ∀ q : Nat, s.heap.size ≤ q → A q := fun q h => by rw [← hAe]; exact Or.inr h
  have hS : va_S A s.heap s.heap [] := va_S.rf
  have hl := lv_entry ([.ref h0, .int p1, .int p2, .int p3, .int p4, .int p5]) (n := 7) (Nat.le_of_ble_eq_true rfl)
  rw [lg_entry_eq]
  generalize (lg_sl ([.ref h0, .int p1, .int p2, .int p3, .int p4, .int p5]) ++ List.replicate (7 - (lg_sl ([.ref h0, .int p1, .int p2, .int p3, .int p4, .int p5])).length) Slot.unset).toArray = ls at hl ⊢
  have hl : lv_has ls 7 [(0, .ref h0), (1, .int p1), (2, .int p2), (3, .int p3), (4, .int p4), (5, .int p5)] := hl
  have hP : va_P (dC, dI) vwCl [(h0, .inr (7, [.ref a0_cases, .ref a0_rows, .ref a0_grower, .ref a0_finder, .ref a0_pruner, .ref a0_rules, .ref a0_trees, .ref a0_told, .ref a0_turnedMarks, .ref a0_ballots, .int 0, .int (-1), .int (-1), .int 0]))] s.heap := hP
  refine lv_aload_n hx hb dX7_say_0 rfl (lv_at hl 0 rfl) ?_
  refine lv_iload_n hx hb dX7_say_1 rfl (lv_at hl 1 rfl) ?_
  have hPc := hP.sub (ws' := [(h0, .inr (7, [.ref a0_cases, .ref a0_rows, .ref a0_grower, .ref a0_finder, .ref a0_pruner, .ref a0_rules, .ref a0_trees, .ref a0_told, .ref a0_turnedMarks, .ref a0_ballots, .int 0, .int (-1), .int (-1), .int 0]))]) [0] rfl
  have hDc := hD.sub (ws' := [(h0, .inr (7, [.ref a0_cases, .ref a0_rows, .ref a0_grower, .ref a0_finder, .ref a0_pruner, .ref a0_rules, .ref a0_trees, .ref a0_told, .ref a0_turnedMarks, .ref a0_ballots, .int 0, .int (-1), .int (-1), .int 0]))]) [0] (by decide) rfl
  have hKc := hK.sub (tys' := []) [] rfl
  have hFc := va_free (wc := [(h0, .inr (7, [.ref a0_cases, .ref a0_rows, .ref a0_grower, .ref a0_finder, .ref a0_pruner, .ref a0_rules, .ref a0_trees, .ref a0_told, .ref a0_turnedMarks, .ref a0_ballots, .int 0, .int (-1), .int (-1), .int 0]))]) hD hS hA [0] rfl
  refine va_callq (va_runV (As := [.int p1]) (rest := []) ⟨hx, hb, hml, hown, hts⟩ (c_treeAt l dC dI s.heap.size h0 p1 a0_cases a0_rows a0_grower a0_finder a0_pruner a0_rules a0_trees a0_told a0_turnedMarks a0_ballots ) (cwV 1 hts gX7_say_X7_treeAt rfl rfl rfl (by decide +kernel) ⟨Nat.le_of_ble_eq_true rfl, Nat.le_of_ble_eq_true rfl⟩) (pre_V hPc hKc hDc hN (ci := 7) (q0 := 0) rfl rfl) rfl rfl hl.1 rfl (lv_room (Nat.le_of_ble_eq_true rfl)) dX7_say_2 ⟨Nat.le_of_ble_eq_true rfl, Nat.le_of_ble_eq_true rfl⟩) hS (fun q _ h => hFc q h) hFc (fun r_1 u t H1 locs ht hvm hw hB hz1 hk1 hS => ?_)
  clear hPc hDc hKc
  obtain ⟨rfl, rfl⟩ := hw
  obtain ⟨hP1, hK1, hD1⟩ := hB
  rw [ht] at hP1
  obtain ⟨hP, hD⟩ := va_join (wr := []) (w1 := [(h0, .inr (7, [.ref a0_cases, .ref a0_rows, .ref a0_grower, .ref a0_finder, .ref a0_pruner, .ref a0_rules, .ref a0_trees, .ref a0_told, .ref a0_turnedMarks, .ref a0_ballots, .int 0, .int (-1), .int (-1), .int 0]))]) hP hD [0] [] rfl rfl (by decide) (by decide) hk1 hFc hP1 hD1
  generalize H1 = H at hP hS ⊢
  clear hP1 hD1 hFc hk1 hz1 ht hvm hK1
  have hP : va_P (dC, dI) vwCl [(h0, .inr (7, [.ref a0_cases, .ref a0_rows, .ref a0_grower, .ref a0_finder, .ref a0_pruner, .ref a0_rules, .ref a0_trees, .ref a0_told, .ref a0_turnedMarks, .ref a0_ballots, .int 0, .int (-1), .int (-1), .int 0]))] H := hP
  have hD : va_D A [(h0, .inr (7, [.ref a0_cases, .ref a0_rows, .ref a0_grower, .ref a0_finder, .ref a0_pruner, .ref a0_rules, .ref a0_trees, .ref a0_told, .ref a0_turnedMarks, .ref a0_ballots, .int 0, .int (-1), .int (-1), .int 0]))] := hD
  refine tvv (v := .null) rfl ?_
  refine lv_astoreN (lv' := [(6, .null), (0, .ref h0), (1, .int p1), (2, .int p2), (3, .int p3), (4, .int p4), (5, .int p5)]) hx hb dX7_say_5 hl (by decide) rfl (fun ls hl => ?_)
  refine lv_aloadN hx hb dX7_say_7 (lv_at hl 0 rfl) ?_
  refine lv_ifnullN (tgt := 25) hx hb dX7_say_9 (by decide) ?_
  refine lv_iconst (v := (-1)) hx hb dX7_say_25 (by decide) ?_
  exact W.iret (v := (-1)) hx hb hr (fun t ht hW => ⟨⟨(-1), (), rfl, rfl, trivial⟩, hS.F ht⟩) hS.2.2 dX7_say_26

set_option maxHeartbeats 4000000 in
set_option maxRecDepth 100000 in
theorem c_x_said (l : Launch) (dC : Nat → ClassId) (dI : Nat → Nat → Nat) (sz : Nat) (h0 : Nat) (a0_cases : Nat) (a0_rows : Nat) (a0_grower : Nat) (a0_finder : Nat) (a0_pruner : Nat) (a0_rules : Nat) (a0_trees : Nat) (a0_told : Nat) (a0_turnedMarks : Nat) (a0_ballots : Nat)   : Met l yX7_said wsX7_said ({ frames := 1, cells := 0, slots := 0, locals := 60 }) (va_Pc [.ref h0] (pw (dC, dI) [] [(h0, .inr (7, [.ref a0_cases, .ref a0_rows, .ref a0_grower, .ref a0_finder, .ref a0_pruner, .ref a0_rules, .ref a0_trees, .ref a0_told, .ref a0_turnedMarks, .ref a0_ballots, .int 0, .int (-1), .int (-1), .int 0]))] sz)) (va_Qi (fun (r : Int32) (_ : Unit) => r = (-1)) (fun _ _ => True) (va_A [(h0, .inr (7, [.ref a0_cases, .ref a0_rows, .ref a0_grower, .ref a0_finder, .ref a0_pruner, .ref a0_rules, .ref a0_trees, .ref a0_told, .ref a0_turnedMarks, .ref a0_ballots, .int 0, .int (-1), .int (-1), .int 0]))] sz)) 0 0 (va_A [(h0, .inr (7, [.ref a0_cases, .ref a0_rows, .ref a0_grower, .ref a0_finder, .ref a0_pruner, .ref a0_rules, .ref a0_trees, .ref a0_told, .ref a0_turnedMarks, .ref a0_ballots, .int 0, .int (-1), .int (-1), .int 0]))] sz) := by
  refine Met.ofW (cc := cX7_said) (maxL := 1) (ret := (some .int)) (by decide) rfl ?_
  intro p e s m args below meth c s₁ B hml hv
  obtain ⟨rfl, hsz, hP, hK, hD0, hN⟩ := hv
  have hx := B.exec
  have hb := B.bytes
  have hr := B.returns
  have hts := atoms_spec (ws := wsX7_said) B.pre
  have hown : s.vm.findClass RX7 = some m.cls := findClass_of_methodNamed B.named
  have hlocks := B.notSynchronized
  have hi7 : ∀ w ∈ u_ws RX7 TX7 14, w ∈ wsX7_said := fun _ h => List.mem_cons_of_mem _ (List.mem_append_right _ h)
  subst hsz
  have hD := hD0.self (sz := s.heap.size)
  generalize hAe : va_A [(h0, .inr (7, [.ref a0_cases, .ref a0_rows, .ref a0_grower, .ref a0_finder, .ref a0_pruner, .ref a0_rules, .ref a0_trees, .ref a0_told, .ref a0_turnedMarks, .ref a0_ballots, .int 0, .int (-1), .int (-1), .int 0]))] s.heap.size = A at hD ⊢
  have hA : ∀ q : Nat, s.heap.size ≤ q → A q := fun q h => by rw [← hAe]; exact Or.inr h
  have hS : va_S A s.heap s.heap [] := va_S.rf
  have hl := lv_entry ([.ref h0]) (n := 1) (Nat.le_of_ble_eq_true rfl)
  rw [lg_entry_eq]
  generalize (lg_sl ([.ref h0]) ++ List.replicate (1 - (lg_sl ([.ref h0])).length) Slot.unset).toArray = ls at hl ⊢
  have hl : lv_has ls 1 [(0, .ref h0)] := hl
  have hP : va_P (dC, dI) vwCl [(h0, .inr (7, [.ref a0_cases, .ref a0_rows, .ref a0_grower, .ref a0_finder, .ref a0_pruner, .ref a0_rules, .ref a0_trees, .ref a0_told, .ref a0_turnedMarks, .ref a0_ballots, .int 0, .int (-1), .int (-1), .int 0]))] s.heap := hP
  refine lv_aload_n hx hb dX7_said_0 rfl (lv_at hl 0 rfl) ?_
  refine va_get (D := (dC, dI)) (ci := 7) (v := .int (-1)) (C := RX7) (T := TX7) (N := 14) hx hb hts hi7 hown hK hP 0 rfl rfl 11 (by decide) (hts (.fieldLink RX7 80 "AskTree" "lastLeaf" "I") (by decide +kernel)) (fun _ h9 => h9) rfl dX7_said_1 ?_
  exact W.iret (v := (-1)) hx hb hr (fun t ht hW => ⟨⟨(-1), (), rfl, rfl, trivial⟩, hS.F ht⟩) hS.2.2 dX7_said_4

set_option maxHeartbeats 4000000 in
set_option maxRecDepth 100000 in
theorem c_x_vote (l : Launch) (dC : Nat → ClassId) (dI : Nat → Nat → Nat) (sz : Nat) (h0 : Nat) (p1 : Int32) (p2 : Int32) (p3 : Int32) (p4 : Int32) (a0_cases : Nat) (a0_rows : Nat) (a0_grower : Nat) (a0_finder : Nat) (a0_pruner : Nat) (a0_rules : Nat) (a0_trees : Nat) (a0_told : Nat) (a0_turnedMarks : Nat) (a0_ballots : Nat)   : Met l yX7_vote wsX7_vote ({ frames := 1, cells := 0, slots := 0, locals := 60 }) (va_Pc [.ref h0, .int p1, .int p2, .int p3, .int p4] (pw (dC, dI) [] [(h0, .inr (7, [.ref a0_cases, .ref a0_rows, .ref a0_grower, .ref a0_finder, .ref a0_pruner, .ref a0_rules, .ref a0_trees, .ref a0_told, .ref a0_turnedMarks, .ref a0_ballots, .int 0, .int (-1), .int (-1), .int 0]))] sz)) (va_Qi (fun (r : Int32) (_ : Unit) => r = (-1)) (fun _ _ => True) (va_A [(h0, .inr (7, [.ref a0_cases, .ref a0_rows, .ref a0_grower, .ref a0_finder, .ref a0_pruner, .ref a0_rules, .ref a0_trees, .ref a0_told, .ref a0_turnedMarks, .ref a0_ballots, .int 0, .int (-1), .int (-1), .int 0]))] sz)) 0 0 (va_A [(h0, .inr (7, [.ref a0_cases, .ref a0_rows, .ref a0_grower, .ref a0_finder, .ref a0_pruner, .ref a0_rules, .ref a0_trees, .ref a0_told, .ref a0_turnedMarks, .ref a0_ballots, .int 0, .int (-1), .int (-1), .int 0]))] sz) := by
  refine Met.ofW (cc := cX7_vote) (maxL := 7) (ret := (some .int)) (by decide) rfl ?_
  intro p e s m args below meth c s₁ B hml hv
  obtain ⟨rfl, hsz, hP, hK, hD0, hN⟩ := hv
  have hx := B.exec
  have hb := B.bytes
  have hr := B.returns
  have hts := atoms_spec (ws := wsX7_vote) B.pre
  have hown : s.vm.findClass RX7 = some m.cls := findClass_of_methodNamed B.named
  have hlocks := B.notSynchronized
  have hi7 : ∀ w ∈ u_ws RX7 TX7 14, w ∈ wsX7_vote := fun _ h => List.mem_cons_of_mem _ (List.mem_append_left _ (List.mem_append_left _ (List.mem_append_right _ h)))
  have hi0 : ∀ w ∈ u_ws RX0 TX0 5, w ∈ wsX7_vote := fun _ h => List.mem_cons_of_mem _ (List.mem_append_left _ (List.mem_append_right _ h))
  have hi6 : ∀ w ∈ u_ws RX6 TX6 7, w ∈ wsX7_vote := fun _ h => List.mem_cons_of_mem _ (List.mem_append_right _ h)
  subst hsz
  have hD := hD0.self (sz := s.heap.size)
  generalize hAe : va_A [(h0, .inr (7, [.ref a0_cases, .ref a0_rows, .ref a0_grower, .ref a0_finder, .ref a0_pruner, .ref a0_rules, .ref a0_trees, .ref a0_told, .ref a0_turnedMarks, .ref a0_ballots, .int 0, .int (-1), .int (-1), .int 0]))] s.heap.size = A at hD ⊢
  have hA : ∀ q : Nat, s.heap.size ≤ q → A q := fun q h => by rw [← hAe]; exact Or.inr h
  have hS : va_S A s.heap s.heap [] := va_S.rf
  have hl := lv_entry ([.ref h0, .int p1, .int p2, .int p3, .int p4]) (n := 7) (Nat.le_of_ble_eq_true rfl)
  rw [lg_entry_eq]
  generalize (lg_sl ([.ref h0, .int p1, .int p2, .int p3, .int p4]) ++ List.replicate (7 - (lg_sl ([.ref h0, .int p1, .int p2, .int p3, .int p4])).length) Slot.unset).toArray = ls at hl ⊢
  have hl : lv_has ls 7 [(0, .ref h0), (1, .int p1), (2, .int p2), (3, .int p3), (4, .int p4)] := hl
  have hP : va_P (dC, dI) vwCl [(h0, .inr (7, [.ref a0_cases, .ref a0_rows, .ref a0_grower, .ref a0_finder, .ref a0_pruner, .ref a0_rules, .ref a0_trees, .ref a0_told, .ref a0_turnedMarks, .ref a0_ballots, .int 0, .int (-1), .int (-1), .int 0]))] s.heap := hP
  refine lv_aload_n hx hb dX7_vote_0 rfl (lv_at hl 0 rfl) ?_
  refine va_get (D := (dC, dI)) (ci := 7) (v := .int 0) (C := RX7) (T := TX7) (N := 14) hx hb hts hi7 hown hK hP 0 rfl rfl 10 (by decide) (hts (.fieldLink RX7 76 "AskTree" "treeCount" "I") (by decide +kernel)) (fun _ h9 => h9) rfl dX7_vote_1 ?_
  refine lv_if_eq (tgt := 19) hx hb dX7_vote_4 (by decide) (fun c_1 => ?_) (fun c_1 => ?_)
  rotate_left
  · exact absurd c_1 (by decide)
  refine lv_iconst (v := (-1)) hx hb dX7_vote_19 (by decide) ?_
  exact W.iret (v := (-1)) hx hb hr (fun t ht hW => ⟨⟨(-1), (), rfl, rfl, trivial⟩, hS.F ht⟩) hS.2.2 dX7_vote_20

set_option maxHeartbeats 4000000 in
set_option maxRecDepth 100000 in
theorem c_x_voices (l : Launch) (dC : Nat → ClassId) (dI : Nat → Nat → Nat) (sz : Nat) (h0 : Nat) (a0_cases : Nat) (a0_rows : Nat) (a0_grower : Nat) (a0_finder : Nat) (a0_pruner : Nat) (a0_rules : Nat) (a0_trees : Nat) (a0_told : Nat) (a0_turnedMarks : Nat) (a0_ballots : Nat)   : Met l yX7_voices wsX7_voices ({ frames := 1, cells := 0, slots := 0, locals := 60 }) (va_Pc [.ref h0] (pw (dC, dI) [] [(h0, .inr (7, [.ref a0_cases, .ref a0_rows, .ref a0_grower, .ref a0_finder, .ref a0_pruner, .ref a0_rules, .ref a0_trees, .ref a0_told, .ref a0_turnedMarks, .ref a0_ballots, .int 0, .int (-1), .int (-1), .int 0]))] sz)) (va_Qi (fun (r : Int32) (_ : Unit) => r = (-1)) (fun _ _ => True) (va_A [(h0, .inr (7, [.ref a0_cases, .ref a0_rows, .ref a0_grower, .ref a0_finder, .ref a0_pruner, .ref a0_rules, .ref a0_trees, .ref a0_told, .ref a0_turnedMarks, .ref a0_ballots, .int 0, .int (-1), .int (-1), .int 0]))] sz)) 0 0 (va_A [(h0, .inr (7, [.ref a0_cases, .ref a0_rows, .ref a0_grower, .ref a0_finder, .ref a0_pruner, .ref a0_rules, .ref a0_trees, .ref a0_told, .ref a0_turnedMarks, .ref a0_ballots, .int 0, .int (-1), .int (-1), .int 0]))] sz) := by
  refine Met.ofW (cc := cX7_voices) (maxL := 1) (ret := (some .int)) (by decide) rfl ?_
  intro p e s m args below meth c s₁ B hml hv
  obtain ⟨rfl, hsz, hP, hK, hD0, hN⟩ := hv
  have hx := B.exec
  have hb := B.bytes
  have hr := B.returns
  have hts := atoms_spec (ws := wsX7_voices) B.pre
  have hown : s.vm.findClass RX7 = some m.cls := findClass_of_methodNamed B.named
  have hlocks := B.notSynchronized
  have hi7 : ∀ w ∈ u_ws RX7 TX7 14, w ∈ wsX7_voices := fun _ h => List.mem_cons_of_mem _ (List.mem_append_right _ h)
  subst hsz
  have hD := hD0.self (sz := s.heap.size)
  generalize hAe : va_A [(h0, .inr (7, [.ref a0_cases, .ref a0_rows, .ref a0_grower, .ref a0_finder, .ref a0_pruner, .ref a0_rules, .ref a0_trees, .ref a0_told, .ref a0_turnedMarks, .ref a0_ballots, .int 0, .int (-1), .int (-1), .int 0]))] s.heap.size = A at hD ⊢
  have hA : ∀ q : Nat, s.heap.size ≤ q → A q := fun q h => by rw [← hAe]; exact Or.inr h
  have hS : va_S A s.heap s.heap [] := va_S.rf
  have hl := lv_entry ([.ref h0]) (n := 1) (Nat.le_of_ble_eq_true rfl)
  rw [lg_entry_eq]
  generalize (lg_sl ([.ref h0]) ++ List.replicate (1 - (lg_sl ([.ref h0])).length) Slot.unset).toArray = ls at hl ⊢
  have hl : lv_has ls 1 [(0, .ref h0)] := hl
  have hP : va_P (dC, dI) vwCl [(h0, .inr (7, [.ref a0_cases, .ref a0_rows, .ref a0_grower, .ref a0_finder, .ref a0_pruner, .ref a0_rules, .ref a0_trees, .ref a0_told, .ref a0_turnedMarks, .ref a0_ballots, .int 0, .int (-1), .int (-1), .int 0]))] s.heap := hP
  refine lv_aload_n hx hb dX7_voices_0 rfl (lv_at hl 0 rfl) ?_
  refine va_get (D := (dC, dI)) (ci := 7) (v := .int (-1)) (C := RX7) (T := TX7) (N := 14) hx hb hts hi7 hown hK hP 0 rfl rfl 12 (by decide) (hts (.fieldLink RX7 83 "AskTree" "lastVoices" "I") (by decide +kernel)) (fun _ h9 => h9) rfl dX7_voices_1 ?_
  exact W.iret (v := (-1)) hx hb hr (fun t ht hW => ⟨⟨(-1), (), rfl, rfl, trivial⟩, hS.F ht⟩) hS.2.2 dX7_voices_4

set_option maxHeartbeats 4000000 in
set_option maxRecDepth 100000 in
theorem c_x_rule (l : Launch) (dC : Nat → ClassId) (dI : Nat → Nat → Nat) (sz : Nat) (h0 : Nat) (p1 : Int32) (p2 : Int32) (p3 : Int32) (p4 : Int32) (a0_cases : Nat) (a0_rows : Nat) (a0_grower : Nat) (a0_finder : Nat) (a0_pruner : Nat) (a0_rules : Nat) (a0_trees : Nat) (a0_told : Nat) (a0_turnedMarks : Nat) (a0_ballots : Nat)   : Met l yX7_rule wsX7_rule ({ frames := 2, cells := 0, slots := 0, locals := 81 }) (va_Pc [.ref h0, .int p1, .int p2, .int p3, .int p4] (pw (dC, dI) [] [(h0, .inr (7, [.ref a0_cases, .ref a0_rows, .ref a0_grower, .ref a0_finder, .ref a0_pruner, .ref a0_rules, .ref a0_trees, .ref a0_told, .ref a0_turnedMarks, .ref a0_ballots, .int 0, .int (-1), .int (-1), .int 0]))] sz)) (va_Qi (fun (r : Int32) (_ : Unit) => r = (-40000)) (fun _ _ => True) (va_A [(h0, .inr (7, [.ref a0_cases, .ref a0_rows, .ref a0_grower, .ref a0_finder, .ref a0_pruner, .ref a0_rules, .ref a0_trees, .ref a0_told, .ref a0_turnedMarks, .ref a0_ballots, .int 0, .int (-1), .int (-1), .int 0]))] sz)) 0 0 (va_A [(h0, .inr (7, [.ref a0_cases, .ref a0_rows, .ref a0_grower, .ref a0_finder, .ref a0_pruner, .ref a0_rules, .ref a0_trees, .ref a0_told, .ref a0_turnedMarks, .ref a0_ballots, .int 0, .int (-1), .int (-1), .int 0]))] sz) := by
  refine Met.ofW (cc := cX7_rule) (maxL := 6) (ret := (some .int)) (by decide) rfl ?_
  intro p e s m args below meth c s₁ B hml hv
  obtain ⟨rfl, hsz, hP, hK, hD0, hN⟩ := hv
  have hx := B.exec
  have hb := B.bytes
  have hr := B.returns
  have hts := atoms_spec (ws := wsX7_rule) B.pre
  have hown : s.vm.findClass RX7 = some m.cls := findClass_of_methodNamed B.named
  have hlocks := B.notSynchronized
  have hi7 : ∀ w ∈ u_ws RX7 TX7 14, w ∈ wsX7_rule := fun _ h => List.mem_cons_of_mem _ (List.mem_append_left _ (List.mem_append_left _ (List.mem_append_right _ h)))
  have hi6 : ∀ w ∈ u_ws RX6 TX6 7, w ∈ wsX7_rule := fun _ h => List.mem_cons_of_mem _ (List.mem_append_left _ (List.mem_append_right _ h))
  have hi5 : ∀ w ∈ u_ws RX5 TX5 7, w ∈ wsX7_rule := fun _ h => List.mem_cons_of_mem _ (List.mem_append_right _ h)
  subst hsz
  have hD := hD0.self (sz := s.heap.size)
  generalize hAe : va_A [(h0, .inr (7, [.ref a0_cases, .ref a0_rows, .ref a0_grower, .ref a0_finder, .ref a0_pruner, .ref a0_rules, .ref a0_trees, .ref a0_told, .ref a0_turnedMarks, .ref a0_ballots, .int 0, .int (-1), .int (-1), .int 0]))] s.heap.size = A at hD ⊢
  have hA : ∀ q : Nat, s.heap.size ≤ q → A q := fun q h => by rw [← hAe]; exact Or.inr h
  have hS : va_S A s.heap s.heap [] := va_S.rf
  have hl := lv_entry ([.ref h0, .int p1, .int p2, .int p3, .int p4]) (n := 6) (Nat.le_of_ble_eq_true rfl)
  rw [lg_entry_eq]
  generalize (lg_sl ([.ref h0, .int p1, .int p2, .int p3, .int p4]) ++ List.replicate (6 - (lg_sl ([.ref h0, .int p1, .int p2, .int p3, .int p4])).length) Slot.unset).toArray = ls at hl ⊢
  have hl : lv_has ls 6 [(0, .ref h0), (1, .int p1), (2, .int p2), (3, .int p3), (4, .int p4)] := hl
  have hP : va_P (dC, dI) vwCl [(h0, .inr (7, [.ref a0_cases, .ref a0_rows, .ref a0_grower, .ref a0_finder, .ref a0_pruner, .ref a0_rules, .ref a0_trees, .ref a0_told, .ref a0_turnedMarks, .ref a0_ballots, .int 0, .int (-1), .int (-1), .int 0]))] s.heap := hP
  refine lv_aload_n hx hb dX7_rule_0 rfl (lv_at hl 0 rfl) ?_
  refine lv_iload_n hx hb dX7_rule_1 rfl (lv_at hl 1 rfl) ?_
  have hPc := hP.sub (ws' := [(h0, .inr (7, [.ref a0_cases, .ref a0_rows, .ref a0_grower, .ref a0_finder, .ref a0_pruner, .ref a0_rules, .ref a0_trees, .ref a0_told, .ref a0_turnedMarks, .ref a0_ballots, .int 0, .int (-1), .int (-1), .int 0]))]) [0] rfl
  have hDc := hD.sub (ws' := [(h0, .inr (7, [.ref a0_cases, .ref a0_rows, .ref a0_grower, .ref a0_finder, .ref a0_pruner, .ref a0_rules, .ref a0_trees, .ref a0_told, .ref a0_turnedMarks, .ref a0_ballots, .int 0, .int (-1), .int (-1), .int 0]))]) [0] (by decide) rfl
  have hKc := hK.sub (tys' := []) [] rfl
  have hFc := va_free (wc := [(h0, .inr (7, [.ref a0_cases, .ref a0_rows, .ref a0_grower, .ref a0_finder, .ref a0_pruner, .ref a0_rules, .ref a0_trees, .ref a0_told, .ref a0_turnedMarks, .ref a0_ballots, .int 0, .int (-1), .int (-1), .int 0]))]) hD hS hA [0] rfl
  refine va_callq (va_runV (As := [.int p1]) (rest := []) ⟨hx, hb, hml, hown, hts⟩ (c_treeAt l dC dI s.heap.size h0 p1 a0_cases a0_rows a0_grower a0_finder a0_pruner a0_rules a0_trees a0_told a0_turnedMarks a0_ballots ) (cwV 1 hts gX7_rule_X7_treeAt rfl rfl rfl (by decide +kernel) ⟨Nat.le_of_ble_eq_true rfl, Nat.le_of_ble_eq_true rfl⟩) (pre_V hPc hKc hDc hN (ci := 7) (q0 := 0) rfl rfl) rfl rfl hl.1 rfl (lv_room (Nat.le_of_ble_eq_true rfl)) dX7_rule_2 ⟨Nat.le_of_ble_eq_true rfl, Nat.le_of_ble_eq_true rfl⟩) hS (fun q _ h => hFc q h) hFc (fun r_1 u t H1 locs ht hvm hw hB hz1 hk1 hS => ?_)
  clear hPc hDc hKc
  obtain ⟨rfl, rfl⟩ := hw
  obtain ⟨hP1, hK1, hD1⟩ := hB
  rw [ht] at hP1
  obtain ⟨hP, hD⟩ := va_join (wr := []) (w1 := [(h0, .inr (7, [.ref a0_cases, .ref a0_rows, .ref a0_grower, .ref a0_finder, .ref a0_pruner, .ref a0_rules, .ref a0_trees, .ref a0_told, .ref a0_turnedMarks, .ref a0_ballots, .int 0, .int (-1), .int (-1), .int 0]))]) hP hD [0] [] rfl rfl (by decide) (by decide) hk1 hFc hP1 hD1
  generalize H1 = H at hP hS ⊢
  clear hP1 hD1 hFc hk1 hz1 ht hvm hK1
  have hP : va_P (dC, dI) vwCl [(h0, .inr (7, [.ref a0_cases, .ref a0_rows, .ref a0_grower, .ref a0_finder, .ref a0_pruner, .ref a0_rules, .ref a0_trees, .ref a0_told, .ref a0_turnedMarks, .ref a0_ballots, .int 0, .int (-1), .int (-1), .int 0]))] H := hP
  have hD : va_D A [(h0, .inr (7, [.ref a0_cases, .ref a0_rows, .ref a0_grower, .ref a0_finder, .ref a0_pruner, .ref a0_rules, .ref a0_trees, .ref a0_told, .ref a0_turnedMarks, .ref a0_ballots, .int 0, .int (-1), .int (-1), .int 0]))] := hD
  refine tvv (v := .null) rfl ?_
  refine lv_astoreN (lv' := [(5, .null), (0, .ref h0), (1, .int p1), (2, .int p2), (3, .int p3), (4, .int p4)]) hx hb dX7_rule_5 hl (by decide) rfl (fun ls hl => ?_)
  refine lv_aloadN hx hb dX7_rule_7 (lv_at hl 0 rfl) ?_
  refine lv_ifnullN (tgt := 48) hx hb dX7_rule_9 (by decide) ?_
  refine lv_ldc (v := (-40000)) hx hb hown (hts (.constant RX7 118 (-40000)) (by decide +kernel)) dX7_rule_48 ?_
  exact W.iret (v := (-40000)) hx hb hr (fun t ht hW => ⟨⟨(-40000), (), rfl, rfl, trivial⟩, hS.F ht⟩) hS.2.2 dX7_rule_50

set_option maxHeartbeats 4000000 in
set_option maxRecDepth 100000 in
theorem c_x_near (l : Launch) (dC : Nat → ClassId) (dI : Nat → Nat → Nat) (sz : Nat) (h0 : Nat) (p1 : Int32) (p2 : Int32) (p3 : Int32) (p4 : Int32) (p5 : Int32) (a0_cases : Nat) (a0_rows : Nat) (a0_grower : Nat) (a0_finder : Nat) (a0_pruner : Nat) (a0_rules : Nat) (a0_trees : Nat) (a0_told : Nat) (a0_turnedMarks : Nat) (a0_ballots : Nat)   : Met l yX7_near wsX7_near ({ frames := 2, cells := 0, slots := 0, locals := 81 }) (va_Pc [.ref h0, .int p1, .int p2, .int p3, .int p4, .int p5] (pw (dC, dI) [] [(h0, .inr (7, [.ref a0_cases, .ref a0_rows, .ref a0_grower, .ref a0_finder, .ref a0_pruner, .ref a0_rules, .ref a0_trees, .ref a0_told, .ref a0_turnedMarks, .ref a0_ballots, .int 0, .int (-1), .int (-1), .int 0]))] sz)) (va_Qi (fun (r : Int32) (_ : Unit) => r = (-1)) (fun _ _ => True) (va_A [(h0, .inr (7, [.ref a0_cases, .ref a0_rows, .ref a0_grower, .ref a0_finder, .ref a0_pruner, .ref a0_rules, .ref a0_trees, .ref a0_told, .ref a0_turnedMarks, .ref a0_ballots, .int 0, .int (-1), .int (-1), .int 0]))] sz)) 0 0 (va_A [(h0, .inr (7, [.ref a0_cases, .ref a0_rows, .ref a0_grower, .ref a0_finder, .ref a0_pruner, .ref a0_rules, .ref a0_trees, .ref a0_told, .ref a0_turnedMarks, .ref a0_ballots, .int 0, .int (-1), .int (-1), .int 0]))] sz) := by
  refine Met.ofW (cc := cX7_near) (maxL := 8) (ret := (some .int)) (by decide) rfl ?_
  intro p e s m args below meth c s₁ B hml hv
  obtain ⟨rfl, hsz, hP, hK, hD0, hN⟩ := hv
  have hx := B.exec
  have hb := B.bytes
  have hr := B.returns
  have hts := atoms_spec (ws := wsX7_near) B.pre
  have hown : s.vm.findClass RX7 = some m.cls := findClass_of_methodNamed B.named
  have hlocks := B.notSynchronized
  have hi7 : ∀ w ∈ u_ws RX7 TX7 14, w ∈ wsX7_near := fun _ h => List.mem_cons_of_mem _ (List.mem_append_left _ (List.mem_append_left _ (List.mem_append_left _ (List.mem_append_right _ h))))
  have hi0 : ∀ w ∈ u_ws RX0 TX0 5, w ∈ wsX7_near := fun _ h => List.mem_cons_of_mem _ (List.mem_append_left _ (List.mem_append_left _ (List.mem_append_right _ h)))
  have hi6 : ∀ w ∈ u_ws RX6 TX6 7, w ∈ wsX7_near := fun _ h => List.mem_cons_of_mem _ (List.mem_append_left _ (List.mem_append_right _ h))
  have hi5 : ∀ w ∈ u_ws RX5 TX5 7, w ∈ wsX7_near := fun _ h => List.mem_cons_of_mem _ (List.mem_append_right _ h)
  subst hsz
  have hD := hD0.self (sz := s.heap.size)
  generalize hAe : va_A [(h0, .inr (7, [.ref a0_cases, .ref a0_rows, .ref a0_grower, .ref a0_finder, .ref a0_pruner, .ref a0_rules, .ref a0_trees, .ref a0_told, .ref a0_turnedMarks, .ref a0_ballots, .int 0, .int (-1), .int (-1), .int 0]))] s.heap.size = A at hD ⊢
  have hA : ∀ q : Nat, s.heap.size ≤ q → A q := fun q h => by rw [← hAe]; exact Or.inr h
  have hS : va_S A s.heap s.heap [] := va_S.rf
  have hl := lv_entry ([.ref h0, .int p1, .int p2, .int p3, .int p4, .int p5]) (n := 8) (Nat.le_of_ble_eq_true rfl)
  rw [lg_entry_eq]
  generalize (lg_sl ([.ref h0, .int p1, .int p2, .int p3, .int p4, .int p5]) ++ List.replicate (8 - (lg_sl ([.ref h0, .int p1, .int p2, .int p3, .int p4, .int p5])).length) Slot.unset).toArray = ls at hl ⊢
  have hl : lv_has ls 8 [(0, .ref h0), (1, .int p1), (2, .int p2), (3, .int p3), (4, .int p4), (5, .int p5)] := hl
  have hP : va_P (dC, dI) vwCl [(h0, .inr (7, [.ref a0_cases, .ref a0_rows, .ref a0_grower, .ref a0_finder, .ref a0_pruner, .ref a0_rules, .ref a0_trees, .ref a0_told, .ref a0_turnedMarks, .ref a0_ballots, .int 0, .int (-1), .int (-1), .int 0]))] s.heap := hP
  refine lv_aload_n hx hb dX7_near_0 rfl (lv_at hl 0 rfl) ?_
  refine lv_iload_n hx hb dX7_near_1 rfl (lv_at hl 1 rfl) ?_
  have hPc := hP.sub (ws' := [(h0, .inr (7, [.ref a0_cases, .ref a0_rows, .ref a0_grower, .ref a0_finder, .ref a0_pruner, .ref a0_rules, .ref a0_trees, .ref a0_told, .ref a0_turnedMarks, .ref a0_ballots, .int 0, .int (-1), .int (-1), .int 0]))]) [0] rfl
  have hDc := hD.sub (ws' := [(h0, .inr (7, [.ref a0_cases, .ref a0_rows, .ref a0_grower, .ref a0_finder, .ref a0_pruner, .ref a0_rules, .ref a0_trees, .ref a0_told, .ref a0_turnedMarks, .ref a0_ballots, .int 0, .int (-1), .int (-1), .int 0]))]) [0] (by decide) rfl
  have hKc := hK.sub (tys' := []) [] rfl
  have hFc := va_free (wc := [(h0, .inr (7, [.ref a0_cases, .ref a0_rows, .ref a0_grower, .ref a0_finder, .ref a0_pruner, .ref a0_rules, .ref a0_trees, .ref a0_told, .ref a0_turnedMarks, .ref a0_ballots, .int 0, .int (-1), .int (-1), .int 0]))]) hD hS hA [0] rfl
  refine va_callq (va_runV (As := [.int p1]) (rest := []) ⟨hx, hb, hml, hown, hts⟩ (c_treeAt l dC dI s.heap.size h0 p1 a0_cases a0_rows a0_grower a0_finder a0_pruner a0_rules a0_trees a0_told a0_turnedMarks a0_ballots ) (cwV 1 hts gX7_near_X7_treeAt rfl rfl rfl (by decide +kernel) ⟨Nat.le_of_ble_eq_true rfl, Nat.le_of_ble_eq_true rfl⟩) (pre_V hPc hKc hDc hN (ci := 7) (q0 := 0) rfl rfl) rfl rfl hl.1 rfl (lv_room (Nat.le_of_ble_eq_true rfl)) dX7_near_2 ⟨Nat.le_of_ble_eq_true rfl, Nat.le_of_ble_eq_true rfl⟩) hS (fun q _ h => hFc q h) hFc (fun r_1 u t H1 locs ht hvm hw hB hz1 hk1 hS => ?_)
  clear hPc hDc hKc
  obtain ⟨rfl, rfl⟩ := hw
  obtain ⟨hP1, hK1, hD1⟩ := hB
  rw [ht] at hP1
  obtain ⟨hP, hD⟩ := va_join (wr := []) (w1 := [(h0, .inr (7, [.ref a0_cases, .ref a0_rows, .ref a0_grower, .ref a0_finder, .ref a0_pruner, .ref a0_rules, .ref a0_trees, .ref a0_told, .ref a0_turnedMarks, .ref a0_ballots, .int 0, .int (-1), .int (-1), .int 0]))]) hP hD [0] [] rfl rfl (by decide) (by decide) hk1 hFc hP1 hD1
  generalize H1 = H at hP hS ⊢
  clear hP1 hD1 hFc hk1 hz1 ht hvm hK1
  have hP : va_P (dC, dI) vwCl [(h0, .inr (7, [.ref a0_cases, .ref a0_rows, .ref a0_grower, .ref a0_finder, .ref a0_pruner, .ref a0_rules, .ref a0_trees, .ref a0_told, .ref a0_turnedMarks, .ref a0_ballots, .int 0, .int (-1), .int (-1), .int 0]))] H := hP
  have hD : va_D A [(h0, .inr (7, [.ref a0_cases, .ref a0_rows, .ref a0_grower, .ref a0_finder, .ref a0_pruner, .ref a0_rules, .ref a0_trees, .ref a0_told, .ref a0_turnedMarks, .ref a0_ballots, .int 0, .int (-1), .int (-1), .int 0]))] := hD
  refine tvv (v := .null) rfl ?_
  refine lv_astoreN (lv' := [(6, .null), (0, .ref h0), (1, .int p1), (2, .int p2), (3, .int p3), (4, .int p4), (5, .int p5)]) hx hb dX7_near_5 hl (by decide) rfl (fun ls hl => ?_)
  refine lv_aloadN hx hb dX7_near_7 (lv_at hl 0 rfl) ?_
  refine lv_ifnullN (tgt := 32) hx hb dX7_near_9 (by decide) ?_
  refine lv_iconst (v := (-1)) hx hb dX7_near_32 (by decide) ?_
  exact W.iret (v := (-1)) hx hb hr (fun t ht hW => ⟨⟨(-1), (), rfl, rfl, trivial⟩, hS.F ht⟩) hS.2.2 dX7_near_33

set_option maxHeartbeats 4000000 in
set_option maxRecDepth 100000 in
theorem c_x_turned (l : Launch) (dC : Nat → ClassId) (dI : Nat → Nat → Nat) (sz : Nat) (h0 : Nat) (p1 : Int32) (a0_cases : Nat) (a0_rows : Nat) (a0_grower : Nat) (a0_finder : Nat) (a0_pruner : Nat) (a0_rules : Nat) (a0_trees : Nat) (a0_told : Nat) (a0_turnedMarks : Nat) (a0_ballots : Nat)   : Met l yX7_turned wsX7_turned ({ frames := 2, cells := 0, slots := 0, locals := 80 }) (va_Pc [.ref h0, .int p1] (pw (dC, dI) [] [(h0, .inr (7, [.ref a0_cases, .ref a0_rows, .ref a0_grower, .ref a0_finder, .ref a0_pruner, .ref a0_rules, .ref a0_trees, .ref a0_told, .ref a0_turnedMarks, .ref a0_ballots, .int 0, .int (-1), .int (-1), .int 0]))] sz)) (va_Qi (fun (r : Int32) (_ : Unit) => r = (-40000)) (fun _ _ => True) (va_A [(h0, .inr (7, [.ref a0_cases, .ref a0_rows, .ref a0_grower, .ref a0_finder, .ref a0_pruner, .ref a0_rules, .ref a0_trees, .ref a0_told, .ref a0_turnedMarks, .ref a0_ballots, .int 0, .int (-1), .int (-1), .int 0]))] sz)) 0 0 (va_A [(h0, .inr (7, [.ref a0_cases, .ref a0_rows, .ref a0_grower, .ref a0_finder, .ref a0_pruner, .ref a0_rules, .ref a0_trees, .ref a0_told, .ref a0_turnedMarks, .ref a0_ballots, .int 0, .int (-1), .int (-1), .int 0]))] sz) := by
  refine Met.ofW (cc := cX7_turned) (maxL := 2) (ret := (some .int)) (by decide) rfl ?_
  intro p e s m args below meth c s₁ B hml hv
  obtain ⟨rfl, hsz, hP, hK, hD0, hN⟩ := hv
  have hx := B.exec
  have hb := B.bytes
  have hr := B.returns
  have hts := atoms_spec (ws := wsX7_turned) B.pre
  have hown : s.vm.findClass RX7 = some m.cls := findClass_of_methodNamed B.named
  have hlocks := B.notSynchronized
  have hi7 : ∀ w ∈ u_ws RX7 TX7 14, w ∈ wsX7_turned := fun _ h => List.mem_cons_of_mem _ (List.mem_append_right _ h)
  subst hsz
  have hD := hD0.self (sz := s.heap.size)
  generalize hAe : va_A [(h0, .inr (7, [.ref a0_cases, .ref a0_rows, .ref a0_grower, .ref a0_finder, .ref a0_pruner, .ref a0_rules, .ref a0_trees, .ref a0_told, .ref a0_turnedMarks, .ref a0_ballots, .int 0, .int (-1), .int (-1), .int 0]))] s.heap.size = A at hD ⊢
  have hA : ∀ q : Nat, s.heap.size ≤ q → A q := fun q h => by rw [← hAe]; exact Or.inr h
  have hS : va_S A s.heap s.heap [] := va_S.rf
  have hl := lv_entry ([.ref h0, .int p1]) (n := 2) (Nat.le_of_ble_eq_true rfl)
  rw [lg_entry_eq]
  generalize (lg_sl ([.ref h0, .int p1]) ++ List.replicate (2 - (lg_sl ([.ref h0, .int p1])).length) Slot.unset).toArray = ls at hl ⊢
  have hl : lv_has ls 2 [(0, .ref h0), (1, .int p1)] := hl
  have hP : va_P (dC, dI) vwCl [(h0, .inr (7, [.ref a0_cases, .ref a0_rows, .ref a0_grower, .ref a0_finder, .ref a0_pruner, .ref a0_rules, .ref a0_trees, .ref a0_told, .ref a0_turnedMarks, .ref a0_ballots, .int 0, .int (-1), .int (-1), .int 0]))] s.heap := hP
  refine lv_iload_n hx hb dX7_turned_0 rfl (lv_at hl 1 rfl) ?_
  have hPc := hP.sub (ws' := []) [] rfl
  have hDc := hD.sub (ws' := []) [] (by decide) rfl
  have hKc := hK.sub (tys' := []) [] rfl
  have hFc := va_free (wc := []) hD hS hA [] rfl
  refine va_calli (va_runS (As := [.int p1]) (rest := []) ⟨hx, hb, hml, hown, hts⟩ (c_isMark l dC dI s.heap.size p1 ) (va_cwS 1 hts gX7_turned_X7_isMark rfl rfl rfl (by decide +kernel) ⟨Nat.le_of_ble_eq_true rfl, Nat.le_of_ble_eq_true rfl⟩) (pre_S hPc hKc hDc hN) rfl rfl hl.1 rfl (lv_room (Nat.le_of_ble_eq_true rfl)) dX7_turned_1 ⟨Nat.le_of_ble_eq_true rfl, Nat.le_of_ble_eq_true rfl⟩) hS (fun q _ h => hFc q h) hFc (fun r_1 u t H1 locs ht hvm hw hB hz1 hk1 hS => ?_)
  clear hPc hDc hKc
  rcases hw with ⟨rfl, c_2, rfl⟩ | ⟨rfl, c_3, c_4, rfl⟩ | ⟨rfl, c_5, c_6, rfl⟩
  · skip
    obtain ⟨hP1, hK1, hD1⟩ := hB
    rw [ht] at hP1
    obtain ⟨hP, hD⟩ := va_join (wr := [(h0, .inr (7, [.ref a0_cases, .ref a0_rows, .ref a0_grower, .ref a0_finder, .ref a0_pruner, .ref a0_rules, .ref a0_trees, .ref a0_told, .ref a0_turnedMarks, .ref a0_ballots, .int 0, .int (-1), .int (-1), .int 0]))]) (w1 := []) hP hD [] [0] rfl rfl (by decide) (by decide) hk1 hFc hP1 hD1
    generalize H1 = H at hP hS ⊢
    clear hP1 hD1 hFc hk1 hz1 ht hvm hK1
    have hP : va_P (dC, dI) vwCl [(h0, .inr (7, [.ref a0_cases, .ref a0_rows, .ref a0_grower, .ref a0_finder, .ref a0_pruner, .ref a0_rules, .ref a0_trees, .ref a0_told, .ref a0_turnedMarks, .ref a0_ballots, .int 0, .int (-1), .int (-1), .int 0]))] H := hP
    have hD : va_D A [(h0, .inr (7, [.ref a0_cases, .ref a0_rows, .ref a0_grower, .ref a0_finder, .ref a0_pruner, .ref a0_rules, .ref a0_trees, .ref a0_told, .ref a0_turnedMarks, .ref a0_ballots, .int 0, .int (-1), .int (-1), .int 0]))] := hD
    refine lv_if_eq (tgt := 23) hx hb dX7_turned_4 (by decide) (fun c_7 => ?_) (fun c_7 => ?_)
    rotate_left
    · exact absurd c_7 (by decide)
    refine lv_ldc (v := (-40000)) hx hb hown (hts (.constant RX7 118 (-40000)) (by decide +kernel)) dX7_turned_23 ?_
    exact W.iret (v := (-40000)) hx hb hr (fun t ht hW => ⟨⟨(-40000), (), rfl, rfl, trivial⟩, hS.F ht⟩) hS.2.2 dX7_turned_25
  · skip
    obtain ⟨hP1, hK1, hD1⟩ := hB
    rw [ht] at hP1
    obtain ⟨hP, hD⟩ := va_join (wr := [(h0, .inr (7, [.ref a0_cases, .ref a0_rows, .ref a0_grower, .ref a0_finder, .ref a0_pruner, .ref a0_rules, .ref a0_trees, .ref a0_told, .ref a0_turnedMarks, .ref a0_ballots, .int 0, .int (-1), .int (-1), .int 0]))]) (w1 := []) hP hD [] [0] rfl rfl (by decide) (by decide) hk1 hFc hP1 hD1
    generalize H1 = H at hP hS ⊢
    clear hP1 hD1 hFc hk1 hz1 ht hvm hK1
    have hP : va_P (dC, dI) vwCl [(h0, .inr (7, [.ref a0_cases, .ref a0_rows, .ref a0_grower, .ref a0_finder, .ref a0_pruner, .ref a0_rules, .ref a0_trees, .ref a0_told, .ref a0_turnedMarks, .ref a0_ballots, .int 0, .int (-1), .int (-1), .int 0]))] H := hP
    have hD : va_D A [(h0, .inr (7, [.ref a0_cases, .ref a0_rows, .ref a0_grower, .ref a0_finder, .ref a0_pruner, .ref a0_rules, .ref a0_trees, .ref a0_told, .ref a0_turnedMarks, .ref a0_ballots, .int 0, .int (-1), .int (-1), .int 0]))] := hD
    refine lv_if_eq (tgt := 23) hx hb dX7_turned_4 (by decide) (fun c_8 => ?_) (fun c_8 => ?_)
    rotate_left
    · exact absurd c_8 (by decide)
    refine lv_ldc (v := (-40000)) hx hb hown (hts (.constant RX7 118 (-40000)) (by decide +kernel)) dX7_turned_23 ?_
    exact W.iret (v := (-40000)) hx hb hr (fun t ht hW => ⟨⟨(-40000), (), rfl, rfl, trivial⟩, hS.F ht⟩) hS.2.2 dX7_turned_25
  · skip
    obtain ⟨hP1, hK1, hD1⟩ := hB
    rw [ht] at hP1
    obtain ⟨hP, hD⟩ := va_join (wr := [(h0, .inr (7, [.ref a0_cases, .ref a0_rows, .ref a0_grower, .ref a0_finder, .ref a0_pruner, .ref a0_rules, .ref a0_trees, .ref a0_told, .ref a0_turnedMarks, .ref a0_ballots, .int 0, .int (-1), .int (-1), .int 0]))]) (w1 := []) hP hD [] [0] rfl rfl (by decide) (by decide) hk1 hFc hP1 hD1
    generalize H1 = H at hP hS ⊢
    clear hP1 hD1 hFc hk1 hz1 ht hvm hK1
    have hP : va_P (dC, dI) vwCl [(h0, .inr (7, [.ref a0_cases, .ref a0_rows, .ref a0_grower, .ref a0_finder, .ref a0_pruner, .ref a0_rules, .ref a0_trees, .ref a0_told, .ref a0_turnedMarks, .ref a0_ballots, .int 0, .int (-1), .int (-1), .int 0]))] H := hP
    have hD : va_D A [(h0, .inr (7, [.ref a0_cases, .ref a0_rows, .ref a0_grower, .ref a0_finder, .ref a0_pruner, .ref a0_rules, .ref a0_trees, .ref a0_told, .ref a0_turnedMarks, .ref a0_ballots, .int 0, .int (-1), .int (-1), .int 0]))] := hD
    refine lv_if_eq (tgt := 23) hx hb dX7_turned_4 (by decide) (fun c_9 => ?_) (fun c_9 => ?_)
    · exact absurd c_9 (by decide)
    refine lv_aload_n hx hb dX7_turned_7 rfl (lv_at hl 0 rfl) ?_
    refine va_get (D := (dC, dI)) (ci := 7) (v := .int 0) (C := RX7) (T := TX7) (N := 14) hx hb hts hi7 hown hK hP 0 rfl rfl 13 (by decide) (hts (.fieldLink RX7 86 "AskTree" "hasTurned" "Z") (by decide +kernel)) (fun _ h9 => h9) rfl dX7_turned_8 ?_
    refine lv_if_eq (tgt := 23) hx hb dX7_turned_11 (by decide) (fun c_10 => ?_) (fun c_10 => ?_)
    rotate_left
    · exact absurd c_10 (by decide)
    refine lv_ldc (v := (-40000)) hx hb hown (hts (.constant RX7 118 (-40000)) (by decide +kernel)) dX7_turned_23 ?_
    exact W.iret (v := (-40000)) hx hb hr (fun t ht hW => ⟨⟨(-40000), (), rfl, rfl, trivial⟩, hS.F ht⟩) hS.2.2 dX7_turned_25

theorem lf_x_count_1 (p1 : Int32) (e0 : p1 = 0) : p1 = 0 ∨ p1 = 1 := by
  (try simp only [Int32.lt_iff_toInt_lt, Int32.le_iff_toInt_le, ← Int32.toInt_inj, ln_0, ln_1, ln_2, ln_3, ln_4, ln_6, ln_8, ln_10, ln_50, ln_100, ln_300, ln_1000, ln_m1000, ln_m32768, ln_m1, ln_m2, ln_m40000, ln_20] at *)
  all_goals omega
theorem lf_x_count_2 (p1 : Int32) (e0 : ¬ p1 = 0) (e1 : p1 = 1) : p1 = 0 ∨ p1 = 1 := by
  (try simp only [Int32.lt_iff_toInt_lt, Int32.le_iff_toInt_le, ← Int32.toInt_inj, ln_0, ln_1, ln_2, ln_3, ln_4, ln_6, ln_8, ln_10, ln_50, ln_100, ln_300, ln_1000, ln_m1000, ln_m32768, ln_m1, ln_m2, ln_m40000, ln_20] at *)
  all_goals omega
theorem lf_x_count_3 (p1 : Int32) (e0 : ¬ p1 = 0) (e1 : ¬ p1 = 1) : ¬ (p1 = 0 ∨ p1 = 1) := by
  (try simp only [Int32.lt_iff_toInt_lt, Int32.le_iff_toInt_le, ← Int32.toInt_inj, ln_0, ln_1, ln_2, ln_3, ln_4, ln_6, ln_8, ln_10, ln_50, ln_100, ln_300, ln_1000, ln_m1000, ln_m32768, ln_m1, ln_m2, ln_m40000, ln_20] at *)
  all_goals omega
set_option maxHeartbeats 4000000 in
set_option maxRecDepth 100000 in
theorem c_x_count (l : Launch) (dC : Nat → ClassId) (dI : Nat → Nat → Nat) (sz : Nat) (h0 : Nat) (p1 : Int32) (h0_cases : Nat) (a0_rows : Nat) (a0_grower : Nat) (a0_finder : Nat) (a0_pruner : Nat) (a0_rules : Nat) (a0_trees : Nat) (a0_told : Nat) (a0_turnedMarks : Nat) (a0_ballots : Nat) (a0_cases_kinds : Nat) (a0_cases_classes : Nat) (a0_cases_marks : Nat) (a0_cases_order : Nat)   : Met l yX7_count wsX7_count ({ frames := 1, cells := 0, slots := 0, locals := 60 }) (va_Pc [.ref h0, .int p1] (pw (dC, dI) [] [(h0, .inr (7, [.ref h0_cases, .ref a0_rows, .ref a0_grower, .ref a0_finder, .ref a0_pruner, .ref a0_rules, .ref a0_trees, .ref a0_told, .ref a0_turnedMarks, .ref a0_ballots, .int 0, .int (-1), .int (-1), .int 0])), (h0_cases, .inr (0, [.ref a0_cases_kinds, .ref a0_cases_classes, .ref a0_cases_marks, .ref a0_cases_order, .int 0]))] sz)) (va_Qi (fun (r : Int32) (_ : Unit) => ((p1 = 0 ∨ p1 = 1) ∧ r = 0) ∨ (¬ (p1 = 0 ∨ p1 = 1) ∧ r = (-1))) (fun _ _ => True) (va_A [(h0, .inr (7, [.ref h0_cases, .ref a0_rows, .ref a0_grower, .ref a0_finder, .ref a0_pruner, .ref a0_rules, .ref a0_trees, .ref a0_told, .ref a0_turnedMarks, .ref a0_ballots, .int 0, .int (-1), .int (-1), .int 0])), (h0_cases, .inr (0, [.ref a0_cases_kinds, .ref a0_cases_classes, .ref a0_cases_marks, .ref a0_cases_order, .int 0]))] sz)) 0 0 (va_A [(h0, .inr (7, [.ref h0_cases, .ref a0_rows, .ref a0_grower, .ref a0_finder, .ref a0_pruner, .ref a0_rules, .ref a0_trees, .ref a0_told, .ref a0_turnedMarks, .ref a0_ballots, .int 0, .int (-1), .int (-1), .int 0])), (h0_cases, .inr (0, [.ref a0_cases_kinds, .ref a0_cases_classes, .ref a0_cases_marks, .ref a0_cases_order, .int 0]))] sz) := by
  refine Met.ofW (cc := cX7_count) (maxL := 2) (ret := (some .int)) (by decide) rfl ?_
  intro p e s m args below meth c s₁ B hml hv
  obtain ⟨rfl, hsz, hP, hK, hD0, hN⟩ := hv
  have hx := B.exec
  have hb := B.bytes
  have hr := B.returns
  have hts := atoms_spec (ws := wsX7_count) B.pre
  have hown : s.vm.findClass RX7 = some m.cls := findClass_of_methodNamed B.named
  have hlocks := B.notSynchronized
  have hi7 : ∀ w ∈ u_ws RX7 TX7 14, w ∈ wsX7_count := fun _ h => List.mem_cons_of_mem _ (List.mem_append_left _ (List.mem_append_right _ h))
  have hi0 : ∀ w ∈ u_ws RX0 TX0 5, w ∈ wsX7_count := fun _ h => List.mem_cons_of_mem _ (List.mem_append_right _ h)
  subst hsz
  have hD := hD0.self (sz := s.heap.size)
  generalize hAe : va_A [(h0, .inr (7, [.ref h0_cases, .ref a0_rows, .ref a0_grower, .ref a0_finder, .ref a0_pruner, .ref a0_rules, .ref a0_trees, .ref a0_told, .ref a0_turnedMarks, .ref a0_ballots, .int 0, .int (-1), .int (-1), .int 0])), (h0_cases, .inr (0, [.ref a0_cases_kinds, .ref a0_cases_classes, .ref a0_cases_marks, .ref a0_cases_order, .int 0]))] s.heap.size = A at hD ⊢
  have hA : ∀ q : Nat, s.heap.size ≤ q → A q := fun q h => by rw [← hAe]; exact Or.inr h
  have hS : va_S A s.heap s.heap [] := va_S.rf
  have hl := lv_entry ([.ref h0, .int p1]) (n := 2) (Nat.le_of_ble_eq_true rfl)
  rw [lg_entry_eq]
  generalize (lg_sl ([.ref h0, .int p1]) ++ List.replicate (2 - (lg_sl ([.ref h0, .int p1])).length) Slot.unset).toArray = ls at hl ⊢
  have hl : lv_has ls 2 [(0, .ref h0), (1, .int p1)] := hl
  have hP : va_P (dC, dI) vwCl [(h0, .inr (7, [.ref h0_cases, .ref a0_rows, .ref a0_grower, .ref a0_finder, .ref a0_pruner, .ref a0_rules, .ref a0_trees, .ref a0_told, .ref a0_turnedMarks, .ref a0_ballots, .int 0, .int (-1), .int (-1), .int 0])), (h0_cases, .inr (0, [.ref a0_cases_kinds, .ref a0_cases_classes, .ref a0_cases_marks, .ref a0_cases_order, .int 0]))] s.heap := hP
  refine lv_iload_n hx hb dX7_count_0 rfl (lv_at hl 1 rfl) ?_
  by_cases c_1 : p1 = 0
  · refine lv_lookup (off := 27) (tgt := 28) hx hb dX7_count_1 (by decide) (by rw [c_1]; decide) (by decide) ?_
    refine lv_aload_n hx hb dX7_count_28 rfl (lv_at hl 0 rfl) ?_
    refine va_get (D := (dC, dI)) (ci := 7) (v := .ref h0_cases) (C := RX7) (T := TX7) (N := 14) hx hb hts hi7 hown hK hP 0 rfl rfl 0 (by decide) (hts (.fieldLink RX7 12 "AskTree" "cases" "LAskTree$Cases;") (by decide +kernel)) (fun _ h9 => h9) rfl dX7_count_29 ?_
    refine va_get (D := (dC, dI)) (ci := 0) (v := .int 0) (C := RX0) (T := TX0) (N := 5) hx hb hts hi0 hown hK hP 1 rfl rfl 4 (by decide) (hts (.fieldLink RX7 94 "AskTree$Cases" "size" "I") (by decide +kernel)) (fun _ h9 => h9) rfl dX7_count_32 ?_
    exact W.iret (v := 0) hx hb hr (fun t ht hW => ⟨⟨0, (), rfl, (Or.inl ⟨(lf_x_count_1 p1 c_1), rfl⟩), trivial⟩, hS.F ht⟩) hS.2.2 dX7_count_35
  · skip
    by_cases c_2 : p1 = 1
    · refine lv_lookup (off := 35) (tgt := 36) hx hb dX7_count_1 (by decide) (by rw [c_2]; decide) (by decide) ?_
      refine lv_aload_n hx hb dX7_count_36 rfl (lv_at hl 0 rfl) ?_
      refine va_get (D := (dC, dI)) (ci := 7) (v := .int 0) (C := RX7) (T := TX7) (N := 14) hx hb hts hi7 hown hK hP 0 rfl rfl 10 (by decide) (hts (.fieldLink RX7 76 "AskTree" "treeCount" "I") (by decide +kernel)) (fun _ h9 => h9) rfl dX7_count_37 ?_
      exact W.iret (v := 0) hx hb hr (fun t ht hW => ⟨⟨0, (), rfl, (Or.inl ⟨(lf_x_count_2 p1 c_1 c_2), rfl⟩), trivial⟩, hS.F ht⟩) hS.2.2 dX7_count_40
    · skip
      refine lv_lookup (off := 40) (tgt := 41) hx hb dX7_count_1 (by decide) (lk_out c_1 c_2) (by decide) ?_
      refine lv_iconst (v := (-1)) hx hb dX7_count_41 (by decide) ?_
      exact W.iret (v := (-1)) hx hb hr (fun t ht hW => ⟨⟨(-1), (), rfl, (Or.inr ⟨(lf_x_count_3 p1 c_1 c_2), rfl⟩), trivial⟩, hS.F ht⟩) hS.2.2 dX7_count_42
