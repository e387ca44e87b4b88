theorem lf_m_drop_1 (p1 : Int32) (e0 : ¬ p1 < 0) (e1 : p1 < 0) : False := by
  (try simp only [Int32.lt_iff_toInt_lt, Int32.le_iff_toInt_le, ← Int32.toInt_inj, ln_0, ln_1, ln_2, ln_3, ln_4, ln_6, ln_8, ln_10, ln_50, ln_100, ln_300, ln_1000, ln_m1000, ln_m32768, ln_m1, ln_m2, ln_m40000, ln_20] at *)
  all_goals omega
set_option maxHeartbeats 4000000 in
set_option maxRecDepth 100000 in
theorem c_m_drop (l : Launch) (dC : Nat → ClassId) (dI : Nat → Nat → Nat) (sz : Nat) (h0 : Nat) (p1 : Int32) (a0_marks : Nat) (a0_classes : Nat) (a0_isSort : Nat) (a0_nodes : Nat) (a0_many : Nat) (a0_in : Nat) (a0_asked : Nat) (a0_turned : Nat) (a0_heap : Nat) (a0_heapYes : Nat) (a0_path : Nat) (a0_bestWrong : Nat) (a0_bestAsked : Nat) (a0_bestMark : Nat) (a0_bestV : Nat)   : Met l yX8_drop wsX8_drop ({ frames := 1, cells := 0, slots := 0, locals := 60 }) (va_Pc [.ref h0, .int p1] (pw (dC, dI) [] [(h0, .inr (8, [.ref a0_marks, .ref a0_classes, .int 0, .ref a0_isSort, .ref a0_nodes, .ref a0_many, .int 0, .ref a0_in, .int 0, .int 0, .int 0, .ref a0_asked, .ref a0_turned, .int 0, .int (-1), .int (-1), .ref a0_heap, .ref a0_heapYes, .ref a0_path, .ref a0_bestWrong, .ref a0_bestAsked, .ref a0_bestMark, .ref a0_bestV]))] sz)) (va_Qi (fun (r : Int32) (_ : Unit) => r = (-1)) (fun _ _ => True) (va_A [(h0, .inr (8, [.ref a0_marks, .ref a0_classes, .int 0, .ref a0_isSort, .ref a0_nodes, .ref a0_many, .int 0, .ref a0_in, .int 0, .int 0, .int 0, .ref a0_asked, .ref a0_turned, .int 0, .int (-1), .int (-1), .ref a0_heap, .ref a0_heapYes, .ref a0_path, .ref a0_bestWrong, .ref a0_bestAsked, .ref a0_bestMark, .ref a0_bestV]))] sz)) 0 0 (va_A [(h0, .inr (8, [.ref a0_marks, .ref a0_classes, .int 0, .ref a0_isSort, .ref a0_nodes, .ref a0_many, .int 0, .ref a0_in, .int 0, .int 0, .int 0, .ref a0_asked, .ref a0_turned, .int 0, .int (-1), .int (-1), .ref a0_heap, .ref a0_heapYes, .ref a0_path, .ref a0_bestWrong, .ref a0_bestAsked, .ref a0_bestMark, .ref a0_bestV]))] sz) := by
  refine Met.ofW (cc := cX8_drop) (maxL := 4) (ret := (some .int)) (by decide) rfl ?_
  intro p e s m args below meth c s₁ B hml hv
  obtain ⟨rfl, hsz, hP, hK, hD0, hN⟩ := hv
  have hx := B.exec
  have hb := B.bytes
  have hr := B.returns
  have hts := atoms_spec (ws := wsX8_drop) B.pre
  have hown : s.vm.findClass RX8 = some m.cls := findClass_of_methodNamed B.named
  have hlocks := B.notSynchronized
  have hi8 : ∀ w ∈ u_ws RX8 TX8 23, w ∈ wsX8_drop := fun _ h => List.mem_cons_of_mem _ (List.mem_append_right _ h)
  subst hsz
  have hD := hD0.self (sz := s.heap.size)
  generalize hAe : va_A [(h0, .inr (8, [.ref a0_marks, .ref a0_classes, .int 0, .ref a0_isSort, .ref a0_nodes, .ref a0_many, .int 0, .ref a0_in, .int 0, .int 0, .int 0, .ref a0_asked, .ref a0_turned, .int 0, .int (-1), .int (-1), .ref a0_heap, .ref a0_heapYes, .ref a0_path, .ref a0_bestWrong, .ref a0_bestAsked, .ref a0_bestMark, .ref a0_bestV]))] s.heap.size = A at hD ⊢
  have hA : ∀ q : Nat, s.heap.size ≤ q → A q := fun q h => by rw [← hAe]; exact Or.inr h
  have hS : va_S A s.heap s.heap [] := va_S.rf
  have hl := lv_entry ([.ref h0, .int p1]) (n := 4) (Nat.le_of_ble_eq_true rfl)
  rw [lg_entry_eq]
  generalize (lg_sl ([.ref h0, .int p1]) ++ List.replicate (4 - (lg_sl ([.ref h0, .int p1])).length) Slot.unset).toArray = ls at hl ⊢
  have hl : lv_has ls 4 [(0, .ref h0), (1, .int p1)] := hl
  have hP : va_P (dC, dI) vwCl [(h0, .inr (8, [.ref a0_marks, .ref a0_classes, .int 0, .ref a0_isSort, .ref a0_nodes, .ref a0_many, .int 0, .ref a0_in, .int 0, .int 0, .int 0, .ref a0_asked, .ref a0_turned, .int 0, .int (-1), .int (-1), .ref a0_heap, .ref a0_heapYes, .ref a0_path, .ref a0_bestWrong, .ref a0_bestAsked, .ref a0_bestMark, .ref a0_bestV]))] s.heap := hP
  refine lv_iload_n hx hb dX8_drop_0 rfl (lv_at hl 1 rfl) ?_
  refine lv_if_lt (tgt := 12) hx hb dX8_drop_1 (by decide) (fun c_1 => ?_) (fun c_1 => ?_)
  · skip
    refine lv_iconst (v := (-1)) hx hb dX8_drop_12 (by decide) ?_
    exact W.iret (v := (-1)) hx hb hr (fun t ht hW => ⟨⟨(-1), (), rfl, rfl, trivial⟩, hS.F ht⟩) hS.2.2 dX8_drop_13
  · skip
    refine lv_iload_n hx hb dX8_drop_4 rfl (lv_at hl 1 rfl) ?_
    refine lv_aload_n hx hb dX8_drop_5 rfl (lv_at hl 0 rfl) ?_
    refine va_get (D := (dC, dI)) (ci := 8) (v := .int 0) (C := RX8) (T := TX8) (N := 23) hx hb hts hi8 hown hK hP 0 rfl rfl 2 (by decide) (hts (.fieldLink RX8 64 "AskTreeModel" "cases" "I") (by decide +kernel)) (fun _ h9 => h9) rfl dX8_drop_6 ?_
    refine lv_icmp_lt (tgt := 14) hx hb dX8_drop_9 (by decide) (fun c_2 => ?_) (fun c_2 => ?_)
    · exact False.elim (lf_m_drop_1 p1 c_1 c_2)
    refine lv_iconst (v := (-1)) hx hb dX8_drop_12 (by decide) ?_
    exact W.iret (v := (-1)) hx hb hr (fun t ht hW => ⟨⟨(-1), (), rfl, rfl, trivial⟩, hS.F ht⟩) hS.2.2 dX8_drop_13

theorem lf_m_mark_1 (p1 : Int32) (e0 : ¬ p1 < 0) (e1 : ¬ 0 ≤ p1) : False := by
  (try simp only [Int32.lt_iff_toInt_lt, Int32.le_iff_toInt_le, ← Int32.toInt_inj, ln_0, ln_1, ln_2, ln_3, ln_4, ln_6, ln_8, ln_10, ln_50, ln_100, ln_300, ln_1000, ln_m1000, ln_m32768, ln_m1, ln_m2, ln_m40000, ln_20] at *)
  all_goals omega
set_option maxHeartbeats 4000000 in
set_option maxRecDepth 100000 in
theorem c_m_mark (l : Launch) (dC : Nat → ClassId) (dI : Nat → Nat → Nat) (sz : Nat) (h0 : Nat) (p1 : Int32) (p2 : Int32) (a0_marks : Nat) (a0_classes : Nat) (a0_isSort : Nat) (a0_nodes : Nat) (a0_many : Nat) (a0_in : Nat) (a0_asked : Nat) (a0_turned : Nat) (a0_heap : Nat) (a0_heapYes : Nat) (a0_path : Nat) (a0_bestWrong : Nat) (a0_bestAsked : Nat) (a0_bestMark : Nat) (a0_bestV : Nat)   : Met l yX8_mark wsX8_mark ({ frames := 1, cells := 0, slots := 0, locals := 60 }) (va_Pc [.ref h0, .int p1, .int p2] (pw (dC, dI) [] [(h0, .inr (8, [.ref a0_marks, .ref a0_classes, .int 0, .ref a0_isSort, .ref a0_nodes, .ref a0_many, .int 0, .ref a0_in, .int 0, .int 0, .int 0, .ref a0_asked, .ref a0_turned, .int 0, .int (-1), .int (-1), .ref a0_heap, .ref a0_heapYes, .ref a0_path, .ref a0_bestWrong, .ref a0_bestAsked, .ref a0_bestMark, .ref a0_bestV]))] sz)) (va_Qi (fun (r : Int32) (_ : Unit) => r = (-40000)) (fun _ _ => True) (va_A [(h0, .inr (8, [.ref a0_marks, .ref a0_classes, .int 0, .ref a0_isSort, .ref a0_nodes, .ref a0_many, .int 0, .ref a0_in, .int 0, .int 0, .int 0, .ref a0_asked, .ref a0_turned, .int 0, .int (-1), .int (-1), .ref a0_heap, .ref a0_heapYes, .ref a0_path, .ref a0_bestWrong, .ref a0_bestAsked, .ref a0_bestMark, .ref a0_bestV]))] sz)) 0 0 (va_A [(h0, .inr (8, [.ref a0_marks, .ref a0_classes, .int 0, .ref a0_isSort, .ref a0_nodes, .ref a0_many, .int 0, .ref a0_in, .int 0, .int 0, .int 0, .ref a0_asked, .ref a0_turned, .int 0, .int (-1), .int (-1), .ref a0_heap, .ref a0_heapYes, .ref a0_path, .ref a0_bestWrong, .ref a0_bestAsked, .ref a0_bestMark, .ref a0_bestV]))] sz) := by
  refine Met.ofW (cc := cX8_mark) (maxL := 3) (ret := (some .int)) (by decide) rfl ?_
  intro p e s m args below meth c s₁ B hml hv
  obtain ⟨rfl, hsz, hP, hK, hD0, hN⟩ := hv
  have hx := B.exec
  have hb := B.bytes
  have hr := B.returns
  have hts := atoms_spec (ws := wsX8_mark) B.pre
  have hown : s.vm.findClass RX8 = some m.cls := findClass_of_methodNamed B.named
  have hlocks := B.notSynchronized
  have hi8 : ∀ w ∈ u_ws RX8 TX8 23, w ∈ wsX8_mark := fun _ h => List.mem_cons_of_mem _ (List.mem_append_right _ h)
  subst hsz
  have hD := hD0.self (sz := s.heap.size)
  generalize hAe : va_A [(h0, .inr (8, [.ref a0_marks, .ref a0_classes, .int 0, .ref a0_isSort, .ref a0_nodes, .ref a0_many, .int 0, .ref a0_in, .int 0, .int 0, .int 0, .ref a0_asked, .ref a0_turned, .int 0, .int (-1), .int (-1), .ref a0_heap, .ref a0_heapYes, .ref a0_path, .ref a0_bestWrong, .ref a0_bestAsked, .ref a0_bestMark, .ref a0_bestV]))] s.heap.size = A at hD ⊢
  have hA : ∀ q : Nat, s.heap.size ≤ q → A q := fun q h => by rw [← hAe]; exact Or.inr h
  have hS : va_S A s.heap s.heap [] := va_S.rf
  have hl := lv_entry ([.ref h0, .int p1, .int p2]) (n := 3) (Nat.le_of_ble_eq_true rfl)
  rw [lg_entry_eq]
  generalize (lg_sl ([.ref h0, .int p1, .int p2]) ++ List.replicate (3 - (lg_sl ([.ref h0, .int p1, .int p2])).length) Slot.unset).toArray = ls at hl ⊢
  have hl : lv_has ls 3 [(0, .ref h0), (1, .int p1), (2, .int p2)] := hl
  have hP : va_P (dC, dI) vwCl [(h0, .inr (8, [.ref a0_marks, .ref a0_classes, .int 0, .ref a0_isSort, .ref a0_nodes, .ref a0_many, .int 0, .ref a0_in, .int 0, .int 0, .int 0, .ref a0_asked, .ref a0_turned, .int 0, .int (-1), .int (-1), .ref a0_heap, .ref a0_heapYes, .ref a0_path, .ref a0_bestWrong, .ref a0_bestAsked, .ref a0_bestMark, .ref a0_bestV]))] s.heap := hP
  refine lv_iload_n hx hb dX8_mark_0 rfl (lv_at hl 1 rfl) ?_
  refine lv_if_lt (tgt := 36) hx hb dX8_mark_1 (by decide) (fun c_1 => ?_) (fun c_1 => ?_)
  · skip
    refine lv_ldc (v := (-40000)) hx hb hown (hts (.constant RX8 74 (-40000)) (by decide +kernel)) dX8_mark_36 ?_
    exact W.iret (v := (-40000)) hx hb hr (fun t ht hW => ⟨⟨(-40000), (), rfl, rfl, trivial⟩, hS.F ht⟩) hS.2.2 dX8_mark_38
  · skip
    refine lv_iload_n hx hb dX8_mark_4 rfl (lv_at hl 1 rfl) ?_
    refine lv_aload_n hx hb dX8_mark_5 rfl (lv_at hl 0 rfl) ?_
    refine va_get (D := (dC, dI)) (ci := 8) (v := .int 0) (C := RX8) (T := TX8) (N := 23) hx hb hts hi8 hown hK hP 0 rfl rfl 2 (by decide) (hts (.fieldLink RX8 64 "AskTreeModel" "cases" "I") (by decide +kernel)) (fun _ h9 => h9) rfl dX8_mark_6 ?_
    refine lv_icmp_ge (tgt := 36) hx hb dX8_mark_9 (by decide) (fun c_2 => ?_) (fun c_2 => ?_)
    rotate_left
    · exact False.elim (lf_m_mark_1 p1 c_1 c_2)
    refine lv_ldc (v := (-40000)) hx hb hown (hts (.constant RX8 74 (-40000)) (by decide +kernel)) dX8_mark_36 ?_
    exact W.iret (v := (-40000)) hx hb hr (fun t ht hW => ⟨⟨(-40000), (), rfl, rfl, trivial⟩, hS.F ht⟩) hS.2.2 dX8_mark_38

theorem lf_m_cls_1 (p1 : Int32) (e0 : ¬ p1 < 0) (e1 : ¬ 0 ≤ p1) : False := by
  (try simp only [Int32.lt_iff_toInt_lt, Int32.le_iff_toInt_le, ← Int32.toInt_inj, ln_0, ln_1, ln_2, ln_3, ln_4, ln_6, ln_8, ln_10, ln_50, ln_100, ln_300, ln_1000, ln_m1000, ln_m32768, ln_m1, ln_m2, ln_m40000, ln_20] at *)
  all_goals omega
set_option maxHeartbeats 4000000 in
set_option maxRecDepth 100000 in
theorem c_m_cls (l : Launch) (dC : Nat → ClassId) (dI : Nat → Nat → Nat) (sz : Nat) (h0 : Nat) (p1 : Int32) (a0_marks : Nat) (a0_classes : Nat) (a0_isSort : Nat) (a0_nodes : Nat) (a0_many : Nat) (a0_in : Nat) (a0_asked : Nat) (a0_turned : Nat) (a0_heap : Nat) (a0_heapYes : Nat) (a0_path : Nat) (a0_bestWrong : Nat) (a0_bestAsked : Nat) (a0_bestMark : Nat) (a0_bestV : Nat)   : Met l yX8_cls wsX8_cls ({ frames := 1, cells := 0, slots := 0, locals := 60 }) (va_Pc [.ref h0, .int p1] (pw (dC, dI) [] [(h0, .inr (8, [.ref a0_marks, .ref a0_classes, .int 0, .ref a0_isSort, .ref a0_nodes, .ref a0_many, .int 0, .ref a0_in, .int 0, .int 0, .int 0, .ref a0_asked, .ref a0_turned, .int 0, .int (-1), .int (-1), .ref a0_heap, .ref a0_heapYes, .ref a0_path, .ref a0_bestWrong, .ref a0_bestAsked, .ref a0_bestMark, .ref a0_bestV]))] sz)) (va_Qi (fun (r : Int32) (_ : Unit) => r = (-1)) (fun _ _ => True) (va_A [(h0, .inr (8, [.ref a0_marks, .ref a0_classes, .int 0, .ref a0_isSort, .ref a0_nodes, .ref a0_many, .int 0, .ref a0_in, .int 0, .int 0, .int 0, .ref a0_asked, .ref a0_turned, .int 0, .int (-1), .int (-1), .ref a0_heap, .ref a0_heapYes, .ref a0_path, .ref a0_bestWrong, .ref a0_bestAsked, .ref a0_bestMark, .ref a0_bestV]))] sz)) 0 0 (va_A [(h0, .inr (8, [.ref a0_marks, .ref a0_classes, .int 0, .ref a0_isSort, .ref a0_nodes, .ref a0_many, .int 0, .ref a0_in, .int 0, .int 0, .int 0, .ref a0_asked, .ref a0_turned, .int 0, .int (-1), .int (-1), .ref a0_heap, .ref a0_heapYes, .ref a0_path, .ref a0_bestWrong, .ref a0_bestAsked, .ref a0_bestMark, .ref a0_bestV]))] sz) := by
  refine Met.ofW (cc := cX8_cls) (maxL := 2) (ret := (some .int)) (by decide) rfl ?_
  intro p e s m args below meth c s₁ B hml hv
  obtain ⟨rfl, hsz, hP, hK, hD0, hN⟩ := hv
  have hx := B.exec
  have hb := B.bytes
  have hr := B.returns
  have hts := atoms_spec (ws := wsX8_cls) B.pre
  have hown : s.vm.findClass RX8 = some m.cls := findClass_of_methodNamed B.named
  have hlocks := B.notSynchronized
  have hi8 : ∀ w ∈ u_ws RX8 TX8 23, w ∈ wsX8_cls := fun _ h => List.mem_cons_of_mem _ (List.mem_append_right _ h)
  subst hsz
  have hD := hD0.self (sz := s.heap.size)
  generalize hAe : va_A [(h0, .inr (8, [.ref a0_marks, .ref a0_classes, .int 0, .ref a0_isSort, .ref a0_nodes, .ref a0_many, .int 0, .ref a0_in, .int 0, .int 0, .int 0, .ref a0_asked, .ref a0_turned, .int 0, .int (-1), .int (-1), .ref a0_heap, .ref a0_heapYes, .ref a0_path, .ref a0_bestWrong, .ref a0_bestAsked, .ref a0_bestMark, .ref a0_bestV]))] s.heap.size = A at hD ⊢
  have hA : ∀ q : Nat, s.heap.size ≤ q → A q := fun q h => by rw [← hAe]; exact Or.inr h
  have hS : va_S A s.heap s.heap [] := va_S.rf
  have hl := lv_entry ([.ref h0, .int p1]) (n := 2) (Nat.le_of_ble_eq_true rfl)
  rw [lg_entry_eq]
  generalize (lg_sl ([.ref h0, .int p1]) ++ List.replicate (2 - (lg_sl ([.ref h0, .int p1])).length) Slot.unset).toArray = ls at hl ⊢
  have hl : lv_has ls 2 [(0, .ref h0), (1, .int p1)] := hl
  have hP : va_P (dC, dI) vwCl [(h0, .inr (8, [.ref a0_marks, .ref a0_classes, .int 0, .ref a0_isSort, .ref a0_nodes, .ref a0_many, .int 0, .ref a0_in, .int 0, .int 0, .int 0, .ref a0_asked, .ref a0_turned, .int 0, .int (-1), .int (-1), .ref a0_heap, .ref a0_heapYes, .ref a0_path, .ref a0_bestWrong, .ref a0_bestAsked, .ref a0_bestMark, .ref a0_bestV]))] s.heap := hP
  refine lv_iload_n hx hb dX8_cls_0 rfl (lv_at hl 1 rfl) ?_
  refine lv_if_lt (tgt := 21) hx hb dX8_cls_1 (by decide) (fun c_1 => ?_) (fun c_1 => ?_)
  · skip
    refine lv_iconst (v := (-1)) hx hb dX8_cls_21 (by decide) ?_
    exact W.iret (v := (-1)) hx hb hr (fun t ht hW => ⟨⟨(-1), (), rfl, rfl, trivial⟩, hS.F ht⟩) hS.2.2 dX8_cls_22
  · skip
    refine lv_iload_n hx hb dX8_cls_4 rfl (lv_at hl 1 rfl) ?_
    refine lv_aload_n hx hb dX8_cls_5 rfl (lv_at hl 0 rfl) ?_
    refine va_get (D := (dC, dI)) (ci := 8) (v := .int 0) (C := RX8) (T := TX8) (N := 23) hx hb hts hi8 hown hK hP 0 rfl rfl 2 (by decide) (hts (.fieldLink RX8 64 "AskTreeModel" "cases" "I") (by decide +kernel)) (fun _ h9 => h9) rfl dX8_cls_6 ?_
    refine lv_icmp_ge (tgt := 21) hx hb dX8_cls_9 (by decide) (fun c_2 => ?_) (fun c_2 => ?_)
    rotate_left
    · exact False.elim (lf_m_cls_1 p1 c_1 c_2)
    refine lv_iconst (v := (-1)) hx hb dX8_cls_21 (by decide) ?_
    exact W.iret (v := (-1)) hx hb hr (fun t ht hW => ⟨⟨(-1), (), rfl, rfl, trivial⟩, hS.F ht⟩) hS.2.2 dX8_cls_22

set_option maxHeartbeats 4000000 in
set_option maxRecDepth 100000 in
theorem c_m_cut (l : Launch) (dC : Nat → ClassId) (dI : Nat → Nat → Nat) (sz : Nat) (h0 : Nat) (p1 : Int32) (p2 : Int32) (p3 : Int32) (a0_marks : Nat) (a0_classes : Nat) (a0_isSort : Nat) (a0_nodes : Nat) (a0_many : Nat) (a0_in : Nat) (a0_asked : Nat) (a0_turned : Nat) (a0_heap : Nat) (a0_heapYes : Nat) (a0_path : Nat) (a0_bestWrong : Nat) (a0_bestAsked : Nat) (a0_bestMark : Nat) (a0_bestV : Nat)   : Met l yX8_cut wsX8_cut ({ frames := 2, cells := 0, slots := 0, locals := 81 }) (va_Pc [.ref h0, .int p1, .int p2, .int p3] (pw (dC, dI) [] [(h0, .inr (8, [.ref a0_marks, .ref a0_classes, .int 0, .ref a0_isSort, .ref a0_nodes, .ref a0_many, .int 0, .ref a0_in, .int 0, .int 0, .int 0, .ref a0_asked, .ref a0_turned, .int 0, .int (-1), .int (-1), .ref a0_heap, .ref a0_heapYes, .ref a0_path, .ref a0_bestWrong, .ref a0_bestAsked, .ref a0_bestMark, .ref a0_bestV]))] sz)) (va_Qi (fun (r : Int32) (_ : Unit) => r = (-1)) (fun _ _ => True) (va_A [(h0, .inr (8, [.ref a0_marks, .ref a0_classes, .int 0, .ref a0_isSort, .ref a0_nodes, .ref a0_many, .int 0, .ref a0_in, .int 0, .int 0, .int 0, .ref a0_asked, .ref a0_turned, .int 0, .int (-1), .int (-1), .ref a0_heap, .ref a0_heapYes, .ref a0_path, .ref a0_bestWrong, .ref a0_bestAsked, .ref a0_bestMark, .ref a0_bestV]))] sz)) 0 0 (va_A [(h0, .inr (8, [.ref a0_marks, .ref a0_classes, .int 0, .ref a0_isSort, .ref a0_nodes, .ref a0_many, .int 0, .ref a0_in, .int 0, .int 0, .int 0, .ref a0_asked, .ref a0_turned, .int 0, .int (-1), .int (-1), .ref a0_heap, .ref a0_heapYes, .ref a0_path, .ref a0_bestWrong, .ref a0_bestAsked, .ref a0_bestMark, .ref a0_bestV]))] sz) := by
  refine Met.ofW (cc := cX8_cut) (maxL := 5) (ret := (some .int)) (by decide) rfl ?_
  intro p e s m args below meth c s₁ B hml hv
  obtain ⟨rfl, hsz, hP, hK, hD0, hN⟩ := hv
  have hx := B.exec
  have hb := B.bytes
  have hr := B.returns
  have hts := atoms_spec (ws := wsX8_cut) B.pre
  have hown : s.vm.findClass RX8 = some m.cls := findClass_of_methodNamed B.named
  have hlocks := B.notSynchronized
  have hi8 : ∀ w ∈ u_ws RX8 TX8 23, w ∈ wsX8_cut := fun _ h => List.mem_cons_of_mem _ (List.mem_append_right _ h)
  subst hsz
  have hD := hD0.self (sz := s.heap.size)
  generalize hAe : va_A [(h0, .inr (8, [.ref a0_marks, .ref a0_classes, .int 0, .ref a0_isSort, .ref a0_nodes, .ref a0_many, .int 0, .ref a0_in, .int 0, .int 0, .int 0, .ref a0_asked, .ref a0_turned, .int 0, .int (-1), .int (-1), .ref a0_heap, .ref a0_heapYes, .ref a0_path, .ref a0_bestWrong, .ref a0_bestAsked, .ref a0_bestMark, .ref a0_bestV]))] s.heap.size = A at hD ⊢
  have hA : ∀ q : Nat, s.heap.size ≤ q → A q := fun q h => by rw [← hAe]; exact Or.inr h
  have hS : va_S A s.heap s.heap [] := va_S.rf
  have hl := lv_entry ([.ref h0, .int p1, .int p2, .int p3]) (n := 5) (Nat.le_of_ble_eq_true rfl)
  rw [lg_entry_eq]
  generalize (lg_sl ([.ref h0, .int p1, .int p2, .int p3]) ++ List.replicate (5 - (lg_sl ([.ref h0, .int p1, .int p2, .int p3])).length) Slot.unset).toArray = ls at hl ⊢
  have hl : lv_has ls 5 [(0, .ref h0), (1, .int p1), (2, .int p2), (3, .int p3)] := hl
  have hP : va_P (dC, dI) vwCl [(h0, .inr (8, [.ref a0_marks, .ref a0_classes, .int 0, .ref a0_isSort, .ref a0_nodes, .ref a0_many, .int 0, .ref a0_in, .int 0, .int 0, .int 0, .ref a0_asked, .ref a0_turned, .int 0, .int (-1), .int (-1), .ref a0_heap, .ref a0_heapYes, .ref a0_path, .ref a0_bestWrong, .ref a0_bestAsked, .ref a0_bestMark, .ref a0_bestV]))] s.heap := hP
  refine lv_aload_n hx hb dX8_cut_0 rfl (lv_at hl 0 rfl) ?_
  refine lv_iload_n hx hb dX8_cut_1 rfl (lv_at hl 1 rfl) ?_
  have hPc := hP.sub (ws' := [(h0, .inr (8, [.ref a0_marks, .ref a0_classes, .int 0, .ref a0_isSort, .ref a0_nodes, .ref a0_many, .int 0, .ref a0_in, .int 0, .int 0, .int 0, .ref a0_asked, .ref a0_turned, .int 0, .int (-1), .int (-1), .ref a0_heap, .ref a0_heapYes, .ref a0_path, .ref a0_bestWrong, .ref a0_bestAsked, .ref a0_bestMark, .ref a0_bestV]))]) [0] rfl
  have hDc := hD.sub (ws' := [(h0, .inr (8, [.ref a0_marks, .ref a0_classes, .int 0, .ref a0_isSort, .ref a0_nodes, .ref a0_many, .int 0, .ref a0_in, .int 0, .int 0, .int 0, .ref a0_asked, .ref a0_turned, .int 0, .int (-1), .int (-1), .ref a0_heap, .ref a0_heapYes, .ref a0_path, .ref a0_bestWrong, .ref a0_bestAsked, .ref a0_bestMark, .ref a0_bestV]))]) [0] (by decide) rfl
  have hKc := hK.sub (tys' := []) [] rfl
  have hFc := va_free (wc := [(h0, .inr (8, [.ref a0_marks, .ref a0_classes, .int 0, .ref a0_isSort, .ref a0_nodes, .ref a0_many, .int 0, .ref a0_in, .int 0, .int 0, .int 0, .ref a0_asked, .ref a0_turned, .int 0, .int (-1), .int (-1), .ref a0_heap, .ref a0_heapYes, .ref a0_path, .ref a0_bestWrong, .ref a0_bestAsked, .ref a0_bestMark, .ref a0_bestV]))]) hD hS hA [0] rfl
  refine va_calli (va_runV (As := [.int p1]) (rest := []) ⟨hx, hb, hml, hown, hts⟩ (c_isTree l dC dI s.heap.size h0 p1 a0_marks a0_classes a0_isSort a0_nodes a0_many a0_in a0_asked a0_turned a0_heap a0_heapYes a0_path a0_bestWrong a0_bestAsked a0_bestMark a0_bestV ) (cwV 1 hts gX8_cut_X8_isTree rfl rfl rfl (by decide +kernel) ⟨Nat.le_of_ble_eq_true rfl, Nat.le_of_ble_eq_true rfl⟩) (pre_V hPc hKc hDc hN (ci := 8) (q0 := 0) rfl rfl) rfl rfl hl.1 rfl (lv_room (Nat.le_of_ble_eq_true rfl)) dX8_cut_2 ⟨Nat.le_of_ble_eq_true rfl, Nat.le_of_ble_eq_true rfl⟩) hS (fun q _ h => hFc q h) hFc (fun r_1 u t H1 locs ht hvm hw hB hz1 hk1 hS => ?_)
  clear hPc hDc hKc
  obtain ⟨rfl, rfl⟩ := hw
  obtain ⟨hP1, hK1, hD1⟩ := hB
  rw [ht] at hP1
  obtain ⟨hP, hD⟩ := va_join (wr := []) (w1 := [(h0, .inr (8, [.ref a0_marks, .ref a0_classes, .int 0, .ref a0_isSort, .ref a0_nodes, .ref a0_many, .int 0, .ref a0_in, .int 0, .int 0, .int 0, .ref a0_asked, .ref a0_turned, .int 0, .int (-1), .int (-1), .ref a0_heap, .ref a0_heapYes, .ref a0_path, .ref a0_bestWrong, .ref a0_bestAsked, .ref a0_bestMark, .ref a0_bestV]))]) hP hD [0] [] rfl rfl (by decide) (by decide) hk1 hFc hP1 hD1
  generalize H1 = H at hP hS ⊢
  clear hP1 hD1 hFc hk1 hz1 ht hvm hK1
  have hP : va_P (dC, dI) vwCl [(h0, .inr (8, [.ref a0_marks, .ref a0_classes, .int 0, .ref a0_isSort, .ref a0_nodes, .ref a0_many, .int 0, .ref a0_in, .int 0, .int 0, .int 0, .ref a0_asked, .ref a0_turned, .int 0, .int (-1), .int (-1), .ref a0_heap, .ref a0_heapYes, .ref a0_path, .ref a0_bestWrong, .ref a0_bestAsked, .ref a0_bestMark, .ref a0_bestV]))] H := hP
  have hD : va_D A [(h0, .inr (8, [.ref a0_marks, .ref a0_classes, .int 0, .ref a0_isSort, .ref a0_nodes, .ref a0_many, .int 0, .ref a0_in, .int 0, .int 0, .int 0, .ref a0_asked, .ref a0_turned, .int 0, .int (-1), .int (-1), .ref a0_heap, .ref a0_heapYes, .ref a0_path, .ref a0_bestWrong, .ref a0_bestAsked, .ref a0_bestMark, .ref a0_bestV]))] := hD
  refine lv_if_eq (tgt := 31) hx hb dX8_cut_5 (by decide) (fun c_2 => ?_) (fun c_2 => ?_)
  rotate_left
  · exact absurd c_2 (by decide)
  refine lv_iconst (v := (-1)) hx hb dX8_cut_31 (by decide) ?_
  exact W.iret (v := (-1)) hx hb hr (fun t ht hW => ⟨⟨(-1), (), rfl, rfl, trivial⟩, hS.F ht⟩) hS.2.2 dX8_cut_32

set_option maxHeartbeats 4000000 in
set_option maxRecDepth 100000 in
theorem c_m_price (l : Launch) (dC : Nat → ClassId) (dI : Nat → Nat → Nat) (sz : Nat) (h0 : Nat) (p1 : Int32) (p2 : Int32) (a0_marks : Nat) (a0_classes : Nat) (a0_isSort : Nat) (a0_nodes : Nat) (a0_many : Nat) (a0_in : Nat) (a0_asked : Nat) (a0_turned : Nat) (a0_heap : Nat) (a0_heapYes : Nat) (a0_path : Nat) (a0_bestWrong : Nat) (a0_bestAsked : Nat) (a0_bestMark : Nat) (a0_bestV : Nat)   : Met l yX8_price wsX8_price ({ frames := 2, cells := 0, slots := 0, locals := 81 }) (va_Pc [.ref h0, .int p1, .int p2] (pw (dC, dI) [] [(h0, .inr (8, [.ref a0_marks, .ref a0_classes, .int 0, .ref a0_isSort, .ref a0_nodes, .ref a0_many, .int 0, .ref a0_in, .int 0, .int 0, .int 0, .ref a0_asked, .ref a0_turned, .int 0, .int (-1), .int (-1), .ref a0_heap, .ref a0_heapYes, .ref a0_path, .ref a0_bestWrong, .ref a0_bestAsked, .ref a0_bestMark, .ref a0_bestV]))] sz)) (va_Qi (fun (r : Int32) (_ : Unit) => r = (-1)) (fun _ _ => True) (va_A [(h0, .inr (8, [.ref a0_marks, .ref a0_classes, .int 0, .ref a0_isSort, .ref a0_nodes, .ref a0_many, .int 0, .ref a0_in, .int 0, .int 0, .int 0, .ref a0_asked, .ref a0_turned, .int 0, .int (-1), .int (-1), .ref a0_heap, .ref a0_heapYes, .ref a0_path, .ref a0_bestWrong, .ref a0_bestAsked, .ref a0_bestMark, .ref a0_bestV]))] sz)) 0 0 (va_A [(h0, .inr (8, [.ref a0_marks, .ref a0_classes, .int 0, .ref a0_isSort, .ref a0_nodes, .ref a0_many, .int 0, .ref a0_in, .int 0, .int 0, .int 0, .ref a0_asked, .ref a0_turned, .int 0, .int (-1), .int (-1), .ref a0_heap, .ref a0_heapYes, .ref a0_path, .ref a0_bestWrong, .ref a0_bestAsked, .ref a0_bestMark, .ref a0_bestV]))] sz) := by
  refine Met.ofW (cc := cX8_price) (maxL := 9) (ret := (some .int)) (by decide) rfl ?_
  intro p e s m args below meth c s₁ B hml hv
  obtain ⟨rfl, hsz, hP, hK, hD0, hN⟩ := hv
  have hx := B.exec
  have hb := B.bytes
  have hr := B.returns
  have hts := atoms_spec (ws := wsX8_price) B.pre
  have hown : s.vm.findClass RX8 = some m.cls := findClass_of_methodNamed B.named
  have hlocks := B.notSynchronized
  have hi8 : ∀ w ∈ u_ws RX8 TX8 23, w ∈ wsX8_price := fun _ h => List.mem_cons_of_mem _ (List.mem_append_right _ h)
  subst hsz
  have hD := hD0.self (sz := s.heap.size)
  generalize hAe : va_A [(h0, .inr (8, [.ref a0_marks, .ref a0_classes, .int 0, .ref a0_isSort, .ref a0_nodes, .ref a0_many, .int 0, .ref a0_in, .int 0, .int 0, .int 0, .ref a0_asked, .ref a0_turned, .int 0, .int (-1), .int (-1), .ref a0_heap, .ref a0_heapYes, .ref a0_path, .ref a0_bestWrong, .ref a0_bestAsked, .ref a0_bestMark, .ref a0_bestV]))] s.heap.size = A at hD ⊢
  have hA : ∀ q : Nat, s.heap.size ≤ q → A q := fun q h => by rw [← hAe]; exact Or.inr h
  have hS : va_S A s.heap s.heap [] := va_S.rf
  have hl := lv_entry ([.ref h0, .int p1, .int p2]) (n := 9) (Nat.le_of_ble_eq_true rfl)
  rw [lg_entry_eq]
  generalize (lg_sl ([.ref h0, .int p1, .int p2]) ++ List.replicate (9 - (lg_sl ([.ref h0, .int p1, .int p2])).length) Slot.unset).toArray = ls at hl ⊢
  have hl : lv_has ls 9 [(0, .ref h0), (1, .int p1), (2, .int p2)] := hl
  have hP : va_P (dC, dI) vwCl [(h0, .inr (8, [.ref a0_marks, .ref a0_classes, .int 0, .ref a0_isSort, .ref a0_nodes, .ref a0_many, .int 0, .ref a0_in, .int 0, .int 0, .int 0, .ref a0_asked, .ref a0_turned, .int 0, .int (-1), .int (-1), .ref a0_heap, .ref a0_heapYes, .ref a0_path, .ref a0_bestWrong, .ref a0_bestAsked, .ref a0_bestMark, .ref a0_bestV]))] s.heap := hP
  refine lv_aload_n hx hb dX8_price_0 rfl (lv_at hl 0 rfl) ?_
  refine lv_iload_n hx hb dX8_price_1 rfl (lv_at hl 1 rfl) ?_
  have hPc := hP.sub (ws' := [(h0, .inr (8, [.ref a0_marks, .ref a0_classes, .int 0, .ref a0_isSort, .ref a0_nodes, .ref a0_many, .int 0, .ref a0_in, .int 0, .int 0, .int 0, .ref a0_asked, .ref a0_turned, .int 0, .int (-1), .int (-1), .ref a0_heap, .ref a0_heapYes, .ref a0_path, .ref a0_bestWrong, .ref a0_bestAsked, .ref a0_bestMark, .ref a0_bestV]))]) [0] rfl
  have hDc := hD.sub (ws' := [(h0, .inr (8, [.ref a0_marks, .ref a0_classes, .int 0, .ref a0_isSort, .ref a0_nodes, .ref a0_many, .int 0, .ref a0_in, .int 0, .int 0, .int 0, .ref a0_asked, .ref a0_turned, .int 0, .int (-1), .int (-1), .ref a0_heap, .ref a0_heapYes, .ref a0_path, .ref a0_bestWrong, .ref a0_bestAsked, .ref a0_bestMark, .ref a0_bestV]))]) [0] (by decide) rfl
  have hKc := hK.sub (tys' := []) [] rfl
  have hFc := va_free (wc := [(h0, .inr (8, [.ref a0_marks, .ref a0_classes, .int 0, .ref a0_isSort, .ref a0_nodes, .ref a0_many, .int 0, .ref a0_in, .int 0, .int 0, .int 0, .ref a0_asked, .ref a0_turned, .int 0, .int (-1), .int (-1), .ref a0_heap, .ref a0_heapYes, .ref a0_path, .ref a0_bestWrong, .ref a0_bestAsked, .ref a0_bestMark, .ref a0_bestV]))]) hD hS hA [0] rfl
  refine va_calli (va_runV (As := [.int p1]) (rest := []) ⟨hx, hb, hml, hown, hts⟩ (c_isTree l dC dI s.heap.size h0 p1 a0_marks a0_classes a0_isSort a0_nodes a0_many a0_in a0_asked a0_turned a0_heap a0_heapYes a0_path a0_bestWrong a0_bestAsked a0_bestMark a0_bestV ) (cwV 1 hts gX8_price_X8_isTree rfl rfl rfl (by decide +kernel) ⟨Nat.le_of_ble_eq_true rfl, Nat.le_of_ble_eq_true rfl⟩) (pre_V hPc hKc hDc hN (ci := 8) (q0 := 0) rfl rfl) rfl rfl hl.1 rfl (lv_room (Nat.le_of_ble_eq_true rfl)) dX8_price_2 ⟨Nat.le_of_ble_eq_true rfl, Nat.le_of_ble_eq_true rfl⟩) hS (fun q _ h => hFc q h) hFc (fun r_1 u t H1 locs ht hvm hw hB hz1 hk1 hS => ?_)
  clear hPc hDc hKc
  obtain ⟨rfl, rfl⟩ := hw
  obtain ⟨hP1, hK1, hD1⟩ := hB
  rw [ht] at hP1
  obtain ⟨hP, hD⟩ := va_join (wr := []) (w1 := [(h0, .inr (8, [.ref a0_marks, .ref a0_classes, .int 0, .ref a0_isSort, .ref a0_nodes, .ref a0_many, .int 0, .ref a0_in, .int 0, .int 0, .int 0, .ref a0_asked, .ref a0_turned, .int 0, .int (-1), .int (-1), .ref a0_heap, .ref a0_heapYes, .ref a0_path, .ref a0_bestWrong, .ref a0_bestAsked, .ref a0_bestMark, .ref a0_bestV]))]) hP hD [0] [] rfl rfl (by decide) (by decide) hk1 hFc hP1 hD1
  generalize H1 = H at hP hS ⊢
  clear hP1 hD1 hFc hk1 hz1 ht hvm hK1
  have hP : va_P (dC, dI) vwCl [(h0, .inr (8, [.ref a0_marks, .ref a0_classes, .int 0, .ref a0_isSort, .ref a0_nodes, .ref a0_many, .int 0, .ref a0_in, .int 0, .int 0, .int 0, .ref a0_asked, .ref a0_turned, .int 0, .int (-1), .int (-1), .ref a0_heap, .ref a0_heapYes, .ref a0_path, .ref a0_bestWrong, .ref a0_bestAsked, .ref a0_bestMark, .ref a0_bestV]))] H := hP
  have hD : va_D A [(h0, .inr (8, [.ref a0_marks, .ref a0_classes, .int 0, .ref a0_isSort, .ref a0_nodes, .ref a0_many, .int 0, .ref a0_in, .int 0, .int 0, .int 0, .ref a0_asked, .ref a0_turned, .int 0, .int (-1), .int (-1), .ref a0_heap, .ref a0_heapYes, .ref a0_path, .ref a0_bestWrong, .ref a0_bestAsked, .ref a0_bestMark, .ref a0_bestV]))] := hD
  refine lv_if_eq (tgt := 27) hx hb dX8_price_5 (by decide) (fun c_2 => ?_) (fun c_2 => ?_)
  rotate_left
  · exact absurd c_2 (by decide)
  refine lv_iconst (v := (-1)) hx hb dX8_price_27 (by decide) ?_
  exact W.iret (v := (-1)) hx hb hr (fun t ht hW => ⟨⟨(-1), (), rfl, rfl, trivial⟩, hS.F ht⟩) hS.2.2 dX8_price_28

set_option maxHeartbeats 4000000 in
set_option maxRecDepth 100000 in
theorem c_m_remove (l : Launch) (dC : Nat → ClassId) (dI : Nat → Nat → Nat) (sz : Nat) (h0 : Nat) (a0_marks : Nat) (a0_classes : Nat) (a0_isSort : Nat) (a0_nodes : Nat) (a0_many : Nat) (a0_in : Nat) (a0_asked : Nat) (a0_turned : Nat) (a0_heap : Nat) (a0_heapYes : Nat) (a0_path : Nat) (a0_bestWrong : Nat) (a0_bestAsked : Nat) (a0_bestMark : Nat) (a0_bestV : Nat)   : Met l yX8_remove wsX8_remove ({ frames := 1, cells := 0, slots := 0, locals := 60 }) (va_Pc [.ref h0] (pw (dC, dI) [] [(h0, .inr (8, [.ref a0_marks, .ref a0_classes, .int 0, .ref a0_isSort, .ref a0_nodes, .ref a0_many, .int 0, .ref a0_in, .int 0, .int 0, .int 0, .ref a0_asked, .ref a0_turned, .int 0, .int (-1), .int (-1), .ref a0_heap, .ref a0_heapYes, .ref a0_path, .ref a0_bestWrong, .ref a0_bestAsked, .ref a0_bestMark, .ref a0_bestV]))] sz)) (va_Qi (fun (r : Int32) (_ : Unit) => r = (-1)) (fun _ _ => True) (va_A [(h0, .inr (8, [.ref a0_marks, .ref a0_classes, .int 0, .ref a0_isSort, .ref a0_nodes, .ref a0_many, .int 0, .ref a0_in, .int 0, .int 0, .int 0, .ref a0_asked, .ref a0_turned, .int 0, .int (-1), .int (-1), .ref a0_heap, .ref a0_heapYes, .ref a0_path, .ref a0_bestWrong, .ref a0_bestAsked, .ref a0_bestMark, .ref a0_bestV]))] sz)) 0 0 (va_A [(h0, .inr (8, [.ref a0_marks, .ref a0_classes, .int 0, .ref a0_isSort, .ref a0_nodes, .ref a0_many, .int 0, .ref a0_in, .int 0, .int 0, .int 0, .ref a0_asked, .ref a0_turned, .int 0, .int (-1), .int (-1), .ref a0_heap, .ref a0_heapYes, .ref a0_path, .ref a0_bestWrong, .ref a0_bestAsked, .ref a0_bestMark, .ref a0_bestV]))] sz) := by
  refine Met.ofW (cc := cX8_remove) (maxL := 1) (ret := (some .int)) (by decide) rfl ?_
  intro p e s m args below meth c s₁ B hml hv
  obtain ⟨rfl, hsz, hP, hK, hD0, hN⟩ := hv
  have hx := B.exec
  have hb := B.bytes
  have hr := B.returns
  have hts := atoms_spec (ws := wsX8_remove) B.pre
  have hown : s.vm.findClass RX8 = some m.cls := findClass_of_methodNamed B.named
  have hlocks := B.notSynchronized
  have hi8 : ∀ w ∈ u_ws RX8 TX8 23, w ∈ wsX8_remove := fun _ h => List.mem_cons_of_mem _ (List.mem_append_right _ h)
  subst hsz
  have hD := hD0.self (sz := s.heap.size)
  generalize hAe : va_A [(h0, .inr (8, [.ref a0_marks, .ref a0_classes, .int 0, .ref a0_isSort, .ref a0_nodes, .ref a0_many, .int 0, .ref a0_in, .int 0, .int 0, .int 0, .ref a0_asked, .ref a0_turned, .int 0, .int (-1), .int (-1), .ref a0_heap, .ref a0_heapYes, .ref a0_path, .ref a0_bestWrong, .ref a0_bestAsked, .ref a0_bestMark, .ref a0_bestV]))] s.heap.size = A at hD ⊢
  have hA : ∀ q : Nat, s.heap.size ≤ q → A q := fun q h => by rw [← hAe]; exact Or.inr h
  have hS : va_S A s.heap s.heap [] := va_S.rf
  have hl := lv_entry ([.ref h0]) (n := 1) (Nat.le_of_ble_eq_true rfl)
  rw [lg_entry_eq]
  generalize (lg_sl ([.ref h0]) ++ List.replicate (1 - (lg_sl ([.ref h0])).length) Slot.unset).toArray = ls at hl ⊢
  have hl : lv_has ls 1 [(0, .ref h0)] := hl
  have hP : va_P (dC, dI) vwCl [(h0, .inr (8, [.ref a0_marks, .ref a0_classes, .int 0, .ref a0_isSort, .ref a0_nodes, .ref a0_many, .int 0, .ref a0_in, .int 0, .int 0, .int 0, .ref a0_asked, .ref a0_turned, .int 0, .int (-1), .int (-1), .ref a0_heap, .ref a0_heapYes, .ref a0_path, .ref a0_bestWrong, .ref a0_bestAsked, .ref a0_bestMark, .ref a0_bestV]))] s.heap := hP
  refine lv_aload_n hx hb dX8_remove_0 rfl (lv_at hl 0 rfl) ?_
  refine va_get (D := (dC, dI)) (ci := 8) (v := .int 0) (C := RX8) (T := TX8) (N := 23) hx hb hts hi8 hown hK hP 0 rfl rfl 6 (by decide) (hts (.fieldLink RX8 67 "AskTreeModel" "trees" "I") (by decide +kernel)) (fun _ h9 => h9) rfl dX8_remove_1 ?_
  refine lv_if_ne (tgt := 9) hx hb dX8_remove_4 (by decide) (fun c_1 => ?_) (fun c_1 => ?_)
  · exact absurd c_1 (by decide)
  refine lv_iconst (v := (-1)) hx hb dX8_remove_7 (by decide) ?_
  exact W.iret (v := (-1)) hx hb hr (fun t ht hW => ⟨⟨(-1), (), rfl, rfl, trivial⟩, hS.F ht⟩) hS.2.2 dX8_remove_8

set_option maxHeartbeats 4000000 in
set_option maxRecDepth 100000 in
theorem c_m_tree (l : Launch) (dC : Nat → ClassId) (dI : Nat → Nat → Nat) (sz : Nat) (h0 : Nat) (p1 : Int32) (p2 : Int32) (a0_marks : Nat) (a0_classes : Nat) (a0_isSort : Nat) (a0_nodes : Nat) (a0_many : Nat) (a0_in : Nat) (a0_asked : Nat) (a0_turned : Nat) (a0_heap : Nat) (a0_heapYes : Nat) (a0_path : Nat) (a0_bestWrong : Nat) (a0_bestAsked : Nat) (a0_bestMark : Nat) (a0_bestV : Nat)   : Met l yX8_tree wsX8_tree ({ frames := 2, cells := 0, slots := 0, locals := 81 }) (va_Pc [.ref h0, .int p1, .int p2] (pw (dC, dI) [] [(h0, .inr (8, [.ref a0_marks, .ref a0_classes, .int 0, .ref a0_isSort, .ref a0_nodes, .ref a0_many, .int 0, .ref a0_in, .int 0, .int 0, .int 0, .ref a0_asked, .ref a0_turned, .int 0, .int (-1), .int (-1), .ref a0_heap, .ref a0_heapYes, .ref a0_path, .ref a0_bestWrong, .ref a0_bestAsked, .ref a0_bestMark, .ref a0_bestV]))] sz)) (va_Qi (fun (r : Int32) (_ : Unit) => r = (-1)) (fun _ _ => True) (va_A [(h0, .inr (8, [.ref a0_marks, .ref a0_classes, .int 0, .ref a0_isSort, .ref a0_nodes, .ref a0_many, .int 0, .ref a0_in, .int 0, .int 0, .int 0, .ref a0_asked, .ref a0_turned, .int 0, .int (-1), .int (-1), .ref a0_heap, .ref a0_heapYes, .ref a0_path, .ref a0_bestWrong, .ref a0_bestAsked, .ref a0_bestMark, .ref a0_bestV]))] sz)) 0 0 (va_A [(h0, .inr (8, [.ref a0_marks, .ref a0_classes, .int 0, .ref a0_isSort, .ref a0_nodes, .ref a0_many, .int 0, .ref a0_in, .int 0, .int 0, .int 0, .ref a0_asked, .ref a0_turned, .int 0, .int (-1), .int (-1), .ref a0_heap, .ref a0_heapYes, .ref a0_path, .ref a0_bestWrong, .ref a0_bestAsked, .ref a0_bestMark, .ref a0_bestV]))] sz) := by
  refine Met.ofW (cc := cX8_tree) (maxL := 6) (ret := (some .int)) (by decide) rfl ?_
  intro p e s m args below meth c s₁ B hml hv
  obtain ⟨rfl, hsz, hP, hK, hD0, hN⟩ := hv
  have hx := B.exec
  have hb := B.bytes
  have hr := B.returns
  have hts := atoms_spec (ws := wsX8_tree) B.pre
  have hown : s.vm.findClass RX8 = some m.cls := findClass_of_methodNamed B.named
  have hlocks := B.notSynchronized
  have hi8 : ∀ w ∈ u_ws RX8 TX8 23, w ∈ wsX8_tree := fun _ h => List.mem_cons_of_mem _ (List.mem_append_right _ h)
  subst hsz
  have hD := hD0.self (sz := s.heap.size)
  generalize hAe : va_A [(h0, .inr (8, [.ref a0_marks, .ref a0_classes, .int 0, .ref a0_isSort, .ref a0_nodes, .ref a0_many, .int 0, .ref a0_in, .int 0, .int 0, .int 0, .ref a0_asked, .ref a0_turned, .int 0, .int (-1), .int (-1), .ref a0_heap, .ref a0_heapYes, .ref a0_path, .ref a0_bestWrong, .ref a0_bestAsked, .ref a0_bestMark, .ref a0_bestV]))] s.heap.size = A at hD ⊢
  have hA : ∀ q : Nat, s.heap.size ≤ q → A q := fun q h => by rw [← hAe]; exact Or.inr h
  have hS : va_S A s.heap s.heap [] := va_S.rf
  have hl := lv_entry ([.ref h0, .int p1, .int p2]) (n := 6) (Nat.le_of_ble_eq_true rfl)
  rw [lg_entry_eq]
  generalize (lg_sl ([.ref h0, .int p1, .int p2]) ++ List.replicate (6 - (lg_sl ([.ref h0, .int p1, .int p2])).length) Slot.unset).toArray = ls at hl ⊢
  have hl : lv_has ls 6 [(0, .ref h0), (1, .int p1), (2, .int p2)] := hl
  have hP : va_P (dC, dI) vwCl [(h0, .inr (8, [.ref a0_marks, .ref a0_classes, .int 0, .ref a0_isSort, .ref a0_nodes, .ref a0_many, .int 0, .ref a0_in, .int 0, .int 0, .int 0, .ref a0_asked, .ref a0_turned, .int 0, .int (-1), .int (-1), .ref a0_heap, .ref a0_heapYes, .ref a0_path, .ref a0_bestWrong, .ref a0_bestAsked, .ref a0_bestMark, .ref a0_bestV]))] s.heap := hP
  refine lv_aload_n hx hb dX8_tree_0 rfl (lv_at hl 0 rfl) ?_
  refine lv_iload_n hx hb dX8_tree_1 rfl (lv_at hl 1 rfl) ?_
  have hPc := hP.sub (ws' := [(h0, .inr (8, [.ref a0_marks, .ref a0_classes, .int 0, .ref a0_isSort, .ref a0_nodes, .ref a0_many, .int 0, .ref a0_in, .int 0, .int 0, .int 0, .ref a0_asked, .ref a0_turned, .int 0, .int (-1), .int (-1), .ref a0_heap, .ref a0_heapYes, .ref a0_path, .ref a0_bestWrong, .ref a0_bestAsked, .ref a0_bestMark, .ref a0_bestV]))]) [0] rfl
  have hDc := hD.sub (ws' := [(h0, .inr (8, [.ref a0_marks, .ref a0_classes, .int 0, .ref a0_isSort, .ref a0_nodes, .ref a0_many, .int 0, .ref a0_in, .int 0, .int 0, .int 0, .ref a0_asked, .ref a0_turned, .int 0, .int (-1), .int (-1), .ref a0_heap, .ref a0_heapYes, .ref a0_path, .ref a0_bestWrong, .ref a0_bestAsked, .ref a0_bestMark, .ref a0_bestV]))]) [0] (by decide) rfl
  have hKc := hK.sub (tys' := []) [] rfl
  have hFc := va_free (wc := [(h0, .inr (8, [.ref a0_marks, .ref a0_classes, .int 0, .ref a0_isSort, .ref a0_nodes, .ref a0_many, .int 0, .ref a0_in, .int 0, .int 0, .int 0, .ref a0_asked, .ref a0_turned, .int 0, .int (-1), .int (-1), .ref a0_heap, .ref a0_heapYes, .ref a0_path, .ref a0_bestWrong, .ref a0_bestAsked, .ref a0_bestMark, .ref a0_bestV]))]) hD hS hA [0] rfl
  refine va_calli (va_runV (As := [.int p1]) (rest := []) ⟨hx, hb, hml, hown, hts⟩ (c_isTree l dC dI s.heap.size h0 p1 a0_marks a0_classes a0_isSort a0_nodes a0_many a0_in a0_asked a0_turned a0_heap a0_heapYes a0_path a0_bestWrong a0_bestAsked a0_bestMark a0_bestV ) (cwV 1 hts gX8_tree_X8_isTree rfl rfl rfl (by decide +kernel) ⟨Nat.le_of_ble_eq_true rfl, Nat.le_of_ble_eq_true rfl⟩) (pre_V hPc hKc hDc hN (ci := 8) (q0 := 0) rfl rfl) rfl rfl hl.1 rfl (lv_room (Nat.le_of_ble_eq_true rfl)) dX8_tree_2 ⟨Nat.le_of_ble_eq_true rfl, Nat.le_of_ble_eq_true rfl⟩) hS (fun q _ h => hFc q h) hFc (fun r_1 u t H1 locs ht hvm hw hB hz1 hk1 hS => ?_)
  clear hPc hDc hKc
  obtain ⟨rfl, rfl⟩ := hw
  obtain ⟨hP1, hK1, hD1⟩ := hB
  rw [ht] at hP1
  obtain ⟨hP, hD⟩ := va_join (wr := []) (w1 := [(h0, .inr (8, [.ref a0_marks, .ref a0_classes, .int 0, .ref a0_isSort, .ref a0_nodes, .ref a0_many, .int 0, .ref a0_in, .int 0, .int 0, .int 0, .ref a0_asked, .ref a0_turned, .int 0, .int (-1), .int (-1), .ref a0_heap, .ref a0_heapYes, .ref a0_path, .ref a0_bestWrong, .ref a0_bestAsked, .ref a0_bestMark, .ref a0_bestV]))]) hP hD [0] [] rfl rfl (by decide) (by decide) hk1 hFc hP1 hD1
  generalize H1 = H at hP hS ⊢
  clear hP1 hD1 hFc hk1 hz1 ht hvm hK1
  have hP : va_P (dC, dI) vwCl [(h0, .inr (8, [.ref a0_marks, .ref a0_classes, .int 0, .ref a0_isSort, .ref a0_nodes, .ref a0_many, .int 0, .ref a0_in, .int 0, .int 0, .int 0, .ref a0_asked, .ref a0_turned, .int 0, .int (-1), .int (-1), .ref a0_heap, .ref a0_heapYes, .ref a0_path, .ref a0_bestWrong, .ref a0_bestAsked, .ref a0_bestMark, .ref a0_bestV]))] H := hP
  have hD : va_D A [(h0, .inr (8, [.ref a0_marks, .ref a0_classes, .int 0, .ref a0_isSort, .ref a0_nodes, .ref a0_many, .int 0, .ref a0_in, .int 0, .int 0, .int 0, .ref a0_asked, .ref a0_turned, .int 0, .int (-1), .int (-1), .ref a0_heap, .ref a0_heapYes, .ref a0_path, .ref a0_bestWrong, .ref a0_bestAsked, .ref a0_bestMark, .ref a0_bestV]))] := hD
  refine lv_if_eq (tgt := 17) hx hb dX8_tree_5 (by decide) (fun c_2 => ?_) (fun c_2 => ?_)
  rotate_left
  · exact absurd c_2 (by decide)
  refine lv_iconst (v := (-1)) hx hb dX8_tree_17 (by decide) ?_
  exact W.iret (v := (-1)) hx hb hr (fun t ht hW => ⟨⟨(-1), (), rfl, rfl, trivial⟩, hS.F ht⟩) hS.2.2 dX8_tree_18

set_option maxHeartbeats 4000000 in
set_option maxRecDepth 100000 in
theorem c_m_node (l : Launch) (dC : Nat → ClassId) (dI : Nat → Nat → Nat) (sz : Nat) (h0 : Nat) (p1 : Int32) (p2 : Int32) (p3 : Int32) (a0_marks : Nat) (a0_classes : Nat) (a0_isSort : Nat) (a0_nodes : Nat) (a0_many : Nat) (a0_in : Nat) (a0_asked : Nat) (a0_turned : Nat) (a0_heap : Nat) (a0_heapYes : Nat) (a0_path : Nat) (a0_bestWrong : Nat) (a0_bestAsked : Nat) (a0_bestMark : Nat) (a0_bestV : Nat)   : Met l yX8_node wsX8_node ({ frames := 2, cells := 0, slots := 0, locals := 81 }) (va_Pc [.ref h0, .int p1, .int p2, .int p3] (pw (dC, dI) [] [(h0, .inr (8, [.ref a0_marks, .ref a0_classes, .int 0, .ref a0_isSort, .ref a0_nodes, .ref a0_many, .int 0, .ref a0_in, .int 0, .int 0, .int 0, .ref a0_asked, .ref a0_turned, .int 0, .int (-1), .int (-1), .ref a0_heap, .ref a0_heapYes, .ref a0_path, .ref a0_bestWrong, .ref a0_bestAsked, .ref a0_bestMark, .ref a0_bestV]))] sz)) (va_Qi (fun (r : Int32) (_ : Unit) => r = (-1)) (fun _ _ => True) (va_A [(h0, .inr (8, [.ref a0_marks, .ref a0_classes, .int 0, .ref a0_isSort, .ref a0_nodes, .ref a0_many, .int 0, .ref a0_in, .int 0, .int 0, .int 0, .ref a0_asked, .ref a0_turned, .int 0, .int (-1), .int (-1), .ref a0_heap, .ref a0_heapYes, .ref a0_path, .ref a0_bestWrong, .ref a0_bestAsked, .ref a0_bestMark, .ref a0_bestV]))] sz)) 0 0 (va_A [(h0, .inr (8, [.ref a0_marks, .ref a0_classes, .int 0, .ref a0_isSort, .ref a0_nodes, .ref a0_many, .int 0, .ref a0_in, .int 0, .int 0, .int 0, .ref a0_asked, .ref a0_turned, .int 0, .int (-1), .int (-1), .ref a0_heap, .ref a0_heapYes, .ref a0_path, .ref a0_bestWrong, .ref a0_bestAsked, .ref a0_bestMark, .ref a0_bestV]))] sz) := by
  refine Met.ofW (cc := cX8_node) (maxL := 5) (ret := (some .int)) (by decide) rfl ?_
  intro p e s m args below meth c s₁ B hml hv
  obtain ⟨rfl, hsz, hP, hK, hD0, hN⟩ := hv
  have hx := B.exec
  have hb := B.bytes
  have hr := B.returns
  have hts := atoms_spec (ws := wsX8_node) B.pre
  have hown : s.vm.findClass RX8 = some m.cls := findClass_of_methodNamed B.named
  have hlocks := B.notSynchronized
  have hi8 : ∀ w ∈ u_ws RX8 TX8 23, w ∈ wsX8_node := fun _ h => List.mem_cons_of_mem _ (List.mem_append_right _ h)
  subst hsz
  have hD := hD0.self (sz := s.heap.size)
  generalize hAe : va_A [(h0, .inr (8, [.ref a0_marks, .ref a0_classes, .int 0, .ref a0_isSort, .ref a0_nodes, .ref a0_many, .int 0, .ref a0_in, .int 0, .int 0, .int 0, .ref a0_asked, .ref a0_turned, .int 0, .int (-1), .int (-1), .ref a0_heap, .ref a0_heapYes, .ref a0_path, .ref a0_bestWrong, .ref a0_bestAsked, .ref a0_bestMark, .ref a0_bestV]))] s.heap.size = A at hD ⊢
  have hA : ∀ q : Nat, s.heap.size ≤ q → A q := fun q h => by rw [← hAe]; exact Or.inr h
  have hS : va_S A s.heap s.heap [] := va_S.rf
  have hl := lv_entry ([.ref h0, .int p1, .int p2, .int p3]) (n := 5) (Nat.le_of_ble_eq_true rfl)
  rw [lg_entry_eq]
  generalize (lg_sl ([.ref h0, .int p1, .int p2, .int p3]) ++ List.replicate (5 - (lg_sl ([.ref h0, .int p1, .int p2, .int p3])).length) Slot.unset).toArray = ls at hl ⊢
  have hl : lv_has ls 5 [(0, .ref h0), (1, .int p1), (2, .int p2), (3, .int p3)] := hl
  have hP : va_P (dC, dI) vwCl [(h0, .inr (8, [.ref a0_marks, .ref a0_classes, .int 0, .ref a0_isSort, .ref a0_nodes, .ref a0_many, .int 0, .ref a0_in, .int 0, .int 0, .int 0, .ref a0_asked, .ref a0_turned, .int 0, .int (-1), .int (-1), .ref a0_heap, .ref a0_heapYes, .ref a0_path, .ref a0_bestWrong, .ref a0_bestAsked, .ref a0_bestMark, .ref a0_bestV]))] s.heap := hP
  refine lv_aload_n hx hb dX8_node_0 rfl (lv_at hl 0 rfl) ?_
  refine lv_iload_n hx hb dX8_node_1 rfl (lv_at hl 1 rfl) ?_
  have hPc := hP.sub (ws' := [(h0, .inr (8, [.ref a0_marks, .ref a0_classes, .int 0, .ref a0_isSort, .ref a0_nodes, .ref a0_many, .int 0, .ref a0_in, .int 0, .int 0, .int 0, .ref a0_asked, .ref a0_turned, .int 0, .int (-1), .int (-1), .ref a0_heap, .ref a0_heapYes, .ref a0_path, .ref a0_bestWrong, .ref a0_bestAsked, .ref a0_bestMark, .ref a0_bestV]))]) [0] rfl
  have hDc := hD.sub (ws' := [(h0, .inr (8, [.ref a0_marks, .ref a0_classes, .int 0, .ref a0_isSort, .ref a0_nodes, .ref a0_many, .int 0, .ref a0_in, .int 0, .int 0, .int 0, .ref a0_asked, .ref a0_turned, .int 0, .int (-1), .int (-1), .ref a0_heap, .ref a0_heapYes, .ref a0_path, .ref a0_bestWrong, .ref a0_bestAsked, .ref a0_bestMark, .ref a0_bestV]))]) [0] (by decide) rfl
  have hKc := hK.sub (tys' := []) [] rfl
  have hFc := va_free (wc := [(h0, .inr (8, [.ref a0_marks, .ref a0_classes, .int 0, .ref a0_isSort, .ref a0_nodes, .ref a0_many, .int 0, .ref a0_in, .int 0, .int 0, .int 0, .ref a0_asked, .ref a0_turned, .int 0, .int (-1), .int (-1), .ref a0_heap, .ref a0_heapYes, .ref a0_path, .ref a0_bestWrong, .ref a0_bestAsked, .ref a0_bestMark, .ref a0_bestV]))]) hD hS hA [0] rfl
  refine va_calli (va_runV (As := [.int p1]) (rest := []) ⟨hx, hb, hml, hown, hts⟩ (c_isTree l dC dI s.heap.size h0 p1 a0_marks a0_classes a0_isSort a0_nodes a0_many a0_in a0_asked a0_turned a0_heap a0_heapYes a0_path a0_bestWrong a0_bestAsked a0_bestMark a0_bestV ) (cwV 1 hts gX8_node_X8_isTree rfl rfl rfl (by decide +kernel) ⟨Nat.le_of_ble_eq_true rfl, Nat.le_of_ble_eq_true rfl⟩) (pre_V hPc hKc hDc hN (ci := 8) (q0 := 0) rfl rfl) rfl rfl hl.1 rfl (lv_room (Nat.le_of_ble_eq_true rfl)) dX8_node_2 ⟨Nat.le_of_ble_eq_true rfl, Nat.le_of_ble_eq_true rfl⟩) hS (fun q _ h => hFc q h) hFc (fun r_1 u t H1 locs ht hvm hw hB hz1 hk1 hS => ?_)
  clear hPc hDc hKc
  obtain ⟨rfl, rfl⟩ := hw
  obtain ⟨hP1, hK1, hD1⟩ := hB
  rw [ht] at hP1
  obtain ⟨hP, hD⟩ := va_join (wr := []) (w1 := [(h0, .inr (8, [.ref a0_marks, .ref a0_classes, .int 0, .ref a0_isSort, .ref a0_nodes, .ref a0_many, .int 0, .ref a0_in, .int 0, .int 0, .int 0, .ref a0_asked, .ref a0_turned, .int 0, .int (-1), .int (-1), .ref a0_heap, .ref a0_heapYes, .ref a0_path, .ref a0_bestWrong, .ref a0_bestAsked, .ref a0_bestMark, .ref a0_bestV]))]) hP hD [0] [] rfl rfl (by decide) (by decide) hk1 hFc hP1 hD1
  generalize H1 = H at hP hS ⊢
  clear hP1 hD1 hFc hk1 hz1 ht hvm hK1
  have hP : va_P (dC, dI) vwCl [(h0, .inr (8, [.ref a0_marks, .ref a0_classes, .int 0, .ref a0_isSort, .ref a0_nodes, .ref a0_many, .int 0, .ref a0_in, .int 0, .int 0, .int 0, .ref a0_asked, .ref a0_turned, .int 0, .int (-1), .int (-1), .ref a0_heap, .ref a0_heapYes, .ref a0_path, .ref a0_bestWrong, .ref a0_bestAsked, .ref a0_bestMark, .ref a0_bestV]))] H := hP
  have hD : va_D A [(h0, .inr (8, [.ref a0_marks, .ref a0_classes, .int 0, .ref a0_isSort, .ref a0_nodes, .ref a0_many, .int 0, .ref a0_in, .int 0, .int 0, .int 0, .ref a0_asked, .ref a0_turned, .int 0, .int (-1), .int (-1), .ref a0_heap, .ref a0_heapYes, .ref a0_path, .ref a0_bestWrong, .ref a0_bestAsked, .ref a0_bestMark, .ref a0_bestV]))] := hD
  refine lv_if_eq (tgt := 32) hx hb dX8_node_5 (by decide) (fun c_2 => ?_) (fun c_2 => ?_)
  rotate_left
  · exact absurd c_2 (by decide)
  refine lv_iconst (v := (-1)) hx hb dX8_node_32 (by decide) ?_
  exact W.iret (v := (-1)) hx hb hr (fun t ht hW => ⟨⟨(-1), (), rfl, rfl, trivial⟩, hS.F ht⟩) hS.2.2 dX8_node_33

set_option maxHeartbeats 4000000 in
set_option maxRecDepth 100000 in
theorem c_m_share (l : Launch) (dC : Nat → ClassId) (dI : Nat → Nat → Nat) (sz : Nat) (h0 : Nat) (p1 : Int32) (p2 : Int32) (p3 : Int32) (a0_marks : Nat) (a0_classes : Nat) (a0_isSort : Nat) (a0_nodes : Nat) (a0_many : Nat) (a0_in : Nat) (a0_asked : Nat) (a0_turned : Nat) (a0_heap : Nat) (a0_heapYes : Nat) (a0_path : Nat) (a0_bestWrong : Nat) (a0_bestAsked : Nat) (a0_bestMark : Nat) (a0_bestV : Nat)   : Met l yX8_share wsX8_share ({ frames := 2, cells := 0, slots := 0, locals := 81 }) (va_Pc [.ref h0, .int p1, .int p2, .int p3] (pw (dC, dI) [] [(h0, .inr (8, [.ref a0_marks, .ref a0_classes, .int 0, .ref a0_isSort, .ref a0_nodes, .ref a0_many, .int 0, .ref a0_in, .int 0, .int 0, .int 0, .ref a0_asked, .ref a0_turned, .int 0, .int (-1), .int (-1), .ref a0_heap, .ref a0_heapYes, .ref a0_path, .ref a0_bestWrong, .ref a0_bestAsked, .ref a0_bestMark, .ref a0_bestV]))] sz)) (va_Qi (fun (r : Int32) (_ : Unit) => r = (-1)) (fun _ _ => True) (va_A [(h0, .inr (8, [.ref a0_marks, .ref a0_classes, .int 0, .ref a0_isSort, .ref a0_nodes, .ref a0_many, .int 0, .ref a0_in, .int 0, .int 0, .int 0, .ref a0_asked, .ref a0_turned, .int 0, .int (-1), .int (-1), .ref a0_heap, .ref a0_heapYes, .ref a0_path, .ref a0_bestWrong, .ref a0_bestAsked, .ref a0_bestMark, .ref a0_bestV]))] sz)) 0 0 (va_A [(h0, .inr (8, [.ref a0_marks, .ref a0_classes, .int 0, .ref a0_isSort, .ref a0_nodes, .ref a0_many, .int 0, .ref a0_in, .int 0, .int 0, .int 0, .ref a0_asked, .ref a0_turned, .int 0, .int (-1), .int (-1), .ref a0_heap, .ref a0_heapYes, .ref a0_path, .ref a0_bestWrong, .ref a0_bestAsked, .ref a0_bestMark, .ref a0_bestV]))] sz) := by
  refine Met.ofW (cc := cX8_share) (maxL := 4) (ret := (some .int)) (by decide) rfl ?_
  intro p e s m args below meth c s₁ B hml hv
  obtain ⟨rfl, hsz, hP, hK, hD0, hN⟩ := hv
  have hx := B.exec
  have hb := B.bytes
  have hr := B.returns
  have hts := atoms_spec (ws := wsX8_share) B.pre
  have hown : s.vm.findClass RX8 = some m.cls := findClass_of_methodNamed B.named
  have hlocks := B.notSynchronized
  have hi8 : ∀ w ∈ u_ws RX8 TX8 23, w ∈ wsX8_share := fun _ h => List.mem_cons_of_mem _ (List.mem_append_right _ h)
  subst hsz
  have hD := hD0.self (sz := s.heap.size)
  generalize hAe : va_A [(h0, .inr (8, [.ref a0_marks, .ref a0_classes, .int 0, .ref a0_isSort, .ref a0_nodes, .ref a0_many, .int 0, .ref a0_in, .int 0, .int 0, .int 0, .ref a0_asked, .ref a0_turned, .int 0, .int (-1), .int (-1), .ref a0_heap, .ref a0_heapYes, .ref a0_path, .ref a0_bestWrong, .ref a0_bestAsked, .ref a0_bestMark, .ref a0_bestV]))] s.heap.size = A at hD ⊢
  have hA : ∀ q : Nat, s.heap.size ≤ q → A q := fun q h => by rw [← hAe]; exact Or.inr h
  have hS : va_S A s.heap s.heap [] := va_S.rf
  have hl := lv_entry ([.ref h0, .int p1, .int p2, .int p3]) (n := 4) (Nat.le_of_ble_eq_true rfl)
  rw [lg_entry_eq]
  generalize (lg_sl ([.ref h0, .int p1, .int p2, .int p3]) ++ List.replicate (4 - (lg_sl ([.ref h0, .int p1, .int p2, .int p3])).length) Slot.unset).toArray = ls at hl ⊢
  have hl : lv_has ls 4 [(0, .ref h0), (1, .int p1), (2, .int p2), (3, .int p3)] := hl
  have hP : va_P (dC, dI) vwCl [(h0, .inr (8, [.ref a0_marks, .ref a0_classes, .int 0, .ref a0_isSort, .ref a0_nodes, .ref a0_many, .int 0, .ref a0_in, .int 0, .int 0, .int 0, .ref a0_asked, .ref a0_turned, .int 0, .int (-1), .int (-1), .ref a0_heap, .ref a0_heapYes, .ref a0_path, .ref a0_bestWrong, .ref a0_bestAsked, .ref a0_bestMark, .ref a0_bestV]))] s.heap := hP
  refine lv_aload_n hx hb dX8_share_0 rfl (lv_at hl 0 rfl) ?_
  refine lv_iload_n hx hb dX8_share_1 rfl (lv_at hl 1 rfl) ?_
  have hPc := hP.sub (ws' := [(h0, .inr (8, [.ref a0_marks, .ref a0_classes, .int 0, .ref a0_isSort, .ref a0_nodes, .ref a0_many, .int 0, .ref a0_in, .int 0, .int 0, .int 0, .ref a0_asked, .ref a0_turned, .int 0, .int (-1), .int (-1), .ref a0_heap, .ref a0_heapYes, .ref a0_path, .ref a0_bestWrong, .ref a0_bestAsked, .ref a0_bestMark, .ref a0_bestV]))]) [0] rfl
  have hDc := hD.sub (ws' := [(h0, .inr (8, [.ref a0_marks, .ref a0_classes, .int 0, .ref a0_isSort, .ref a0_nodes, .ref a0_many, .int 0, .ref a0_in, .int 0, .int 0, .int 0, .ref a0_asked, .ref a0_turned, .int 0, .int (-1), .int (-1), .ref a0_heap, .ref a0_heapYes, .ref a0_path, .ref a0_bestWrong, .ref a0_bestAsked, .ref a0_bestMark, .ref a0_bestV]))]) [0] (by decide) rfl
  have hKc := hK.sub (tys' := []) [] rfl
  have hFc := va_free (wc := [(h0, .inr (8, [.ref a0_marks, .ref a0_classes, .int 0, .ref a0_isSort, .ref a0_nodes, .ref a0_many, .int 0, .ref a0_in, .int 0, .int 0, .int 0, .ref a0_asked, .ref a0_turned, .int 0, .int (-1), .int (-1), .ref a0_heap, .ref a0_heapYes, .ref a0_path, .ref a0_bestWrong, .ref a0_bestAsked, .ref a0_bestMark, .ref a0_bestV]))]) hD hS hA [0] rfl
  refine va_calli (va_runV (As := [.int p1]) (rest := []) ⟨hx, hb, hml, hown, hts⟩ (c_isTree l dC dI s.heap.size h0 p1 a0_marks a0_classes a0_isSort a0_nodes a0_many a0_in a0_asked a0_turned a0_heap a0_heapYes a0_path a0_bestWrong a0_bestAsked a0_bestMark a0_bestV ) (cwV 1 hts gX8_share_X8_isTree rfl rfl rfl (by decide +kernel) ⟨Nat.le_of_ble_eq_true rfl, Nat.le_of_ble_eq_true rfl⟩) (pre_V hPc hKc hDc hN (ci := 8) (q0 := 0) rfl rfl) rfl rfl hl.1 rfl (lv_room (Nat.le_of_ble_eq_true rfl)) dX8_share_2 ⟨Nat.le_of_ble_eq_true rfl, Nat.le_of_ble_eq_true rfl⟩) hS (fun q _ h => hFc q h) hFc (fun r_1 u t H1 locs ht hvm hw hB hz1 hk1 hS => ?_)
  clear hPc hDc hKc
  obtain ⟨rfl, rfl⟩ := hw
  obtain ⟨hP1, hK1, hD1⟩ := hB
  rw [ht] at hP1
  obtain ⟨hP, hD⟩ := va_join (wr := []) (w1 := [(h0, .inr (8, [.ref a0_marks, .ref a0_classes, .int 0, .ref a0_isSort, .ref a0_nodes, .ref a0_many, .int 0, .ref a0_in, .int 0, .int 0, .int 0, .ref a0_asked, .ref a0_turned, .int 0, .int (-1), .int (-1), .ref a0_heap, .ref a0_heapYes, .ref a0_path, .ref a0_bestWrong, .ref a0_bestAsked, .ref a0_bestMark, .ref a0_bestV]))]) hP hD [0] [] rfl rfl (by decide) (by decide) hk1 hFc hP1 hD1
  generalize H1 = H at hP hS ⊢
  clear hP1 hD1 hFc hk1 hz1 ht hvm hK1
  have hP : va_P (dC, dI) vwCl [(h0, .inr (8, [.ref a0_marks, .ref a0_classes, .int 0, .ref a0_isSort, .ref a0_nodes, .ref a0_many, .int 0, .ref a0_in, .int 0, .int 0, .int 0, .ref a0_asked, .ref a0_turned, .int 0, .int (-1), .int (-1), .ref a0_heap, .ref a0_heapYes, .ref a0_path, .ref a0_bestWrong, .ref a0_bestAsked, .ref a0_bestMark, .ref a0_bestV]))] H := hP
  have hD : va_D A [(h0, .inr (8, [.ref a0_marks, .ref a0_classes, .int 0, .ref a0_isSort, .ref a0_nodes, .ref a0_many, .int 0, .ref a0_in, .int 0, .int 0, .int 0, .ref a0_asked, .ref a0_turned, .int 0, .int (-1), .int (-1), .ref a0_heap, .ref a0_heapYes, .ref a0_path, .ref a0_bestWrong, .ref a0_bestAsked, .ref a0_bestMark, .ref a0_bestV]))] := hD
  refine lv_if_eq (tgt := 31) hx hb dX8_share_5 (by decide) (fun c_2 => ?_) (fun c_2 => ?_)
  rotate_left
  · exact absurd c_2 (by decide)
  refine lv_iconst (v := (-1)) hx hb dX8_share_31 (by decide) ?_
  exact W.iret (v := (-1)) hx hb hr (fun t ht hW => ⟨⟨(-1), (), rfl, rfl, trivial⟩, hS.F ht⟩) hS.2.2 dX8_share_32

set_option maxHeartbeats 4000000 in
set_option maxRecDepth 100000 in
theorem c_m_say (l : Launch) (dC : Nat → ClassId) (dI : Nat → Nat → Nat) (sz : Nat) (h0 : Nat) (p1 : Int32) (p2 : Int32) (p3 : Int32) (p4 : Int32) (p5 : Int32) (a0_marks : Nat) (a0_classes : Nat) (a0_isSort : Nat) (a0_nodes : Nat) (a0_many : Nat) (a0_in : Nat) (a0_asked : Nat) (a0_turned : Nat) (a0_heap : Nat) (a0_heapYes : Nat) (a0_path : Nat) (a0_bestWrong : Nat) (a0_bestAsked : Nat) (a0_bestMark : Nat) (a0_bestV : Nat)   : Met l yX8_say wsX8_say ({ frames := 2, cells := 0, slots := 0, locals := 81 }) (va_Pc [.ref h0, .int p1, .int p2, .int p3, .int p4, .int p5] (pw (dC, dI) [] [(h0, .inr (8, [.ref a0_marks, .ref a0_classes, .int 0, .ref a0_isSort, .ref a0_nodes, .ref a0_many, .int 0, .ref a0_in, .int 0, .int 0, .int 0, .ref a0_asked, .ref a0_turned, .int 0, .int (-1), .int (-1), .ref a0_heap, .ref a0_heapYes, .ref a0_path, .ref a0_bestWrong, .ref a0_bestAsked, .ref a0_bestMark, .ref a0_bestV]))] sz)) (va_Qi (fun (r : Int32) (_ : Unit) => r = (-1)) (fun _ _ => True) (va_A [(h0, .inr (8, [.ref a0_marks, .ref a0_classes, .int 0, .ref a0_isSort, .ref a0_nodes, .ref a0_many, .int 0, .ref a0_in, .int 0, .int 0, .int 0, .ref a0_asked, .ref a0_turned, .int 0, .int (-1), .int (-1), .ref a0_heap, .ref a0_heapYes, .ref a0_path, .ref a0_bestWrong, .ref a0_bestAsked, .ref a0_bestMark, .ref a0_bestV]))] sz)) 0 0 (va_A [(h0, .inr (8, [.ref a0_marks, .ref a0_classes, .int 0, .ref a0_isSort, .ref a0_nodes, .ref a0_many, .int 0, .ref a0_in, .int 0, .int 0, .int 0, .ref a0_asked, .ref a0_turned, .int 0, .int (-1), .int (-1), .ref a0_heap, .ref a0_heapYes, .ref a0_path, .ref a0_bestWrong, .ref a0_bestAsked, .ref a0_bestMark, .ref a0_bestV]))] sz) := by
  refine Met.ofW (cc := cX8_say) (maxL := 6) (ret := (some .int)) (by decide) rfl ?_
  intro p e s m args below meth c s₁ B hml hv
  obtain ⟨rfl, hsz, hP, hK, hD0, hN⟩ := hv
  have hx := B.exec
  have hb := B.bytes
  have hr := B.returns
  have hts := atoms_spec (ws := wsX8_say) B.pre
  have hown : s.vm.findClass RX8 = some m.cls := findClass_of_methodNamed B.named
  have hlocks := B.notSynchronized
  have hi8 : ∀ w ∈ u_ws RX8 TX8 23, w ∈ wsX8_say := fun _ h => List.mem_cons_of_mem _ (List.mem_append_right _ h)
  subst hsz
  have hD := hD0.self (sz := s.heap.size)
  generalize hAe : va_A [(h0, .inr (8, [.ref a0_marks, .ref a0_classes, .int 0, .ref a0_isSort, .ref a0_nodes, .ref a0_many, .int 0, .ref a0_in, .int 0, .int 0, .int 0, .ref a0_asked, .ref a0_turned, .int 0, .int (-1), .int (-1), .ref a0_heap, .ref a0_heapYes, .ref a0_path, .ref a0_bestWrong, .ref a0_bestAsked, .ref a0_bestMark, .ref a0_bestV]))] s.heap.size = A at hD ⊢
  have hA : ∀ q : Nat, s.heap.size ≤ q → A q := fun q h => by rw [← hAe]; exact Or.inr h
  have hS : va_S A s.heap s.heap [] := va_S.rf
  have hl := lv_entry ([.ref h0, .int p1, .int p2, .int p3, .int p4, .int p5]) (n := 6) (Nat.le_of_ble_eq_true rfl)
  rw [lg_entry_eq]
  generalize (lg_sl ([.ref h0, .int p1, .int p2, .int p3, .int p4, .int p5]) ++ List.replicate (6 - (lg_sl ([.ref h0, .int p1, .int p2, .int p3, .int p4, .int p5])).length) Slot.unset).toArray = ls at hl ⊢
  have hl : lv_has ls 6 [(0, .ref h0), (1, .int p1), (2, .int p2), (3, .int p3), (4, .int p4), (5, .int p5)] := hl
  have hP : va_P (dC, dI) vwCl [(h0, .inr (8, [.ref a0_marks, .ref a0_classes, .int 0, .ref a0_isSort, .ref a0_nodes, .ref a0_many, .int 0, .ref a0_in, .int 0, .int 0, .int 0, .ref a0_asked, .ref a0_turned, .int 0, .int (-1), .int (-1), .ref a0_heap, .ref a0_heapYes, .ref a0_path, .ref a0_bestWrong, .ref a0_bestAsked, .ref a0_bestMark, .ref a0_bestV]))] s.heap := hP
  refine lv_aload_n hx hb dX8_say_0 rfl (lv_at hl 0 rfl) ?_
  refine lv_iload_n hx hb dX8_say_1 rfl (lv_at hl 1 rfl) ?_
  have hPc := hP.sub (ws' := [(h0, .inr (8, [.ref a0_marks, .ref a0_classes, .int 0, .ref a0_isSort, .ref a0_nodes, .ref a0_many, .int 0, .ref a0_in, .int 0, .int 0, .int 0, .ref a0_asked, .ref a0_turned, .int 0, .int (-1), .int (-1), .ref a0_heap, .ref a0_heapYes, .ref a0_path, .ref a0_bestWrong, .ref a0_bestAsked, .ref a0_bestMark, .ref a0_bestV]))]) [0] rfl
  have hDc := hD.sub (ws' := [(h0, .inr (8, [.ref a0_marks, .ref a0_classes, .int 0, .ref a0_isSort, .ref a0_nodes, .ref a0_many, .int 0, .ref a0_in, .int 0, .int 0, .int 0, .ref a0_asked, .ref a0_turned, .int 0, .int (-1), .int (-1), .ref a0_heap, .ref a0_heapYes, .ref a0_path, .ref a0_bestWrong, .ref a0_bestAsked, .ref a0_bestMark, .ref a0_bestV]))]) [0] (by decide) rfl
  have hKc := hK.sub (tys' := []) [] rfl
  have hFc := va_free (wc := [(h0, .inr (8, [.ref a0_marks, .ref a0_classes, .int 0, .ref a0_isSort, .ref a0_nodes, .ref a0_many, .int 0, .ref a0_in, .int 0, .int 0, .int 0, .ref a0_asked, .ref a0_turned, .int 0, .int (-1), .int (-1), .ref a0_heap, .ref a0_heapYes, .ref a0_path, .ref a0_bestWrong, .ref a0_bestAsked, .ref a0_bestMark, .ref a0_bestV]))]) hD hS hA [0] rfl
  refine va_calli (va_runV (As := [.int p1]) (rest := []) ⟨hx, hb, hml, hown, hts⟩ (c_isTree l dC dI s.heap.size h0 p1 a0_marks a0_classes a0_isSort a0_nodes a0_many a0_in a0_asked a0_turned a0_heap a0_heapYes a0_path a0_bestWrong a0_bestAsked a0_bestMark a0_bestV ) (cwV 1 hts gX8_say_X8_isTree rfl rfl rfl (by decide +kernel) ⟨Nat.le_of_ble_eq_true rfl, Nat.le_of_ble_eq_true rfl⟩) (pre_V hPc hKc hDc hN (ci := 8) (q0 := 0) rfl rfl) rfl rfl hl.1 rfl (lv_room (Nat.le_of_ble_eq_true rfl)) dX8_say_2 ⟨Nat.le_of_ble_eq_true rfl, Nat.le_of_ble_eq_true rfl⟩) hS (fun q _ h => hFc q h) hFc (fun r_1 u t H1 locs ht hvm hw hB hz1 hk1 hS => ?_)
  clear hPc hDc hKc
  obtain ⟨rfl, rfl⟩ := hw
  obtain ⟨hP1, hK1, hD1⟩ := hB
  rw [ht] at hP1
  obtain ⟨hP, hD⟩ := va_join (wr := []) (w1 := [(h0, .inr (8, [.ref a0_marks, .ref a0_classes, .int 0, .ref a0_isSort, .ref a0_nodes, .ref a0_many, .int 0, .ref a0_in, .int 0, .int 0, .int 0, .ref a0_asked, .ref a0_turned, .int 0, .int (-1), .int (-1), .ref a0_heap, .ref a0_heapYes, .ref a0_path, .ref a0_bestWrong, .ref a0_bestAsked, .ref a0_bestMark, .ref a0_bestV]))]) hP hD [0] [] rfl rfl (by decide) (by decide) hk1 hFc hP1 hD1
  generalize H1 = H at hP hS ⊢
  clear hP1 hD1 hFc hk1 hz1 ht hvm hK1
  have hP : va_P (dC, dI) vwCl [(h0, .inr (8, [.ref a0_marks, .ref a0_classes, .int 0, .ref a0_isSort, .ref a0_nodes, .ref a0_many, .int 0, .ref a0_in, .int 0, .int 0, .int 0, .ref a0_asked, .ref a0_turned, .int 0, .int (-1), .int (-1), .ref a0_heap, .ref a0_heapYes, .ref a0_path, .ref a0_bestWrong, .ref a0_bestAsked, .ref a0_bestMark, .ref a0_bestV]))] H := hP
  have hD : va_D A [(h0, .inr (8, [.ref a0_marks, .ref a0_classes, .int 0, .ref a0_isSort, .ref a0_nodes, .ref a0_many, .int 0, .ref a0_in, .int 0, .int 0, .int 0, .ref a0_asked, .ref a0_turned, .int 0, .int (-1), .int (-1), .ref a0_heap, .ref a0_heapYes, .ref a0_path, .ref a0_bestWrong, .ref a0_bestAsked, .ref a0_bestMark, .ref a0_bestV]))] := hD
  refine lv_if_eq (tgt := 22) hx hb dX8_say_5 (by decide) (fun c_2 => ?_) (fun c_2 => ?_)
  rotate_left
  · exact absurd c_2 (by decide)
  refine lv_iconst (v := (-1)) hx hb dX8_say_22 (by decide) ?_
  exact W.iret (v := (-1)) hx hb hr (fun t ht hW => ⟨⟨(-1), (), rfl, rfl, trivial⟩, hS.F ht⟩) hS.2.2 dX8_say_23

set_option maxHeartbeats 4000000 in
set_option maxRecDepth 100000 in
theorem c_m_said (l : Launch) (dC : Nat → ClassId) (dI : Nat → Nat → Nat) (sz : Nat) (h0 : Nat) (a0_marks : Nat) (a0_classes : Nat) (a0_isSort : Nat) (a0_nodes : Nat) (a0_many : Nat) (a0_in : Nat) (a0_asked : Nat) (a0_turned : Nat) (a0_heap : Nat) (a0_heapYes : Nat) (a0_path : Nat) (a0_bestWrong : Nat) (a0_bestAsked : Nat) (a0_bestMark : Nat) (a0_bestV : Nat)   : Met l yX8_said wsX8_said ({ frames := 1, cells := 0, slots := 0, locals := 60 }) (va_Pc [.ref h0] (pw (dC, dI) [] [(h0, .inr (8, [.ref a0_marks, .ref a0_classes, .int 0, .ref a0_isSort, .ref a0_nodes, .ref a0_many, .int 0, .ref a0_in, .int 0, .int 0, .int 0, .ref a0_asked, .ref a0_turned, .int 0, .int (-1), .int (-1), .ref a0_heap, .ref a0_heapYes, .ref a0_path, .ref a0_bestWrong, .ref a0_bestAsked, .ref a0_bestMark, .ref a0_bestV]))] sz)) (va_Qi (fun (r : Int32) (_ : Unit) => r = (-1)) (fun _ _ => True) (va_A [(h0, .inr (8, [.ref a0_marks, .ref a0_classes, .int 0, .ref a0_isSort, .ref a0_nodes, .ref a0_many, .int 0, .ref a0_in, .int 0, .int 0, .int 0, .ref a0_asked, .ref a0_turned, .int 0, .int (-1), .int (-1), .ref a0_heap, .ref a0_heapYes, .ref a0_path, .ref a0_bestWrong, .ref a0_bestAsked, .ref a0_bestMark, .ref a0_bestV]))] sz)) 0 0 (va_A [(h0, .inr (8, [.ref a0_marks, .ref a0_classes, .int 0, .ref a0_isSort, .ref a0_nodes, .ref a0_many, .int 0, .ref a0_in, .int 0, .int 0, .int 0, .ref a0_asked, .ref a0_turned, .int 0, .int (-1), .int (-1), .ref a0_heap, .ref a0_heapYes, .ref a0_path, .ref a0_bestWrong, .ref a0_bestAsked, .ref a0_bestMark, .ref a0_bestV]))] sz) := by
  refine Met.ofW (cc := cX8_said) (maxL := 1) (ret := (some .int)) (by decide) rfl ?_
  intro p e s m args below meth c s₁ B hml hv
  obtain ⟨rfl, hsz, hP, hK, hD0, hN⟩ := hv
  have hx := B.exec
  have hb := B.bytes
  have hr := B.returns
  have hts := atoms_spec (ws := wsX8_said) B.pre
  have hown : s.vm.findClass RX8 = some m.cls := findClass_of_methodNamed B.named
  have hlocks := B.notSynchronized
  have hi8 : ∀ w ∈ u_ws RX8 TX8 23, w ∈ wsX8_said := fun _ h => List.mem_cons_of_mem _ (List.mem_append_right _ h)
  subst hsz
  have hD := hD0.self (sz := s.heap.size)
  generalize hAe : va_A [(h0, .inr (8, [.ref a0_marks, .ref a0_classes, .int 0, .ref a0_isSort, .ref a0_nodes, .ref a0_many, .int 0, .ref a0_in, .int 0, .int 0, .int 0, .ref a0_asked, .ref a0_turned, .int 0, .int (-1), .int (-1), .ref a0_heap, .ref a0_heapYes, .ref a0_path, .ref a0_bestWrong, .ref a0_bestAsked, .ref a0_bestMark, .ref a0_bestV]))] s.heap.size = A at hD ⊢
  have hA : ∀ q : Nat, s.heap.size ≤ q → A q := fun q h => by rw [← hAe]; exact Or.inr h
  have hS : va_S A s.heap s.heap [] := va_S.rf
  have hl := lv_entry ([.ref h0]) (n := 1) (Nat.le_of_ble_eq_true rfl)
  rw [lg_entry_eq]
  generalize (lg_sl ([.ref h0]) ++ List.replicate (1 - (lg_sl ([.ref h0])).length) Slot.unset).toArray = ls at hl ⊢
  have hl : lv_has ls 1 [(0, .ref h0)] := hl
  have hP : va_P (dC, dI) vwCl [(h0, .inr (8, [.ref a0_marks, .ref a0_classes, .int 0, .ref a0_isSort, .ref a0_nodes, .ref a0_many, .int 0, .ref a0_in, .int 0, .int 0, .int 0, .ref a0_asked, .ref a0_turned, .int 0, .int (-1), .int (-1), .ref a0_heap, .ref a0_heapYes, .ref a0_path, .ref a0_bestWrong, .ref a0_bestAsked, .ref a0_bestMark, .ref a0_bestV]))] s.heap := hP
  refine lv_aload_n hx hb dX8_said_0 rfl (lv_at hl 0 rfl) ?_
  refine va_get (D := (dC, dI)) (ci := 8) (v := .int (-1)) (C := RX8) (T := TX8) (N := 23) hx hb hts hi8 hown hK hP 0 rfl rfl 14 (by decide) (hts (.fieldLink RX8 36 "AskTreeModel" "saidLeaf" "I") (by decide +kernel)) (fun _ h9 => h9) rfl dX8_said_1 ?_
  exact W.iret (v := (-1)) hx hb hr (fun t ht hW => ⟨⟨(-1), (), rfl, rfl, trivial⟩, hS.F ht⟩) hS.2.2 dX8_said_4

set_option maxHeartbeats 4000000 in
set_option maxRecDepth 100000 in
theorem c_m_vote (l : Launch) (dC : Nat → ClassId) (dI : Nat → Nat → Nat) (sz : Nat) (h0 : Nat) (p1 : Int32) (p2 : Int32) (p3 : Int32) (p4 : Int32) (a0_marks : Nat) (a0_classes : Nat) (a0_isSort : Nat) (a0_nodes : Nat) (a0_many : Nat) (a0_in : Nat) (a0_asked : Nat) (a0_turned : Nat) (a0_heap : Nat) (a0_heapYes : Nat) (a0_path : Nat) (a0_bestWrong : Nat) (a0_bestAsked : Nat) (a0_bestMark : Nat) (a0_bestV : Nat)   : Met l yX8_vote wsX8_vote ({ frames := 1, cells := 0, slots := 0, locals := 60 }) (va_Pc [.ref h0, .int p1, .int p2, .int p3, .int p4] (pw (dC, dI) [] [(h0, .inr (8, [.ref a0_marks, .ref a0_classes, .int 0, .ref a0_isSort, .ref a0_nodes, .ref a0_many, .int 0, .ref a0_in, .int 0, .int 0, .int 0, .ref a0_asked, .ref a0_turned, .int 0, .int (-1), .int (-1), .ref a0_heap, .ref a0_heapYes, .ref a0_path, .ref a0_bestWrong, .ref a0_bestAsked, .ref a0_bestMark, .ref a0_bestV]))] sz)) (va_Qi (fun (r : Int32) (_ : Unit) => r = (-1)) (fun _ _ => True) (va_A [(h0, .inr (8, [.ref a0_marks, .ref a0_classes, .int 0, .ref a0_isSort, .ref a0_nodes, .ref a0_many, .int 0, .ref a0_in, .int 0, .int 0, .int 0, .ref a0_asked, .ref a0_turned, .int 0, .int (-1), .int (-1), .ref a0_heap, .ref a0_heapYes, .ref a0_path, .ref a0_bestWrong, .ref a0_bestAsked, .ref a0_bestMark, .ref a0_bestV]))] sz)) 0 0 (va_A [(h0, .inr (8, [.ref a0_marks, .ref a0_classes, .int 0, .ref a0_isSort, .ref a0_nodes, .ref a0_many, .int 0, .ref a0_in, .int 0, .int 0, .int 0, .ref a0_asked, .ref a0_turned, .int 0, .int (-1), .int (-1), .ref a0_heap, .ref a0_heapYes, .ref a0_path, .ref a0_bestWrong, .ref a0_bestAsked, .ref a0_bestMark, .ref a0_bestV]))] sz) := by
  refine Met.ofW (cc := cX8_vote) (maxL := 7) (ret := (some .int)) (by decide) rfl ?_
  intro p e s m args below meth c s₁ B hml hv
  obtain ⟨rfl, hsz, hP, hK, hD0, hN⟩ := hv
  have hx := B.exec
  have hb := B.bytes
  have hr := B.returns
  have hts := atoms_spec (ws := wsX8_vote) B.pre
  have hown : s.vm.findClass RX8 = some m.cls := findClass_of_methodNamed B.named
  have hlocks := B.notSynchronized
  have hi8 : ∀ w ∈ u_ws RX8 TX8 23, w ∈ wsX8_vote := fun _ h => List.mem_cons_of_mem _ (List.mem_append_right _ h)
  subst hsz
  have hD := hD0.self (sz := s.heap.size)
  generalize hAe : va_A [(h0, .inr (8, [.ref a0_marks, .ref a0_classes, .int 0, .ref a0_isSort, .ref a0_nodes, .ref a0_many, .int 0, .ref a0_in, .int 0, .int 0, .int 0, .ref a0_asked, .ref a0_turned, .int 0, .int (-1), .int (-1), .ref a0_heap, .ref a0_heapYes, .ref a0_path, .ref a0_bestWrong, .ref a0_bestAsked, .ref a0_bestMark, .ref a0_bestV]))] s.heap.size = A at hD ⊢
  have hA : ∀ q : Nat, s.heap.size ≤ q → A q := fun q h => by rw [← hAe]; exact Or.inr h
  have hS : va_S A s.heap s.heap [] := va_S.rf
  have hl := lv_entry ([.ref h0, .int p1, .int p2, .int p3, .int p4]) (n := 7) (Nat.le_of_ble_eq_true rfl)
  rw [lg_entry_eq]
  generalize (lg_sl ([.ref h0, .int p1, .int p2, .int p3, .int p4]) ++ List.replicate (7 - (lg_sl ([.ref h0, .int p1, .int p2, .int p3, .int p4])).length) Slot.unset).toArray = ls at hl ⊢
  have hl : lv_has ls 7 [(0, .ref h0), (1, .int p1), (2, .int p2), (3, .int p3), (4, .int p4)] := hl
  have hP : va_P (dC, dI) vwCl [(h0, .inr (8, [.ref a0_marks, .ref a0_classes, .int 0, .ref a0_isSort, .ref a0_nodes, .ref a0_many, .int 0, .ref a0_in, .int 0, .int 0, .int 0, .ref a0_asked, .ref a0_turned, .int 0, .int (-1), .int (-1), .ref a0_heap, .ref a0_heapYes, .ref a0_path, .ref a0_bestWrong, .ref a0_bestAsked, .ref a0_bestMark, .ref a0_bestV]))] s.heap := hP
  refine lv_aload_n hx hb dX8_vote_0 rfl (lv_at hl 0 rfl) ?_
  refine va_get (D := (dC, dI)) (ci := 8) (v := .int 0) (C := RX8) (T := TX8) (N := 23) hx hb hts hi8 hown hK hP 0 rfl rfl 6 (by decide) (hts (.fieldLink RX8 67 "AskTreeModel" "trees" "I") (by decide +kernel)) (fun _ h9 => h9) rfl dX8_vote_1 ?_
  refine lv_if_eq (tgt := 20) hx hb dX8_vote_4 (by decide) (fun c_1 => ?_) (fun c_1 => ?_)
  rotate_left
  · exact absurd c_1 (by decide)
  refine lv_iconst (v := (-1)) hx hb dX8_vote_20 (by decide) ?_
  exact W.iret (v := (-1)) hx hb hr (fun t ht hW => ⟨⟨(-1), (), rfl, rfl, trivial⟩, hS.F ht⟩) hS.2.2 dX8_vote_21

set_option maxHeartbeats 4000000 in
set_option maxRecDepth 100000 in
theorem c_m_voices (l : Launch) (dC : Nat → ClassId) (dI : Nat → Nat → Nat) (sz : Nat) (h0 : Nat) (a0_marks : Nat) (a0_classes : Nat) (a0_isSort : Nat) (a0_nodes : Nat) (a0_many : Nat) (a0_in : Nat) (a0_asked : Nat) (a0_turned : Nat) (a0_heap : Nat) (a0_heapYes : Nat) (a0_path : Nat) (a0_bestWrong : Nat) (a0_bestAsked : Nat) (a0_bestMark : Nat) (a0_bestV : Nat)   : Met l yX8_voices wsX8_voices ({ frames := 1, cells := 0, slots := 0, locals := 60 }) (va_Pc [.ref h0] (pw (dC, dI) [] [(h0, .inr (8, [.ref a0_marks, .ref a0_classes, .int 0, .ref a0_isSort, .ref a0_nodes, .ref a0_many, .int 0, .ref a0_in, .int 0, .int 0, .int 0, .ref a0_asked, .ref a0_turned, .int 0, .int (-1), .int (-1), .ref a0_heap, .ref a0_heapYes, .ref a0_path, .ref a0_bestWrong, .ref a0_bestAsked, .ref a0_bestMark, .ref a0_bestV]))] sz)) (va_Qi (fun (r : Int32) (_ : Unit) => r = (-1)) (fun _ _ => True) (va_A [(h0, .inr (8, [.ref a0_marks, .ref a0_classes, .int 0, .ref a0_isSort, .ref a0_nodes, .ref a0_many, .int 0, .ref a0_in, .int 0, .int 0, .int 0, .ref a0_asked, .ref a0_turned, .int 0, .int (-1), .int (-1), .ref a0_heap, .ref a0_heapYes, .ref a0_path, .ref a0_bestWrong, .ref a0_bestAsked, .ref a0_bestMark, .ref a0_bestV]))] sz)) 0 0 (va_A [(h0, .inr (8, [.ref a0_marks, .ref a0_classes, .int 0, .ref a0_isSort, .ref a0_nodes, .ref a0_many, .int 0, .ref a0_in, .int 0, .int 0, .int 0, .ref a0_asked, .ref a0_turned, .int 0, .int (-1), .int (-1), .ref a0_heap, .ref a0_heapYes, .ref a0_path, .ref a0_bestWrong, .ref a0_bestAsked, .ref a0_bestMark, .ref a0_bestV]))] sz) := by
  refine Met.ofW (cc := cX8_voices) (maxL := 1) (ret := (some .int)) (by decide) rfl ?_
  intro p e s m args below meth c s₁ B hml hv
  obtain ⟨rfl, hsz, hP, hK, hD0, hN⟩ := hv
  have hx := B.exec
  have hb := B.bytes
  have hr := B.returns
  have hts := atoms_spec (ws := wsX8_voices) B.pre
  have hown : s.vm.findClass RX8 = some m.cls := findClass_of_methodNamed B.named
  have hlocks := B.notSynchronized
  have hi8 : ∀ w ∈ u_ws RX8 TX8 23, w ∈ wsX8_voices := fun _ h => List.mem_cons_of_mem _ (List.mem_append_right _ h)
  subst hsz
  have hD := hD0.self (sz := s.heap.size)
  generalize hAe : va_A [(h0, .inr (8, [.ref a0_marks, .ref a0_classes, .int 0, .ref a0_isSort, .ref a0_nodes, .ref a0_many, .int 0, .ref a0_in, .int 0, .int 0, .int 0, .ref a0_asked, .ref a0_turned, .int 0, .int (-1), .int (-1), .ref a0_heap, .ref a0_heapYes, .ref a0_path, .ref a0_bestWrong, .ref a0_bestAsked, .ref a0_bestMark, .ref a0_bestV]))] s.heap.size = A at hD ⊢
  have hA : ∀ q : Nat, s.heap.size ≤ q → A q := fun q h => by rw [← hAe]; exact Or.inr h
  have hS : va_S A s.heap s.heap [] := va_S.rf
  have hl := lv_entry ([.ref h0]) (n := 1) (Nat.le_of_ble_eq_true rfl)
  rw [lg_entry_eq]
  generalize (lg_sl ([.ref h0]) ++ List.replicate (1 - (lg_sl ([.ref h0])).length) Slot.unset).toArray = ls at hl ⊢
  have hl : lv_has ls 1 [(0, .ref h0)] := hl
  have hP : va_P (dC, dI) vwCl [(h0, .inr (8, [.ref a0_marks, .ref a0_classes, .int 0, .ref a0_isSort, .ref a0_nodes, .ref a0_many, .int 0, .ref a0_in, .int 0, .int 0, .int 0, .ref a0_asked, .ref a0_turned, .int 0, .int (-1), .int (-1), .ref a0_heap, .ref a0_heapYes, .ref a0_path, .ref a0_bestWrong, .ref a0_bestAsked, .ref a0_bestMark, .ref a0_bestV]))] s.heap := hP
  refine lv_aload_n hx hb dX8_voices_0 rfl (lv_at hl 0 rfl) ?_
  refine va_get (D := (dC, dI)) (ci := 8) (v := .int (-1)) (C := RX8) (T := TX8) (N := 23) hx hb hts hi8 hown hK hP 0 rfl rfl 15 (by decide) (hts (.fieldLink RX8 40 "AskTreeModel" "voices" "I") (by decide +kernel)) (fun _ h9 => h9) rfl dX8_voices_1 ?_
  exact W.iret (v := (-1)) hx hb hr (fun t ht hW => ⟨⟨(-1), (), rfl, rfl, trivial⟩, hS.F ht⟩) hS.2.2 dX8_voices_4

set_option maxHeartbeats 4000000 in
set_option maxRecDepth 100000 in
theorem c_m_rule (l : Launch) (dC : Nat → ClassId) (dI : Nat → Nat → Nat) (sz : Nat) (h0 : Nat) (p1 : Int32) (p2 : Int32) (p3 : Int32) (p4 : Int32) (a0_marks : Nat) (a0_classes : Nat) (a0_isSort : Nat) (a0_nodes : Nat) (a0_many : Nat) (a0_in : Nat) (a0_asked : Nat) (a0_turned : Nat) (a0_heap : Nat) (a0_heapYes : Nat) (a0_path : Nat) (a0_bestWrong : Nat) (a0_bestAsked : Nat) (a0_bestMark : Nat) (a0_bestV : Nat)   : Met l yX8_rule wsX8_rule ({ frames := 2, cells := 0, slots := 0, locals := 81 }) (va_Pc [.ref h0, .int p1, .int p2, .int p3, .int p4] (pw (dC, dI) [] [(h0, .inr (8, [.ref a0_marks, .ref a0_classes, .int 0, .ref a0_isSort, .ref a0_nodes, .ref a0_many, .int 0, .ref a0_in, .int 0, .int 0, .int 0, .ref a0_asked, .ref a0_turned, .int 0, .int (-1), .int (-1), .ref a0_heap, .ref a0_heapYes, .ref a0_path, .ref a0_bestWrong, .ref a0_bestAsked, .ref a0_bestMark, .ref a0_bestV]))] sz)) (va_Qi (fun (r : Int32) (_ : Unit) => r = (-40000)) (fun _ _ => True) (va_A [(h0, .inr (8, [.ref a0_marks, .ref a0_classes, .int 0, .ref a0_isSort, .ref a0_nodes, .ref a0_many, .int 0, .ref a0_in, .int 0, .int 0, .int 0, .ref a0_asked, .ref a0_turned, .int 0, .int (-1), .int (-1), .ref a0_heap, .ref a0_heapYes, .ref a0_path, .ref a0_bestWrong, .ref a0_bestAsked, .ref a0_bestMark, .ref a0_bestV]))] sz)) 0 0 (va_A [(h0, .inr (8, [.ref a0_marks, .ref a0_classes, .int 0, .ref a0_isSort, .ref a0_nodes, .ref a0_many, .int 0, .ref a0_in, .int 0, .int 0, .int 0, .ref a0_asked, .ref a0_turned, .int 0, .int (-1), .int (-1), .ref a0_heap, .ref a0_heapYes, .ref a0_path, .ref a0_bestWrong, .ref a0_bestAsked, .ref a0_bestMark, .ref a0_bestV]))] sz) := by
  refine Met.ofW (cc := cX8_rule) (maxL := 5) (ret := (some .int)) (by decide) rfl ?_
  intro p e s m args below meth c s₁ B hml hv
  obtain ⟨rfl, hsz, hP, hK, hD0, hN⟩ := hv
  have hx := B.exec
  have hb := B.bytes
  have hr := B.returns
  have hts := atoms_spec (ws := wsX8_rule) B.pre
  have hown : s.vm.findClass RX8 = some m.cls := findClass_of_methodNamed B.named
  have hlocks := B.notSynchronized
  have hi8 : ∀ w ∈ u_ws RX8 TX8 23, w ∈ wsX8_rule := fun _ h => List.mem_cons_of_mem _ (List.mem_append_right _ h)
  subst hsz
  have hD := hD0.self (sz := s.heap.size)
  generalize hAe : va_A [(h0, .inr (8, [.ref a0_marks, .ref a0_classes, .int 0, .ref a0_isSort, .ref a0_nodes, .ref a0_many, .int 0, .ref a0_in, .int 0, .int 0, .int 0, .ref a0_asked, .ref a0_turned, .int 0, .int (-1), .int (-1), .ref a0_heap, .ref a0_heapYes, .ref a0_path, .ref a0_bestWrong, .ref a0_bestAsked, .ref a0_bestMark, .ref a0_bestV]))] s.heap.size = A at hD ⊢
  have hA : ∀ q : Nat, s.heap.size ≤ q → A q := fun q h => by rw [← hAe]; exact Or.inr h
  have hS : va_S A s.heap s.heap [] := va_S.rf
  have hl := lv_entry ([.ref h0, .int p1, .int p2, .int p3, .int p4]) (n := 5) (Nat.le_of_ble_eq_true rfl)
  rw [lg_entry_eq]
  generalize (lg_sl ([.ref h0, .int p1, .int p2, .int p3, .int p4]) ++ List.replicate (5 - (lg_sl ([.ref h0, .int p1, .int p2, .int p3, .int p4])).length) Slot.unset).toArray = ls at hl ⊢
  have hl : lv_has ls 5 [(0, .ref h0), (1, .int p1), (2, .int p2), (3, .int p3), (4, .int p4)] := hl
  have hP : va_P (dC, dI) vwCl [(h0, .inr (8, [.ref a0_marks, .ref a0_classes, .int 0, .ref a0_isSort, .ref a0_nodes, .ref a0_many, .int 0, .ref a0_in, .int 0, .int 0, .int 0, .ref a0_asked, .ref a0_turned, .int 0, .int (-1), .int (-1), .ref a0_heap, .ref a0_heapYes, .ref a0_path, .ref a0_bestWrong, .ref a0_bestAsked, .ref a0_bestMark, .ref a0_bestV]))] s.heap := hP
  refine lv_aload_n hx hb dX8_rule_0 rfl (lv_at hl 0 rfl) ?_
  refine lv_iload_n hx hb dX8_rule_1 rfl (lv_at hl 1 rfl) ?_
  have hPc := hP.sub (ws' := [(h0, .inr (8, [.ref a0_marks, .ref a0_classes, .int 0, .ref a0_isSort, .ref a0_nodes, .ref a0_many, .int 0, .ref a0_in, .int 0, .int 0, .int 0, .ref a0_asked, .ref a0_turned, .int 0, .int (-1), .int (-1), .ref a0_heap, .ref a0_heapYes, .ref a0_path, .ref a0_bestWrong, .ref a0_bestAsked, .ref a0_bestMark, .ref a0_bestV]))]) [0] rfl
  have hDc := hD.sub (ws' := [(h0, .inr (8, [.ref a0_marks, .ref a0_classes, .int 0, .ref a0_isSort, .ref a0_nodes, .ref a0_many, .int 0, .ref a0_in, .int 0, .int 0, .int 0, .ref a0_asked, .ref a0_turned, .int 0, .int (-1), .int (-1), .ref a0_heap, .ref a0_heapYes, .ref a0_path, .ref a0_bestWrong, .ref a0_bestAsked, .ref a0_bestMark, .ref a0_bestV]))]) [0] (by decide) rfl
  have hKc := hK.sub (tys' := []) [] rfl
  have hFc := va_free (wc := [(h0, .inr (8, [.ref a0_marks, .ref a0_classes, .int 0, .ref a0_isSort, .ref a0_nodes, .ref a0_many, .int 0, .ref a0_in, .int 0, .int 0, .int 0, .ref a0_asked, .ref a0_turned, .int 0, .int (-1), .int (-1), .ref a0_heap, .ref a0_heapYes, .ref a0_path, .ref a0_bestWrong, .ref a0_bestAsked, .ref a0_bestMark, .ref a0_bestV]))]) hD hS hA [0] rfl
  refine va_calli (va_runV (As := [.int p1]) (rest := []) ⟨hx, hb, hml, hown, hts⟩ (c_isTree l dC dI s.heap.size h0 p1 a0_marks a0_classes a0_isSort a0_nodes a0_many a0_in a0_asked a0_turned a0_heap a0_heapYes a0_path a0_bestWrong a0_bestAsked a0_bestMark a0_bestV ) (cwV 1 hts gX8_rule_X8_isTree rfl rfl rfl (by decide +kernel) ⟨Nat.le_of_ble_eq_true rfl, Nat.le_of_ble_eq_true rfl⟩) (pre_V hPc hKc hDc hN (ci := 8) (q0 := 0) rfl rfl) rfl rfl hl.1 rfl (lv_room (Nat.le_of_ble_eq_true rfl)) dX8_rule_2 ⟨Nat.le_of_ble_eq_true rfl, Nat.le_of_ble_eq_true rfl⟩) hS (fun q _ h => hFc q h) hFc (fun r_1 u t H1 locs ht hvm hw hB hz1 hk1 hS => ?_)
  clear hPc hDc hKc
  obtain ⟨rfl, rfl⟩ := hw
  obtain ⟨hP1, hK1, hD1⟩ := hB
  rw [ht] at hP1
  obtain ⟨hP, hD⟩ := va_join (wr := []) (w1 := [(h0, .inr (8, [.ref a0_marks, .ref a0_classes, .int 0, .ref a0_isSort, .ref a0_nodes, .ref a0_many, .int 0, .ref a0_in, .int 0, .int 0, .int 0, .ref a0_asked, .ref a0_turned, .int 0, .int (-1), .int (-1), .ref a0_heap, .ref a0_heapYes, .ref a0_path, .ref a0_bestWrong, .ref a0_bestAsked, .ref a0_bestMark, .ref a0_bestV]))]) hP hD [0] [] rfl rfl (by decide) (by decide) hk1 hFc hP1 hD1
  generalize H1 = H at hP hS ⊢
  clear hP1 hD1 hFc hk1 hz1 ht hvm hK1
  have hP : va_P (dC, dI) vwCl [(h0, .inr (8, [.ref a0_marks, .ref a0_classes, .int 0, .ref a0_isSort, .ref a0_nodes, .ref a0_many, .int 0, .ref a0_in, .int 0, .int 0, .int 0, .ref a0_asked, .ref a0_turned, .int 0, .int (-1), .int (-1), .ref a0_heap, .ref a0_heapYes, .ref a0_path, .ref a0_bestWrong, .ref a0_bestAsked, .ref a0_bestMark, .ref a0_bestV]))] H := hP
  have hD : va_D A [(h0, .inr (8, [.ref a0_marks, .ref a0_classes, .int 0, .ref a0_isSort, .ref a0_nodes, .ref a0_many, .int 0, .ref a0_in, .int 0, .int 0, .int 0, .ref a0_asked, .ref a0_turned, .int 0, .int (-1), .int (-1), .ref a0_heap, .ref a0_heapYes, .ref a0_path, .ref a0_bestWrong, .ref a0_bestAsked, .ref a0_bestMark, .ref a0_bestV]))] := hD
  refine lv_if_eq (tgt := 56) hx hb dX8_rule_5 (by decide) (fun c_2 => ?_) (fun c_2 => ?_)
  rotate_left
  · exact absurd c_2 (by decide)
  refine lv_ldc (v := (-40000)) hx hb hown (hts (.constant RX8 74 (-40000)) (by decide +kernel)) dX8_rule_56 ?_
  exact W.iret (v := (-40000)) hx hb hr (fun t ht hW => ⟨⟨(-40000), (), rfl, rfl, trivial⟩, hS.F ht⟩) hS.2.2 dX8_rule_58

set_option maxHeartbeats 4000000 in
set_option maxRecDepth 100000 in
theorem c_m_near (l : Launch) (dC : Nat → ClassId) (dI : Nat → Nat → Nat) (sz : Nat) (h0 : Nat) (p1 : Int32) (p2 : Int32) (p3 : Int32) (p4 : Int32) (p5 : Int32) (a0_marks : Nat) (a0_classes : Nat) (a0_isSort : Nat) (a0_nodes : Nat) (a0_many : Nat) (a0_in : Nat) (a0_asked : Nat) (a0_turned : Nat) (a0_heap : Nat) (a0_heapYes : Nat) (a0_path : Nat) (a0_bestWrong : Nat) (a0_bestAsked : Nat) (a0_bestMark : Nat) (a0_bestV : Nat)   : Met l yX8_near wsX8_near ({ frames := 2, cells := 0, slots := 0, locals := 81 }) (va_Pc [.ref h0, .int p1, .int p2, .int p3, .int p4, .int p5] (pw (dC, dI) [] [(h0, .inr (8, [.ref a0_marks, .ref a0_classes, .int 0, .ref a0_isSort, .ref a0_nodes, .ref a0_many, .int 0, .ref a0_in, .int 0, .int 0, .int 0, .ref a0_asked, .ref a0_turned, .int 0, .int (-1), .int (-1), .ref a0_heap, .ref a0_heapYes, .ref a0_path, .ref a0_bestWrong, .ref a0_bestAsked, .ref a0_bestMark, .ref a0_bestV]))] sz)) (va_Qi (fun (r : Int32) (_ : Unit) => r = (-1)) (fun _ _ => True) (va_A [(h0, .inr (8, [.ref a0_marks, .ref a0_classes, .int 0, .ref a0_isSort, .ref a0_nodes, .ref a0_many, .int 0, .ref a0_in, .int 0, .int 0, .int 0, .ref a0_asked, .ref a0_turned, .int 0, .int (-1), .int (-1), .ref a0_heap, .ref a0_heapYes, .ref a0_path, .ref a0_bestWrong, .ref a0_bestAsked, .ref a0_bestMark, .ref a0_bestV]))] sz)) 0 0 (va_A [(h0, .inr (8, [.ref a0_marks, .ref a0_classes, .int 0, .ref a0_isSort, .ref a0_nodes, .ref a0_many, .int 0, .ref a0_in, .int 0, .int 0, .int 0, .ref a0_asked, .ref a0_turned, .int 0, .int (-1), .int (-1), .ref a0_heap, .ref a0_heapYes, .ref a0_path, .ref a0_bestWrong, .ref a0_bestAsked, .ref a0_bestMark, .ref a0_bestV]))] sz) := by
  refine Met.ofW (cc := cX8_near) (maxL := 17) (ret := (some .int)) (by decide) rfl ?_
  intro p e s m args below meth c s₁ B hml hv
  obtain ⟨rfl, hsz, hP, hK, hD0, hN⟩ := hv
  have hx := B.exec
  have hb := B.bytes
  have hr := B.returns
  have hts := atoms_spec (ws := wsX8_near) B.pre
  have hown : s.vm.findClass RX8 = some m.cls := findClass_of_methodNamed B.named
  have hlocks := B.notSynchronized
  have hi8 : ∀ w ∈ u_ws RX8 TX8 23, w ∈ wsX8_near := fun _ h => List.mem_cons_of_mem _ (List.mem_append_right _ h)
  subst hsz
  have hD := hD0.self (sz := s.heap.size)
  generalize hAe : va_A [(h0, .inr (8, [.ref a0_marks, .ref a0_classes, .int 0, .ref a0_isSort, .ref a0_nodes, .ref a0_many, .int 0, .ref a0_in, .int 0, .int 0, .int 0, .ref a0_asked, .ref a0_turned, .int 0, .int (-1), .int (-1), .ref a0_heap, .ref a0_heapYes, .ref a0_path, .ref a0_bestWrong, .ref a0_bestAsked, .ref a0_bestMark, .ref a0_bestV]))] s.heap.size = A at hD ⊢
  have hA : ∀ q : Nat, s.heap.size ≤ q → A q := fun q h => by rw [← hAe]; exact Or.inr h
  have hS : va_S A s.heap s.heap [] := va_S.rf
  have hl := lv_entry ([.ref h0, .int p1, .int p2, .int p3, .int p4, .int p5]) (n := 17) (Nat.le_of_ble_eq_true rfl)
  rw [lg_entry_eq]
  generalize (lg_sl ([.ref h0, .int p1, .int p2, .int p3, .int p4, .int p5]) ++ List.replicate (17 - (lg_sl ([.ref h0, .int p1, .int p2, .int p3, .int p4, .int p5])).length) Slot.unset).toArray = ls at hl ⊢
  have hl : lv_has ls 17 [(0, .ref h0), (1, .int p1), (2, .int p2), (3, .int p3), (4, .int p4), (5, .int p5)] := hl
  have hP : va_P (dC, dI) vwCl [(h0, .inr (8, [.ref a0_marks, .ref a0_classes, .int 0, .ref a0_isSort, .ref a0_nodes, .ref a0_many, .int 0, .ref a0_in, .int 0, .int 0, .int 0, .ref a0_asked, .ref a0_turned, .int 0, .int (-1), .int (-1), .ref a0_heap, .ref a0_heapYes, .ref a0_path, .ref a0_bestWrong, .ref a0_bestAsked, .ref a0_bestMark, .ref a0_bestV]))] s.heap := hP
  refine lv_aload_n hx hb dX8_near_0 rfl (lv_at hl 0 rfl) ?_
  refine lv_iload_n hx hb dX8_near_1 rfl (lv_at hl 1 rfl) ?_
  have hPc := hP.sub (ws' := [(h0, .inr (8, [.ref a0_marks, .ref a0_classes, .int 0, .ref a0_isSort, .ref a0_nodes, .ref a0_many, .int 0, .ref a0_in, .int 0, .int 0, .int 0, .ref a0_asked, .ref a0_turned, .int 0, .int (-1), .int (-1), .ref a0_heap, .ref a0_heapYes, .ref a0_path, .ref a0_bestWrong, .ref a0_bestAsked, .ref a0_bestMark, .ref a0_bestV]))]) [0] rfl
  have hDc := hD.sub (ws' := [(h0, .inr (8, [.ref a0_marks, .ref a0_classes, .int 0, .ref a0_isSort, .ref a0_nodes, .ref a0_many, .int 0, .ref a0_in, .int 0, .int 0, .int 0, .ref a0_asked, .ref a0_turned, .int 0, .int (-1), .int (-1), .ref a0_heap, .ref a0_heapYes, .ref a0_path, .ref a0_bestWrong, .ref a0_bestAsked, .ref a0_bestMark, .ref a0_bestV]))]) [0] (by decide) rfl
  have hKc := hK.sub (tys' := []) [] rfl
  have hFc := va_free (wc := [(h0, .inr (8, [.ref a0_marks, .ref a0_classes, .int 0, .ref a0_isSort, .ref a0_nodes, .ref a0_many, .int 0, .ref a0_in, .int 0, .int 0, .int 0, .ref a0_asked, .ref a0_turned, .int 0, .int (-1), .int (-1), .ref a0_heap, .ref a0_heapYes, .ref a0_path, .ref a0_bestWrong, .ref a0_bestAsked, .ref a0_bestMark, .ref a0_bestV]))]) hD hS hA [0] rfl
  refine va_calli (va_runV (As := [.int p1]) (rest := []) ⟨hx, hb, hml, hown, hts⟩ (c_isTree l dC dI s.heap.size h0 p1 a0_marks a0_classes a0_isSort a0_nodes a0_many a0_in a0_asked a0_turned a0_heap a0_heapYes a0_path a0_bestWrong a0_bestAsked a0_bestMark a0_bestV ) (cwV 1 hts gX8_near_X8_isTree rfl rfl rfl (by decide +kernel) ⟨Nat.le_of_ble_eq_true rfl, Nat.le_of_ble_eq_true rfl⟩) (pre_V hPc hKc hDc hN (ci := 8) (q0 := 0) rfl rfl) rfl rfl hl.1 rfl (lv_room (Nat.le_of_ble_eq_true rfl)) dX8_near_2 ⟨Nat.le_of_ble_eq_true rfl, Nat.le_of_ble_eq_true rfl⟩) hS (fun q _ h => hFc q h) hFc (fun r_1 u t H1 locs ht hvm hw hB hz1 hk1 hS => ?_)
  clear hPc hDc hKc
  obtain ⟨rfl, rfl⟩ := hw
  obtain ⟨hP1, hK1, hD1⟩ := hB
  rw [ht] at hP1
  obtain ⟨hP, hD⟩ := va_join (wr := []) (w1 := [(h0, .inr (8, [.ref a0_marks, .ref a0_classes, .int 0, .ref a0_isSort, .ref a0_nodes, .ref a0_many, .int 0, .ref a0_in, .int 0, .int 0, .int 0, .ref a0_asked, .ref a0_turned, .int 0, .int (-1), .int (-1), .ref a0_heap, .ref a0_heapYes, .ref a0_path, .ref a0_bestWrong, .ref a0_bestAsked, .ref a0_bestMark, .ref a0_bestV]))]) hP hD [0] [] rfl rfl (by decide) (by decide) hk1 hFc hP1 hD1
  generalize H1 = H at hP hS ⊢
  clear hP1 hD1 hFc hk1 hz1 ht hvm hK1
  have hP : va_P (dC, dI) vwCl [(h0, .inr (8, [.ref a0_marks, .ref a0_classes, .int 0, .ref a0_isSort, .ref a0_nodes, .ref a0_many, .int 0, .ref a0_in, .int 0, .int 0, .int 0, .ref a0_asked, .ref a0_turned, .int 0, .int (-1), .int (-1), .ref a0_heap, .ref a0_heapYes, .ref a0_path, .ref a0_bestWrong, .ref a0_bestAsked, .ref a0_bestMark, .ref a0_bestV]))] H := hP
  have hD : va_D A [(h0, .inr (8, [.ref a0_marks, .ref a0_classes, .int 0, .ref a0_isSort, .ref a0_nodes, .ref a0_many, .int 0, .ref a0_in, .int 0, .int 0, .int 0, .ref a0_asked, .ref a0_turned, .int 0, .int (-1), .int (-1), .ref a0_heap, .ref a0_heapYes, .ref a0_path, .ref a0_bestWrong, .ref a0_bestAsked, .ref a0_bestMark, .ref a0_bestV]))] := hD
  refine lv_if_eq (tgt := 22) hx hb dX8_near_5 (by decide) (fun c_2 => ?_) (fun c_2 => ?_)
  rotate_left
  · exact absurd c_2 (by decide)
  refine lv_iconst (v := (-1)) hx hb dX8_near_22 (by decide) ?_
  exact W.iret (v := (-1)) hx hb hr (fun t ht hW => ⟨⟨(-1), (), rfl, rfl, trivial⟩, hS.F ht⟩) hS.2.2 dX8_near_23

set_option maxHeartbeats 4000000 in
set_option maxRecDepth 100000 in
theorem c_m_turned (l : Launch) (dC : Nat → ClassId) (dI : Nat → Nat → Nat) (sz : Nat) (h0 : Nat) (p1 : Int32) (a0_marks : Nat) (a0_classes : Nat) (a0_isSort : Nat) (a0_nodes : Nat) (a0_many : Nat) (a0_in : Nat) (a0_asked : Nat) (a0_turned : Nat) (a0_heap : Nat) (a0_heapYes : Nat) (a0_path : Nat) (a0_bestWrong : Nat) (a0_bestAsked : Nat) (a0_bestMark : Nat) (a0_bestV : Nat)   : Met l yX8_turned wsX8_turned ({ frames := 1, cells := 0, slots := 0, locals := 60 }) (va_Pc [.ref h0, .int p1] (pw (dC, dI) [] [(h0, .inr (8, [.ref a0_marks, .ref a0_classes, .int 0, .ref a0_isSort, .ref a0_nodes, .ref a0_many, .int 0, .ref a0_in, .int 0, .int 0, .int 0, .ref a0_asked, .ref a0_turned, .int 0, .int (-1), .int (-1), .ref a0_heap, .ref a0_heapYes, .ref a0_path, .ref a0_bestWrong, .ref a0_bestAsked, .ref a0_bestMark, .ref a0_bestV]))] sz)) (va_Qi (fun (r : Int32) (_ : Unit) => r = (-40000)) (fun _ _ => True) (va_A [(h0, .inr (8, [.ref a0_marks, .ref a0_classes, .int 0, .ref a0_isSort, .ref a0_nodes, .ref a0_many, .int 0, .ref a0_in, .int 0, .int 0, .int 0, .ref a0_asked, .ref a0_turned, .int 0, .int (-1), .int (-1), .ref a0_heap, .ref a0_heapYes, .ref a0_path, .ref a0_bestWrong, .ref a0_bestAsked, .ref a0_bestMark, .ref a0_bestV]))] sz)) 0 0 (va_A [(h0, .inr (8, [.ref a0_marks, .ref a0_classes, .int 0, .ref a0_isSort, .ref a0_nodes, .ref a0_many, .int 0, .ref a0_in, .int 0, .int 0, .int 0, .ref a0_asked, .ref a0_turned, .int 0, .int (-1), .int (-1), .ref a0_heap, .ref a0_heapYes, .ref a0_path, .ref a0_bestWrong, .ref a0_bestAsked, .ref a0_bestMark, .ref a0_bestV]))] sz) := by
  refine Met.ofW (cc := cX8_turned) (maxL := 2) (ret := (some .int)) (by decide) rfl ?_
  intro p e s m args below meth c s₁ B hml hv
  obtain ⟨rfl, hsz, hP, hK, hD0, hN⟩ := hv
  have hx := B.exec
  have hb := B.bytes
  have hr := B.returns
  have hts := atoms_spec (ws := wsX8_turned) B.pre
  have hown : s.vm.findClass RX8 = some m.cls := findClass_of_methodNamed B.named
  have hlocks := B.notSynchronized
  have hi8 : ∀ w ∈ u_ws RX8 TX8 23, w ∈ wsX8_turned := fun _ h => List.mem_cons_of_mem _ (List.mem_append_right _ h)
  subst hsz
  have hD := hD0.self (sz := s.heap.size)
  generalize hAe : va_A [(h0, .inr (8, [.ref a0_marks, .ref a0_classes, .int 0, .ref a0_isSort, .ref a0_nodes, .ref a0_many, .int 0, .ref a0_in, .int 0, .int 0, .int 0, .ref a0_asked, .ref a0_turned, .int 0, .int (-1), .int (-1), .ref a0_heap, .ref a0_heapYes, .ref a0_path, .ref a0_bestWrong, .ref a0_bestAsked, .ref a0_bestMark, .ref a0_bestV]))] s.heap.size = A at hD ⊢
  have hA : ∀ q : Nat, s.heap.size ≤ q → A q := fun q h => by rw [← hAe]; exact Or.inr h
  have hS : va_S A s.heap s.heap [] := va_S.rf
  have hl := lv_entry ([.ref h0, .int p1]) (n := 2) (Nat.le_of_ble_eq_true rfl)
  rw [lg_entry_eq]
  generalize (lg_sl ([.ref h0, .int p1]) ++ List.replicate (2 - (lg_sl ([.ref h0, .int p1])).length) Slot.unset).toArray = ls at hl ⊢
  have hl : lv_has ls 2 [(0, .ref h0), (1, .int p1)] := hl
  have hP : va_P (dC, dI) vwCl [(h0, .inr (8, [.ref a0_marks, .ref a0_classes, .int 0, .ref a0_isSort, .ref a0_nodes, .ref a0_many, .int 0, .ref a0_in, .int 0, .int 0, .int 0, .ref a0_asked, .ref a0_turned, .int 0, .int (-1), .int (-1), .ref a0_heap, .ref a0_heapYes, .ref a0_path, .ref a0_bestWrong, .ref a0_bestAsked, .ref a0_bestMark, .ref a0_bestV]))] s.heap := hP
  refine lv_aload_n hx hb dX8_turned_0 rfl (lv_at hl 0 rfl) ?_
  refine va_get (D := (dC, dI)) (ci := 8) (v := .int 0) (C := RX8) (T := TX8) (N := 23) hx hb hts hi8 hown hK hP 0 rfl rfl 13 (by decide) (hts (.fieldLink RX8 205 "AskTreeModel" "hasTurned" "Z") (by decide +kernel)) (fun _ h9 => h9) rfl dX8_turned_1 ?_
  refine lv_if_eq (tgt := 26) hx hb dX8_turned_4 (by decide) (fun c_1 => ?_) (fun c_1 => ?_)
  rotate_left
  · exact absurd c_1 (by decide)
  refine lv_ldc (v := (-40000)) hx hb hown (hts (.constant RX8 74 (-40000)) (by decide +kernel)) dX8_turned_26 ?_
  exact W.iret (v := (-40000)) hx hb hr (fun t ht hW => ⟨⟨(-40000), (), rfl, rfl, trivial⟩, hS.F ht⟩) hS.2.2 dX8_turned_28

theorem lf_m_count_1 (p1 : Int32) (e0 : ¬ p1 = 0) (e1 : ¬ p1 = 1) : ¬ (p1 = 0 ∨ p1 = 1) := by
  (try simp only [Int32.lt_iff_toInt_lt, Int32.le_iff_toInt_le, ← Int32.toInt_inj, ln_0, ln_1, ln_2, ln_3, ln_4, ln_6, ln_8, ln_10, ln_50, ln_100, ln_300, ln_1000, ln_m1000, ln_m32768, ln_m1, ln_m2, ln_m40000, ln_20] at *)
  all_goals omega
theorem lf_m_count_2 (p1 : Int32) (e0 : ¬ p1 = 0) (e1 : p1 = 1) : p1 = 0 ∨ p1 = 1 := by
  (try simp only [Int32.lt_iff_toInt_lt, Int32.le_iff_toInt_le, ← Int32.toInt_inj, ln_0, ln_1, ln_2, ln_3, ln_4, ln_6, ln_8, ln_10, ln_50, ln_100, ln_300, ln_1000, ln_m1000, ln_m32768, ln_m1, ln_m2, ln_m40000, ln_20] at *)
  all_goals omega
theorem lf_m_count_3 (p1 : Int32) (e0 : p1 = 0) : p1 = 0 ∨ p1 = 1 := by
  (try simp only [Int32.lt_iff_toInt_lt, Int32.le_iff_toInt_le, ← Int32.toInt_inj, ln_0, ln_1, ln_2, ln_3, ln_4, ln_6, ln_8, ln_10, ln_50, ln_100, ln_300, ln_1000, ln_m1000, ln_m32768, ln_m1, ln_m2, ln_m40000, ln_20] at *)
  all_goals omega
set_option maxHeartbeats 4000000 in
set_option maxRecDepth 100000 in
theorem c_m_count (l : Launch) (dC : Nat → ClassId) (dI : Nat → Nat → Nat) (sz : Nat) (h0 : Nat) (p1 : Int32) (a0_marks : Nat) (a0_classes : Nat) (a0_isSort : Nat) (a0_nodes : Nat) (a0_many : Nat) (a0_in : Nat) (a0_asked : Nat) (a0_turned : Nat) (a0_heap : Nat) (a0_heapYes : Nat) (a0_path : Nat) (a0_bestWrong : Nat) (a0_bestAsked : Nat) (a0_bestMark : Nat) (a0_bestV : Nat)   : Met l yX8_count wsX8_count ({ frames := 1, cells := 0, slots := 0, locals := 60 }) (va_Pc [.ref h0, .int p1] (pw (dC, dI) [] [(h0, .inr (8, [.ref a0_marks, .ref a0_classes, .int 0, .ref a0_isSort, .ref a0_nodes, .ref a0_many, .int 0, .ref a0_in, .int 0, .int 0, .int 0, .ref a0_asked, .ref a0_turned, .int 0, .int (-1), .int (-1), .ref a0_heap, .ref a0_heapYes, .ref a0_path, .ref a0_bestWrong, .ref a0_bestAsked, .ref a0_bestMark, .ref a0_bestV]))] sz)) (va_Qi (fun (r : Int32) (_ : Unit) => ((p1 = 0 ∨ p1 = 1) ∧ r = 0) ∨ (¬ (p1 = 0 ∨ p1 = 1) ∧ r = (-1))) (fun _ _ => True) (va_A [(h0, .inr (8, [.ref a0_marks, .ref a0_classes, .int 0, .ref a0_isSort, .ref a0_nodes, .ref a0_many, .int 0, .ref a0_in, .int 0, .int 0, .int 0, .ref a0_asked, .ref a0_turned, .int 0, .int (-1), .int (-1), .ref a0_heap, .ref a0_heapYes, .ref a0_path, .ref a0_bestWrong, .ref a0_bestAsked, .ref a0_bestMark, .ref a0_bestV]))] sz)) 0 0 (va_A [(h0, .inr (8, [.ref a0_marks, .ref a0_classes, .int 0, .ref a0_isSort, .ref a0_nodes, .ref a0_many, .int 0, .ref a0_in, .int 0, .int 0, .int 0, .ref a0_asked, .ref a0_turned, .int 0, .int (-1), .int (-1), .ref a0_heap, .ref a0_heapYes, .ref a0_path, .ref a0_bestWrong, .ref a0_bestAsked, .ref a0_bestMark, .ref a0_bestV]))] sz) := by
  refine Met.ofW (cc := cX8_count) (maxL := 2) (ret := (some .int)) (by decide) rfl ?_
  intro p e s m args below meth c s₁ B hml hv
  obtain ⟨rfl, hsz, hP, hK, hD0, hN⟩ := hv
  have hx := B.exec
  have hb := B.bytes
  have hr := B.returns
  have hts := atoms_spec (ws := wsX8_count) B.pre
  have hown : s.vm.findClass RX8 = some m.cls := findClass_of_methodNamed B.named
  have hlocks := B.notSynchronized
  have hi8 : ∀ w ∈ u_ws RX8 TX8 23, w ∈ wsX8_count := fun _ h => List.mem_cons_of_mem _ (List.mem_append_right _ h)
  subst hsz
  have hD := hD0.self (sz := s.heap.size)
  generalize hAe : va_A [(h0, .inr (8, [.ref a0_marks, .ref a0_classes, .int 0, .ref a0_isSort, .ref a0_nodes, .ref a0_many, .int 0, .ref a0_in, .int 0, .int 0, .int 0, .ref a0_asked, .ref a0_turned, .int 0, .int (-1), .int (-1), .ref a0_heap, .ref a0_heapYes, .ref a0_path, .ref a0_bestWrong, .ref a0_bestAsked, .ref a0_bestMark, .ref a0_bestV]))] s.heap.size = A at hD ⊢
  have hA : ∀ q : Nat, s.heap.size ≤ q → A q := fun q h => by rw [← hAe]; exact Or.inr h
  have hS : va_S A s.heap s.heap [] := va_S.rf
  have hl := lv_entry ([.ref h0, .int p1]) (n := 2) (Nat.le_of_ble_eq_true rfl)
  rw [lg_entry_eq]
  generalize (lg_sl ([.ref h0, .int p1]) ++ List.replicate (2 - (lg_sl ([.ref h0, .int p1])).length) Slot.unset).toArray = ls at hl ⊢
  have hl : lv_has ls 2 [(0, .ref h0), (1, .int p1)] := hl
  have hP : va_P (dC, dI) vwCl [(h0, .inr (8, [.ref a0_marks, .ref a0_classes, .int 0, .ref a0_isSort, .ref a0_nodes, .ref a0_many, .int 0, .ref a0_in, .int 0, .int 0, .int 0, .ref a0_asked, .ref a0_turned, .int 0, .int (-1), .int (-1), .ref a0_heap, .ref a0_heapYes, .ref a0_path, .ref a0_bestWrong, .ref a0_bestAsked, .ref a0_bestMark, .ref a0_bestV]))] s.heap := hP
  refine lv_iload_n hx hb dX8_count_0 rfl (lv_at hl 1 rfl) ?_
  refine lv_if_ne (tgt := 11) hx hb dX8_count_1 (by decide) (fun c_1 => ?_) (fun c_1 => ?_)
  · skip
    refine lv_iload_n hx hb dX8_count_11 rfl (lv_at hl 1 rfl) ?_
    refine lv_iconst (v := 1) hx hb dX8_count_12 (by decide) ?_
    refine lv_icmp_ne (tgt := 23) hx hb dX8_count_13 (by decide) (fun c_2 => ?_) (fun c_2 => ?_)
    · skip
      refine lv_iconst (v := (-1)) hx hb dX8_count_23 (by decide) ?_
      exact W.iret (v := (-1)) hx hb hr (fun t ht hW => ⟨⟨(-1), (), rfl, (Or.inr ⟨(lf_m_count_1 p1 c_1 c_2), rfl⟩), trivial⟩, hS.F ht⟩) hS.2.2 dX8_count_24
    · skip
      refine lv_aload_n hx hb dX8_count_16 rfl (lv_at hl 0 rfl) ?_
      refine va_get (D := (dC, dI)) (ci := 8) (v := .int 0) (C := RX8) (T := TX8) (N := 23) hx hb hts hi8 hown hK hP 0 rfl rfl 6 (by decide) (hts (.fieldLink RX8 67 "AskTreeModel" "trees" "I") (by decide +kernel)) (fun _ h9 => h9) rfl dX8_count_17 ?_
      refine lv_goto (tgt := 24) hx hb dX8_count_20 (by decide) ?_
      exact W.iret (v := 0) hx hb hr (fun t ht hW => ⟨⟨0, (), rfl, (Or.inl ⟨(lf_m_count_2 p1 c_1 c_2), rfl⟩), trivial⟩, hS.F ht⟩) hS.2.2 dX8_count_24
  · skip
    refine lv_aload_n hx hb dX8_count_4 rfl (lv_at hl 0 rfl) ?_
    refine va_get (D := (dC, dI)) (ci := 8) (v := .int 0) (C := RX8) (T := TX8) (N := 23) hx hb hts hi8 hown hK hP 0 rfl rfl 2 (by decide) (hts (.fieldLink RX8 64 "AskTreeModel" "cases" "I") (by decide +kernel)) (fun _ h9 => h9) rfl dX8_count_5 ?_
    refine lv_goto (tgt := 24) hx hb dX8_count_8 (by decide) ?_
    exact W.iret (v := 0) hx hb hr (fun t ht hW => ⟨⟨0, (), rfl, (Or.inl ⟨(lf_m_count_3 p1 c_1), rfl⟩), trivial⟩, hS.F ht⟩) hS.2.2 dX8_count_24
