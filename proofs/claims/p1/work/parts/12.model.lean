theorem lf_m_sort_1 (p1 : Int32) (e0 : ¬ p1 < 0) (e1 : ¬ 8 ≤ p1) : vp_in p1 8 := by
  rw [vp_in_iff]
  (try simp only [Int32.lt_iff_toInt_lt, Int32.le_iff_toInt_le, ← Int32.toInt_inj, ln_0, ln_1, ln_2, ln_3, ln_4, ln_6, ln_8, ln_10, ln_50, ln_100, ln_300, ln_1000, ln_m1000, ln_m32768, ln_m1, ln_m2, ln_m40000, ln_20] at *)
  all_goals omega
theorem lf_m_sort_2 (p1 : Int32) (e0 : ¬ p1 < 0) (e1 : ¬ 8 ≤ p1) : vp_in p1 8 := by
  rw [vp_in_iff]
  (try simp only [Int32.lt_iff_toInt_lt, Int32.le_iff_toInt_le, ← Int32.toInt_inj, ln_0, ln_1, ln_2, ln_3, ln_4, ln_6, ln_8, ln_10, ln_50, ln_100, ln_300, ln_1000, ln_m1000, ln_m32768, ln_m1, ln_m2, ln_m40000, ln_20] at *)
  all_goals omega
theorem lf_m_sort_3 (p1 : Int32) (e0 : ¬ p1 < 0) (e1 : ¬ 8 ≤ p1) : vp_in p1 8 := by
  rw [vp_in_iff]
  (try simp only [Int32.lt_iff_toInt_lt, Int32.le_iff_toInt_le, ← Int32.toInt_inj, ln_0, ln_1, ln_2, ln_3, ln_4, ln_6, ln_8, ln_10, ln_50, ln_100, ln_300, ln_1000, ln_m1000, ln_m32768, ln_m1, ln_m2, ln_m40000, ln_20] at *)
  all_goals omega
theorem lf_m_sort_4 (p1 : Int32) (p2 : Int32) (e0 : p1 < 0) : ¬ (0 ≤ p1 ∧ p1 < 8 ∧ 0 ≤ p2 ∧ p2 ≤ 1) := by
  (try simp only [Int32.lt_iff_toInt_lt, Int32.le_iff_toInt_le, ← Int32.toInt_inj, ln_0, ln_1, ln_2, ln_3, ln_4, ln_6, ln_8, ln_10, ln_50, ln_100, ln_300, ln_1000, ln_m1000, ln_m32768, ln_m1, ln_m2, ln_m40000, ln_20] at *)
  all_goals omega
theorem lf_m_sort_5 (p1 : Int32) (p2 : Int32) (e0 : ¬ p1 < 0) (e1 : 8 ≤ p1) : ¬ (0 ≤ p1 ∧ p1 < 8 ∧ 0 ≤ p2 ∧ p2 ≤ 1) := by
  (try simp only [Int32.lt_iff_toInt_lt, Int32.le_iff_toInt_le, ← Int32.toInt_inj, ln_0, ln_1, ln_2, ln_3, ln_4, ln_6, ln_8, ln_10, ln_50, ln_100, ln_300, ln_1000, ln_m1000, ln_m32768, ln_m1, ln_m2, ln_m40000, ln_20] at *)
  all_goals omega
theorem lf_m_sort_6 (p1 : Int32) (p2 : Int32) (e0 : ¬ p1 < 0) (e1 : ¬ 8 ≤ p1) (e2 : p2 < 0) : ¬ (0 ≤ p1 ∧ p1 < 8 ∧ 0 ≤ p2 ∧ p2 ≤ 1) := by
  (try simp only [Int32.lt_iff_toInt_lt, Int32.le_iff_toInt_le, ← Int32.toInt_inj, ln_0, ln_1, ln_2, ln_3, ln_4, ln_6, ln_8, ln_10, ln_50, ln_100, ln_300, ln_1000, ln_m1000, ln_m32768, ln_m1, ln_m2, ln_m40000, ln_20] at *)
  all_goals omega
theorem lf_m_sort_7 (p1 : Int32) (p2 : Int32) (e0 : ¬ p1 < 0) (e1 : ¬ 8 ≤ p1) (e2 : ¬ p2 < 0) (e3 : 1 < p2) : ¬ (0 ≤ p1 ∧ p1 < 8 ∧ 0 ≤ p2 ∧ p2 ≤ 1) := by
  (try simp only [Int32.lt_iff_toInt_lt, Int32.le_iff_toInt_le, ← Int32.toInt_inj, ln_0, ln_1, ln_2, ln_3, ln_4, ln_6, ln_8, ln_10, ln_50, ln_100, ln_300, ln_1000, ln_m1000, ln_m32768, ln_m1, ln_m2, ln_m40000, ln_20] at *)
  all_goals omega
theorem lf_m_sort_8 (p1 : Int32) (p2 : Int32) (e0 : ¬ p1 < 0) (e1 : ¬ 8 ≤ p1) (e2 : ¬ p2 < 0) (e3 : ¬ 1 < p2) (e4 : ¬ p2 = 1) : 0 ≤ p1 ∧ p1 < 8 ∧ 0 ≤ p2 ∧ p2 ≤ 1 := by
  (try simp only [Int32.lt_iff_toInt_lt, Int32.le_iff_toInt_le, ← Int32.toInt_inj, ln_0, ln_1, ln_2, ln_3, ln_4, ln_6, ln_8, ln_10, ln_50, ln_100, ln_300, ln_1000, ln_m1000, ln_m32768, ln_m1, ln_m2, ln_m40000, ln_20] at *)
  all_goals omega
theorem lf_m_sort_9 (p1 : Int32) (p2 : Int32) (e0 : ¬ p1 < 0) (e1 : ¬ 8 ≤ p1) (e2 : ¬ p2 < 0) (e3 : ¬ 1 < p2) (e4 : p2 = 1) : 0 ≤ p1 ∧ p1 < 8 ∧ 0 ≤ p2 ∧ p2 ≤ 1 := by
  (try simp only [Int32.lt_iff_toInt_lt, Int32.le_iff_toInt_le, ← Int32.toInt_inj, ln_0, ln_1, ln_2, ln_3, ln_4, ln_6, ln_8, ln_10, ln_50, ln_100, ln_300, ln_1000, ln_m1000, ln_m32768, ln_m1, ln_m2, ln_m40000, ln_20] at *)
  all_goals omega
set_option maxHeartbeats 4000000 in
set_option maxRecDepth 100000 in
theorem c_m_sort (l : Launch) (dC : Nat → ClassId) (dI : Nat → Nat → Nat) (sz : Nat) (h0 : Nat) (p1 : Int32) (p2 : Int32) (h0_isSort : Nat) (a0_marks : Nat) (a0_classes : Nat) (a0_nodes : Nat) (a0_many : Nat) (a0_in : Nat) (a0_asked : Nat) (a0_turned : Nat) (a0_heap : Nat) (a0_heapYes : Nat) (a0_path : Nat) (a0_bestWrong : Nat) (a0_bestAsked : Nat) (a0_bestMark : Nat) (a0_bestV : Nat) (k0_isSort : ClassId)   : Met l yX8_sort wsX8_sort ({ frames := 1, cells := 0, slots := 0, locals := 60 }) (va_Pc [.ref h0, .int p1, .int p2] (pw (dC, dI) [(k0_isSort, .boolean)] [(h0, .inr (8, [.ref a0_marks, .ref a0_classes, .int 0, .ref h0_isSort, .ref a0_nodes, .ref a0_many, .int 0, .ref a0_in, .int 0, .int 0, .int 0, .ref a0_asked, .ref a0_turned, .int 0, .int (-1), .int (-1), .ref a0_heap, .ref a0_heapYes, .ref a0_path, .ref a0_bestWrong, .ref a0_bestAsked, .ref a0_bestMark, .ref a0_bestV])), (h0_isSort, .inl (k0_isSort, 8, .inl (fun _ => 0)))] sz)) (va_Qi (fun (r : Int32) (_ : Unit) => ((0 ≤ p1 ∧ p1 < 8 ∧ 0 ≤ p2 ∧ p2 ≤ 1) ∧ r = 0) ∨ (¬ (0 ≤ p1 ∧ p1 < 8 ∧ 0 ≤ p2 ∧ p2 ≤ 1) ∧ r = (-1))) (fun _ _ => True) (va_A [(h0, .inr (8, [.ref a0_marks, .ref a0_classes, .int 0, .ref h0_isSort, .ref a0_nodes, .ref a0_many, .int 0, .ref a0_in, .int 0, .int 0, .int 0, .ref a0_asked, .ref a0_turned, .int 0, .int (-1), .int (-1), .ref a0_heap, .ref a0_heapYes, .ref a0_path, .ref a0_bestWrong, .ref a0_bestAsked, .ref a0_bestMark, .ref a0_bestV])), (h0_isSort, .inl (k0_isSort, 8, .inl (fun _ => 0)))] sz)) 0 0 (va_A [(h0, .inr (8, [.ref a0_marks, .ref a0_classes, .int 0, .ref h0_isSort, .ref a0_nodes, .ref a0_many, .int 0, .ref a0_in, .int 0, .int 0, .int 0, .ref a0_asked, .ref a0_turned, .int 0, .int (-1), .int (-1), .ref a0_heap, .ref a0_heapYes, .ref a0_path, .ref a0_bestWrong, .ref a0_bestAsked, .ref a0_bestMark, .ref a0_bestV])), (h0_isSort, .inl (k0_isSort, 8, .inl (fun _ => 0)))] sz) := by
  refine Met.ofW (cc := cX8_sort) (maxL := 4) (ret := (some .int)) (by decide) rfl ?_
  intro p e s m args below meth c s₁ B hml hv
  obtain ⟨rfl, hsz, hP, hK, hD0, hN⟩ := hv
  have hx := B.exec
  have hb := B.bytes
  have hr := B.returns
  have hts := atoms_spec (ws := wsX8_sort) B.pre
  have hown : s.vm.findClass RX8 = some m.cls := findClass_of_methodNamed B.named
  have hlocks := B.notSynchronized
  have hi8 : ∀ w ∈ u_ws RX8 TX8 23, w ∈ wsX8_sort := fun _ h => List.mem_cons_of_mem _ (List.mem_append_right _ h)
  subst hsz
  have hD := hD0.self (sz := s.heap.size)
  generalize hAe : va_A [(h0, .inr (8, [.ref a0_marks, .ref a0_classes, .int 0, .ref h0_isSort, .ref a0_nodes, .ref a0_many, .int 0, .ref a0_in, .int 0, .int 0, .int 0, .ref a0_asked, .ref a0_turned, .int 0, .int (-1), .int (-1), .ref a0_heap, .ref a0_heapYes, .ref a0_path, .ref a0_bestWrong, .ref a0_bestAsked, .ref a0_bestMark, .ref a0_bestV])), (h0_isSort, .inl (k0_isSort, 8, .inl (fun _ => 0)))] s.heap.size = A at hD ⊢
  have hA : ∀ q : Nat, s.heap.size ≤ q → A q := fun q h => by rw [← hAe]; exact Or.inr h
  have hS : va_S A s.heap s.heap [] := va_S.rf
  have hl := lv_entry ([.ref h0, .int p1, .int p2]) (n := 4) (Nat.le_of_ble_eq_true rfl)
  rw [lg_entry_eq]
  generalize (lg_sl ([.ref h0, .int p1, .int p2]) ++ List.replicate (4 - (lg_sl ([.ref h0, .int p1, .int p2])).length) Slot.unset).toArray = ls at hl ⊢
  have hl : lv_has ls 4 [(0, .ref h0), (1, .int p1), (2, .int p2)] := hl
  have hP : va_P (dC, dI) vwCl [(h0, .inr (8, [.ref a0_marks, .ref a0_classes, .int 0, .ref h0_isSort, .ref a0_nodes, .ref a0_many, .int 0, .ref a0_in, .int 0, .int 0, .int 0, .ref a0_asked, .ref a0_turned, .int 0, .int (-1), .int (-1), .ref a0_heap, .ref a0_heapYes, .ref a0_path, .ref a0_bestWrong, .ref a0_bestAsked, .ref a0_bestMark, .ref a0_bestV])), (h0_isSort, .inl (k0_isSort, 8, .inl (fun _ => 0)))] s.heap := hP
  refine lv_iload_n hx hb dX8_sort_0 rfl (lv_at hl 1 rfl) ?_
  refine lv_if_lt (tgt := 33) hx hb dX8_sort_1 (by decide) (fun c_1 => ?_) (fun c_1 => ?_)
  · skip
    refine lv_iconst (v := (-1)) hx hb dX8_sort_33 (by decide) ?_
    exact W.iret (v := (-1)) hx hb hr (fun t ht hW => ⟨⟨(-1), (), rfl, (Or.inr ⟨(lf_m_sort_4 p1 p2 c_1), rfl⟩), trivial⟩, hS.F ht⟩) hS.2.2 dX8_sort_34
  · skip
    refine lv_iload_n hx hb dX8_sort_4 rfl (lv_at hl 1 rfl) ?_
    refine lv_bipush (v := 8) hx hb dX8_sort_5 (by decide) ?_
    refine lv_icmp_ge (tgt := 33) hx hb dX8_sort_7 (by decide) (fun c_2 => ?_) (fun c_2 => ?_)
    · skip
      refine lv_iconst (v := (-1)) hx hb dX8_sort_33 (by decide) ?_
      exact W.iret (v := (-1)) hx hb hr (fun t ht hW => ⟨⟨(-1), (), rfl, (Or.inr ⟨(lf_m_sort_5 p1 p2 c_1 c_2), rfl⟩), trivial⟩, hS.F ht⟩) hS.2.2 dX8_sort_34
    · skip
      refine lv_iload_n hx hb dX8_sort_10 rfl (lv_at hl 2 rfl) ?_
      refine lv_if_lt (tgt := 33) hx hb dX8_sort_11 (by decide) (fun c_3 => ?_) (fun c_3 => ?_)
      · skip
        refine lv_iconst (v := (-1)) hx hb dX8_sort_33 (by decide) ?_
        exact W.iret (v := (-1)) hx hb hr (fun t ht hW => ⟨⟨(-1), (), rfl, (Or.inr ⟨(lf_m_sort_6 p1 p2 c_1 c_2 c_3), rfl⟩), trivial⟩, hS.F ht⟩) hS.2.2 dX8_sort_34
      · skip
        refine lv_iload_n hx hb dX8_sort_14 rfl (lv_at hl 2 rfl) ?_
        refine lv_iconst (v := 1) hx hb dX8_sort_15 (by decide) ?_
        refine lv_icmp_gt (tgt := 33) hx hb dX8_sort_16 (by decide) (fun c_4 => ?_) (fun c_4 => ?_)
        · skip
          refine lv_iconst (v := (-1)) hx hb dX8_sort_33 (by decide) ?_
          exact W.iret (v := (-1)) hx hb hr (fun t ht hW => ⟨⟨(-1), (), rfl, (Or.inr ⟨(lf_m_sort_7 p1 p2 c_1 c_2 c_3 c_4), rfl⟩), trivial⟩, hS.F ht⟩) hS.2.2 dX8_sort_34
        · skip
          refine lv_aload_n hx hb dX8_sort_19 rfl (lv_at hl 0 rfl) ?_
          refine va_get (D := (dC, dI)) (ci := 8) (v := .int 0) (C := RX8) (T := TX8) (N := 23) hx hb hts hi8 hown hK hP 0 rfl rfl 2 (by decide) (hts (.fieldLink RX8 64 "AskTreeModel" "cases" "I") (by decide +kernel)) (fun _ h9 => h9) rfl dX8_sort_20 ?_
          refine lv_if_gt (tgt := 33) hx hb dX8_sort_23 (by decide) (fun c_5 => ?_) (fun c_5 => ?_)
          · exact absurd c_5 (by decide)
          refine lv_aload_n hx hb dX8_sort_26 rfl (lv_at hl 0 rfl) ?_
          refine va_get (D := (dC, dI)) (ci := 8) (v := .int 0) (C := RX8) (T := TX8) (N := 23) hx hb hts hi8 hown hK hP 0 rfl rfl 6 (by decide) (hts (.fieldLink RX8 67 "AskTreeModel" "trees" "I") (by decide +kernel)) (fun _ h9 => h9) rfl dX8_sort_27 ?_
          refine lv_if_le (tgt := 35) hx hb dX8_sort_30 (by decide) (fun c_6 => ?_) (fun c_6 => ?_)
          rotate_left
          · exact absurd c_6 (by decide)
          refine lv_aload_n hx hb dX8_sort_35 rfl (lv_at hl 0 rfl) ?_
          refine va_get (D := (dC, dI)) (ci := 8) (v := .ref h0_isSort) (C := RX8) (T := TX8) (N := 23) hx hb hts hi8 hown hK hP 0 rfl rfl 3 (by decide) (hts (.fieldLink RX8 16 "AskTreeModel" "isSort" "[Z") (by decide +kernel)) (fun _ h9 => h9) rfl dX8_sort_36 ?_
          refine lv_iload_n hx hb dX8_sort_39 rfl (lv_at hl 1 rfl) ?_
          refine va_zald hx hb hK hP 1 0 rfl rfl (lf_m_sort_1 p1 c_1 c_2) dX8_sort_40 ?_
          refine tvv (v := .int 0) rfl ?_
          refine lv_if_eq (tgt := 48) hx hb dX8_sort_41 (by decide) (fun c_7 => ?_) (fun c_7 => ?_)
          rotate_left
          · exact absurd c_7 (by decide)
          refine lv_iconst (v := 0) hx hb dX8_sort_48 (by decide) ?_
          refine lv_istore_n (lv' := [(3, .int 0), (0, .ref h0), (1, .int p1), (2, .int p2)]) hx hb dX8_sort_49 rfl hl (by decide) rfl (fun ls hl => ?_)
          refine lv_aload_n hx hb dX8_sort_50 rfl (lv_at hl 1 rfl) ?_
          refine va_get (D := (dC, dI)) (ci := 8) (v := .ref h0_isSort) (C := RX8) (T := TX8) (N := 23) hx hb hts hi8 hown hK hP 0 rfl rfl 3 (by decide) (hts (.fieldLink RX8 16 "AskTreeModel" "isSort" "[Z") (by decide +kernel)) (fun _ h9 => h9) rfl dX8_sort_51 ?_
          refine lv_iload_n hx hb dX8_sort_54 rfl (lv_at hl 2 rfl) ?_
          refine lv_iload_n hx hb dX8_sort_55 rfl (lv_at hl 3 rfl) ?_
          refine lv_iconst (v := 1) hx hb dX8_sort_56 (by decide) ?_
          refine lv_icmp_ne (tgt := 64) hx hb dX8_sort_57 (by decide) (fun c_8 => ?_) (fun c_8 => ?_)
          · skip
            refine lv_iconst (v := 0) hx hb dX8_sort_64 (by decide) ?_
            refine va_zast hx hb hK hP hD hS 1 0 rfl rfl (lf_m_sort_2 p1 c_1 c_2) dX8_sort_65 (fun H locs hP hD hS => ?_)
            have hP : va_P (dC, dI) vwCl [(h0, .inr (8, [.ref a0_marks, .ref a0_classes, .int 0, .ref h0_isSort, .ref a0_nodes, .ref a0_many, .int 0, .ref a0_in, .int 0, .int 0, .int 0, .ref a0_asked, .ref a0_turned, .int 0, .int (-1), .int (-1), .ref a0_heap, .ref a0_heapYes, .ref a0_path, .ref a0_bestWrong, .ref a0_bestAsked, .ref a0_bestMark, .ref a0_bestV])), (h0_isSort, .inl (k0_isSort, 8, .inl (upd (fun _ => 0) (Int32.toNatClampNeg p1) (vp_nar .boolean 0))))] H := hP
            have hD : va_D A [(h0, .inr (8, [.ref a0_marks, .ref a0_classes, .int 0, .ref h0_isSort, .ref a0_nodes, .ref a0_many, .int 0, .ref a0_in, .int 0, .int 0, .int 0, .ref a0_asked, .ref a0_turned, .int 0, .int (-1), .int (-1), .ref a0_heap, .ref a0_heapYes, .ref a0_path, .ref a0_bestWrong, .ref a0_bestAsked, .ref a0_bestMark, .ref a0_bestV])), (h0_isSort, .inl (k0_isSort, 8, .inl (upd (fun _ => 0) (Int32.toNatClampNeg p1) (vp_nar .boolean 0))))] := hD
            generalize hf_10 : upd (fun _ => 0) (Int32.toNatClampNeg p1) (vp_nar .boolean 0) = f_9 at hP hD
            clear hf_10
            refine lv_iload_n hx hb dX8_sort_66 rfl (lv_at hl 0 rfl) ?_
            exact W.iret (v := 0) hx hb hr (fun t ht hW => ⟨⟨0, (), rfl, (Or.inl ⟨(lf_m_sort_8 p1 p2 c_1 c_2 c_3 c_4 c_8), rfl⟩), trivial⟩, hS.F ht⟩) hS.2.2 dX8_sort_67
          · skip
            refine lv_iconst (v := 1) hx hb dX8_sort_60 (by decide) ?_
            refine lv_goto (tgt := 65) hx hb dX8_sort_61 (by decide) ?_
            refine va_zast hx hb hK hP hD hS 1 0 rfl rfl (lf_m_sort_3 p1 c_1 c_2) dX8_sort_65 (fun H locs hP hD hS => ?_)
            have hP : va_P (dC, dI) vwCl [(h0, .inr (8, [.ref a0_marks, .ref a0_classes, .int 0, .ref h0_isSort, .ref a0_nodes, .ref a0_many, .int 0, .ref a0_in, .int 0, .int 0, .int 0, .ref a0_asked, .ref a0_turned, .int 0, .int (-1), .int (-1), .ref a0_heap, .ref a0_heapYes, .ref a0_path, .ref a0_bestWrong, .ref a0_bestAsked, .ref a0_bestMark, .ref a0_bestV])), (h0_isSort, .inl (k0_isSort, 8, .inl (upd (fun _ => 0) (Int32.toNatClampNeg p1) (vp_nar .boolean 1))))] H := hP
            have hD : va_D A [(h0, .inr (8, [.ref a0_marks, .ref a0_classes, .int 0, .ref h0_isSort, .ref a0_nodes, .ref a0_many, .int 0, .ref a0_in, .int 0, .int 0, .int 0, .ref a0_asked, .ref a0_turned, .int 0, .int (-1), .int (-1), .ref a0_heap, .ref a0_heapYes, .ref a0_path, .ref a0_bestWrong, .ref a0_bestAsked, .ref a0_bestMark, .ref a0_bestV])), (h0_isSort, .inl (k0_isSort, 8, .inl (upd (fun _ => 0) (Int32.toNatClampNeg p1) (vp_nar .boolean 1))))] := hD
            generalize hf_12 : upd (fun _ => 0) (Int32.toNatClampNeg p1) (vp_nar .boolean 1) = f_11 at hP hD
            clear hf_12
            refine lv_iload_n hx hb dX8_sort_66 rfl (lv_at hl 0 rfl) ?_
            exact W.iret (v := 0) hx hb hr (fun t ht hW => ⟨⟨0, (), rfl, (Or.inl ⟨(lf_m_sort_9 p1 p2 c_1 c_2 c_3 c_4 c_8), rfl⟩), trivial⟩, hS.F ht⟩) hS.2.2 dX8_sort_67

theorem lf_m_add_1 (p1 : Int32) (p2 : Int32) (p3 : Int32) (p4 : Int32) (p5 : Int32) (e0 : p1 < 0) : ¬ (0 ≤ p1 ∧ p1 < 4 ∧ tok p2 p3 p4 p5) := by
  rintro ⟨q1, q2, q3⟩
  first | exact absurd q3 (by assumption) | (simp only [Int32.lt_iff_toInt_lt, Int32.le_iff_toInt_le, ← Int32.toInt_inj, ln_0, ln_1, ln_4, ln_8] at *; omega)
theorem lf_m_add_2 (p1 : Int32) (p2 : Int32) (p3 : Int32) (p4 : Int32) (p5 : Int32) (e0 : ¬ p1 < 0) (e1 : 4 ≤ p1) : ¬ (0 ≤ p1 ∧ p1 < 4 ∧ tok p2 p3 p4 p5) := by
  rintro ⟨q1, q2, q3⟩
  first | exact absurd q3 (by assumption) | (simp only [Int32.lt_iff_toInt_lt, Int32.le_iff_toInt_le, ← Int32.toInt_inj, ln_0, ln_1, ln_4, ln_8] at *; omega)
theorem lf_m_add_3 (p1 : Int32) (p2 : Int32) (p3 : Int32) (p4 : Int32) (p5 : Int32) (e0 : ¬ p1 < 0) (e1 : ¬ 4 ≤ p1) (e2 : tok p2 p3 p4 p5) : 0 ≤ p1 ∧ p1 < 4 ∧ tok p2 p3 p4 p5 := by
  refine ⟨?_, ?_, ?_⟩ <;> first | assumption | (simp only [Int32.lt_iff_toInt_lt, Int32.le_iff_toInt_le, ← Int32.toInt_inj, ln_0, ln_1, ln_4, ln_8] at *; omega)
theorem lf_m_add_4 (p1 : Int32) (p2 : Int32) (p3 : Int32) (p4 : Int32) (p5 : Int32) (e0 : ¬ p1 < 0) (e1 : ¬ 4 ≤ p1) (e2 : ¬ tok p2 p3 p4 p5) : ¬ (0 ≤ p1 ∧ p1 < 4 ∧ tok p2 p3 p4 p5) := by
  rintro ⟨q1, q2, q3⟩
  first | exact absurd q3 (by assumption) | (simp only [Int32.lt_iff_toInt_lt, Int32.le_iff_toInt_le, ← Int32.toInt_inj, ln_0, ln_1, ln_4, ln_8] at *; omega)
set_option maxHeartbeats 4000000 in
set_option maxRecDepth 100000 in
theorem c_m_add (l : Launch) (dC : Nat → ClassId) (dI : Nat → Nat → Nat) (sz : Nat) (h0 : Nat) (p1 : Int32) (p2 : Int32) (p3 : Int32) (p4 : Int32) (p5 : Int32) (h0_asked : Nat) (h0_marks : Nat) (h0_classes : Nat) (a0_isSort : Nat) (a0_nodes : Nat) (a0_many : Nat) (a0_in : Nat) (a0_turned : Nat) (a0_heap : Nat) (a0_heapYes : Nat) (a0_path : Nat) (a0_bestWrong : Nat) (a0_bestAsked : Nat) (a0_bestMark : Nat) (a0_bestV : Nat) (k0_asked : ClassId) (k0_marks : ClassId) (k0_classes : ClassId)   : Met l yX8_add wsX8_add ({ frames := 2, cells := 0, slots := 0, locals := 89 }) (va_Pc [.ref h0, .int p1, .int p2, .int p3, .int p4, .int p5] (pw (dC, dI) [(k0_asked, .int), (k0_marks, .int), (k0_classes, .int)] [(h0, .inr (8, [.ref h0_marks, .ref h0_classes, .int 0, .ref a0_isSort, .ref a0_nodes, .ref a0_many, .int 0, .ref a0_in, .int 0, .int 0, .int 0, .ref h0_asked, .ref a0_turned, .int 0, .int (-1), .int (-1), .ref a0_heap, .ref a0_heapYes, .ref a0_path, .ref a0_bestWrong, .ref a0_bestAsked, .ref a0_bestMark, .ref a0_bestV])), (h0_asked, .inl (k0_asked, 8, .inl (fun _ => 0))), (h0_marks, .inl (k0_marks, 2400, .inl (fun _ => 0))), (h0_classes, .inl (k0_classes, 300, .inl (fun _ => 0)))] sz)) (va_Qi (fun (r : Int32) (_ : Unit) => ((0 ≤ p1 ∧ p1 < 4 ∧ tok p2 p3 p4 p5) ∧ r = 0) ∨ (¬ (0 ≤ p1 ∧ p1 < 4 ∧ tok p2 p3 p4 p5) ∧ r = (-1))) (fun _ _ => True) (va_A [(h0, .inr (8, [.ref h0_marks, .ref h0_classes, .int 0, .ref a0_isSort, .ref a0_nodes, .ref a0_many, .int 0, .ref a0_in, .int 0, .int 0, .int 0, .ref h0_asked, .ref a0_turned, .int 0, .int (-1), .int (-1), .ref a0_heap, .ref a0_heapYes, .ref a0_path, .ref a0_bestWrong, .ref a0_bestAsked, .ref a0_bestMark, .ref a0_bestV])), (h0_asked, .inl (k0_asked, 8, .inl (fun _ => 0))), (h0_marks, .inl (k0_marks, 2400, .inl (fun _ => 0))), (h0_classes, .inl (k0_classes, 300, .inl (fun _ => 0)))] sz)) 0 0 (va_A [(h0, .inr (8, [.ref h0_marks, .ref h0_classes, .int 0, .ref a0_isSort, .ref a0_nodes, .ref a0_many, .int 0, .ref a0_in, .int 0, .int 0, .int 0, .ref h0_asked, .ref a0_turned, .int 0, .int (-1), .int (-1), .ref a0_heap, .ref a0_heapYes, .ref a0_path, .ref a0_bestWrong, .ref a0_bestAsked, .ref a0_bestMark, .ref a0_bestV])), (h0_asked, .inl (k0_asked, 8, .inl (fun _ => 0))), (h0_marks, .inl (k0_marks, 2400, .inl (fun _ => 0))), (h0_classes, .inl (k0_classes, 300, .inl (fun _ => 0)))] sz) := by
  refine Met.ofW (cc := cX8_add) (maxL := 7) (ret := (some .int)) (by decide) rfl ?_
  intro p e s m args below meth c s₁ B hml hv
  obtain ⟨rfl, hsz, hP, hK, hD0, hN⟩ := hv
  have hx := B.exec
  have hb := B.bytes
  have hr := B.returns
  have hts := atoms_spec (ws := wsX8_add) B.pre
  have hown : s.vm.findClass RX8 = some m.cls := findClass_of_methodNamed B.named
  have hlocks := B.notSynchronized
  have hi8 : ∀ w ∈ u_ws RX8 TX8 23, w ∈ wsX8_add := fun _ h => List.mem_cons_of_mem _ (List.mem_append_right _ h)
  subst hsz
  have hD := hD0.self (sz := s.heap.size)
  generalize hAe : va_A [(h0, .inr (8, [.ref h0_marks, .ref h0_classes, .int 0, .ref a0_isSort, .ref a0_nodes, .ref a0_many, .int 0, .ref a0_in, .int 0, .int 0, .int 0, .ref h0_asked, .ref a0_turned, .int 0, .int (-1), .int (-1), .ref a0_heap, .ref a0_heapYes, .ref a0_path, .ref a0_bestWrong, .ref a0_bestAsked, .ref a0_bestMark, .ref a0_bestV])), (h0_asked, .inl (k0_asked, 8, .inl (fun _ => 0))), (h0_marks, .inl (k0_marks, 2400, .inl (fun _ => 0))), (h0_classes, .inl (k0_classes, 300, .inl (fun _ => 0)))] s.heap.size = A at hD ⊢
  have hA : ∀ q : Nat, s.heap.size ≤ q → A q := fun q h => by rw [← hAe]; exact Or.inr h
  have hS : va_S A s.heap s.heap [] := va_S.rf
  have hl := lv_entry ([.ref h0, .int p1, .int p2, .int p3, .int p4, .int p5]) (n := 7) (Nat.le_of_ble_eq_true rfl)
  rw [lg_entry_eq]
  generalize (lg_sl ([.ref h0, .int p1, .int p2, .int p3, .int p4, .int p5]) ++ List.replicate (7 - (lg_sl ([.ref h0, .int p1, .int p2, .int p3, .int p4, .int p5])).length) Slot.unset).toArray = ls at hl ⊢
  have hl : lv_has ls 7 [(0, .ref h0), (1, .int p1), (2, .int p2), (3, .int p3), (4, .int p4), (5, .int p5)] := hl
  have hP : va_P (dC, dI) vwCl [(h0, .inr (8, [.ref h0_marks, .ref h0_classes, .int 0, .ref a0_isSort, .ref a0_nodes, .ref a0_many, .int 0, .ref a0_in, .int 0, .int 0, .int 0, .ref h0_asked, .ref a0_turned, .int 0, .int (-1), .int (-1), .ref a0_heap, .ref a0_heapYes, .ref a0_path, .ref a0_bestWrong, .ref a0_bestAsked, .ref a0_bestMark, .ref a0_bestV])), (h0_asked, .inl (k0_asked, 8, .inl (fun _ => 0))), (h0_marks, .inl (k0_marks, 2400, .inl (fun _ => 0))), (h0_classes, .inl (k0_classes, 300, .inl (fun _ => 0)))] s.heap := hP
  refine lv_iload_n hx hb dX8_add_0 rfl (lv_at hl 1 rfl) ?_
  refine lv_if_lt (tgt := 23) hx hb dX8_add_1 (by decide) (fun c_1 => ?_) (fun c_1 => ?_)
  · skip
    refine lv_iconst (v := (-1)) hx hb dX8_add_23 (by decide) ?_
    exact W.iret (v := (-1)) hx hb hr (fun t ht hW => ⟨⟨(-1), (), rfl, (Or.inr ⟨(lf_m_add_1 p1 p2 p3 p4 p5 c_1), rfl⟩), trivial⟩, hS.F ht⟩) hS.2.2 dX8_add_24
  · skip
    refine lv_iload_n hx hb dX8_add_4 rfl (lv_at hl 1 rfl) ?_
    refine lv_iconst (v := 4) hx hb dX8_add_5 (by decide) ?_
    refine lv_icmp_ge (tgt := 23) hx hb dX8_add_6 (by decide) (fun c_2 => ?_) (fun c_2 => ?_)
    · skip
      refine lv_iconst (v := (-1)) hx hb dX8_add_23 (by decide) ?_
      exact W.iret (v := (-1)) hx hb hr (fun t ht hW => ⟨⟨(-1), (), rfl, (Or.inr ⟨(lf_m_add_2 p1 p2 p3 p4 p5 c_1 c_2), rfl⟩), trivial⟩, hS.F ht⟩) hS.2.2 dX8_add_24
    · skip
      refine lv_aload_n hx hb dX8_add_9 rfl (lv_at hl 0 rfl) ?_
      refine lv_iload_n hx hb dX8_add_10 rfl (lv_at hl 2 rfl) ?_
      refine lv_iload_n hx hb dX8_add_11 rfl (lv_at hl 3 rfl) ?_
      refine lv_iload hx hb dX8_add_12 (lv_at hl 4 rfl) ?_
      refine lv_iload hx hb dX8_add_14 (lv_at hl 5 rfl) ?_
      refine lv_iconst (v := 1) hx hb dX8_add_16 (by decide) ?_
      have hPc := hP.sub (ws' := [(h0, .inr (8, [.ref h0_marks, .ref h0_classes, .int 0, .ref a0_isSort, .ref a0_nodes, .ref a0_many, .int 0, .ref a0_in, .int 0, .int 0, .int 0, .ref h0_asked, .ref a0_turned, .int 0, .int (-1), .int (-1), .ref a0_heap, .ref a0_heapYes, .ref a0_path, .ref a0_bestWrong, .ref a0_bestAsked, .ref a0_bestMark, .ref a0_bestV])), (h0_asked, .inl (k0_asked, 8, .inl (fun _ => 0)))]) [0, 1] rfl
      have hDc := hD.sub (ws' := [(h0, .inr (8, [.ref h0_marks, .ref h0_classes, .int 0, .ref a0_isSort, .ref a0_nodes, .ref a0_many, .int 0, .ref a0_in, .int 0, .int 0, .int 0, .ref h0_asked, .ref a0_turned, .int 0, .int (-1), .int (-1), .ref a0_heap, .ref a0_heapYes, .ref a0_path, .ref a0_bestWrong, .ref a0_bestAsked, .ref a0_bestMark, .ref a0_bestV])), (h0_asked, .inl (k0_asked, 8, .inl (fun _ => 0)))]) [0, 1] (by decide) rfl
      have hKc := hK.sub (tys' := [(k0_asked, .int)]) [0] rfl
      have hFc := va_free (wc := [(h0, .inr (8, [.ref h0_marks, .ref h0_classes, .int 0, .ref a0_isSort, .ref a0_nodes, .ref a0_many, .int 0, .ref a0_in, .int 0, .int 0, .int 0, .ref h0_asked, .ref a0_turned, .int 0, .int (-1), .int (-1), .ref a0_heap, .ref a0_heapYes, .ref a0_path, .ref a0_bestWrong, .ref a0_bestAsked, .ref a0_bestMark, .ref a0_bestV])), (h0_asked, .inl (k0_asked, 8, .inl (fun _ => 0)))]) hD hS hA [0, 1] rfl
      refine va_calli (va_runV (As := [.int p2, .int p3, .int p4, .int p5, .int 1]) (rest := []) ⟨hx, hb, hml, hown, hts⟩ (c_take l dC dI s.heap.size h0 p2 p3 p4 p5 h0_asked h0_marks h0_classes a0_isSort a0_nodes a0_many a0_in a0_turned a0_heap a0_heapYes a0_path a0_bestWrong a0_bestAsked a0_bestMark a0_bestV k0_asked (fun _ => 0) ) (cwV 5 hts gX8_add_X8_take rfl rfl rfl (by decide +kernel) ⟨Nat.le_of_ble_eq_true rfl, Nat.le_of_ble_eq_true rfl⟩) (pre_V hPc hKc hDc hN (ci := 8) (q0 := 0) rfl rfl) rfl rfl hl.1 rfl (lv_room (Nat.le_of_ble_eq_true rfl)) dX8_add_17 ⟨Nat.le_of_ble_eq_true rfl, Nat.le_of_ble_eq_true rfl⟩) hS (fun q _ h => hFc q h) hFc (fun r_3 u t H1 locs ht hvm hw hB hz1 hk1 hS => ?_)
      clear hPc hDc hKc
      rcases hw with ⟨f_4, rfl, c_5, rfl⟩ | ⟨f_6, rfl, c_7, rfl⟩
      · skip
        obtain ⟨hP1, hK1, hD1⟩ := hB
        rw [ht] at hP1
        obtain ⟨hP, hD⟩ := va_join (wr := [(h0_marks, .inl (k0_marks, 2400, .inl (fun _ => 0))), (h0_classes, .inl (k0_classes, 300, .inl (fun _ => 0)))]) (w1 := [(h0, .inr (8, [.ref h0_marks, .ref h0_classes, .int 0, .ref a0_isSort, .ref a0_nodes, .ref a0_many, .int 0, .ref a0_in, .int 0, .int 0, .int 0, .ref h0_asked, .ref a0_turned, .int 0, .int (-1), .int (-1), .ref a0_heap, .ref a0_heapYes, .ref a0_path, .ref a0_bestWrong, .ref a0_bestAsked, .ref a0_bestMark, .ref a0_bestV])), (h0_asked, .inl (k0_asked, 8, .inl f_4))]) hP hD [0, 1] [2, 3] rfl rfl (by decide) (by decide) hk1 hFc hP1 hD1
        generalize H1 = H at hP hS ⊢
        clear hP1 hD1 hFc hk1 hz1 ht hvm hK1
        have hP : va_P (dC, dI) vwCl [(h0_marks, .inl (k0_marks, 2400, .inl (fun _ => 0))), (h0_classes, .inl (k0_classes, 300, .inl (fun _ => 0))), (h0, .inr (8, [.ref h0_marks, .ref h0_classes, .int 0, .ref a0_isSort, .ref a0_nodes, .ref a0_many, .int 0, .ref a0_in, .int 0, .int 0, .int 0, .ref h0_asked, .ref a0_turned, .int 0, .int (-1), .int (-1), .ref a0_heap, .ref a0_heapYes, .ref a0_path, .ref a0_bestWrong, .ref a0_bestAsked, .ref a0_bestMark, .ref a0_bestV])), (h0_asked, .inl (k0_asked, 8, .inl f_4))] H := hP
        have hD : va_D A [(h0_marks, .inl (k0_marks, 2400, .inl (fun _ => 0))), (h0_classes, .inl (k0_classes, 300, .inl (fun _ => 0))), (h0, .inr (8, [.ref h0_marks, .ref h0_classes, .int 0, .ref a0_isSort, .ref a0_nodes, .ref a0_many, .int 0, .ref a0_in, .int 0, .int 0, .int 0, .ref h0_asked, .ref a0_turned, .int 0, .int (-1), .int (-1), .ref a0_heap, .ref a0_heapYes, .ref a0_path, .ref a0_bestWrong, .ref a0_bestAsked, .ref a0_bestMark, .ref a0_bestV])), (h0_asked, .inl (k0_asked, 8, .inl f_4))] := hD
        refine lv_if_ne (tgt := 25) hx hb dX8_add_20 (by decide) (fun c_8 => ?_) (fun c_8 => ?_)
        rotate_left
        · exact absurd c_8 (by decide)
        refine lv_aload_n hx hb dX8_add_25 rfl (lv_at hl 0 rfl) ?_
        refine va_get (D := (dC, dI)) (ci := 8) (v := .int 0) (C := RX8) (T := TX8) (N := 23) hx hb hts hi8 hown hK hP 2 rfl rfl 2 (by decide) (hts (.fieldLink RX8 64 "AskTreeModel" "cases" "I") (by decide +kernel)) (fun _ h9 => h9) rfl dX8_add_26 ?_
        refine lv_sipush (v := 300) hx hb dX8_add_29 (by decide) ?_
        refine lv_icmp_ne (tgt := 38) hx hb dX8_add_32 (by decide) (fun c_9 => ?_) (fun c_9 => ?_)
        rotate_left
        · exact absurd c_9 (by decide)
        refine lv_iconst (v := 0) hx hb dX8_add_38 (by decide) ?_
        refine lv_istore (lv' := [(6, .int 0), (0, .ref h0), (1, .int p1), (2, .int p2), (3, .int p3), (4, .int p4), (5, .int p5)]) hx hb dX8_add_39 hl (by decide) rfl (fun ls hl => ?_)
        refine lv_iload hx hb dX8_add_41 (lv_at hl 0 rfl) ?_
        refine lv_bipush (v := 8) hx hb dX8_add_43 (by decide) ?_
        refine lv_icmp_ge (tgt := 76) hx hb dX8_add_45 (by decide) (fun c_10 => ?_) (fun c_10 => ?_)
        · exact absurd c_10 (by decide)
        refine lv_aload_n hx hb dX8_add_48 rfl (lv_at hl 1 rfl) ?_
        refine va_get (D := (dC, dI)) (ci := 8) (v := .ref h0_marks) (C := RX8) (T := TX8) (N := 23) hx hb hts hi8 hown hK hP 2 rfl rfl 0 (by decide) (hts (.fieldLink RX8 9 "AskTreeModel" "marks" "[I") (by decide +kernel)) (fun _ h9 => h9) rfl dX8_add_49 ?_
        refine lv_bipush (v := 8) hx hb dX8_add_52 (by decide) ?_
        refine lv_aload_n hx hb dX8_add_54 rfl (lv_at hl 1 rfl) ?_
        refine va_get (D := (dC, dI)) (ci := 8) (v := .int 0) (C := RX8) (T := TX8) (N := 23) hx hb hts hi8 hown hK hP 2 rfl rfl 2 (by decide) (hts (.fieldLink RX8 64 "AskTreeModel" "cases" "I") (by decide +kernel)) (fun _ h9 => h9) rfl dX8_add_55 ?_
        refine lv_imul hx hb dX8_add_58 ?_
        refine tvv (v := .int 0) (congrArg Value.int (by decide)) ?_
        refine lv_iload hx hb dX8_add_59 (lv_at hl 0 rfl) ?_
        refine lv_iadd hx hb dX8_add_61 ?_
        refine tvv (v := .int 0) (congrArg Value.int (by decide)) ?_
        refine lv_aload_n hx hb dX8_add_62 rfl (lv_at hl 1 rfl) ?_
        refine va_get (D := (dC, dI)) (ci := 8) (v := .ref h0_asked) (C := RX8) (T := TX8) (N := 23) hx hb hts hi8 hown hK hP 2 rfl rfl 11 (by decide) (hts (.fieldLink RX8 30 "AskTreeModel" "asked" "[I") (by decide +kernel)) (fun _ h9 => h9) rfl dX8_add_63 ?_
        refine lv_iload hx hb dX8_add_66 (lv_at hl 0 rfl) ?_
        refine va_iald hx hb hK hP 3 0 rfl rfl (vi _ _ (by decide)) dX8_add_68 ?_
        refine tvv (v := .int (f_4 0)) (ci f_4 (k := 0) (by decide) rfl) ?_
        refine va_iast hx hb hK hP hD hS 0 1 rfl rfl (vi _ _ (by decide)) dX8_add_69 (fun H locs hP hD hS => ?_)
        have hP : va_P (dC, dI) vwCl [(h0_marks, .inl (k0_marks, 2400, .inl (upd (fun _ => 0) (Int32.toNatClampNeg 0) (f_4 0)))), (h0_classes, .inl (k0_classes, 300, .inl (fun _ => 0))), (h0, .inr (8, [.ref h0_marks, .ref h0_classes, .int 0, .ref a0_isSort, .ref a0_nodes, .ref a0_many, .int 0, .ref a0_in, .int 0, .int 0, .int 0, .ref h0_asked, .ref a0_turned, .int 0, .int (-1), .int (-1), .ref a0_heap, .ref a0_heapYes, .ref a0_path, .ref a0_bestWrong, .ref a0_bestAsked, .ref a0_bestMark, .ref a0_bestV])), (h0_asked, .inl (k0_asked, 8, .inl f_4))] H := hP
        have hD : va_D A [(h0_marks, .inl (k0_marks, 2400, .inl (upd (fun _ => 0) (Int32.toNatClampNeg 0) (f_4 0)))), (h0_classes, .inl (k0_classes, 300, .inl (fun _ => 0))), (h0, .inr (8, [.ref h0_marks, .ref h0_classes, .int 0, .ref a0_isSort, .ref a0_nodes, .ref a0_many, .int 0, .ref a0_in, .int 0, .int 0, .int 0, .ref h0_asked, .ref a0_turned, .int 0, .int (-1), .int (-1), .ref a0_heap, .ref a0_heapYes, .ref a0_path, .ref a0_bestWrong, .ref a0_bestAsked, .ref a0_bestMark, .ref a0_bestV])), (h0_asked, .inl (k0_asked, 8, .inl f_4))] := hD
        generalize hf_12 : upd (fun _ => 0) (Int32.toNatClampNeg 0) (f_4 0) = f_11 at hP hD
        have hk_13 : f_11 0 = (f_4 0) := by rw [← hf_12]; exact up_s (by decide)
        clear hf_12
        refine lv_iinc (v := 1) (lv' := [(6, .int 1), (0, .ref h0), (1, .int p1), (2, .int p2), (3, .int p3), (4, .int p4), (5, .int p5)]) hx hb dX8_add_70 hl (k := 0) rfl (by decide) (by decide) rfl (fun ls hl => ?_)
        refine lv_goto (tgt := 41) hx hb dX8_add_73 (by decide) ?_
        refine lv_iload hx hb dX8_add_41 (lv_at hl 0 rfl) ?_
        refine lv_bipush (v := 8) hx hb dX8_add_43 (by decide) ?_
        refine lv_icmp_ge (tgt := 76) hx hb dX8_add_45 (by decide) (fun c_14 => ?_) (fun c_14 => ?_)
        · exact absurd c_14 (by decide)
        refine lv_aload_n hx hb dX8_add_48 rfl (lv_at hl 1 rfl) ?_
        refine va_get (D := (dC, dI)) (ci := 8) (v := .ref h0_marks) (C := RX8) (T := TX8) (N := 23) hx hb hts hi8 hown hK hP 2 rfl rfl 0 (by decide) (hts (.fieldLink RX8 9 "AskTreeModel" "marks" "[I") (by decide +kernel)) (fun _ h9 => h9) rfl dX8_add_49 ?_
        refine lv_bipush (v := 8) hx hb dX8_add_52 (by decide) ?_
        refine lv_aload_n hx hb dX8_add_54 rfl (lv_at hl 1 rfl) ?_
        refine va_get (D := (dC, dI)) (ci := 8) (v := .int 0) (C := RX8) (T := TX8) (N := 23) hx hb hts hi8 hown hK hP 2 rfl rfl 2 (by decide) (hts (.fieldLink RX8 64 "AskTreeModel" "cases" "I") (by decide +kernel)) (fun _ h9 => h9) rfl dX8_add_55 ?_
        refine lv_imul hx hb dX8_add_58 ?_
        refine tvv (v := .int 0) (congrArg Value.int (by decide)) ?_
        refine lv_iload hx hb dX8_add_59 (lv_at hl 0 rfl) ?_
        refine lv_iadd hx hb dX8_add_61 ?_
        refine tvv (v := .int 1) (congrArg Value.int (by decide)) ?_
        refine lv_aload_n hx hb dX8_add_62 rfl (lv_at hl 1 rfl) ?_
        refine va_get (D := (dC, dI)) (ci := 8) (v := .ref h0_asked) (C := RX8) (T := TX8) (N := 23) hx hb hts hi8 hown hK hP 2 rfl rfl 11 (by decide) (hts (.fieldLink RX8 30 "AskTreeModel" "asked" "[I") (by decide +kernel)) (fun _ h9 => h9) rfl dX8_add_63 ?_
        refine lv_iload hx hb dX8_add_66 (lv_at hl 0 rfl) ?_
        refine va_iald hx hb hK hP 3 0 rfl rfl (vi _ _ (by decide)) dX8_add_68 ?_
        refine tvv (v := .int (f_4 1)) (ci f_4 (k := 1) (by decide) rfl) ?_
        refine va_iast hx hb hK hP hD hS 0 1 rfl rfl (vi _ _ (by decide)) dX8_add_69 (fun H locs hP hD hS => ?_)
        have hP : va_P (dC, dI) vwCl [(h0_marks, .inl (k0_marks, 2400, .inl (upd f_11 (Int32.toNatClampNeg 1) (f_4 1)))), (h0_classes, .inl (k0_classes, 300, .inl (fun _ => 0))), (h0, .inr (8, [.ref h0_marks, .ref h0_classes, .int 0, .ref a0_isSort, .ref a0_nodes, .ref a0_many, .int 0, .ref a0_in, .int 0, .int 0, .int 0, .ref h0_asked, .ref a0_turned, .int 0, .int (-1), .int (-1), .ref a0_heap, .ref a0_heapYes, .ref a0_path, .ref a0_bestWrong, .ref a0_bestAsked, .ref a0_bestMark, .ref a0_bestV])), (h0_asked, .inl (k0_asked, 8, .inl f_4))] H := hP
        have hD : va_D A [(h0_marks, .inl (k0_marks, 2400, .inl (upd f_11 (Int32.toNatClampNeg 1) (f_4 1)))), (h0_classes, .inl (k0_classes, 300, .inl (fun _ => 0))), (h0, .inr (8, [.ref h0_marks, .ref h0_classes, .int 0, .ref a0_isSort, .ref a0_nodes, .ref a0_many, .int 0, .ref a0_in, .int 0, .int 0, .int 0, .ref h0_asked, .ref a0_turned, .int 0, .int (-1), .int (-1), .ref a0_heap, .ref a0_heapYes, .ref a0_path, .ref a0_bestWrong, .ref a0_bestAsked, .ref a0_bestMark, .ref a0_bestV])), (h0_asked, .inl (k0_asked, 8, .inl f_4))] := hD
        generalize hf_16 : upd f_11 (Int32.toNatClampNeg 1) (f_4 1) = f_15 at hP hD
        have hk_17 : f_15 1 = (f_4 1) := by rw [← hf_16]; exact up_s (by decide)
        have hk_18 : f_15 0 = (f_4 0) := by rw [← hf_16]; exact up_n (k := 1) (by decide) (by decide) hk_13
        clear hf_16
        refine lv_iinc (v := 2) (lv' := [(6, .int 2), (0, .ref h0), (1, .int p1), (2, .int p2), (3, .int p3), (4, .int p4), (5, .int p5)]) hx hb dX8_add_70 hl (k := 0) rfl (by decide) (by decide) rfl (fun ls hl => ?_)
        refine lv_goto (tgt := 41) hx hb dX8_add_73 (by decide) ?_
        refine lv_iload hx hb dX8_add_41 (lv_at hl 0 rfl) ?_
        refine lv_bipush (v := 8) hx hb dX8_add_43 (by decide) ?_
        refine lv_icmp_ge (tgt := 76) hx hb dX8_add_45 (by decide) (fun c_19 => ?_) (fun c_19 => ?_)
        · exact absurd c_19 (by decide)
        refine lv_aload_n hx hb dX8_add_48 rfl (lv_at hl 1 rfl) ?_
        refine va_get (D := (dC, dI)) (ci := 8) (v := .ref h0_marks) (C := RX8) (T := TX8) (N := 23) hx hb hts hi8 hown hK hP 2 rfl rfl 0 (by decide) (hts (.fieldLink RX8 9 "AskTreeModel" "marks" "[I") (by decide +kernel)) (fun _ h9 => h9) rfl dX8_add_49 ?_
        refine lv_bipush (v := 8) hx hb dX8_add_52 (by decide) ?_
        refine lv_aload_n hx hb dX8_add_54 rfl (lv_at hl 1 rfl) ?_
        refine va_get (D := (dC, dI)) (ci := 8) (v := .int 0) (C := RX8) (T := TX8) (N := 23) hx hb hts hi8 hown hK hP 2 rfl rfl 2 (by decide) (hts (.fieldLink RX8 64 "AskTreeModel" "cases" "I") (by decide +kernel)) (fun _ h9 => h9) rfl dX8_add_55 ?_
        refine lv_imul hx hb dX8_add_58 ?_
        refine tvv (v := .int 0) (congrArg Value.int (by decide)) ?_
        refine lv_iload hx hb dX8_add_59 (lv_at hl 0 rfl) ?_
        refine lv_iadd hx hb dX8_add_61 ?_
        refine tvv (v := .int 2) (congrArg Value.int (by decide)) ?_
        refine lv_aload_n hx hb dX8_add_62 rfl (lv_at hl 1 rfl) ?_
        refine va_get (D := (dC, dI)) (ci := 8) (v := .ref h0_asked) (C := RX8) (T := TX8) (N := 23) hx hb hts hi8 hown hK hP 2 rfl rfl 11 (by decide) (hts (.fieldLink RX8 30 "AskTreeModel" "asked" "[I") (by decide +kernel)) (fun _ h9 => h9) rfl dX8_add_63 ?_
        refine lv_iload hx hb dX8_add_66 (lv_at hl 0 rfl) ?_
        refine va_iald hx hb hK hP 3 0 rfl rfl (vi _ _ (by decide)) dX8_add_68 ?_
        refine tvv (v := .int (f_4 2)) (ci f_4 (k := 2) (by decide) rfl) ?_
        refine va_iast hx hb hK hP hD hS 0 1 rfl rfl (vi _ _ (by decide)) dX8_add_69 (fun H locs hP hD hS => ?_)
        have hP : va_P (dC, dI) vwCl [(h0_marks, .inl (k0_marks, 2400, .inl (upd f_15 (Int32.toNatClampNeg 2) (f_4 2)))), (h0_classes, .inl (k0_classes, 300, .inl (fun _ => 0))), (h0, .inr (8, [.ref h0_marks, .ref h0_classes, .int 0, .ref a0_isSort, .ref a0_nodes, .ref a0_many, .int 0, .ref a0_in, .int 0, .int 0, .int 0, .ref h0_asked, .ref a0_turned, .int 0, .int (-1), .int (-1), .ref a0_heap, .ref a0_heapYes, .ref a0_path, .ref a0_bestWrong, .ref a0_bestAsked, .ref a0_bestMark, .ref a0_bestV])), (h0_asked, .inl (k0_asked, 8, .inl f_4))] H := hP
        have hD : va_D A [(h0_marks, .inl (k0_marks, 2400, .inl (upd f_15 (Int32.toNatClampNeg 2) (f_4 2)))), (h0_classes, .inl (k0_classes, 300, .inl (fun _ => 0))), (h0, .inr (8, [.ref h0_marks, .ref h0_classes, .int 0, .ref a0_isSort, .ref a0_nodes, .ref a0_many, .int 0, .ref a0_in, .int 0, .int 0, .int 0, .ref h0_asked, .ref a0_turned, .int 0, .int (-1), .int (-1), .ref a0_heap, .ref a0_heapYes, .ref a0_path, .ref a0_bestWrong, .ref a0_bestAsked, .ref a0_bestMark, .ref a0_bestV])), (h0_asked, .inl (k0_asked, 8, .inl f_4))] := hD
        generalize hf_21 : upd f_15 (Int32.toNatClampNeg 2) (f_4 2) = f_20 at hP hD
        have hk_22 : f_20 2 = (f_4 2) := by rw [← hf_21]; exact up_s (by decide)
        have hk_23 : f_20 1 = (f_4 1) := by rw [← hf_21]; exact up_n (k := 2) (by decide) (by decide) hk_17
        have hk_24 : f_20 0 = (f_4 0) := by rw [← hf_21]; exact up_n (k := 2) (by decide) (by decide) hk_18
        clear hf_21
        refine lv_iinc (v := 3) (lv' := [(6, .int 3), (0, .ref h0), (1, .int p1), (2, .int p2), (3, .int p3), (4, .int p4), (5, .int p5)]) hx hb dX8_add_70 hl (k := 0) rfl (by decide) (by decide) rfl (fun ls hl => ?_)
        refine lv_goto (tgt := 41) hx hb dX8_add_73 (by decide) ?_
        refine lv_iload hx hb dX8_add_41 (lv_at hl 0 rfl) ?_
        refine lv_bipush (v := 8) hx hb dX8_add_43 (by decide) ?_
        refine lv_icmp_ge (tgt := 76) hx hb dX8_add_45 (by decide) (fun c_25 => ?_) (fun c_25 => ?_)
        · exact absurd c_25 (by decide)
        refine lv_aload_n hx hb dX8_add_48 rfl (lv_at hl 1 rfl) ?_
        refine va_get (D := (dC, dI)) (ci := 8) (v := .ref h0_marks) (C := RX8) (T := TX8) (N := 23) hx hb hts hi8 hown hK hP 2 rfl rfl 0 (by decide) (hts (.fieldLink RX8 9 "AskTreeModel" "marks" "[I") (by decide +kernel)) (fun _ h9 => h9) rfl dX8_add_49 ?_
        refine lv_bipush (v := 8) hx hb dX8_add_52 (by decide) ?_
        refine lv_aload_n hx hb dX8_add_54 rfl (lv_at hl 1 rfl) ?_
        refine va_get (D := (dC, dI)) (ci := 8) (v := .int 0) (C := RX8) (T := TX8) (N := 23) hx hb hts hi8 hown hK hP 2 rfl rfl 2 (by decide) (hts (.fieldLink RX8 64 "AskTreeModel" "cases" "I") (by decide +kernel)) (fun _ h9 => h9) rfl dX8_add_55 ?_
        refine lv_imul hx hb dX8_add_58 ?_
        refine tvv (v := .int 0) (congrArg Value.int (by decide)) ?_
        refine lv_iload hx hb dX8_add_59 (lv_at hl 0 rfl) ?_
        refine lv_iadd hx hb dX8_add_61 ?_
        refine tvv (v := .int 3) (congrArg Value.int (by decide)) ?_
        refine lv_aload_n hx hb dX8_add_62 rfl (lv_at hl 1 rfl) ?_
        refine va_get (D := (dC, dI)) (ci := 8) (v := .ref h0_asked) (C := RX8) (T := TX8) (N := 23) hx hb hts hi8 hown hK hP 2 rfl rfl 11 (by decide) (hts (.fieldLink RX8 30 "AskTreeModel" "asked" "[I") (by decide +kernel)) (fun _ h9 => h9) rfl dX8_add_63 ?_
        refine lv_iload hx hb dX8_add_66 (lv_at hl 0 rfl) ?_
        refine va_iald hx hb hK hP 3 0 rfl rfl (vi _ _ (by decide)) dX8_add_68 ?_
        refine tvv (v := .int (f_4 3)) (ci f_4 (k := 3) (by decide) rfl) ?_
        refine va_iast hx hb hK hP hD hS 0 1 rfl rfl (vi _ _ (by decide)) dX8_add_69 (fun H locs hP hD hS => ?_)
        have hP : va_P (dC, dI) vwCl [(h0_marks, .inl (k0_marks, 2400, .inl (upd f_20 (Int32.toNatClampNeg 3) (f_4 3)))), (h0_classes, .inl (k0_classes, 300, .inl (fun _ => 0))), (h0, .inr (8, [.ref h0_marks, .ref h0_classes, .int 0, .ref a0_isSort, .ref a0_nodes, .ref a0_many, .int 0, .ref a0_in, .int 0, .int 0, .int 0, .ref h0_asked, .ref a0_turned, .int 0, .int (-1), .int (-1), .ref a0_heap, .ref a0_heapYes, .ref a0_path, .ref a0_bestWrong, .ref a0_bestAsked, .ref a0_bestMark, .ref a0_bestV])), (h0_asked, .inl (k0_asked, 8, .inl f_4))] H := hP
        have hD : va_D A [(h0_marks, .inl (k0_marks, 2400, .inl (upd f_20 (Int32.toNatClampNeg 3) (f_4 3)))), (h0_classes, .inl (k0_classes, 300, .inl (fun _ => 0))), (h0, .inr (8, [.ref h0_marks, .ref h0_classes, .int 0, .ref a0_isSort, .ref a0_nodes, .ref a0_many, .int 0, .ref a0_in, .int 0, .int 0, .int 0, .ref h0_asked, .ref a0_turned, .int 0, .int (-1), .int (-1), .ref a0_heap, .ref a0_heapYes, .ref a0_path, .ref a0_bestWrong, .ref a0_bestAsked, .ref a0_bestMark, .ref a0_bestV])), (h0_asked, .inl (k0_asked, 8, .inl f_4))] := hD
        generalize hf_27 : upd f_20 (Int32.toNatClampNeg 3) (f_4 3) = f_26 at hP hD
        have hk_28 : f_26 3 = (f_4 3) := by rw [← hf_27]; exact up_s (by decide)
        have hk_29 : f_26 2 = (f_4 2) := by rw [← hf_27]; exact up_n (k := 3) (by decide) (by decide) hk_22
        have hk_30 : f_26 1 = (f_4 1) := by rw [← hf_27]; exact up_n (k := 3) (by decide) (by decide) hk_23
        have hk_31 : f_26 0 = (f_4 0) := by rw [← hf_27]; exact up_n (k := 3) (by decide) (by decide) hk_24
        clear hf_27
        refine lv_iinc (v := 4) (lv' := [(6, .int 4), (0, .ref h0), (1, .int p1), (2, .int p2), (3, .int p3), (4, .int p4), (5, .int p5)]) hx hb dX8_add_70 hl (k := 0) rfl (by decide) (by decide) rfl (fun ls hl => ?_)
        refine lv_goto (tgt := 41) hx hb dX8_add_73 (by decide) ?_
        refine lv_iload hx hb dX8_add_41 (lv_at hl 0 rfl) ?_
        refine lv_bipush (v := 8) hx hb dX8_add_43 (by decide) ?_
        refine lv_icmp_ge (tgt := 76) hx hb dX8_add_45 (by decide) (fun c_32 => ?_) (fun c_32 => ?_)
        · exact absurd c_32 (by decide)
        refine lv_aload_n hx hb dX8_add_48 rfl (lv_at hl 1 rfl) ?_
        refine va_get (D := (dC, dI)) (ci := 8) (v := .ref h0_marks) (C := RX8) (T := TX8) (N := 23) hx hb hts hi8 hown hK hP 2 rfl rfl 0 (by decide) (hts (.fieldLink RX8 9 "AskTreeModel" "marks" "[I") (by decide +kernel)) (fun _ h9 => h9) rfl dX8_add_49 ?_
        refine lv_bipush (v := 8) hx hb dX8_add_52 (by decide) ?_
        refine lv_aload_n hx hb dX8_add_54 rfl (lv_at hl 1 rfl) ?_
        refine va_get (D := (dC, dI)) (ci := 8) (v := .int 0) (C := RX8) (T := TX8) (N := 23) hx hb hts hi8 hown hK hP 2 rfl rfl 2 (by decide) (hts (.fieldLink RX8 64 "AskTreeModel" "cases" "I") (by decide +kernel)) (fun _ h9 => h9) rfl dX8_add_55 ?_
        refine lv_imul hx hb dX8_add_58 ?_
        refine tvv (v := .int 0) (congrArg Value.int (by decide)) ?_
        refine lv_iload hx hb dX8_add_59 (lv_at hl 0 rfl) ?_
        refine lv_iadd hx hb dX8_add_61 ?_
        refine tvv (v := .int 4) (congrArg Value.int (by decide)) ?_
        refine lv_aload_n hx hb dX8_add_62 rfl (lv_at hl 1 rfl) ?_
        refine va_get (D := (dC, dI)) (ci := 8) (v := .ref h0_asked) (C := RX8) (T := TX8) (N := 23) hx hb hts hi8 hown hK hP 2 rfl rfl 11 (by decide) (hts (.fieldLink RX8 30 "AskTreeModel" "asked" "[I") (by decide +kernel)) (fun _ h9 => h9) rfl dX8_add_63 ?_
        refine lv_iload hx hb dX8_add_66 (lv_at hl 0 rfl) ?_
        refine va_iald hx hb hK hP 3 0 rfl rfl (vi _ _ (by decide)) dX8_add_68 ?_
        refine tvv (v := .int (f_4 4)) (ci f_4 (k := 4) (by decide) rfl) ?_
        refine va_iast hx hb hK hP hD hS 0 1 rfl rfl (vi _ _ (by decide)) dX8_add_69 (fun H locs hP hD hS => ?_)
        have hP : va_P (dC, dI) vwCl [(h0_marks, .inl (k0_marks, 2400, .inl (upd f_26 (Int32.toNatClampNeg 4) (f_4 4)))), (h0_classes, .inl (k0_classes, 300, .inl (fun _ => 0))), (h0, .inr (8, [.ref h0_marks, .ref h0_classes, .int 0, .ref a0_isSort, .ref a0_nodes, .ref a0_many, .int 0, .ref a0_in, .int 0, .int 0, .int 0, .ref h0_asked, .ref a0_turned, .int 0, .int (-1), .int (-1), .ref a0_heap, .ref a0_heapYes, .ref a0_path, .ref a0_bestWrong, .ref a0_bestAsked, .ref a0_bestMark, .ref a0_bestV])), (h0_asked, .inl (k0_asked, 8, .inl f_4))] H := hP
        have hD : va_D A [(h0_marks, .inl (k0_marks, 2400, .inl (upd f_26 (Int32.toNatClampNeg 4) (f_4 4)))), (h0_classes, .inl (k0_classes, 300, .inl (fun _ => 0))), (h0, .inr (8, [.ref h0_marks, .ref h0_classes, .int 0, .ref a0_isSort, .ref a0_nodes, .ref a0_many, .int 0, .ref a0_in, .int 0, .int 0, .int 0, .ref h0_asked, .ref a0_turned, .int 0, .int (-1), .int (-1), .ref a0_heap, .ref a0_heapYes, .ref a0_path, .ref a0_bestWrong, .ref a0_bestAsked, .ref a0_bestMark, .ref a0_bestV])), (h0_asked, .inl (k0_asked, 8, .inl f_4))] := hD
        generalize hf_34 : upd f_26 (Int32.toNatClampNeg 4) (f_4 4) = f_33 at hP hD
        have hk_35 : f_33 4 = (f_4 4) := by rw [← hf_34]; exact up_s (by decide)
        have hk_36 : f_33 3 = (f_4 3) := by rw [← hf_34]; exact up_n (k := 4) (by decide) (by decide) hk_28
        have hk_37 : f_33 2 = (f_4 2) := by rw [← hf_34]; exact up_n (k := 4) (by decide) (by decide) hk_29
        have hk_38 : f_33 1 = (f_4 1) := by rw [← hf_34]; exact up_n (k := 4) (by decide) (by decide) hk_30
        have hk_39 : f_33 0 = (f_4 0) := by rw [← hf_34]; exact up_n (k := 4) (by decide) (by decide) hk_31
        clear hf_34
        refine lv_iinc (v := 5) (lv' := [(6, .int 5), (0, .ref h0), (1, .int p1), (2, .int p2), (3, .int p3), (4, .int p4), (5, .int p5)]) hx hb dX8_add_70 hl (k := 0) rfl (by decide) (by decide) rfl (fun ls hl => ?_)
        refine lv_goto (tgt := 41) hx hb dX8_add_73 (by decide) ?_
        refine lv_iload hx hb dX8_add_41 (lv_at hl 0 rfl) ?_
        refine lv_bipush (v := 8) hx hb dX8_add_43 (by decide) ?_
        refine lv_icmp_ge (tgt := 76) hx hb dX8_add_45 (by decide) (fun c_40 => ?_) (fun c_40 => ?_)
        · exact absurd c_40 (by decide)
        refine lv_aload_n hx hb dX8_add_48 rfl (lv_at hl 1 rfl) ?_
        refine va_get (D := (dC, dI)) (ci := 8) (v := .ref h0_marks) (C := RX8) (T := TX8) (N := 23) hx hb hts hi8 hown hK hP 2 rfl rfl 0 (by decide) (hts (.fieldLink RX8 9 "AskTreeModel" "marks" "[I") (by decide +kernel)) (fun _ h9 => h9) rfl dX8_add_49 ?_
        refine lv_bipush (v := 8) hx hb dX8_add_52 (by decide) ?_
        refine lv_aload_n hx hb dX8_add_54 rfl (lv_at hl 1 rfl) ?_
        refine va_get (D := (dC, dI)) (ci := 8) (v := .int 0) (C := RX8) (T := TX8) (N := 23) hx hb hts hi8 hown hK hP 2 rfl rfl 2 (by decide) (hts (.fieldLink RX8 64 "AskTreeModel" "cases" "I") (by decide +kernel)) (fun _ h9 => h9) rfl dX8_add_55 ?_
        refine lv_imul hx hb dX8_add_58 ?_
        refine tvv (v := .int 0) (congrArg Value.int (by decide)) ?_
        refine lv_iload hx hb dX8_add_59 (lv_at hl 0 rfl) ?_
        refine lv_iadd hx hb dX8_add_61 ?_
        refine tvv (v := .int 5) (congrArg Value.int (by decide)) ?_
        refine lv_aload_n hx hb dX8_add_62 rfl (lv_at hl 1 rfl) ?_
        refine va_get (D := (dC, dI)) (ci := 8) (v := .ref h0_asked) (C := RX8) (T := TX8) (N := 23) hx hb hts hi8 hown hK hP 2 rfl rfl 11 (by decide) (hts (.fieldLink RX8 30 "AskTreeModel" "asked" "[I") (by decide +kernel)) (fun _ h9 => h9) rfl dX8_add_63 ?_
        refine lv_iload hx hb dX8_add_66 (lv_at hl 0 rfl) ?_
        refine va_iald hx hb hK hP 3 0 rfl rfl (vi _ _ (by decide)) dX8_add_68 ?_
        refine tvv (v := .int (f_4 5)) (ci f_4 (k := 5) (by decide) rfl) ?_
        refine va_iast hx hb hK hP hD hS 0 1 rfl rfl (vi _ _ (by decide)) dX8_add_69 (fun H locs hP hD hS => ?_)
        have hP : va_P (dC, dI) vwCl [(h0_marks, .inl (k0_marks, 2400, .inl (upd f_33 (Int32.toNatClampNeg 5) (f_4 5)))), (h0_classes, .inl (k0_classes, 300, .inl (fun _ => 0))), (h0, .inr (8, [.ref h0_marks, .ref h0_classes, .int 0, .ref a0_isSort, .ref a0_nodes, .ref a0_many, .int 0, .ref a0_in, .int 0, .int 0, .int 0, .ref h0_asked, .ref a0_turned, .int 0, .int (-1), .int (-1), .ref a0_heap, .ref a0_heapYes, .ref a0_path, .ref a0_bestWrong, .ref a0_bestAsked, .ref a0_bestMark, .ref a0_bestV])), (h0_asked, .inl (k0_asked, 8, .inl f_4))] H := hP
        have hD : va_D A [(h0_marks, .inl (k0_marks, 2400, .inl (upd f_33 (Int32.toNatClampNeg 5) (f_4 5)))), (h0_classes, .inl (k0_classes, 300, .inl (fun _ => 0))), (h0, .inr (8, [.ref h0_marks, .ref h0_classes, .int 0, .ref a0_isSort, .ref a0_nodes, .ref a0_many, .int 0, .ref a0_in, .int 0, .int 0, .int 0, .ref h0_asked, .ref a0_turned, .int 0, .int (-1), .int (-1), .ref a0_heap, .ref a0_heapYes, .ref a0_path, .ref a0_bestWrong, .ref a0_bestAsked, .ref a0_bestMark, .ref a0_bestV])), (h0_asked, .inl (k0_asked, 8, .inl f_4))] := hD
        generalize hf_42 : upd f_33 (Int32.toNatClampNeg 5) (f_4 5) = f_41 at hP hD
        have hk_43 : f_41 5 = (f_4 5) := by rw [← hf_42]; exact up_s (by decide)
        have hk_44 : f_41 4 = (f_4 4) := by rw [← hf_42]; exact up_n (k := 5) (by decide) (by decide) hk_35
        have hk_45 : f_41 3 = (f_4 3) := by rw [← hf_42]; exact up_n (k := 5) (by decide) (by decide) hk_36
        have hk_46 : f_41 2 = (f_4 2) := by rw [← hf_42]; exact up_n (k := 5) (by decide) (by decide) hk_37
        have hk_47 : f_41 1 = (f_4 1) := by rw [← hf_42]; exact up_n (k := 5) (by decide) (by decide) hk_38
        have hk_48 : f_41 0 = (f_4 0) := by rw [← hf_42]; exact up_n (k := 5) (by decide) (by decide) hk_39
        clear hf_42
        refine lv_iinc (v := 6) (lv' := [(6, .int 6), (0, .ref h0), (1, .int p1), (2, .int p2), (3, .int p3), (4, .int p4), (5, .int p5)]) hx hb dX8_add_70 hl (k := 0) rfl (by decide) (by decide) rfl (fun ls hl => ?_)
        refine lv_goto (tgt := 41) hx hb dX8_add_73 (by decide) ?_
        refine lv_iload hx hb dX8_add_41 (lv_at hl 0 rfl) ?_
        refine lv_bipush (v := 8) hx hb dX8_add_43 (by decide) ?_
        refine lv_icmp_ge (tgt := 76) hx hb dX8_add_45 (by decide) (fun c_49 => ?_) (fun c_49 => ?_)
        · exact absurd c_49 (by decide)
        refine lv_aload_n hx hb dX8_add_48 rfl (lv_at hl 1 rfl) ?_
        refine va_get (D := (dC, dI)) (ci := 8) (v := .ref h0_marks) (C := RX8) (T := TX8) (N := 23) hx hb hts hi8 hown hK hP 2 rfl rfl 0 (by decide) (hts (.fieldLink RX8 9 "AskTreeModel" "marks" "[I") (by decide +kernel)) (fun _ h9 => h9) rfl dX8_add_49 ?_
        refine lv_bipush (v := 8) hx hb dX8_add_52 (by decide) ?_
        refine lv_aload_n hx hb dX8_add_54 rfl (lv_at hl 1 rfl) ?_
        refine va_get (D := (dC, dI)) (ci := 8) (v := .int 0) (C := RX8) (T := TX8) (N := 23) hx hb hts hi8 hown hK hP 2 rfl rfl 2 (by decide) (hts (.fieldLink RX8 64 "AskTreeModel" "cases" "I") (by decide +kernel)) (fun _ h9 => h9) rfl dX8_add_55 ?_
        refine lv_imul hx hb dX8_add_58 ?_
        refine tvv (v := .int 0) (congrArg Value.int (by decide)) ?_
        refine lv_iload hx hb dX8_add_59 (lv_at hl 0 rfl) ?_
        refine lv_iadd hx hb dX8_add_61 ?_
        refine tvv (v := .int 6) (congrArg Value.int (by decide)) ?_
        refine lv_aload_n hx hb dX8_add_62 rfl (lv_at hl 1 rfl) ?_
        refine va_get (D := (dC, dI)) (ci := 8) (v := .ref h0_asked) (C := RX8) (T := TX8) (N := 23) hx hb hts hi8 hown hK hP 2 rfl rfl 11 (by decide) (hts (.fieldLink RX8 30 "AskTreeModel" "asked" "[I") (by decide +kernel)) (fun _ h9 => h9) rfl dX8_add_63 ?_
        refine lv_iload hx hb dX8_add_66 (lv_at hl 0 rfl) ?_
        refine va_iald hx hb hK hP 3 0 rfl rfl (vi _ _ (by decide)) dX8_add_68 ?_
        refine tvv (v := .int (f_4 6)) (ci f_4 (k := 6) (by decide) rfl) ?_
        refine va_iast hx hb hK hP hD hS 0 1 rfl rfl (vi _ _ (by decide)) dX8_add_69 (fun H locs hP hD hS => ?_)
        have hP : va_P (dC, dI) vwCl [(h0_marks, .inl (k0_marks, 2400, .inl (upd f_41 (Int32.toNatClampNeg 6) (f_4 6)))), (h0_classes, .inl (k0_classes, 300, .inl (fun _ => 0))), (h0, .inr (8, [.ref h0_marks, .ref h0_classes, .int 0, .ref a0_isSort, .ref a0_nodes, .ref a0_many, .int 0, .ref a0_in, .int 0, .int 0, .int 0, .ref h0_asked, .ref a0_turned, .int 0, .int (-1), .int (-1), .ref a0_heap, .ref a0_heapYes, .ref a0_path, .ref a0_bestWrong, .ref a0_bestAsked, .ref a0_bestMark, .ref a0_bestV])), (h0_asked, .inl (k0_asked, 8, .inl f_4))] H := hP
        have hD : va_D A [(h0_marks, .inl (k0_marks, 2400, .inl (upd f_41 (Int32.toNatClampNeg 6) (f_4 6)))), (h0_classes, .inl (k0_classes, 300, .inl (fun _ => 0))), (h0, .inr (8, [.ref h0_marks, .ref h0_classes, .int 0, .ref a0_isSort, .ref a0_nodes, .ref a0_many, .int 0, .ref a0_in, .int 0, .int 0, .int 0, .ref h0_asked, .ref a0_turned, .int 0, .int (-1), .int (-1), .ref a0_heap, .ref a0_heapYes, .ref a0_path, .ref a0_bestWrong, .ref a0_bestAsked, .ref a0_bestMark, .ref a0_bestV])), (h0_asked, .inl (k0_asked, 8, .inl f_4))] := hD
        generalize hf_51 : upd f_41 (Int32.toNatClampNeg 6) (f_4 6) = f_50 at hP hD
        have hk_52 : f_50 6 = (f_4 6) := by rw [← hf_51]; exact up_s (by decide)
        have hk_53 : f_50 5 = (f_4 5) := by rw [← hf_51]; exact up_n (k := 6) (by decide) (by decide) hk_43
        have hk_54 : f_50 4 = (f_4 4) := by rw [← hf_51]; exact up_n (k := 6) (by decide) (by decide) hk_44
        have hk_55 : f_50 3 = (f_4 3) := by rw [← hf_51]; exact up_n (k := 6) (by decide) (by decide) hk_45
        have hk_56 : f_50 2 = (f_4 2) := by rw [← hf_51]; exact up_n (k := 6) (by decide) (by decide) hk_46
        have hk_57 : f_50 1 = (f_4 1) := by rw [← hf_51]; exact up_n (k := 6) (by decide) (by decide) hk_47
        have hk_58 : f_50 0 = (f_4 0) := by rw [← hf_51]; exact up_n (k := 6) (by decide) (by decide) hk_48
        clear hf_51
        refine lv_iinc (v := 7) (lv' := [(6, .int 7), (0, .ref h0), (1, .int p1), (2, .int p2), (3, .int p3), (4, .int p4), (5, .int p5)]) hx hb dX8_add_70 hl (k := 0) rfl (by decide) (by decide) rfl (fun ls hl => ?_)
        refine lv_goto (tgt := 41) hx hb dX8_add_73 (by decide) ?_
        refine lv_iload hx hb dX8_add_41 (lv_at hl 0 rfl) ?_
        refine lv_bipush (v := 8) hx hb dX8_add_43 (by decide) ?_
        refine lv_icmp_ge (tgt := 76) hx hb dX8_add_45 (by decide) (fun c_59 => ?_) (fun c_59 => ?_)
        · exact absurd c_59 (by decide)
        refine lv_aload_n hx hb dX8_add_48 rfl (lv_at hl 1 rfl) ?_
        refine va_get (D := (dC, dI)) (ci := 8) (v := .ref h0_marks) (C := RX8) (T := TX8) (N := 23) hx hb hts hi8 hown hK hP 2 rfl rfl 0 (by decide) (hts (.fieldLink RX8 9 "AskTreeModel" "marks" "[I") (by decide +kernel)) (fun _ h9 => h9) rfl dX8_add_49 ?_
        refine lv_bipush (v := 8) hx hb dX8_add_52 (by decide) ?_
        refine lv_aload_n hx hb dX8_add_54 rfl (lv_at hl 1 rfl) ?_
        refine va_get (D := (dC, dI)) (ci := 8) (v := .int 0) (C := RX8) (T := TX8) (N := 23) hx hb hts hi8 hown hK hP 2 rfl rfl 2 (by decide) (hts (.fieldLink RX8 64 "AskTreeModel" "cases" "I") (by decide +kernel)) (fun _ h9 => h9) rfl dX8_add_55 ?_
        refine lv_imul hx hb dX8_add_58 ?_
        refine tvv (v := .int 0) (congrArg Value.int (by decide)) ?_
        refine lv_iload hx hb dX8_add_59 (lv_at hl 0 rfl) ?_
        refine lv_iadd hx hb dX8_add_61 ?_
        refine tvv (v := .int 7) (congrArg Value.int (by decide)) ?_
        refine lv_aload_n hx hb dX8_add_62 rfl (lv_at hl 1 rfl) ?_
        refine va_get (D := (dC, dI)) (ci := 8) (v := .ref h0_asked) (C := RX8) (T := TX8) (N := 23) hx hb hts hi8 hown hK hP 2 rfl rfl 11 (by decide) (hts (.fieldLink RX8 30 "AskTreeModel" "asked" "[I") (by decide +kernel)) (fun _ h9 => h9) rfl dX8_add_63 ?_
        refine lv_iload hx hb dX8_add_66 (lv_at hl 0 rfl) ?_
        refine va_iald hx hb hK hP 3 0 rfl rfl (vi _ _ (by decide)) dX8_add_68 ?_
        refine tvv (v := .int (f_4 7)) (ci f_4 (k := 7) (by decide) rfl) ?_
        refine va_iast hx hb hK hP hD hS 0 1 rfl rfl (vi _ _ (by decide)) dX8_add_69 (fun H locs hP hD hS => ?_)
        have hP : va_P (dC, dI) vwCl [(h0_marks, .inl (k0_marks, 2400, .inl (upd f_50 (Int32.toNatClampNeg 7) (f_4 7)))), (h0_classes, .inl (k0_classes, 300, .inl (fun _ => 0))), (h0, .inr (8, [.ref h0_marks, .ref h0_classes, .int 0, .ref a0_isSort, .ref a0_nodes, .ref a0_many, .int 0, .ref a0_in, .int 0, .int 0, .int 0, .ref h0_asked, .ref a0_turned, .int 0, .int (-1), .int (-1), .ref a0_heap, .ref a0_heapYes, .ref a0_path, .ref a0_bestWrong, .ref a0_bestAsked, .ref a0_bestMark, .ref a0_bestV])), (h0_asked, .inl (k0_asked, 8, .inl f_4))] H := hP
        have hD : va_D A [(h0_marks, .inl (k0_marks, 2400, .inl (upd f_50 (Int32.toNatClampNeg 7) (f_4 7)))), (h0_classes, .inl (k0_classes, 300, .inl (fun _ => 0))), (h0, .inr (8, [.ref h0_marks, .ref h0_classes, .int 0, .ref a0_isSort, .ref a0_nodes, .ref a0_many, .int 0, .ref a0_in, .int 0, .int 0, .int 0, .ref h0_asked, .ref a0_turned, .int 0, .int (-1), .int (-1), .ref a0_heap, .ref a0_heapYes, .ref a0_path, .ref a0_bestWrong, .ref a0_bestAsked, .ref a0_bestMark, .ref a0_bestV])), (h0_asked, .inl (k0_asked, 8, .inl f_4))] := hD
        generalize hf_61 : upd f_50 (Int32.toNatClampNeg 7) (f_4 7) = f_60 at hP hD
        have hk_62 : f_60 7 = (f_4 7) := by rw [← hf_61]; exact up_s (by decide)
        have hk_63 : f_60 6 = (f_4 6) := by rw [← hf_61]; exact up_n (k := 7) (by decide) (by decide) hk_52
        have hk_64 : f_60 5 = (f_4 5) := by rw [← hf_61]; exact up_n (k := 7) (by decide) (by decide) hk_53
        have hk_65 : f_60 4 = (f_4 4) := by rw [← hf_61]; exact up_n (k := 7) (by decide) (by decide) hk_54
        have hk_66 : f_60 3 = (f_4 3) := by rw [← hf_61]; exact up_n (k := 7) (by decide) (by decide) hk_55
        have hk_67 : f_60 2 = (f_4 2) := by rw [← hf_61]; exact up_n (k := 7) (by decide) (by decide) hk_56
        have hk_68 : f_60 1 = (f_4 1) := by rw [← hf_61]; exact up_n (k := 7) (by decide) (by decide) hk_57
        have hk_69 : f_60 0 = (f_4 0) := by rw [← hf_61]; exact up_n (k := 7) (by decide) (by decide) hk_58
        clear hf_61
        refine lv_iinc (v := 8) (lv' := [(6, .int 8), (0, .ref h0), (1, .int p1), (2, .int p2), (3, .int p3), (4, .int p4), (5, .int p5)]) hx hb dX8_add_70 hl (k := 0) rfl (by decide) (by decide) rfl (fun ls hl => ?_)
        refine lv_goto (tgt := 41) hx hb dX8_add_73 (by decide) ?_
        refine lv_iload hx hb dX8_add_41 (lv_at hl 0 rfl) ?_
        refine lv_bipush (v := 8) hx hb dX8_add_43 (by decide) ?_
        refine lv_icmp_ge (tgt := 76) hx hb dX8_add_45 (by decide) (fun c_70 => ?_) (fun c_70 => ?_)
        rotate_left
        · exact absurd c_70 (by decide)
        refine lv_aload_n hx hb dX8_add_76 rfl (lv_at hl 1 rfl) ?_
        refine va_get (D := (dC, dI)) (ci := 8) (v := .ref h0_classes) (C := RX8) (T := TX8) (N := 23) hx hb hts hi8 hown hK hP 2 rfl rfl 1 (by decide) (hts (.fieldLink RX8 13 "AskTreeModel" "classes" "[I") (by decide +kernel)) (fun _ h9 => h9) rfl dX8_add_77 ?_
        refine lv_aload_n hx hb dX8_add_80 rfl (lv_at hl 1 rfl) ?_
        refine va_get (D := (dC, dI)) (ci := 8) (v := .int 0) (C := RX8) (T := TX8) (N := 23) hx hb hts hi8 hown hK hP 2 rfl rfl 2 (by decide) (hts (.fieldLink RX8 64 "AskTreeModel" "cases" "I") (by decide +kernel)) (fun _ h9 => h9) rfl dX8_add_81 ?_
        refine lv_iload_n hx hb dX8_add_84 rfl (lv_at hl 2 rfl) ?_
        refine va_iast hx hb hK hP hD hS 1 2 rfl rfl (vi _ _ (by decide)) dX8_add_85 (fun H locs hP hD hS => ?_)
        have hP : va_P (dC, dI) vwCl [(h0_marks, .inl (k0_marks, 2400, .inl f_60)), (h0_classes, .inl (k0_classes, 300, .inl (upd (fun _ => 0) (Int32.toNatClampNeg 0) p1))), (h0, .inr (8, [.ref h0_marks, .ref h0_classes, .int 0, .ref a0_isSort, .ref a0_nodes, .ref a0_many, .int 0, .ref a0_in, .int 0, .int 0, .int 0, .ref h0_asked, .ref a0_turned, .int 0, .int (-1), .int (-1), .ref a0_heap, .ref a0_heapYes, .ref a0_path, .ref a0_bestWrong, .ref a0_bestAsked, .ref a0_bestMark, .ref a0_bestV])), (h0_asked, .inl (k0_asked, 8, .inl f_4))] H := hP
        have hD : va_D A [(h0_marks, .inl (k0_marks, 2400, .inl f_60)), (h0_classes, .inl (k0_classes, 300, .inl (upd (fun _ => 0) (Int32.toNatClampNeg 0) p1))), (h0, .inr (8, [.ref h0_marks, .ref h0_classes, .int 0, .ref a0_isSort, .ref a0_nodes, .ref a0_many, .int 0, .ref a0_in, .int 0, .int 0, .int 0, .ref h0_asked, .ref a0_turned, .int 0, .int (-1), .int (-1), .ref a0_heap, .ref a0_heapYes, .ref a0_path, .ref a0_bestWrong, .ref a0_bestAsked, .ref a0_bestMark, .ref a0_bestV])), (h0_asked, .inl (k0_asked, 8, .inl f_4))] := hD
        generalize hf_72 : upd (fun _ => 0) (Int32.toNatClampNeg 0) p1 = f_71 at hP hD
        have hk_73 : f_71 0 = p1 := by rw [← hf_72]; exact up_s (by decide)
        clear hf_72
        refine lv_aload_n hx hb dX8_add_86 rfl (lv_at hl 1 rfl) ?_
        refine lv_dup hx hb dX8_add_87 rfl ?_
        refine va_get (D := (dC, dI)) (ci := 8) (v := .int 0) (C := RX8) (T := TX8) (N := 23) hx hb hts hi8 hown hK hP 2 rfl rfl 2 (by decide) (hts (.fieldLink RX8 64 "AskTreeModel" "cases" "I") (by decide +kernel)) (fun _ h9 => h9) rfl dX8_add_88 ?_
        refine lv_iconst (v := 1) hx hb dX8_add_91 (by decide) ?_
        refine lv_iadd hx hb dX8_add_92 ?_
        refine tvv (v := .int 1) (congrArg Value.int (by decide)) ?_
        refine va_put (D := (dC, dI)) (ci := 8) (v := .int 1) (ty := .int) (C := RX8) (T := TX8) (N := 23) hx hb hts hi8 tyX8 tyX8_ok nmX8 hown hK hP hD hS 2 rfl rfl 2 (by decide) (hts (.fieldLink RX8 64 "AskTreeModel" "cases" "I") (by decide +kernel)) (fun _ h9 => h9) rfl (by decide +kernel) rfl rfl (Nat.le_of_ble_eq_true rfl) dX8_add_93 (fun H locs hP hD hS => ?_)
        have hP : va_P (dC, dI) vwCl [(h0_marks, .inl (k0_marks, 2400, .inl f_60)), (h0_classes, .inl (k0_classes, 300, .inl f_71)), (h0, .inr (8, [.ref h0_marks, .ref h0_classes, .int 1, .ref a0_isSort, .ref a0_nodes, .ref a0_many, .int 0, .ref a0_in, .int 0, .int 0, .int 0, .ref h0_asked, .ref a0_turned, .int 0, .int (-1), .int (-1), .ref a0_heap, .ref a0_heapYes, .ref a0_path, .ref a0_bestWrong, .ref a0_bestAsked, .ref a0_bestMark, .ref a0_bestV])), (h0_asked, .inl (k0_asked, 8, .inl f_4))] H := hP
        have hD : va_D A [(h0_marks, .inl (k0_marks, 2400, .inl f_60)), (h0_classes, .inl (k0_classes, 300, .inl f_71)), (h0, .inr (8, [.ref h0_marks, .ref h0_classes, .int 1, .ref a0_isSort, .ref a0_nodes, .ref a0_many, .int 0, .ref a0_in, .int 0, .int 0, .int 0, .ref h0_asked, .ref a0_turned, .int 0, .int (-1), .int (-1), .ref a0_heap, .ref a0_heapYes, .ref a0_path, .ref a0_bestWrong, .ref a0_bestAsked, .ref a0_bestMark, .ref a0_bestV])), (h0_asked, .inl (k0_asked, 8, .inl f_4))] := hD
        refine lv_aload_n hx hb dX8_add_96 rfl (lv_at hl 1 rfl) ?_
        refine va_get (D := (dC, dI)) (ci := 8) (v := .int 1) (C := RX8) (T := TX8) (N := 23) hx hb hts hi8 hown hK hP 2 rfl rfl 2 (by decide) (hts (.fieldLink RX8 64 "AskTreeModel" "cases" "I") (by decide +kernel)) (fun _ h9 => h9) rfl dX8_add_97 ?_
        refine lv_iconst (v := 1) hx hb dX8_add_100 (by decide) ?_
        refine lv_isub hx hb dX8_add_101 ?_
        refine tvv (v := .int 0) (congrArg Value.int (by decide)) ?_
        exact W.iret (v := 0) hx hb hr (fun t ht hW => ⟨⟨0, (), rfl, (Or.inl ⟨(lf_m_add_3 p1 p2 p3 p4 p5 c_1 c_2 c_5), rfl⟩), trivial⟩, hS.F ht⟩) hS.2.2 dX8_add_102
      · skip
        obtain ⟨hP1, hK1, hD1⟩ := hB
        rw [ht] at hP1
        obtain ⟨hP, hD⟩ := va_join (wr := [(h0_marks, .inl (k0_marks, 2400, .inl (fun _ => 0))), (h0_classes, .inl (k0_classes, 300, .inl (fun _ => 0)))]) (w1 := [(h0, .inr (8, [.ref h0_marks, .ref h0_classes, .int 0, .ref a0_isSort, .ref a0_nodes, .ref a0_many, .int 0, .ref a0_in, .int 0, .int 0, .int 0, .ref h0_asked, .ref a0_turned, .int 0, .int (-1), .int (-1), .ref a0_heap, .ref a0_heapYes, .ref a0_path, .ref a0_bestWrong, .ref a0_bestAsked, .ref a0_bestMark, .ref a0_bestV])), (h0_asked, .inl (k0_asked, 8, .inl f_6))]) hP hD [0, 1] [2, 3] rfl rfl (by decide) (by decide) hk1 hFc hP1 hD1
        generalize H1 = H at hP hS ⊢
        clear hP1 hD1 hFc hk1 hz1 ht hvm hK1
        have hP : va_P (dC, dI) vwCl [(h0_marks, .inl (k0_marks, 2400, .inl (fun _ => 0))), (h0_classes, .inl (k0_classes, 300, .inl (fun _ => 0))), (h0, .inr (8, [.ref h0_marks, .ref h0_classes, .int 0, .ref a0_isSort, .ref a0_nodes, .ref a0_many, .int 0, .ref a0_in, .int 0, .int 0, .int 0, .ref h0_asked, .ref a0_turned, .int 0, .int (-1), .int (-1), .ref a0_heap, .ref a0_heapYes, .ref a0_path, .ref a0_bestWrong, .ref a0_bestAsked, .ref a0_bestMark, .ref a0_bestV])), (h0_asked, .inl (k0_asked, 8, .inl f_6))] H := hP
        have hD : va_D A [(h0_marks, .inl (k0_marks, 2400, .inl (fun _ => 0))), (h0_classes, .inl (k0_classes, 300, .inl (fun _ => 0))), (h0, .inr (8, [.ref h0_marks, .ref h0_classes, .int 0, .ref a0_isSort, .ref a0_nodes, .ref a0_many, .int 0, .ref a0_in, .int 0, .int 0, .int 0, .ref h0_asked, .ref a0_turned, .int 0, .int (-1), .int (-1), .ref a0_heap, .ref a0_heapYes, .ref a0_path, .ref a0_bestWrong, .ref a0_bestAsked, .ref a0_bestMark, .ref a0_bestV])), (h0_asked, .inl (k0_asked, 8, .inl f_6))] := hD
        refine lv_if_ne (tgt := 25) hx hb dX8_add_20 (by decide) (fun c_74 => ?_) (fun c_74 => ?_)
        · exact absurd c_74 (by decide)
        refine lv_iconst (v := (-1)) hx hb dX8_add_23 (by decide) ?_
        exact W.iret (v := (-1)) hx hb hr (fun t ht hW => ⟨⟨(-1), (), rfl, (Or.inr ⟨(lf_m_add_4 p1 p2 p3 p4 p5 c_1 c_2 c_7), rfl⟩), trivial⟩, hS.F ht⟩) hS.2.2 dX8_add_24

theorem lf_m_grow_1 (p1 : Int32) (p2 : Int32) (e0 : p1 < 0) : ¬ (0 ≤ p1 ∧ p1 ≤ 8 ∧ 1 ≤ p2 ∧ p2 ≤ 100) := by
  (try simp only [Int32.lt_iff_toInt_lt, Int32.le_iff_toInt_le, ← Int32.toInt_inj, ln_0, ln_1, ln_2, ln_3, ln_4, ln_6, ln_8, ln_10, ln_50, ln_100, ln_300, ln_1000, ln_m1000, ln_m32768, ln_m1, ln_m2, ln_m40000, ln_20] at *)
  all_goals omega
theorem lf_m_grow_2 (p1 : Int32) (p2 : Int32) (e0 : ¬ p1 < 0) (e1 : 8 < p1) : ¬ (0 ≤ p1 ∧ p1 ≤ 8 ∧ 1 ≤ p2 ∧ p2 ≤ 100) := by
  (try simp only [Int32.lt_iff_toInt_lt, Int32.le_iff_toInt_le, ← Int32.toInt_inj, ln_0, ln_1, ln_2, ln_3, ln_4, ln_6, ln_8, ln_10, ln_50, ln_100, ln_300, ln_1000, ln_m1000, ln_m32768, ln_m1, ln_m2, ln_m40000, ln_20] at *)
  all_goals omega
theorem lf_m_grow_3 (p1 : Int32) (p2 : Int32) (e0 : ¬ p1 < 0) (e1 : ¬ 8 < p1) (e2 : p2 < 1) : ¬ (0 ≤ p1 ∧ p1 ≤ 8 ∧ 1 ≤ p2 ∧ p2 ≤ 100) := by
  (try simp only [Int32.lt_iff_toInt_lt, Int32.le_iff_toInt_le, ← Int32.toInt_inj, ln_0, ln_1, ln_2, ln_3, ln_4, ln_6, ln_8, ln_10, ln_50, ln_100, ln_300, ln_1000, ln_m1000, ln_m32768, ln_m1, ln_m2, ln_m40000, ln_20] at *)
  all_goals omega
theorem lf_m_grow_4 (p1 : Int32) (p2 : Int32) (e0 : ¬ p1 < 0) (e1 : ¬ 8 < p1) (e2 : ¬ p2 < 1) (e3 : 100 < p2) : ¬ (0 ≤ p1 ∧ p1 ≤ 8 ∧ 1 ≤ p2 ∧ p2 ≤ 100) := by
  (try simp only [Int32.lt_iff_toInt_lt, Int32.le_iff_toInt_le, ← Int32.toInt_inj, ln_0, ln_1, ln_2, ln_3, ln_4, ln_6, ln_8, ln_10, ln_50, ln_100, ln_300, ln_1000, ln_m1000, ln_m32768, ln_m1, ln_m2, ln_m40000, ln_20] at *)
  all_goals omega
theorem lf_m_grow_5 (p1 : Int32) (p2 : Int32) (e0 : ¬ p1 < 0) (e1 : ¬ 8 < p1) (e2 : ¬ p2 < 1) (e3 : ¬ 100 < p2) : 0 ≤ p1 ∧ p1 ≤ 8 ∧ 1 ≤ p2 ∧ p2 ≤ 100 := by
  (try simp only [Int32.lt_iff_toInt_lt, Int32.le_iff_toInt_le, ← Int32.toInt_inj, ln_0, ln_1, ln_2, ln_3, ln_4, ln_6, ln_8, ln_10, ln_50, ln_100, ln_300, ln_1000, ln_m1000, ln_m32768, ln_m1, ln_m2, ln_m40000, ln_20] at *)
  all_goals omega
set_option maxHeartbeats 4000000 in
set_option maxRecDepth 100000 in
theorem c_m_grow (l : Launch) (dC : Nat → ClassId) (dI : Nat → Nat → Nat) (sz : Nat) (h0 : Nat) (p1 : Int32) (p2 : Int32) (h0_heap : Nat) (h0_many : Nat) (h0_nodes : Nat) (a0_marks : Nat) (a0_classes : Nat) (a0_isSort : Nat) (a0_in : Nat) (a0_asked : Nat) (a0_turned : Nat) (a0_heapYes : Nat) (a0_path : Nat) (a0_bestWrong : Nat) (a0_bestAsked : Nat) (a0_bestMark : Nat) (a0_bestV : Nat) (k0_heap : ClassId) (k0_many : ClassId) (k0_nodes : ClassId)   : Met l yX8_grow wsX8_grow ({ frames := 4, cells := 0, slots := 0, locals := 134 }) (va_Pc [.ref h0, .int p1, .int p2] (pw (dC, dI) [(k0_heap, .int), (k0_many, .int), (k0_nodes, .int)] [(h0, .inr (8, [.ref a0_marks, .ref a0_classes, .int 0, .ref a0_isSort, .ref h0_nodes, .ref h0_many, .int 0, .ref a0_in, .int 0, .int 0, .int 0, .ref a0_asked, .ref a0_turned, .int 0, .int (-1), .int (-1), .ref h0_heap, .ref a0_heapYes, .ref a0_path, .ref a0_bestWrong, .ref a0_bestAsked, .ref a0_bestMark, .ref a0_bestV])), (h0_heap, .inl (k0_heap, 4, .inl (fun _ => 0))), (h0_many, .inl (k0_many, 21, .inl (fun _ => 0))), (h0_nodes, .inl (k0_nodes, 134400, .inl (fun _ => 0)))] sz)) (va_Qi (fun (r : Int32) (_ : Unit) => ((0 ≤ p1 ∧ p1 ≤ 8 ∧ 1 ≤ p2 ∧ p2 ≤ 100) ∧ r = 0) ∨ (¬ (0 ≤ p1 ∧ p1 ≤ 8 ∧ 1 ≤ p2 ∧ p2 ≤ 100) ∧ r = (-1))) (fun _ _ => True) (va_A [(h0, .inr (8, [.ref a0_marks, .ref a0_classes, .int 0, .ref a0_isSort, .ref h0_nodes, .ref h0_many, .int 0, .ref a0_in, .int 0, .int 0, .int 0, .ref a0_asked, .ref a0_turned, .int 0, .int (-1), .int (-1), .ref h0_heap, .ref a0_heapYes, .ref a0_path, .ref a0_bestWrong, .ref a0_bestAsked, .ref a0_bestMark, .ref a0_bestV])), (h0_heap, .inl (k0_heap, 4, .inl (fun _ => 0))), (h0_many, .inl (k0_many, 21, .inl (fun _ => 0))), (h0_nodes, .inl (k0_nodes, 134400, .inl (fun _ => 0)))] sz)) 0 0 (va_A [(h0, .inr (8, [.ref a0_marks, .ref a0_classes, .int 0, .ref a0_isSort, .ref h0_nodes, .ref h0_many, .int 0, .ref a0_in, .int 0, .int 0, .int 0, .ref a0_asked, .ref a0_turned, .int 0, .int (-1), .int (-1), .ref h0_heap, .ref a0_heapYes, .ref a0_path, .ref a0_bestWrong, .ref a0_bestAsked, .ref a0_bestMark, .ref a0_bestV])), (h0_heap, .inl (k0_heap, 4, .inl (fun _ => 0))), (h0_many, .inl (k0_many, 21, .inl (fun _ => 0))), (h0_nodes, .inl (k0_nodes, 134400, .inl (fun _ => 0)))] sz) := by
  refine Met.ofW (cc := cX8_grow) (maxL := 4) (ret := (some .int)) (by decide) rfl ?_
  intro p e s m args below meth c s₁ B hml hv
  obtain ⟨rfl, hsz, hP, hK, hD0, hN⟩ := hv
  have hx := B.exec
  have hb := B.bytes
  have hr := B.returns
  have hts := atoms_spec (ws := wsX8_grow) B.pre
  have hown : s.vm.findClass RX8 = some m.cls := findClass_of_methodNamed B.named
  have hlocks := B.notSynchronized
  have hi8 : ∀ w ∈ u_ws RX8 TX8 23, w ∈ wsX8_grow := fun _ h => List.mem_cons_of_mem _ (List.mem_append_right _ h)
  subst hsz
  have hD := hD0.self (sz := s.heap.size)
  generalize hAe : va_A [(h0, .inr (8, [.ref a0_marks, .ref a0_classes, .int 0, .ref a0_isSort, .ref h0_nodes, .ref h0_many, .int 0, .ref a0_in, .int 0, .int 0, .int 0, .ref a0_asked, .ref a0_turned, .int 0, .int (-1), .int (-1), .ref h0_heap, .ref a0_heapYes, .ref a0_path, .ref a0_bestWrong, .ref a0_bestAsked, .ref a0_bestMark, .ref a0_bestV])), (h0_heap, .inl (k0_heap, 4, .inl (fun _ => 0))), (h0_many, .inl (k0_many, 21, .inl (fun _ => 0))), (h0_nodes, .inl (k0_nodes, 134400, .inl (fun _ => 0)))] s.heap.size = A at hD ⊢
  have hA : ∀ q : Nat, s.heap.size ≤ q → A q := fun q h => by rw [← hAe]; exact Or.inr h
  have hS : va_S A s.heap s.heap [] := va_S.rf
  have hl := lv_entry ([.ref h0, .int p1, .int p2]) (n := 4) (Nat.le_of_ble_eq_true rfl)
  rw [lg_entry_eq]
  generalize (lg_sl ([.ref h0, .int p1, .int p2]) ++ List.replicate (4 - (lg_sl ([.ref h0, .int p1, .int p2])).length) Slot.unset).toArray = ls at hl ⊢
  have hl : lv_has ls 4 [(0, .ref h0), (1, .int p1), (2, .int p2)] := hl
  have hP : va_P (dC, dI) vwCl [(h0, .inr (8, [.ref a0_marks, .ref a0_classes, .int 0, .ref a0_isSort, .ref h0_nodes, .ref h0_many, .int 0, .ref a0_in, .int 0, .int 0, .int 0, .ref a0_asked, .ref a0_turned, .int 0, .int (-1), .int (-1), .ref h0_heap, .ref a0_heapYes, .ref a0_path, .ref a0_bestWrong, .ref a0_bestAsked, .ref a0_bestMark, .ref a0_bestV])), (h0_heap, .inl (k0_heap, 4, .inl (fun _ => 0))), (h0_many, .inl (k0_many, 21, .inl (fun _ => 0))), (h0_nodes, .inl (k0_nodes, 134400, .inl (fun _ => 0)))] s.heap := hP
  refine lv_iload_n hx hb dX8_grow_0 rfl (lv_at hl 1 rfl) ?_
  refine lv_iload_n hx hb dX8_grow_1 rfl (lv_at hl 2 rfl) ?_
  have hPc := hP.sub (ws' := []) [] rfl
  have hDc := hD.sub (ws' := []) [] (by decide) rfl
  have hKc := hK.sub (tys' := []) [] rfl
  have hFc := va_free (wc := []) hD hS hA [] rfl
  refine va_calli (va_runS (As := [.int p1, .int p2]) (rest := []) ⟨hx, hb, hml, hown, hts⟩ (c_areGrowing l dC dI s.heap.size p1 p2 ) (va_cwS 2 hts gX8_grow_X8_areGrowing rfl rfl rfl (by decide +kernel) ⟨Nat.le_of_ble_eq_true rfl, Nat.le_of_ble_eq_true rfl⟩) (pre_S hPc hKc hDc hN) rfl rfl hl.1 rfl (lv_room (Nat.le_of_ble_eq_true rfl)) dX8_grow_2 ⟨Nat.le_of_ble_eq_true rfl, Nat.le_of_ble_eq_true rfl⟩) hS (fun q _ h => hFc q h) hFc (fun r_1 u t H1 locs ht hvm hw hB hz1 hk1 hS => ?_)
  clear hPc hDc hKc
  rcases hw with ⟨rfl, c_2, rfl⟩ | ⟨rfl, c_3, c_4, rfl⟩ | ⟨rfl, c_5, c_6, c_7, rfl⟩ | ⟨rfl, c_8, c_9, c_10, c_11, rfl⟩ | ⟨rfl, c_12, c_13, c_14, c_15, rfl⟩
  · skip
    obtain ⟨hP1, hK1, hD1⟩ := hB
    rw [ht] at hP1
    obtain ⟨hP, hD⟩ := va_join (wr := [(h0, .inr (8, [.ref a0_marks, .ref a0_classes, .int 0, .ref a0_isSort, .ref h0_nodes, .ref h0_many, .int 0, .ref a0_in, .int 0, .int 0, .int 0, .ref a0_asked, .ref a0_turned, .int 0, .int (-1), .int (-1), .ref h0_heap, .ref a0_heapYes, .ref a0_path, .ref a0_bestWrong, .ref a0_bestAsked, .ref a0_bestMark, .ref a0_bestV])), (h0_heap, .inl (k0_heap, 4, .inl (fun _ => 0))), (h0_many, .inl (k0_many, 21, .inl (fun _ => 0))), (h0_nodes, .inl (k0_nodes, 134400, .inl (fun _ => 0)))]) (w1 := []) hP hD [] [0, 1, 2, 3] rfl rfl (by decide) (by decide) hk1 hFc hP1 hD1
    generalize H1 = H at hP hS ⊢
    clear hP1 hD1 hFc hk1 hz1 ht hvm hK1
    have hP : va_P (dC, dI) vwCl [(h0, .inr (8, [.ref a0_marks, .ref a0_classes, .int 0, .ref a0_isSort, .ref h0_nodes, .ref h0_many, .int 0, .ref a0_in, .int 0, .int 0, .int 0, .ref a0_asked, .ref a0_turned, .int 0, .int (-1), .int (-1), .ref h0_heap, .ref a0_heapYes, .ref a0_path, .ref a0_bestWrong, .ref a0_bestAsked, .ref a0_bestMark, .ref a0_bestV])), (h0_heap, .inl (k0_heap, 4, .inl (fun _ => 0))), (h0_many, .inl (k0_many, 21, .inl (fun _ => 0))), (h0_nodes, .inl (k0_nodes, 134400, .inl (fun _ => 0)))] H := hP
    have hD : va_D A [(h0, .inr (8, [.ref a0_marks, .ref a0_classes, .int 0, .ref a0_isSort, .ref h0_nodes, .ref h0_many, .int 0, .ref a0_in, .int 0, .int 0, .int 0, .ref a0_asked, .ref a0_turned, .int 0, .int (-1), .int (-1), .ref h0_heap, .ref a0_heapYes, .ref a0_path, .ref a0_bestWrong, .ref a0_bestAsked, .ref a0_bestMark, .ref a0_bestV])), (h0_heap, .inl (k0_heap, 4, .inl (fun _ => 0))), (h0_many, .inl (k0_many, 21, .inl (fun _ => 0))), (h0_nodes, .inl (k0_nodes, 134400, .inl (fun _ => 0)))] := hD
    refine lv_if_ne (tgt := 10) hx hb dX8_grow_5 (by decide) (fun c_16 => ?_) (fun c_16 => ?_)
    · exact absurd c_16 (by decide)
    refine lv_iconst (v := (-1)) hx hb dX8_grow_8 (by decide) ?_
    exact W.iret (v := (-1)) hx hb hr (fun t ht hW => ⟨⟨(-1), (), rfl, (Or.inr ⟨(lf_m_grow_1 p1 p2 c_2), rfl⟩), trivial⟩, hS.F ht⟩) hS.2.2 dX8_grow_9
  · skip
    obtain ⟨hP1, hK1, hD1⟩ := hB
    rw [ht] at hP1
    obtain ⟨hP, hD⟩ := va_join (wr := [(h0, .inr (8, [.ref a0_marks, .ref a0_classes, .int 0, .ref a0_isSort, .ref h0_nodes, .ref h0_many, .int 0, .ref a0_in, .int 0, .int 0, .int 0, .ref a0_asked, .ref a0_turned, .int 0, .int (-1), .int (-1), .ref h0_heap, .ref a0_heapYes, .ref a0_path, .ref a0_bestWrong, .ref a0_bestAsked, .ref a0_bestMark, .ref a0_bestV])), (h0_heap, .inl (k0_heap, 4, .inl (fun _ => 0))), (h0_many, .inl (k0_many, 21, .inl (fun _ => 0))), (h0_nodes, .inl (k0_nodes, 134400, .inl (fun _ => 0)))]) (w1 := []) hP hD [] [0, 1, 2, 3] rfl rfl (by decide) (by decide) hk1 hFc hP1 hD1
    generalize H1 = H at hP hS ⊢
    clear hP1 hD1 hFc hk1 hz1 ht hvm hK1
    have hP : va_P (dC, dI) vwCl [(h0, .inr (8, [.ref a0_marks, .ref a0_classes, .int 0, .ref a0_isSort, .ref h0_nodes, .ref h0_many, .int 0, .ref a0_in, .int 0, .int 0, .int 0, .ref a0_asked, .ref a0_turned, .int 0, .int (-1), .int (-1), .ref h0_heap, .ref a0_heapYes, .ref a0_path, .ref a0_bestWrong, .ref a0_bestAsked, .ref a0_bestMark, .ref a0_bestV])), (h0_heap, .inl (k0_heap, 4, .inl (fun _ => 0))), (h0_many, .inl (k0_many, 21, .inl (fun _ => 0))), (h0_nodes, .inl (k0_nodes, 134400, .inl (fun _ => 0)))] H := hP
    have hD : va_D A [(h0, .inr (8, [.ref a0_marks, .ref a0_classes, .int 0, .ref a0_isSort, .ref h0_nodes, .ref h0_many, .int 0, .ref a0_in, .int 0, .int 0, .int 0, .ref a0_asked, .ref a0_turned, .int 0, .int (-1), .int (-1), .ref h0_heap, .ref a0_heapYes, .ref a0_path, .ref a0_bestWrong, .ref a0_bestAsked, .ref a0_bestMark, .ref a0_bestV])), (h0_heap, .inl (k0_heap, 4, .inl (fun _ => 0))), (h0_many, .inl (k0_many, 21, .inl (fun _ => 0))), (h0_nodes, .inl (k0_nodes, 134400, .inl (fun _ => 0)))] := hD
    refine lv_if_ne (tgt := 10) hx hb dX8_grow_5 (by decide) (fun c_17 => ?_) (fun c_17 => ?_)
    · exact absurd c_17 (by decide)
    refine lv_iconst (v := (-1)) hx hb dX8_grow_8 (by decide) ?_
    exact W.iret (v := (-1)) hx hb hr (fun t ht hW => ⟨⟨(-1), (), rfl, (Or.inr ⟨(lf_m_grow_2 p1 p2 c_3 c_4), rfl⟩), trivial⟩, hS.F ht⟩) hS.2.2 dX8_grow_9
  · skip
    obtain ⟨hP1, hK1, hD1⟩ := hB
    rw [ht] at hP1
    obtain ⟨hP, hD⟩ := va_join (wr := [(h0, .inr (8, [.ref a0_marks, .ref a0_classes, .int 0, .ref a0_isSort, .ref h0_nodes, .ref h0_many, .int 0, .ref a0_in, .int 0, .int 0, .int 0, .ref a0_asked, .ref a0_turned, .int 0, .int (-1), .int (-1), .ref h0_heap, .ref a0_heapYes, .ref a0_path, .ref a0_bestWrong, .ref a0_bestAsked, .ref a0_bestMark, .ref a0_bestV])), (h0_heap, .inl (k0_heap, 4, .inl (fun _ => 0))), (h0_many, .inl (k0_many, 21, .inl (fun _ => 0))), (h0_nodes, .inl (k0_nodes, 134400, .inl (fun _ => 0)))]) (w1 := []) hP hD [] [0, 1, 2, 3] rfl rfl (by decide) (by decide) hk1 hFc hP1 hD1
    generalize H1 = H at hP hS ⊢
    clear hP1 hD1 hFc hk1 hz1 ht hvm hK1
    have hP : va_P (dC, dI) vwCl [(h0, .inr (8, [.ref a0_marks, .ref a0_classes, .int 0, .ref a0_isSort, .ref h0_nodes, .ref h0_many, .int 0, .ref a0_in, .int 0, .int 0, .int 0, .ref a0_asked, .ref a0_turned, .int 0, .int (-1), .int (-1), .ref h0_heap, .ref a0_heapYes, .ref a0_path, .ref a0_bestWrong, .ref a0_bestAsked, .ref a0_bestMark, .ref a0_bestV])), (h0_heap, .inl (k0_heap, 4, .inl (fun _ => 0))), (h0_many, .inl (k0_many, 21, .inl (fun _ => 0))), (h0_nodes, .inl (k0_nodes, 134400, .inl (fun _ => 0)))] H := hP
    have hD : va_D A [(h0, .inr (8, [.ref a0_marks, .ref a0_classes, .int 0, .ref a0_isSort, .ref h0_nodes, .ref h0_many, .int 0, .ref a0_in, .int 0, .int 0, .int 0, .ref a0_asked, .ref a0_turned, .int 0, .int (-1), .int (-1), .ref h0_heap, .ref a0_heapYes, .ref a0_path, .ref a0_bestWrong, .ref a0_bestAsked, .ref a0_bestMark, .ref a0_bestV])), (h0_heap, .inl (k0_heap, 4, .inl (fun _ => 0))), (h0_many, .inl (k0_many, 21, .inl (fun _ => 0))), (h0_nodes, .inl (k0_nodes, 134400, .inl (fun _ => 0)))] := hD
    refine lv_if_ne (tgt := 10) hx hb dX8_grow_5 (by decide) (fun c_18 => ?_) (fun c_18 => ?_)
    · exact absurd c_18 (by decide)
    refine lv_iconst (v := (-1)) hx hb dX8_grow_8 (by decide) ?_
    exact W.iret (v := (-1)) hx hb hr (fun t ht hW => ⟨⟨(-1), (), rfl, (Or.inr ⟨(lf_m_grow_3 p1 p2 c_5 c_6 c_7), rfl⟩), trivial⟩, hS.F ht⟩) hS.2.2 dX8_grow_9
  · skip
    obtain ⟨hP1, hK1, hD1⟩ := hB
    rw [ht] at hP1
    obtain ⟨hP, hD⟩ := va_join (wr := [(h0, .inr (8, [.ref a0_marks, .ref a0_classes, .int 0, .ref a0_isSort, .ref h0_nodes, .ref h0_many, .int 0, .ref a0_in, .int 0, .int 0, .int 0, .ref a0_asked, .ref a0_turned, .int 0, .int (-1), .int (-1), .ref h0_heap, .ref a0_heapYes, .ref a0_path, .ref a0_bestWrong, .ref a0_bestAsked, .ref a0_bestMark, .ref a0_bestV])), (h0_heap, .inl (k0_heap, 4, .inl (fun _ => 0))), (h0_many, .inl (k0_many, 21, .inl (fun _ => 0))), (h0_nodes, .inl (k0_nodes, 134400, .inl (fun _ => 0)))]) (w1 := []) hP hD [] [0, 1, 2, 3] rfl rfl (by decide) (by decide) hk1 hFc hP1 hD1
    generalize H1 = H at hP hS ⊢
    clear hP1 hD1 hFc hk1 hz1 ht hvm hK1
    have hP : va_P (dC, dI) vwCl [(h0, .inr (8, [.ref a0_marks, .ref a0_classes, .int 0, .ref a0_isSort, .ref h0_nodes, .ref h0_many, .int 0, .ref a0_in, .int 0, .int 0, .int 0, .ref a0_asked, .ref a0_turned, .int 0, .int (-1), .int (-1), .ref h0_heap, .ref a0_heapYes, .ref a0_path, .ref a0_bestWrong, .ref a0_bestAsked, .ref a0_bestMark, .ref a0_bestV])), (h0_heap, .inl (k0_heap, 4, .inl (fun _ => 0))), (h0_many, .inl (k0_many, 21, .inl (fun _ => 0))), (h0_nodes, .inl (k0_nodes, 134400, .inl (fun _ => 0)))] H := hP
    have hD : va_D A [(h0, .inr (8, [.ref a0_marks, .ref a0_classes, .int 0, .ref a0_isSort, .ref h0_nodes, .ref h0_many, .int 0, .ref a0_in, .int 0, .int 0, .int 0, .ref a0_asked, .ref a0_turned, .int 0, .int (-1), .int (-1), .ref h0_heap, .ref a0_heapYes, .ref a0_path, .ref a0_bestWrong, .ref a0_bestAsked, .ref a0_bestMark, .ref a0_bestV])), (h0_heap, .inl (k0_heap, 4, .inl (fun _ => 0))), (h0_many, .inl (k0_many, 21, .inl (fun _ => 0))), (h0_nodes, .inl (k0_nodes, 134400, .inl (fun _ => 0)))] := hD
    refine lv_if_ne (tgt := 10) hx hb dX8_grow_5 (by decide) (fun c_19 => ?_) (fun c_19 => ?_)
    · exact absurd c_19 (by decide)
    refine lv_iconst (v := (-1)) hx hb dX8_grow_8 (by decide) ?_
    exact W.iret (v := (-1)) hx hb hr (fun t ht hW => ⟨⟨(-1), (), rfl, (Or.inr ⟨(lf_m_grow_4 p1 p2 c_8 c_9 c_10 c_11), rfl⟩), trivial⟩, hS.F ht⟩) hS.2.2 dX8_grow_9
  · skip
    obtain ⟨hP1, hK1, hD1⟩ := hB
    rw [ht] at hP1
    obtain ⟨hP, hD⟩ := va_join (wr := [(h0, .inr (8, [.ref a0_marks, .ref a0_classes, .int 0, .ref a0_isSort, .ref h0_nodes, .ref h0_many, .int 0, .ref a0_in, .int 0, .int 0, .int 0, .ref a0_asked, .ref a0_turned, .int 0, .int (-1), .int (-1), .ref h0_heap, .ref a0_heapYes, .ref a0_path, .ref a0_bestWrong, .ref a0_bestAsked, .ref a0_bestMark, .ref a0_bestV])), (h0_heap, .inl (k0_heap, 4, .inl (fun _ => 0))), (h0_many, .inl (k0_many, 21, .inl (fun _ => 0))), (h0_nodes, .inl (k0_nodes, 134400, .inl (fun _ => 0)))]) (w1 := []) hP hD [] [0, 1, 2, 3] rfl rfl (by decide) (by decide) hk1 hFc hP1 hD1
    generalize H1 = H at hP hS ⊢
    clear hP1 hD1 hFc hk1 hz1 ht hvm hK1
    have hP : va_P (dC, dI) vwCl [(h0, .inr (8, [.ref a0_marks, .ref a0_classes, .int 0, .ref a0_isSort, .ref h0_nodes, .ref h0_many, .int 0, .ref a0_in, .int 0, .int 0, .int 0, .ref a0_asked, .ref a0_turned, .int 0, .int (-1), .int (-1), .ref h0_heap, .ref a0_heapYes, .ref a0_path, .ref a0_bestWrong, .ref a0_bestAsked, .ref a0_bestMark, .ref a0_bestV])), (h0_heap, .inl (k0_heap, 4, .inl (fun _ => 0))), (h0_many, .inl (k0_many, 21, .inl (fun _ => 0))), (h0_nodes, .inl (k0_nodes, 134400, .inl (fun _ => 0)))] H := hP
    have hD : va_D A [(h0, .inr (8, [.ref a0_marks, .ref a0_classes, .int 0, .ref a0_isSort, .ref h0_nodes, .ref h0_many, .int 0, .ref a0_in, .int 0, .int 0, .int 0, .ref a0_asked, .ref a0_turned, .int 0, .int (-1), .int (-1), .ref h0_heap, .ref a0_heapYes, .ref a0_path, .ref a0_bestWrong, .ref a0_bestAsked, .ref a0_bestMark, .ref a0_bestV])), (h0_heap, .inl (k0_heap, 4, .inl (fun _ => 0))), (h0_many, .inl (k0_many, 21, .inl (fun _ => 0))), (h0_nodes, .inl (k0_nodes, 134400, .inl (fun _ => 0)))] := hD
    refine lv_if_ne (tgt := 10) hx hb dX8_grow_5 (by decide) (fun c_20 => ?_) (fun c_20 => ?_)
    rotate_left
    · exact absurd c_20 (by decide)
    refine lv_aload_n hx hb dX8_grow_10 rfl (lv_at hl 0 rfl) ?_
    refine va_get (D := (dC, dI)) (ci := 8) (v := .int 0) (C := RX8) (T := TX8) (N := 23) hx hb hts hi8 hown hK hP 0 rfl rfl 6 (by decide) (hts (.fieldLink RX8 67 "AskTreeModel" "trees" "I") (by decide +kernel)) (fun _ h9 => h9) rfl dX8_grow_11 ?_
    refine lv_bipush (v := 20) hx hb dX8_grow_14 (by decide) ?_
    refine lv_icmp_ne (tgt := 22) hx hb dX8_grow_16 (by decide) (fun c_21 => ?_) (fun c_21 => ?_)
    rotate_left
    · exact absurd c_21 (by decide)
    refine lv_iconst (v := 0) hx hb dX8_grow_22 (by decide) ?_
    refine lv_istore_n (lv' := [(3, .int 0), (0, .ref h0), (1, .int p1), (2, .int p2)]) hx hb dX8_grow_23 rfl hl (by decide) rfl (fun ls hl => ?_)
    refine lv_iload_n hx hb dX8_grow_24 rfl (lv_at hl 0 rfl) ?_
    refine lv_aload_n hx hb dX8_grow_25 rfl (lv_at hl 1 rfl) ?_
    refine va_get (D := (dC, dI)) (ci := 8) (v := .int 0) (C := RX8) (T := TX8) (N := 23) hx hb hts hi8 hown hK hP 0 rfl rfl 2 (by decide) (hts (.fieldLink RX8 64 "AskTreeModel" "cases" "I") (by decide +kernel)) (fun _ h9 => h9) rfl dX8_grow_26 ?_
    refine lv_icmp_ge (tgt := 45) hx hb dX8_grow_29 (by decide) (fun c_22 => ?_) (fun c_22 => ?_)
    rotate_left
    · exact absurd c_22 (by decide)
    refine lv_aload_n hx hb dX8_grow_45 rfl (lv_at hl 1 rfl) ?_
    refine lv_aload_n hx hb dX8_grow_46 rfl (lv_at hl 1 rfl) ?_
    refine va_get (D := (dC, dI)) (ci := 8) (v := .int 0) (C := RX8) (T := TX8) (N := 23) hx hb hts hi8 hown hK hP 0 rfl rfl 6 (by decide) (hts (.fieldLink RX8 67 "AskTreeModel" "trees" "I") (by decide +kernel)) (fun _ h9 => h9) rfl dX8_grow_47 ?_
    refine va_put (D := (dC, dI)) (ci := 8) (v := .int 0) (ty := .int) (C := RX8) (T := TX8) (N := 23) hx hb hts hi8 tyX8 tyX8_ok nmX8 hown hK hP hD hS 0 rfl rfl 8 (by decide) (hts (.fieldLink RX8 111 "AskTreeModel" "making" "I") (by decide +kernel)) (fun _ h9 => h9) rfl (by decide +kernel) rfl rfl (Nat.le_of_ble_eq_true rfl) dX8_grow_50 (fun H locs hP hD hS => ?_)
    have hP : va_P (dC, dI) vwCl [(h0, .inr (8, [.ref a0_marks, .ref a0_classes, .int 0, .ref a0_isSort, .ref h0_nodes, .ref h0_many, .int 0, .ref a0_in, .int 0, .int 0, .int 0, .ref a0_asked, .ref a0_turned, .int 0, .int (-1), .int (-1), .ref h0_heap, .ref a0_heapYes, .ref a0_path, .ref a0_bestWrong, .ref a0_bestAsked, .ref a0_bestMark, .ref a0_bestV])), (h0_heap, .inl (k0_heap, 4, .inl (fun _ => 0))), (h0_many, .inl (k0_many, 21, .inl (fun _ => 0))), (h0_nodes, .inl (k0_nodes, 134400, .inl (fun _ => 0)))] H := hP
    have hD : va_D A [(h0, .inr (8, [.ref a0_marks, .ref a0_classes, .int 0, .ref a0_isSort, .ref h0_nodes, .ref h0_many, .int 0, .ref a0_in, .int 0, .int 0, .int 0, .ref a0_asked, .ref a0_turned, .int 0, .int (-1), .int (-1), .ref h0_heap, .ref a0_heapYes, .ref a0_path, .ref a0_bestWrong, .ref a0_bestAsked, .ref a0_bestMark, .ref a0_bestV])), (h0_heap, .inl (k0_heap, 4, .inl (fun _ => 0))), (h0_many, .inl (k0_many, 21, .inl (fun _ => 0))), (h0_nodes, .inl (k0_nodes, 134400, .inl (fun _ => 0)))] := hD
    refine lv_aload_n hx hb dX8_grow_53 rfl (lv_at hl 1 rfl) ?_
    refine va_get (D := (dC, dI)) (ci := 8) (v := .ref h0_many) (C := RX8) (T := TX8) (N := 23) hx hb hts hi8 hown hK hP 0 rfl rfl 5 (by decide) (hts (.fieldLink RX8 24 "AskTreeModel" "many" "[I") (by decide +kernel)) (fun _ h9 => h9) rfl dX8_grow_54 ?_
    refine lv_aload_n hx hb dX8_grow_57 rfl (lv_at hl 1 rfl) ?_
    refine va_get (D := (dC, dI)) (ci := 8) (v := .int 0) (C := RX8) (T := TX8) (N := 23) hx hb hts hi8 hown hK hP 0 rfl rfl 8 (by decide) (hts (.fieldLink RX8 111 "AskTreeModel" "making" "I") (by decide +kernel)) (fun _ h9 => h9) rfl dX8_grow_58 ?_
    refine lv_iconst (v := 0) hx hb dX8_grow_61 (by decide) ?_
    refine va_iast hx hb hK hP hD hS 2 1 rfl rfl (vi _ _ (by decide)) dX8_grow_62 (fun H locs hP hD hS => ?_)
    have hP : va_P (dC, dI) vwCl [(h0, .inr (8, [.ref a0_marks, .ref a0_classes, .int 0, .ref a0_isSort, .ref h0_nodes, .ref h0_many, .int 0, .ref a0_in, .int 0, .int 0, .int 0, .ref a0_asked, .ref a0_turned, .int 0, .int (-1), .int (-1), .ref h0_heap, .ref a0_heapYes, .ref a0_path, .ref a0_bestWrong, .ref a0_bestAsked, .ref a0_bestMark, .ref a0_bestV])), (h0_heap, .inl (k0_heap, 4, .inl (fun _ => 0))), (h0_many, .inl (k0_many, 21, .inl (upd (fun _ => 0) (Int32.toNatClampNeg 0) 0))), (h0_nodes, .inl (k0_nodes, 134400, .inl (fun _ => 0)))] H := hP
    have hD : va_D A [(h0, .inr (8, [.ref a0_marks, .ref a0_classes, .int 0, .ref a0_isSort, .ref h0_nodes, .ref h0_many, .int 0, .ref a0_in, .int 0, .int 0, .int 0, .ref a0_asked, .ref a0_turned, .int 0, .int (-1), .int (-1), .ref h0_heap, .ref a0_heapYes, .ref a0_path, .ref a0_bestWrong, .ref a0_bestAsked, .ref a0_bestMark, .ref a0_bestV])), (h0_heap, .inl (k0_heap, 4, .inl (fun _ => 0))), (h0_many, .inl (k0_many, 21, .inl (upd (fun _ => 0) (Int32.toNatClampNeg 0) 0))), (h0_nodes, .inl (k0_nodes, 134400, .inl (fun _ => 0)))] := hD
    generalize hf_24 : upd (fun _ => 0) (Int32.toNatClampNeg 0) 0 = f_23 at hP hD
    have hk_25 : f_23 0 = 0 := by rw [← hf_24]; exact up_s (by decide)
    clear hf_24
    refine lv_aload_n hx hb dX8_grow_63 rfl (lv_at hl 1 rfl) ?_
    refine lv_iconst (v := 0) hx hb dX8_grow_64 (by decide) ?_
    refine lv_iload_n hx hb dX8_grow_65 rfl (lv_at hl 2 rfl) ?_
    refine lv_iload_n hx hb dX8_grow_66 rfl (lv_at hl 3 rfl) ?_
    have hPc := hP.sub (ws' := [(h0, .inr (8, [.ref a0_marks, .ref a0_classes, .int 0, .ref a0_isSort, .ref h0_nodes, .ref h0_many, .int 0, .ref a0_in, .int 0, .int 0, .int 0, .ref a0_asked, .ref a0_turned, .int 0, .int (-1), .int (-1), .ref h0_heap, .ref a0_heapYes, .ref a0_path, .ref a0_bestWrong, .ref a0_bestAsked, .ref a0_bestMark, .ref a0_bestV])), (h0_heap, .inl (k0_heap, 4, .inl (fun _ => 0))), (h0_many, .inl (k0_many, 21, .inl f_23)), (h0_nodes, .inl (k0_nodes, 134400, .inl (fun _ => 0)))]) [0, 1, 2, 3] rfl
    have hDc := hD.sub (ws' := [(h0, .inr (8, [.ref a0_marks, .ref a0_classes, .int 0, .ref a0_isSort, .ref h0_nodes, .ref h0_many, .int 0, .ref a0_in, .int 0, .int 0, .int 0, .ref a0_asked, .ref a0_turned, .int 0, .int (-1), .int (-1), .ref h0_heap, .ref a0_heapYes, .ref a0_path, .ref a0_bestWrong, .ref a0_bestAsked, .ref a0_bestMark, .ref a0_bestV])), (h0_heap, .inl (k0_heap, 4, .inl (fun _ => 0))), (h0_many, .inl (k0_many, 21, .inl f_23)), (h0_nodes, .inl (k0_nodes, 134400, .inl (fun _ => 0)))]) [0, 1, 2, 3] (by decide) rfl
    have hKc := hK.sub (tys' := [(k0_heap, .int), (k0_many, .int), (k0_nodes, .int)]) [0, 1, 2] rfl
    have hFc := va_free (wc := [(h0, .inr (8, [.ref a0_marks, .ref a0_classes, .int 0, .ref a0_isSort, .ref h0_nodes, .ref h0_many, .int 0, .ref a0_in, .int 0, .int 0, .int 0, .ref a0_asked, .ref a0_turned, .int 0, .int (-1), .int (-1), .ref h0_heap, .ref a0_heapYes, .ref a0_path, .ref a0_bestWrong, .ref a0_bestAsked, .ref a0_bestMark, .ref a0_bestV])), (h0_heap, .inl (k0_heap, 4, .inl (fun _ => 0))), (h0_many, .inl (k0_many, 21, .inl f_23)), (h0_nodes, .inl (k0_nodes, 134400, .inl (fun _ => 0)))]) hD hS hA [0, 1, 2, 3] rfl
    refine va_calli (va_runV (As := [.int 0, .int p1, .int p2]) (rest := []) ⟨hx, hb, hml, hown, hts⟩ (c_growNode0 l dC dI H.size h0 p1 p2 h0_heap h0_many h0_nodes a0_marks a0_classes a0_isSort a0_in a0_asked a0_turned a0_heapYes a0_path a0_bestWrong a0_bestAsked a0_bestMark a0_bestV k0_heap (fun _ => 0) k0_many f_23 k0_nodes (fun _ => 0) hk_25) (cwV 3 hts gX8_grow_X8_growNode rfl rfl rfl (by decide +kernel) ⟨Nat.le_of_ble_eq_true rfl, Nat.le_of_ble_eq_true rfl⟩) (pre_V hPc hKc hDc hN (ci := 8) (q0 := 0) rfl rfl) rfl rfl hl.1 rfl (lv_room (Nat.le_of_ble_eq_true rfl)) dX8_grow_67 ⟨Nat.le_of_ble_eq_true rfl, Nat.le_of_ble_eq_true rfl⟩) hS (fun q _ h => hFc q h) hFc (fun r_26 u t H1 locs ht hvm hw hB hz1 hk1 hS => ?_)
    clear hPc hDc hKc
    obtain ⟨f_27, f_28, f_29, rfl, hk_30, hk_31, hk_32, hk_33, rfl⟩ := hw
    obtain ⟨hP1, hK1, hD1⟩ := hB
    rw [ht] at hP1
    obtain ⟨hP, hD⟩ := va_join (wr := []) (w1 := [(h0, .inr (8, [.ref a0_marks, .ref a0_classes, .int 0, .ref a0_isSort, .ref h0_nodes, .ref h0_many, .int 0, .ref a0_in, .int 0, .int 0, .int 0, .ref a0_asked, .ref a0_turned, .int 0, .int (-1), .int (-1), .ref h0_heap, .ref a0_heapYes, .ref a0_path, .ref a0_bestWrong, .ref a0_bestAsked, .ref a0_bestMark, .ref a0_bestV])), (h0_heap, .inl (k0_heap, 4, .inl f_27)), (h0_many, .inl (k0_many, 21, .inl f_28)), (h0_nodes, .inl (k0_nodes, 134400, .inl f_29))]) hP hD [0, 1, 2, 3] [] rfl rfl (by decide) (by decide) hk1 hFc hP1 hD1
    generalize H1 = H at hP hS ⊢
    clear hP1 hD1 hFc hk1 hz1 ht hvm hK1
    have hP : va_P (dC, dI) vwCl [(h0, .inr (8, [.ref a0_marks, .ref a0_classes, .int 0, .ref a0_isSort, .ref h0_nodes, .ref h0_many, .int 0, .ref a0_in, .int 0, .int 0, .int 0, .ref a0_asked, .ref a0_turned, .int 0, .int (-1), .int (-1), .ref h0_heap, .ref a0_heapYes, .ref a0_path, .ref a0_bestWrong, .ref a0_bestAsked, .ref a0_bestMark, .ref a0_bestV])), (h0_heap, .inl (k0_heap, 4, .inl f_27)), (h0_many, .inl (k0_many, 21, .inl f_28)), (h0_nodes, .inl (k0_nodes, 134400, .inl f_29))] H := hP
    have hD : va_D A [(h0, .inr (8, [.ref a0_marks, .ref a0_classes, .int 0, .ref a0_isSort, .ref h0_nodes, .ref h0_many, .int 0, .ref a0_in, .int 0, .int 0, .int 0, .ref a0_asked, .ref a0_turned, .int 0, .int (-1), .int (-1), .ref h0_heap, .ref a0_heapYes, .ref a0_path, .ref a0_bestWrong, .ref a0_bestAsked, .ref a0_bestMark, .ref a0_bestV])), (h0_heap, .inl (k0_heap, 4, .inl f_27)), (h0_many, .inl (k0_many, 21, .inl f_28)), (h0_nodes, .inl (k0_nodes, 134400, .inl f_29))] := hD
    refine lv_istore_n (lv' := [(3, .int 0), (0, .ref h0), (1, .int p1), (2, .int p2)]) hx hb dX8_grow_70 rfl hl (by decide) rfl (fun ls hl => ?_)
    refine lv_aload_n hx hb dX8_grow_71 rfl (lv_at hl 1 rfl) ?_
    refine lv_dup hx hb dX8_grow_72 rfl ?_
    refine va_get (D := (dC, dI)) (ci := 8) (v := .int 0) (C := RX8) (T := TX8) (N := 23) hx hb hts hi8 hown hK hP 0 rfl rfl 6 (by decide) (hts (.fieldLink RX8 67 "AskTreeModel" "trees" "I") (by decide +kernel)) (fun _ h9 => h9) rfl dX8_grow_73 ?_
    refine lv_iconst (v := 1) hx hb dX8_grow_76 (by decide) ?_
    refine lv_iadd hx hb dX8_grow_77 ?_
    refine tvv (v := .int 1) (congrArg Value.int (by decide)) ?_
    refine va_put (D := (dC, dI)) (ci := 8) (v := .int 1) (ty := .int) (C := RX8) (T := TX8) (N := 23) hx hb hts hi8 tyX8 tyX8_ok nmX8 hown hK hP hD hS 0 rfl rfl 6 (by decide) (hts (.fieldLink RX8 67 "AskTreeModel" "trees" "I") (by decide +kernel)) (fun _ h9 => h9) rfl (by decide +kernel) rfl rfl (Nat.le_of_ble_eq_true rfl) dX8_grow_78 (fun H locs hP hD hS => ?_)
    have hP : va_P (dC, dI) vwCl [(h0, .inr (8, [.ref a0_marks, .ref a0_classes, .int 0, .ref a0_isSort, .ref h0_nodes, .ref h0_many, .int 1, .ref a0_in, .int 0, .int 0, .int 0, .ref a0_asked, .ref a0_turned, .int 0, .int (-1), .int (-1), .ref h0_heap, .ref a0_heapYes, .ref a0_path, .ref a0_bestWrong, .ref a0_bestAsked, .ref a0_bestMark, .ref a0_bestV])), (h0_heap, .inl (k0_heap, 4, .inl f_27)), (h0_many, .inl (k0_many, 21, .inl f_28)), (h0_nodes, .inl (k0_nodes, 134400, .inl f_29))] H := hP
    have hD : va_D A [(h0, .inr (8, [.ref a0_marks, .ref a0_classes, .int 0, .ref a0_isSort, .ref h0_nodes, .ref h0_many, .int 1, .ref a0_in, .int 0, .int 0, .int 0, .ref a0_asked, .ref a0_turned, .int 0, .int (-1), .int (-1), .ref h0_heap, .ref a0_heapYes, .ref a0_path, .ref a0_bestWrong, .ref a0_bestAsked, .ref a0_bestMark, .ref a0_bestV])), (h0_heap, .inl (k0_heap, 4, .inl f_27)), (h0_many, .inl (k0_many, 21, .inl f_28)), (h0_nodes, .inl (k0_nodes, 134400, .inl f_29))] := hD
    refine lv_aload_n hx hb dX8_grow_81 rfl (lv_at hl 1 rfl) ?_
    refine va_get (D := (dC, dI)) (ci := 8) (v := .int 1) (C := RX8) (T := TX8) (N := 23) hx hb hts hi8 hown hK hP 0 rfl rfl 6 (by decide) (hts (.fieldLink RX8 67 "AskTreeModel" "trees" "I") (by decide +kernel)) (fun _ h9 => h9) rfl dX8_grow_82 ?_
    refine lv_iconst (v := 1) hx hb dX8_grow_85 (by decide) ?_
    refine lv_isub hx hb dX8_grow_86 ?_
    refine tvv (v := .int 0) (congrArg Value.int (by decide)) ?_
    exact W.iret (v := 0) hx hb hr (fun t ht hW => ⟨⟨0, (), rfl, (Or.inl ⟨(lf_m_grow_5 p1 p2 c_12 c_13 c_14 c_15), rfl⟩), trivial⟩, hS.F ht⟩) hS.2.2 dX8_grow_87

theorem lf_m_best_1 (p1 : Int32) (e0 : p1 < 0) : ¬ (0 ≤ p1 ∧ p1 ≤ 2) := by
  (try simp only [Int32.lt_iff_toInt_lt, Int32.le_iff_toInt_le, ← Int32.toInt_inj, ln_0, ln_1, ln_2, ln_3, ln_4, ln_6, ln_8, ln_10, ln_50, ln_100, ln_300, ln_1000, ln_m1000, ln_m32768, ln_m1, ln_m2, ln_m40000, ln_20] at *)
  all_goals omega
theorem lf_m_best_2 (p1 : Int32) (e0 : ¬ p1 < 0) (e1 : p1 ≤ 2) : 0 ≤ p1 ∧ p1 ≤ 2 := by
  (try simp only [Int32.lt_iff_toInt_lt, Int32.le_iff_toInt_le, ← Int32.toInt_inj, ln_0, ln_1, ln_2, ln_3, ln_4, ln_6, ln_8, ln_10, ln_50, ln_100, ln_300, ln_1000, ln_m1000, ln_m32768, ln_m1, ln_m2, ln_m40000, ln_20] at *)
  all_goals omega
theorem lf_m_best_3 (p1 : Int32) (e0 : ¬ p1 < 0) (e1 : ¬ p1 ≤ 2) : ¬ (0 ≤ p1 ∧ p1 ≤ 2) := by
  (try simp only [Int32.lt_iff_toInt_lt, Int32.le_iff_toInt_le, ← Int32.toInt_inj, ln_0, ln_1, ln_2, ln_3, ln_4, ln_6, ln_8, ln_10, ln_50, ln_100, ln_300, ln_1000, ln_m1000, ln_m32768, ln_m1, ln_m2, ln_m40000, ln_20] at *)
  all_goals omega
set_option maxHeartbeats 4000000 in
set_option maxRecDepth 100000 in
theorem c_m_best (l : Launch) (dC : Nat → ClassId) (dI : Nat → Nat → Nat) (sz : Nat) (h0 : Nat) (p1 : Int32) (h0_heap : Nat) (h0_many : Nat) (h0_nodes : Nat) (h0_bestWrong : Nat) (h0_bestAsked : Nat) (h0_bestMark : Nat) (h0_bestV : Nat) (a0_marks : Nat) (a0_classes : Nat) (a0_isSort : Nat) (a0_in : Nat) (a0_asked : Nat) (a0_turned : Nat) (a0_heapYes : Nat) (a0_path : Nat) (k0_heap : ClassId) (k0_many : ClassId) (k0_nodes : ClassId) (k0_bestWrong : ClassId) (k0_bestAsked : ClassId) (k0_bestMark : ClassId) (k0_bestV : ClassId)   : Met l yX8_best wsX8_best ({ frames := 4, cells := 0, slots := 0, locals := 142 }) (va_Pc [.ref h0, .int p1] (pw (dC, dI) [(k0_heap, .int), (k0_many, .int), (k0_nodes, .int), (k0_bestWrong, .int), (k0_bestAsked, .int), (k0_bestMark, .int), (k0_bestV, .int)] [(h0, .inr (8, [.ref a0_marks, .ref a0_classes, .int 0, .ref a0_isSort, .ref h0_nodes, .ref h0_many, .int 0, .ref a0_in, .int 0, .int 0, .int 0, .ref a0_asked, .ref a0_turned, .int 0, .int (-1), .int (-1), .ref h0_heap, .ref a0_heapYes, .ref a0_path, .ref h0_bestWrong, .ref h0_bestAsked, .ref h0_bestMark, .ref h0_bestV])), (h0_heap, .inl (k0_heap, 4, .inl (fun _ => 0))), (h0_many, .inl (k0_many, 21, .inl (fun _ => 0))), (h0_nodes, .inl (k0_nodes, 134400, .inl (fun _ => 0))), (h0_bestWrong, .inl (k0_bestWrong, 4, .inl (fun _ => 0))), (h0_bestAsked, .inl (k0_bestAsked, 4, .inl (fun _ => 0))), (h0_bestMark, .inl (k0_bestMark, 4, .inl (fun _ => 0))), (h0_bestV, .inl (k0_bestV, 4, .inl (fun _ => 0)))] sz)) (va_Qi (fun (r : Int32) (_ : Unit) => ((0 ≤ p1 ∧ p1 ≤ 2) ∧ r = 0) ∨ (¬ (0 ≤ p1 ∧ p1 ≤ 2) ∧ r = (-1))) (fun _ _ => True) (va_A [(h0, .inr (8, [.ref a0_marks, .ref a0_classes, .int 0, .ref a0_isSort, .ref h0_nodes, .ref h0_many, .int 0, .ref a0_in, .int 0, .int 0, .int 0, .ref a0_asked, .ref a0_turned, .int 0, .int (-1), .int (-1), .ref h0_heap, .ref a0_heapYes, .ref a0_path, .ref h0_bestWrong, .ref h0_bestAsked, .ref h0_bestMark, .ref h0_bestV])), (h0_heap, .inl (k0_heap, 4, .inl (fun _ => 0))), (h0_many, .inl (k0_many, 21, .inl (fun _ => 0))), (h0_nodes, .inl (k0_nodes, 134400, .inl (fun _ => 0))), (h0_bestWrong, .inl (k0_bestWrong, 4, .inl (fun _ => 0))), (h0_bestAsked, .inl (k0_bestAsked, 4, .inl (fun _ => 0))), (h0_bestMark, .inl (k0_bestMark, 4, .inl (fun _ => 0))), (h0_bestV, .inl (k0_bestV, 4, .inl (fun _ => 0)))] sz)) 0 0 (va_A [(h0, .inr (8, [.ref a0_marks, .ref a0_classes, .int 0, .ref a0_isSort, .ref h0_nodes, .ref h0_many, .int 0, .ref a0_in, .int 0, .int 0, .int 0, .ref a0_asked, .ref a0_turned, .int 0, .int (-1), .int (-1), .ref h0_heap, .ref a0_heapYes, .ref a0_path, .ref h0_bestWrong, .ref h0_bestAsked, .ref h0_bestMark, .ref h0_bestV])), (h0_heap, .inl (k0_heap, 4, .inl (fun _ => 0))), (h0_many, .inl (k0_many, 21, .inl (fun _ => 0))), (h0_nodes, .inl (k0_nodes, 134400, .inl (fun _ => 0))), (h0_bestWrong, .inl (k0_bestWrong, 4, .inl (fun _ => 0))), (h0_bestAsked, .inl (k0_bestAsked, 4, .inl (fun _ => 0))), (h0_bestMark, .inl (k0_bestMark, 4, .inl (fun _ => 0))), (h0_bestV, .inl (k0_bestV, 4, .inl (fun _ => 0)))] sz) := by
  refine Met.ofW (cc := cX8_best) (maxL := 3) (ret := (some .int)) (by decide) rfl ?_
  intro p e s m args below meth c s₁ B hml hv
  obtain ⟨rfl, hsz, hP, hK, hD0, hN⟩ := hv
  have hx := B.exec
  have hb := B.bytes
  have hr := B.returns
  have hts := atoms_spec (ws := wsX8_best) B.pre
  have hown : s.vm.findClass RX8 = some m.cls := findClass_of_methodNamed B.named
  have hlocks := B.notSynchronized
  have hi8 : ∀ w ∈ u_ws RX8 TX8 23, w ∈ wsX8_best := fun _ h => List.mem_cons_of_mem _ (List.mem_append_right _ h)
  subst hsz
  have hD := hD0.self (sz := s.heap.size)
  generalize hAe : va_A [(h0, .inr (8, [.ref a0_marks, .ref a0_classes, .int 0, .ref a0_isSort, .ref h0_nodes, .ref h0_many, .int 0, .ref a0_in, .int 0, .int 0, .int 0, .ref a0_asked, .ref a0_turned, .int 0, .int (-1), .int (-1), .ref h0_heap, .ref a0_heapYes, .ref a0_path, .ref h0_bestWrong, .ref h0_bestAsked, .ref h0_bestMark, .ref h0_bestV])), (h0_heap, .inl (k0_heap, 4, .inl (fun _ => 0))), (h0_many, .inl (k0_many, 21, .inl (fun _ => 0))), (h0_nodes, .inl (k0_nodes, 134400, .inl (fun _ => 0))), (h0_bestWrong, .inl (k0_bestWrong, 4, .inl (fun _ => 0))), (h0_bestAsked, .inl (k0_bestAsked, 4, .inl (fun _ => 0))), (h0_bestMark, .inl (k0_bestMark, 4, .inl (fun _ => 0))), (h0_bestV, .inl (k0_bestV, 4, .inl (fun _ => 0)))] s.heap.size = A at hD ⊢
  have hA : ∀ q : Nat, s.heap.size ≤ q → A q := fun q h => by rw [← hAe]; exact Or.inr h
  have hS : va_S A s.heap s.heap [] := va_S.rf
  have hl := lv_entry ([.ref h0, .int p1]) (n := 3) (Nat.le_of_ble_eq_true rfl)
  rw [lg_entry_eq]
  generalize (lg_sl ([.ref h0, .int p1]) ++ List.replicate (3 - (lg_sl ([.ref h0, .int p1])).length) Slot.unset).toArray = ls at hl ⊢
  have hl : lv_has ls 3 [(0, .ref h0), (1, .int p1)] := hl
  have hP : va_P (dC, dI) vwCl [(h0, .inr (8, [.ref a0_marks, .ref a0_classes, .int 0, .ref a0_isSort, .ref h0_nodes, .ref h0_many, .int 0, .ref a0_in, .int 0, .int 0, .int 0, .ref a0_asked, .ref a0_turned, .int 0, .int (-1), .int (-1), .ref h0_heap, .ref a0_heapYes, .ref a0_path, .ref h0_bestWrong, .ref h0_bestAsked, .ref h0_bestMark, .ref h0_bestV])), (h0_heap, .inl (k0_heap, 4, .inl (fun _ => 0))), (h0_many, .inl (k0_many, 21, .inl (fun _ => 0))), (h0_nodes, .inl (k0_nodes, 134400, .inl (fun _ => 0))), (h0_bestWrong, .inl (k0_bestWrong, 4, .inl (fun _ => 0))), (h0_bestAsked, .inl (k0_bestAsked, 4, .inl (fun _ => 0))), (h0_bestMark, .inl (k0_bestMark, 4, .inl (fun _ => 0))), (h0_bestV, .inl (k0_bestV, 4, .inl (fun _ => 0)))] s.heap := hP
  refine lv_iload_n hx hb dX8_best_0 rfl (lv_at hl 1 rfl) ?_
  refine lv_if_lt (tgt := 9) hx hb dX8_best_1 (by decide) (fun c_1 => ?_) (fun c_1 => ?_)
  · skip
    refine lv_iconst (v := (-1)) hx hb dX8_best_9 (by decide) ?_
    exact W.iret (v := (-1)) hx hb hr (fun t ht hW => ⟨⟨(-1), (), rfl, (Or.inr ⟨(lf_m_best_1 p1 c_1), rfl⟩), trivial⟩, hS.F ht⟩) hS.2.2 dX8_best_10
  · skip
    refine lv_iload_n hx hb dX8_best_4 rfl (lv_at hl 1 rfl) ?_
    refine lv_iconst (v := 2) hx hb dX8_best_5 (by decide) ?_
    refine lv_icmp_le (tgt := 11) hx hb dX8_best_6 (by decide) (fun c_2 => ?_) (fun c_2 => ?_)
    · skip
      refine lv_aload_n hx hb dX8_best_11 rfl (lv_at hl 0 rfl) ?_
      refine va_get (D := (dC, dI)) (ci := 8) (v := .int 0) (C := RX8) (T := TX8) (N := 23) hx hb hts hi8 hown hK hP 0 rfl rfl 2 (by decide) (hts (.fieldLink RX8 64 "AskTreeModel" "cases" "I") (by decide +kernel)) (fun _ h9 => h9) rfl dX8_best_12 ?_
      refine lv_bipush (v := 50) hx hb dX8_best_15 (by decide) ?_
      refine lv_icmp_le (tgt := 23) hx hb dX8_best_17 (by decide) (fun c_3 => ?_) (fun c_3 => ?_)
      rotate_left
      · exact absurd c_3 (by decide)
      refine lv_iconst (v := 0) hx hb dX8_best_23 (by decide) ?_
      refine lv_istore_n (lv' := [(2, .int 0), (0, .ref h0), (1, .int p1)]) hx hb dX8_best_24 rfl hl (by decide) rfl (fun ls hl => ?_)
      refine lv_iload_n hx hb dX8_best_25 rfl (lv_at hl 0 rfl) ?_
      refine lv_bipush (v := 8) hx hb dX8_best_26 (by decide) ?_
      refine lv_aload_n hx hb dX8_best_28 rfl (lv_at hl 1 rfl) ?_
      refine va_get (D := (dC, dI)) (ci := 8) (v := .int 0) (C := RX8) (T := TX8) (N := 23) hx hb hts hi8 hown hK hP 0 rfl rfl 2 (by decide) (hts (.fieldLink RX8 64 "AskTreeModel" "cases" "I") (by decide +kernel)) (fun _ h9 => h9) rfl dX8_best_29 ?_
      refine lv_imul hx hb dX8_best_32 ?_
      refine tvv (v := .int 0) (congrArg Value.int (by decide)) ?_
      refine lv_icmp_ge (tgt := 57) hx hb dX8_best_33 (by decide) (fun c_4 => ?_) (fun c_4 => ?_)
      rotate_left
      · exact absurd c_4 (by decide)
      refine lv_aload_n hx hb dX8_best_57 rfl (lv_at hl 1 rfl) ?_
      refine va_get (D := (dC, dI)) (ci := 8) (v := .int 0) (C := RX8) (T := TX8) (N := 23) hx hb hts hi8 hown hK hP 0 rfl rfl 6 (by decide) (hts (.fieldLink RX8 67 "AskTreeModel" "trees" "I") (by decide +kernel)) (fun _ h9 => h9) rfl dX8_best_58 ?_
      refine lv_bipush (v := 20) hx hb dX8_best_61 (by decide) ?_
      refine lv_icmp_ne (tgt := 69) hx hb dX8_best_63 (by decide) (fun c_5 => ?_) (fun c_5 => ?_)
      rotate_left
      · exact absurd c_5 (by decide)
      refine lv_iconst (v := 0) hx hb dX8_best_69 (by decide) ?_
      refine lv_istore_n (lv' := [(2, .int 0), (0, .ref h0), (1, .int p1)]) hx hb dX8_best_70 rfl hl (by decide) rfl (fun ls hl => ?_)
      refine lv_iload_n hx hb dX8_best_71 rfl (lv_at hl 0 rfl) ?_
      refine lv_aload_n hx hb dX8_best_72 rfl (lv_at hl 1 rfl) ?_
      refine va_get (D := (dC, dI)) (ci := 8) (v := .int 0) (C := RX8) (T := TX8) (N := 23) hx hb hts hi8 hown hK hP 0 rfl rfl 2 (by decide) (hts (.fieldLink RX8 64 "AskTreeModel" "cases" "I") (by decide +kernel)) (fun _ h9 => h9) rfl dX8_best_73 ?_
      refine lv_icmp_ge (tgt := 92) hx hb dX8_best_76 (by decide) (fun c_6 => ?_) (fun c_6 => ?_)
      rotate_left
      · exact absurd c_6 (by decide)
      refine lv_aload_n hx hb dX8_best_92 rfl (lv_at hl 1 rfl) ?_
      refine lv_aload_n hx hb dX8_best_93 rfl (lv_at hl 1 rfl) ?_
      refine va_get (D := (dC, dI)) (ci := 8) (v := .int 0) (C := RX8) (T := TX8) (N := 23) hx hb hts hi8 hown hK hP 0 rfl rfl 6 (by decide) (hts (.fieldLink RX8 67 "AskTreeModel" "trees" "I") (by decide +kernel)) (fun _ h9 => h9) rfl dX8_best_94 ?_
      refine va_put (D := (dC, dI)) (ci := 8) (v := .int 0) (ty := .int) (C := RX8) (T := TX8) (N := 23) hx hb hts hi8 tyX8 tyX8_ok nmX8 hown hK hP hD hS 0 rfl rfl 8 (by decide) (hts (.fieldLink RX8 111 "AskTreeModel" "making" "I") (by decide +kernel)) (fun _ h9 => h9) rfl (by decide +kernel) rfl rfl (Nat.le_of_ble_eq_true rfl) dX8_best_97 (fun H locs hP hD hS => ?_)
      have hP : va_P (dC, dI) vwCl [(h0, .inr (8, [.ref a0_marks, .ref a0_classes, .int 0, .ref a0_isSort, .ref h0_nodes, .ref h0_many, .int 0, .ref a0_in, .int 0, .int 0, .int 0, .ref a0_asked, .ref a0_turned, .int 0, .int (-1), .int (-1), .ref h0_heap, .ref a0_heapYes, .ref a0_path, .ref h0_bestWrong, .ref h0_bestAsked, .ref h0_bestMark, .ref h0_bestV])), (h0_heap, .inl (k0_heap, 4, .inl (fun _ => 0))), (h0_many, .inl (k0_many, 21, .inl (fun _ => 0))), (h0_nodes, .inl (k0_nodes, 134400, .inl (fun _ => 0))), (h0_bestWrong, .inl (k0_bestWrong, 4, .inl (fun _ => 0))), (h0_bestAsked, .inl (k0_bestAsked, 4, .inl (fun _ => 0))), (h0_bestMark, .inl (k0_bestMark, 4, .inl (fun _ => 0))), (h0_bestV, .inl (k0_bestV, 4, .inl (fun _ => 0)))] H := hP
      have hD : va_D A [(h0, .inr (8, [.ref a0_marks, .ref a0_classes, .int 0, .ref a0_isSort, .ref h0_nodes, .ref h0_many, .int 0, .ref a0_in, .int 0, .int 0, .int 0, .ref a0_asked, .ref a0_turned, .int 0, .int (-1), .int (-1), .ref h0_heap, .ref a0_heapYes, .ref a0_path, .ref h0_bestWrong, .ref h0_bestAsked, .ref h0_bestMark, .ref h0_bestV])), (h0_heap, .inl (k0_heap, 4, .inl (fun _ => 0))), (h0_many, .inl (k0_many, 21, .inl (fun _ => 0))), (h0_nodes, .inl (k0_nodes, 134400, .inl (fun _ => 0))), (h0_bestWrong, .inl (k0_bestWrong, 4, .inl (fun _ => 0))), (h0_bestAsked, .inl (k0_bestAsked, 4, .inl (fun _ => 0))), (h0_bestMark, .inl (k0_bestMark, 4, .inl (fun _ => 0))), (h0_bestV, .inl (k0_bestV, 4, .inl (fun _ => 0)))] := hD
      refine lv_aload_n hx hb dX8_best_100 rfl (lv_at hl 1 rfl) ?_
      refine va_get (D := (dC, dI)) (ci := 8) (v := .ref h0_many) (C := RX8) (T := TX8) (N := 23) hx hb hts hi8 hown hK hP 0 rfl rfl 5 (by decide) (hts (.fieldLink RX8 24 "AskTreeModel" "many" "[I") (by decide +kernel)) (fun _ h9 => h9) rfl dX8_best_101 ?_
      refine lv_aload_n hx hb dX8_best_104 rfl (lv_at hl 1 rfl) ?_
      refine va_get (D := (dC, dI)) (ci := 8) (v := .int 0) (C := RX8) (T := TX8) (N := 23) hx hb hts hi8 hown hK hP 0 rfl rfl 8 (by decide) (hts (.fieldLink RX8 111 "AskTreeModel" "making" "I") (by decide +kernel)) (fun _ h9 => h9) rfl dX8_best_105 ?_
      refine lv_iconst (v := 0) hx hb dX8_best_108 (by decide) ?_
      refine va_iast hx hb hK hP hD hS 2 1 rfl rfl (vi _ _ (by decide)) dX8_best_109 (fun H locs hP hD hS => ?_)
      have hP : va_P (dC, dI) vwCl [(h0, .inr (8, [.ref a0_marks, .ref a0_classes, .int 0, .ref a0_isSort, .ref h0_nodes, .ref h0_many, .int 0, .ref a0_in, .int 0, .int 0, .int 0, .ref a0_asked, .ref a0_turned, .int 0, .int (-1), .int (-1), .ref h0_heap, .ref a0_heapYes, .ref a0_path, .ref h0_bestWrong, .ref h0_bestAsked, .ref h0_bestMark, .ref h0_bestV])), (h0_heap, .inl (k0_heap, 4, .inl (fun _ => 0))), (h0_many, .inl (k0_many, 21, .inl (upd (fun _ => 0) (Int32.toNatClampNeg 0) 0))), (h0_nodes, .inl (k0_nodes, 134400, .inl (fun _ => 0))), (h0_bestWrong, .inl (k0_bestWrong, 4, .inl (fun _ => 0))), (h0_bestAsked, .inl (k0_bestAsked, 4, .inl (fun _ => 0))), (h0_bestMark, .inl (k0_bestMark, 4, .inl (fun _ => 0))), (h0_bestV, .inl (k0_bestV, 4, .inl (fun _ => 0)))] H := hP
      have hD : va_D A [(h0, .inr (8, [.ref a0_marks, .ref a0_classes, .int 0, .ref a0_isSort, .ref h0_nodes, .ref h0_many, .int 0, .ref a0_in, .int 0, .int 0, .int 0, .ref a0_asked, .ref a0_turned, .int 0, .int (-1), .int (-1), .ref h0_heap, .ref a0_heapYes, .ref a0_path, .ref h0_bestWrong, .ref h0_bestAsked, .ref h0_bestMark, .ref h0_bestV])), (h0_heap, .inl (k0_heap, 4, .inl (fun _ => 0))), (h0_many, .inl (k0_many, 21, .inl (upd (fun _ => 0) (Int32.toNatClampNeg 0) 0))), (h0_nodes, .inl (k0_nodes, 134400, .inl (fun _ => 0))), (h0_bestWrong, .inl (k0_bestWrong, 4, .inl (fun _ => 0))), (h0_bestAsked, .inl (k0_bestAsked, 4, .inl (fun _ => 0))), (h0_bestMark, .inl (k0_bestMark, 4, .inl (fun _ => 0))), (h0_bestV, .inl (k0_bestV, 4, .inl (fun _ => 0)))] := hD
      generalize hf_8 : upd (fun _ => 0) (Int32.toNatClampNeg 0) 0 = f_7 at hP hD
      have hk_9 : f_7 0 = 0 := by rw [← hf_8]; exact up_s (by decide)
      clear hf_8
      refine lv_aload_n hx hb dX8_best_110 rfl (lv_at hl 1 rfl) ?_
      refine lv_iconst (v := 0) hx hb dX8_best_111 (by decide) ?_
      refine lv_iload_n hx hb dX8_best_112 rfl (lv_at hl 2 rfl) ?_
      have hPc := hP.sub (ws' := [(h0, .inr (8, [.ref a0_marks, .ref a0_classes, .int 0, .ref a0_isSort, .ref h0_nodes, .ref h0_many, .int 0, .ref a0_in, .int 0, .int 0, .int 0, .ref a0_asked, .ref a0_turned, .int 0, .int (-1), .int (-1), .ref h0_heap, .ref a0_heapYes, .ref a0_path, .ref h0_bestWrong, .ref h0_bestAsked, .ref h0_bestMark, .ref h0_bestV])), (h0_heap, .inl (k0_heap, 4, .inl (fun _ => 0))), (h0_many, .inl (k0_many, 21, .inl f_7)), (h0_nodes, .inl (k0_nodes, 134400, .inl (fun _ => 0))), (h0_bestWrong, .inl (k0_bestWrong, 4, .inl (fun _ => 0))), (h0_bestAsked, .inl (k0_bestAsked, 4, .inl (fun _ => 0))), (h0_bestMark, .inl (k0_bestMark, 4, .inl (fun _ => 0))), (h0_bestV, .inl (k0_bestV, 4, .inl (fun _ => 0)))]) [0, 1, 2, 3, 4, 5, 6, 7] rfl
      have hDc := hD.sub (ws' := [(h0, .inr (8, [.ref a0_marks, .ref a0_classes, .int 0, .ref a0_isSort, .ref h0_nodes, .ref h0_many, .int 0, .ref a0_in, .int 0, .int 0, .int 0, .ref a0_asked, .ref a0_turned, .int 0, .int (-1), .int (-1), .ref h0_heap, .ref a0_heapYes, .ref a0_path, .ref h0_bestWrong, .ref h0_bestAsked, .ref h0_bestMark, .ref h0_bestV])), (h0_heap, .inl (k0_heap, 4, .inl (fun _ => 0))), (h0_many, .inl (k0_many, 21, .inl f_7)), (h0_nodes, .inl (k0_nodes, 134400, .inl (fun _ => 0))), (h0_bestWrong, .inl (k0_bestWrong, 4, .inl (fun _ => 0))), (h0_bestAsked, .inl (k0_bestAsked, 4, .inl (fun _ => 0))), (h0_bestMark, .inl (k0_bestMark, 4, .inl (fun _ => 0))), (h0_bestV, .inl (k0_bestV, 4, .inl (fun _ => 0)))]) [0, 1, 2, 3, 4, 5, 6, 7] (by decide) rfl
      have hKc := hK.sub (tys' := [(k0_heap, .int), (k0_many, .int), (k0_nodes, .int), (k0_bestWrong, .int), (k0_bestAsked, .int), (k0_bestMark, .int), (k0_bestV, .int)]) [0, 1, 2, 3, 4, 5, 6] rfl
      have hFc := va_free (wc := [(h0, .inr (8, [.ref a0_marks, .ref a0_classes, .int 0, .ref a0_isSort, .ref h0_nodes, .ref h0_many, .int 0, .ref a0_in, .int 0, .int 0, .int 0, .ref a0_asked, .ref a0_turned, .int 0, .int (-1), .int (-1), .ref h0_heap, .ref a0_heapYes, .ref a0_path, .ref h0_bestWrong, .ref h0_bestAsked, .ref h0_bestMark, .ref h0_bestV])), (h0_heap, .inl (k0_heap, 4, .inl (fun _ => 0))), (h0_many, .inl (k0_many, 21, .inl f_7)), (h0_nodes, .inl (k0_nodes, 134400, .inl (fun _ => 0))), (h0_bestWrong, .inl (k0_bestWrong, 4, .inl (fun _ => 0))), (h0_bestAsked, .inl (k0_bestAsked, 4, .inl (fun _ => 0))), (h0_bestMark, .inl (k0_bestMark, 4, .inl (fun _ => 0))), (h0_bestV, .inl (k0_bestV, 4, .inl (fun _ => 0)))]) hD hS hA [0, 1, 2, 3, 4, 5, 6, 7] rfl
      refine va_calli (va_runV (As := [.int 0, .int p1]) (rest := []) ⟨hx, hb, hml, hown, hts⟩ (c_bestNode l dC dI H.size h0 p1 h0_heap h0_many h0_nodes h0_bestWrong h0_bestAsked h0_bestMark h0_bestV a0_marks a0_classes a0_isSort a0_in a0_asked a0_turned a0_heapYes a0_path k0_heap (fun _ => 0) k0_many f_7 k0_nodes (fun _ => 0) k0_bestWrong (fun _ => 0) k0_bestAsked (fun _ => 0) k0_bestMark (fun _ => 0) k0_bestV (fun _ => 0) hk_9) (cwV 2 hts gX8_best_X8_bestNode rfl rfl rfl (by decide +kernel) ⟨Nat.le_of_ble_eq_true rfl, Nat.le_of_ble_eq_true rfl⟩) (pre_V hPc hKc hDc hN (ci := 8) (q0 := 0) rfl rfl) rfl rfl hl.1 rfl (lv_room (Nat.le_of_ble_eq_true rfl)) dX8_best_113 ⟨Nat.le_of_ble_eq_true rfl, Nat.le_of_ble_eq_true rfl⟩) hS (fun q _ h => hFc q h) hFc (fun r_10 u t H1 locs ht hvm hw hB hz1 hk1 hS => ?_)
      clear hPc hDc hKc
      obtain ⟨f_11, f_12, f_13, f_14, f_15, f_16, f_17, rfl, hk_18, hk_19, hk_20, hk_21, hk_22, hk_23, hk_24, hk_25, rfl⟩ := hw
      obtain ⟨hP1, hK1, hD1⟩ := hB
      rw [ht] at hP1
      obtain ⟨hP, hD⟩ := va_join (wr := []) (w1 := [(h0, .inr (8, [.ref a0_marks, .ref a0_classes, .int 0, .ref a0_isSort, .ref h0_nodes, .ref h0_many, .int 0, .ref a0_in, .int 0, .int 0, .int 0, .ref a0_asked, .ref a0_turned, .int 0, .int (-1), .int (-1), .ref h0_heap, .ref a0_heapYes, .ref a0_path, .ref h0_bestWrong, .ref h0_bestAsked, .ref h0_bestMark, .ref h0_bestV])), (h0_heap, .inl (k0_heap, 4, .inl f_11)), (h0_many, .inl (k0_many, 21, .inl f_12)), (h0_nodes, .inl (k0_nodes, 134400, .inl f_13)), (h0_bestWrong, .inl (k0_bestWrong, 4, .inl f_14)), (h0_bestAsked, .inl (k0_bestAsked, 4, .inl f_15)), (h0_bestMark, .inl (k0_bestMark, 4, .inl f_16)), (h0_bestV, .inl (k0_bestV, 4, .inl f_17))]) hP hD [0, 1, 2, 3, 4, 5, 6, 7] [] rfl rfl (by decide) (by decide) hk1 hFc hP1 hD1
      generalize H1 = H at hP hS ⊢
      clear hP1 hD1 hFc hk1 hz1 ht hvm hK1
      have hP : va_P (dC, dI) vwCl [(h0, .inr (8, [.ref a0_marks, .ref a0_classes, .int 0, .ref a0_isSort, .ref h0_nodes, .ref h0_many, .int 0, .ref a0_in, .int 0, .int 0, .int 0, .ref a0_asked, .ref a0_turned, .int 0, .int (-1), .int (-1), .ref h0_heap, .ref a0_heapYes, .ref a0_path, .ref h0_bestWrong, .ref h0_bestAsked, .ref h0_bestMark, .ref h0_bestV])), (h0_heap, .inl (k0_heap, 4, .inl f_11)), (h0_many, .inl (k0_many, 21, .inl f_12)), (h0_nodes, .inl (k0_nodes, 134400, .inl f_13)), (h0_bestWrong, .inl (k0_bestWrong, 4, .inl f_14)), (h0_bestAsked, .inl (k0_bestAsked, 4, .inl f_15)), (h0_bestMark, .inl (k0_bestMark, 4, .inl f_16)), (h0_bestV, .inl (k0_bestV, 4, .inl f_17))] H := hP
      have hD : va_D A [(h0, .inr (8, [.ref a0_marks, .ref a0_classes, .int 0, .ref a0_isSort, .ref h0_nodes, .ref h0_many, .int 0, .ref a0_in, .int 0, .int 0, .int 0, .ref a0_asked, .ref a0_turned, .int 0, .int (-1), .int (-1), .ref h0_heap, .ref a0_heapYes, .ref a0_path, .ref h0_bestWrong, .ref h0_bestAsked, .ref h0_bestMark, .ref h0_bestV])), (h0_heap, .inl (k0_heap, 4, .inl f_11)), (h0_many, .inl (k0_many, 21, .inl f_12)), (h0_nodes, .inl (k0_nodes, 134400, .inl f_13)), (h0_bestWrong, .inl (k0_bestWrong, 4, .inl f_14)), (h0_bestAsked, .inl (k0_bestAsked, 4, .inl f_15)), (h0_bestMark, .inl (k0_bestMark, 4, .inl f_16)), (h0_bestV, .inl (k0_bestV, 4, .inl f_17))] := hD
      refine lv_istore_n (lv' := [(2, .int 0), (0, .ref h0), (1, .int p1)]) hx hb dX8_best_116 rfl hl (by decide) rfl (fun ls hl => ?_)
      refine lv_aload_n hx hb dX8_best_117 rfl (lv_at hl 1 rfl) ?_
      refine lv_dup hx hb dX8_best_118 rfl ?_
      refine va_get (D := (dC, dI)) (ci := 8) (v := .int 0) (C := RX8) (T := TX8) (N := 23) hx hb hts hi8 hown hK hP 0 rfl rfl 6 (by decide) (hts (.fieldLink RX8 67 "AskTreeModel" "trees" "I") (by decide +kernel)) (fun _ h9 => h9) rfl dX8_best_119 ?_
      refine lv_iconst (v := 1) hx hb dX8_best_122 (by decide) ?_
      refine lv_iadd hx hb dX8_best_123 ?_
      refine tvv (v := .int 1) (congrArg Value.int (by decide)) ?_
      refine va_put (D := (dC, dI)) (ci := 8) (v := .int 1) (ty := .int) (C := RX8) (T := TX8) (N := 23) hx hb hts hi8 tyX8 tyX8_ok nmX8 hown hK hP hD hS 0 rfl rfl 6 (by decide) (hts (.fieldLink RX8 67 "AskTreeModel" "trees" "I") (by decide +kernel)) (fun _ h9 => h9) rfl (by decide +kernel) rfl rfl (Nat.le_of_ble_eq_true rfl) dX8_best_124 (fun H locs hP hD hS => ?_)
      have hP : va_P (dC, dI) vwCl [(h0, .inr (8, [.ref a0_marks, .ref a0_classes, .int 0, .ref a0_isSort, .ref h0_nodes, .ref h0_many, .int 1, .ref a0_in, .int 0, .int 0, .int 0, .ref a0_asked, .ref a0_turned, .int 0, .int (-1), .int (-1), .ref h0_heap, .ref a0_heapYes, .ref a0_path, .ref h0_bestWrong, .ref h0_bestAsked, .ref h0_bestMark, .ref h0_bestV])), (h0_heap, .inl (k0_heap, 4, .inl f_11)), (h0_many, .inl (k0_many, 21, .inl f_12)), (h0_nodes, .inl (k0_nodes, 134400, .inl f_13)), (h0_bestWrong, .inl (k0_bestWrong, 4, .inl f_14)), (h0_bestAsked, .inl (k0_bestAsked, 4, .inl f_15)), (h0_bestMark, .inl (k0_bestMark, 4, .inl f_16)), (h0_bestV, .inl (k0_bestV, 4, .inl f_17))] H := hP
      have hD : va_D A [(h0, .inr (8, [.ref a0_marks, .ref a0_classes, .int 0, .ref a0_isSort, .ref h0_nodes, .ref h0_many, .int 1, .ref a0_in, .int 0, .int 0, .int 0, .ref a0_asked, .ref a0_turned, .int 0, .int (-1), .int (-1), .ref h0_heap, .ref a0_heapYes, .ref a0_path, .ref h0_bestWrong, .ref h0_bestAsked, .ref h0_bestMark, .ref h0_bestV])), (h0_heap, .inl (k0_heap, 4, .inl f_11)), (h0_many, .inl (k0_many, 21, .inl f_12)), (h0_nodes, .inl (k0_nodes, 134400, .inl f_13)), (h0_bestWrong, .inl (k0_bestWrong, 4, .inl f_14)), (h0_bestAsked, .inl (k0_bestAsked, 4, .inl f_15)), (h0_bestMark, .inl (k0_bestMark, 4, .inl f_16)), (h0_bestV, .inl (k0_bestV, 4, .inl f_17))] := hD
      refine lv_aload_n hx hb dX8_best_127 rfl (lv_at hl 1 rfl) ?_
      refine va_get (D := (dC, dI)) (ci := 8) (v := .int 1) (C := RX8) (T := TX8) (N := 23) hx hb hts hi8 hown hK hP 0 rfl rfl 6 (by decide) (hts (.fieldLink RX8 67 "AskTreeModel" "trees" "I") (by decide +kernel)) (fun _ h9 => h9) rfl dX8_best_128 ?_
      refine lv_iconst (v := 1) hx hb dX8_best_131 (by decide) ?_
      refine lv_isub hx hb dX8_best_132 ?_
      refine tvv (v := .int 0) (congrArg Value.int (by decide)) ?_
      exact W.iret (v := 0) hx hb hr (fun t ht hW => ⟨⟨0, (), rfl, (Or.inl ⟨(lf_m_best_2 p1 c_1 c_2), rfl⟩), trivial⟩, hS.F ht⟩) hS.2.2 dX8_best_133
    · skip
      refine lv_iconst (v := (-1)) hx hb dX8_best_9 (by decide) ?_
      exact W.iret (v := (-1)) hx hb hr (fun t ht hW => ⟨⟨(-1), (), rfl, (Or.inr ⟨(lf_m_best_3 p1 c_1 c_2), rfl⟩), trivial⟩, hS.F ht⟩) hS.2.2 dX8_best_10
