theorem lf_m_folds_1 (p1 : Int32) (e0 : ¬ p1 < 2) (e1 : ¬ 10 < p1) (e2 : p1 ≤ 0) : False := by
  (try simp only [Int32.lt_iff_toInt_lt, Int32.le_iff_toInt_le, ← Int32.toInt_inj, ln_0, ln_1, ln_2, ln_3, ln_4, ln_6, ln_8, ln_10, ln_50, ln_100, ln_300, ln_1000, ln_m1000, ln_m32768, ln_m1, ln_m2, ln_m40000, ln_20] at *)
  all_goals omega
theorem lf_m_folds_2 (p1 : Int32) (x_40 : Int32) (e0 : ¬ x_40 < p1) (e1 : ¬ p1 ≤ x_40) : False := by
  (try simp only [Int32.lt_iff_toInt_lt, Int32.le_iff_toInt_le, ← Int32.toInt_inj, ln_0, ln_1, ln_2, ln_3, ln_4, ln_6, ln_8, ln_10, ln_50, ln_100, ln_300, ln_1000, ln_m1000, ln_m32768, ln_m1, ln_m2, ln_m40000, ln_20] at *)
  all_goals omega
theorem lf_m_folds_3 (x_40 : Int32) (e0 : 0 ≤ x_40) (e1 : ¬ 0 ≤ x_40) : False := by
  (try simp only [Int32.lt_iff_toInt_lt, Int32.le_iff_toInt_le, ← Int32.toInt_inj, ln_0, ln_1, ln_2, ln_3, ln_4, ln_6, ln_8, ln_10, ln_50, ln_100, ln_300, ln_1000, ln_m1000, ln_m32768, ln_m1, ln_m2, ln_m40000, ln_20] at *)
  all_goals omega
theorem lf_m_folds_4 (p1 : Int32) (p2 : Int32) (p3 : Int32) (e0 : p1 < 2) : ¬ (2 ≤ p1 ∧ p1 ≤ 10 ∧ 0 ≤ p2 ∧ p2 ≤ 8 ∧ 1 ≤ p3 ∧ p3 ≤ 100) := by
  (try simp only [Int32.lt_iff_toInt_lt, Int32.le_iff_toInt_le, ← Int32.toInt_inj, ln_0, ln_1, ln_2, ln_3, ln_4, ln_6, ln_8, ln_10, ln_50, ln_100, ln_300, ln_1000, ln_m1000, ln_m32768, ln_m1, ln_m2, ln_m40000, ln_20] at *)
  all_goals omega
theorem lf_m_folds_5 (p1 : Int32) (p2 : Int32) (p3 : Int32) (e0 : ¬ p1 < 2) (e1 : 10 < p1) : ¬ (2 ≤ p1 ∧ p1 ≤ 10 ∧ 0 ≤ p2 ∧ p2 ≤ 8 ∧ 1 ≤ p3 ∧ p3 ≤ 100) := by
  (try simp only [Int32.lt_iff_toInt_lt, Int32.le_iff_toInt_le, ← Int32.toInt_inj, ln_0, ln_1, ln_2, ln_3, ln_4, ln_6, ln_8, ln_10, ln_50, ln_100, ln_300, ln_1000, ln_m1000, ln_m32768, ln_m1, ln_m2, ln_m40000, ln_20] at *)
  all_goals omega
theorem lf_m_folds_6 (p1 : Int32) (p2 : Int32) (p3 : Int32) (e0 : ¬ p1 < 2) (e1 : ¬ 10 < p1) (e2 : p2 < 0) : ¬ (2 ≤ p1 ∧ p1 ≤ 10 ∧ 0 ≤ p2 ∧ p2 ≤ 8 ∧ 1 ≤ p3 ∧ p3 ≤ 100) := by
  (try simp only [Int32.lt_iff_toInt_lt, Int32.le_iff_toInt_le, ← Int32.toInt_inj, ln_0, ln_1, ln_2, ln_3, ln_4, ln_6, ln_8, ln_10, ln_50, ln_100, ln_300, ln_1000, ln_m1000, ln_m32768, ln_m1, ln_m2, ln_m40000, ln_20] at *)
  all_goals omega
theorem lf_m_folds_7 (p1 : Int32) (p2 : Int32) (p3 : Int32) (e0 : ¬ p1 < 2) (e1 : ¬ 10 < p1) (e2 : ¬ p2 < 0) (e3 : 8 < p2) : ¬ (2 ≤ p1 ∧ p1 ≤ 10 ∧ 0 ≤ p2 ∧ p2 ≤ 8 ∧ 1 ≤ p3 ∧ p3 ≤ 100) := by
  (try simp only [Int32.lt_iff_toInt_lt, Int32.le_iff_toInt_le, ← Int32.toInt_inj, ln_0, ln_1, ln_2, ln_3, ln_4, ln_6, ln_8, ln_10, ln_50, ln_100, ln_300, ln_1000, ln_m1000, ln_m32768, ln_m1, ln_m2, ln_m40000, ln_20] at *)
  all_goals omega
theorem lf_m_folds_8 (p1 : Int32) (p2 : Int32) (p3 : Int32) (e0 : ¬ p1 < 2) (e1 : ¬ 10 < p1) (e2 : ¬ p2 < 0) (e3 : ¬ 8 < p2) (e4 : p3 < 1) : ¬ (2 ≤ p1 ∧ p1 ≤ 10 ∧ 0 ≤ p2 ∧ p2 ≤ 8 ∧ 1 ≤ p3 ∧ p3 ≤ 100) := by
  (try simp only [Int32.lt_iff_toInt_lt, Int32.le_iff_toInt_le, ← Int32.toInt_inj, ln_0, ln_1, ln_2, ln_3, ln_4, ln_6, ln_8, ln_10, ln_50, ln_100, ln_300, ln_1000, ln_m1000, ln_m32768, ln_m1, ln_m2, ln_m40000, ln_20] at *)
  all_goals omega
theorem lf_m_folds_9 (p1 : Int32) (p2 : Int32) (p3 : Int32) (e0 : ¬ p1 < 2) (e1 : ¬ 10 < p1) (e2 : ¬ p2 < 0) (e3 : ¬ 8 < p2) (e4 : ¬ p3 < 1) (e5 : 100 < p3) : ¬ (2 ≤ p1 ∧ p1 ≤ 10 ∧ 0 ≤ p2 ∧ p2 ≤ 8 ∧ 1 ≤ p3 ∧ p3 ≤ 100) := by
  (try simp only [Int32.lt_iff_toInt_lt, Int32.le_iff_toInt_le, ← Int32.toInt_inj, ln_0, ln_1, ln_2, ln_3, ln_4, ln_6, ln_8, ln_10, ln_50, ln_100, ln_300, ln_1000, ln_m1000, ln_m32768, ln_m1, ln_m2, ln_m40000, ln_20] at *)
  all_goals omega
theorem lf_m_folds_10 (p1 : Int32) (p2 : Int32) (p3 : Int32) (x_40 : Int32) (e0 : ¬ p1 < 2) (e1 : ¬ 10 < p1) (e2 : ¬ p2 < 0) (e3 : ¬ 8 < p2) (e4 : ¬ p3 < 1) (e5 : ¬ 100 < p3) (e6 : 0 ≤ x_40) (e7 : ¬ x_40 < p1) : 2 ≤ p1 ∧ p1 ≤ 10 ∧ 0 ≤ p2 ∧ p2 ≤ 8 ∧ 1 ≤ p3 ∧ p3 ≤ 100 := by
  (try simp only [Int32.lt_iff_toInt_lt, Int32.le_iff_toInt_le, ← Int32.toInt_inj, ln_0, ln_1, ln_2, ln_3, ln_4, ln_6, ln_8, ln_10, ln_50, ln_100, ln_300, ln_1000, ln_m1000, ln_m32768, ln_m1, ln_m2, ln_m40000, ln_20] at *)
  all_goals omega
theorem lf_m_folds_11 (p1 : Int32) (p2 : Int32) (p3 : Int32) (x_40 : Int32) (e0 : ¬ p1 < 2) (e1 : ¬ 10 < p1) (e2 : ¬ p2 < 0) (e3 : ¬ 8 < p2) (e4 : ¬ p3 < 1) (e5 : ¬ 100 < p3) (e6 : 0 ≤ x_40) (e7 : p1 ≤ x_40) : 2 ≤ p1 ∧ p1 ≤ 10 ∧ 0 ≤ p2 ∧ p2 ≤ 8 ∧ 1 ≤ p3 ∧ p3 ≤ 100 := by
  (try simp only [Int32.lt_iff_toInt_lt, Int32.le_iff_toInt_le, ← Int32.toInt_inj, ln_0, ln_1, ln_2, ln_3, ln_4, ln_6, ln_8, ln_10, ln_50, ln_100, ln_300, ln_1000, ln_m1000, ln_m32768, ln_m1, ln_m2, ln_m40000, ln_20] at *)
  all_goals omega
set_option maxHeartbeats 4000000 in
set_option maxRecDepth 100000 in
theorem c_m_folds (l : Launch) (dC : Nat → ClassId) (dI : Nat → Nat → Nat) (sz : Nat) (h0 : Nat) (p1 : Int32) (p2 : Int32) (p3 : Int32) (h0_heap : Nat) (h0_many : Nat) (h0_nodes : Nat) (a0_marks : Nat) (a0_classes : Nat) (a0_isSort : Nat) (a0_in : Nat) (a0_asked : Nat) (a0_turned : Nat) (a0_heapYes : Nat) (a0_path : Nat) (a0_bestWrong : Nat) (a0_bestAsked : Nat) (a0_bestMark : Nat) (a0_bestV : Nat) (k0_heap : ClassId) (k0_many : ClassId) (k0_nodes : ClassId)   : Met l yX8_folds wsX8_folds ({ frames := 4, cells := 0, slots := 0, locals := 134 }) (va_Pc [.ref h0, .int p1, .int p2, .int p3] (pw (dC, dI) [(k0_heap, .int), (k0_many, .int), (k0_nodes, .int)] [(h0, .inr (8, [.ref a0_marks, .ref a0_classes, .int 0, .ref a0_isSort, .ref h0_nodes, .ref h0_many, .int 0, .ref a0_in, .int 0, .int 0, .int 0, .ref a0_asked, .ref a0_turned, .int 0, .int (-1), .int (-1), .ref h0_heap, .ref a0_heapYes, .ref a0_path, .ref a0_bestWrong, .ref a0_bestAsked, .ref a0_bestMark, .ref a0_bestV])), (h0_heap, .inl (k0_heap, 4, .inl (fun _ => 0))), (h0_many, .inl (k0_many, 21, .inl (fun _ => 0))), (h0_nodes, .inl (k0_nodes, 134400, .inl (fun _ => 0)))] sz)) (va_Qi (fun (r : Int32) (_ : Unit) => ((2 ≤ p1 ∧ p1 ≤ 10 ∧ 0 ≤ p2 ∧ p2 ≤ 8 ∧ 1 ≤ p3 ∧ p3 ≤ 100) ∧ r = 0) ∨ (¬ (2 ≤ p1 ∧ p1 ≤ 10 ∧ 0 ≤ p2 ∧ p2 ≤ 8 ∧ 1 ≤ p3 ∧ p3 ≤ 100) ∧ r = (-1))) (fun _ _ => True) (va_A [(h0, .inr (8, [.ref a0_marks, .ref a0_classes, .int 0, .ref a0_isSort, .ref h0_nodes, .ref h0_many, .int 0, .ref a0_in, .int 0, .int 0, .int 0, .ref a0_asked, .ref a0_turned, .int 0, .int (-1), .int (-1), .ref h0_heap, .ref a0_heapYes, .ref a0_path, .ref a0_bestWrong, .ref a0_bestAsked, .ref a0_bestMark, .ref a0_bestV])), (h0_heap, .inl (k0_heap, 4, .inl (fun _ => 0))), (h0_many, .inl (k0_many, 21, .inl (fun _ => 0))), (h0_nodes, .inl (k0_nodes, 134400, .inl (fun _ => 0)))] sz)) 0 0 (va_A [(h0, .inr (8, [.ref a0_marks, .ref a0_classes, .int 0, .ref a0_isSort, .ref h0_nodes, .ref h0_many, .int 0, .ref a0_in, .int 0, .int 0, .int 0, .ref a0_asked, .ref a0_turned, .int 0, .int (-1), .int (-1), .ref h0_heap, .ref a0_heapYes, .ref a0_path, .ref a0_bestWrong, .ref a0_bestAsked, .ref a0_bestMark, .ref a0_bestV])), (h0_heap, .inl (k0_heap, 4, .inl (fun _ => 0))), (h0_many, .inl (k0_many, 21, .inl (fun _ => 0))), (h0_nodes, .inl (k0_nodes, 134400, .inl (fun _ => 0)))] sz) := by
  refine Met.ofW (cc := cX8_folds) (maxL := 8) (ret := (some .int)) (by decide) rfl ?_
  intro p e s m args below meth c s₁ B hml hv
  obtain ⟨rfl, hsz, hP, hK, hD0, hN⟩ := hv
  have hx := B.exec
  have hb := B.bytes
  have hr := B.returns
  have hts := atoms_spec (ws := wsX8_folds) B.pre
  have hown : s.vm.findClass RX8 = some m.cls := findClass_of_methodNamed B.named
  have hlocks := B.notSynchronized
  have hi8 : ∀ w ∈ u_ws RX8 TX8 23, w ∈ wsX8_folds := fun _ h => List.mem_cons_of_mem _ (List.mem_append_right _ h)
  subst hsz
  have hD := hD0.self (sz := s.heap.size)
  generalize hAe : va_A [(h0, .inr (8, [.ref a0_marks, .ref a0_classes, .int 0, .ref a0_isSort, .ref h0_nodes, .ref h0_many, .int 0, .ref a0_in, .int 0, .int 0, .int 0, .ref a0_asked, .ref a0_turned, .int 0, .int (-1), .int (-1), .ref h0_heap, .ref a0_heapYes, .ref a0_path, .ref a0_bestWrong, .ref a0_bestAsked, .ref a0_bestMark, .ref a0_bestV])), (h0_heap, .inl (k0_heap, 4, .inl (fun _ => 0))), (h0_many, .inl (k0_many, 21, .inl (fun _ => 0))), (h0_nodes, .inl (k0_nodes, 134400, .inl (fun _ => 0)))] s.heap.size = A at hD ⊢
  have hA : ∀ q : Nat, s.heap.size ≤ q → A q := fun q h => by rw [← hAe]; exact Or.inr h
  have hS : va_S A s.heap s.heap [] := va_S.rf
  have hl := lv_entry ([.ref h0, .int p1, .int p2, .int p3]) (n := 8) (Nat.le_of_ble_eq_true rfl)
  rw [lg_entry_eq]
  generalize (lg_sl ([.ref h0, .int p1, .int p2, .int p3]) ++ List.replicate (8 - (lg_sl ([.ref h0, .int p1, .int p2, .int p3])).length) Slot.unset).toArray = ls at hl ⊢
  have hl : lv_has ls 8 [(0, .ref h0), (1, .int p1), (2, .int p2), (3, .int p3)] := hl
  have hP : va_P (dC, dI) vwCl [(h0, .inr (8, [.ref a0_marks, .ref a0_classes, .int 0, .ref a0_isSort, .ref h0_nodes, .ref h0_many, .int 0, .ref a0_in, .int 0, .int 0, .int 0, .ref a0_asked, .ref a0_turned, .int 0, .int (-1), .int (-1), .ref h0_heap, .ref a0_heapYes, .ref a0_path, .ref a0_bestWrong, .ref a0_bestAsked, .ref a0_bestMark, .ref a0_bestV])), (h0_heap, .inl (k0_heap, 4, .inl (fun _ => 0))), (h0_many, .inl (k0_many, 21, .inl (fun _ => 0))), (h0_nodes, .inl (k0_nodes, 134400, .inl (fun _ => 0)))] s.heap := hP
  refine lv_iload_n hx hb dX8_folds_0 rfl (lv_at hl 1 rfl) ?_
  refine lv_iconst (v := 2) hx hb dX8_folds_1 (by decide) ?_
  refine lv_icmp_lt (tgt := 19) hx hb dX8_folds_2 (by decide) (fun c_1 => ?_) (fun c_1 => ?_)
  · skip
    refine lv_iconst (v := (-1)) hx hb dX8_folds_19 (by decide) ?_
    exact W.iret (v := (-1)) hx hb hr (fun t ht hW => ⟨⟨(-1), (), rfl, (Or.inr ⟨(lf_m_folds_4 p1 p2 p3 c_1), rfl⟩), trivial⟩, hS.F ht⟩) hS.2.2 dX8_folds_20
  · skip
    refine lv_iload_n hx hb dX8_folds_5 rfl (lv_at hl 1 rfl) ?_
    refine lv_bipush (v := 10) hx hb dX8_folds_6 (by decide) ?_
    refine lv_icmp_gt (tgt := 19) hx hb dX8_folds_8 (by decide) (fun c_2 => ?_) (fun c_2 => ?_)
    · skip
      refine lv_iconst (v := (-1)) hx hb dX8_folds_19 (by decide) ?_
      exact W.iret (v := (-1)) hx hb hr (fun t ht hW => ⟨⟨(-1), (), rfl, (Or.inr ⟨(lf_m_folds_5 p1 p2 p3 c_1 c_2), rfl⟩), trivial⟩, hS.F ht⟩) hS.2.2 dX8_folds_20
    · skip
      refine lv_iload_n hx hb dX8_folds_11 rfl (lv_at hl 2 rfl) ?_
      refine lv_iload_n hx hb dX8_folds_12 rfl (lv_at hl 3 rfl) ?_
      have hPc := hP.sub (ws' := []) [] rfl
      have hDc := hD.sub (ws' := []) [] (by decide) rfl
      have hKc := hK.sub (tys' := []) [] rfl
      have hFc := va_free (wc := []) hD hS hA [] rfl
      refine va_calli (va_runS (As := [.int p2, .int p3]) (rest := []) ⟨hx, hb, hml, hown, hts⟩ (c_areGrowing l dC dI s.heap.size p2 p3 ) (va_cwS 2 hts gX8_folds_X8_areGrowing rfl rfl rfl (by decide +kernel) ⟨Nat.le_of_ble_eq_true rfl, Nat.le_of_ble_eq_true rfl⟩) (pre_S hPc hKc hDc hN) rfl rfl hl.1 rfl (lv_room (Nat.le_of_ble_eq_true rfl)) dX8_folds_13 ⟨Nat.le_of_ble_eq_true rfl, Nat.le_of_ble_eq_true rfl⟩) hS (fun q _ h => hFc q h) hFc (fun r_3 u t H1 locs ht hvm hw hB hz1 hk1 hS => ?_)
      clear hPc hDc hKc
      rcases hw with ⟨rfl, c_4, rfl⟩ | ⟨rfl, c_5, c_6, rfl⟩ | ⟨rfl, c_7, c_8, c_9, rfl⟩ | ⟨rfl, c_10, c_11, c_12, c_13, rfl⟩ | ⟨rfl, c_14, c_15, c_16, c_17, rfl⟩
      · skip
        obtain ⟨hP1, hK1, hD1⟩ := hB
        rw [ht] at hP1
        obtain ⟨hP, hD⟩ := va_join (wr := [(h0, .inr (8, [.ref a0_marks, .ref a0_classes, .int 0, .ref a0_isSort, .ref h0_nodes, .ref h0_many, .int 0, .ref a0_in, .int 0, .int 0, .int 0, .ref a0_asked, .ref a0_turned, .int 0, .int (-1), .int (-1), .ref h0_heap, .ref a0_heapYes, .ref a0_path, .ref a0_bestWrong, .ref a0_bestAsked, .ref a0_bestMark, .ref a0_bestV])), (h0_heap, .inl (k0_heap, 4, .inl (fun _ => 0))), (h0_many, .inl (k0_many, 21, .inl (fun _ => 0))), (h0_nodes, .inl (k0_nodes, 134400, .inl (fun _ => 0)))]) (w1 := []) hP hD [] [0, 1, 2, 3] rfl rfl (by decide) (by decide) hk1 hFc hP1 hD1
        generalize H1 = H at hP hS ⊢
        clear hP1 hD1 hFc hk1 hz1 ht hvm hK1
        have hP : va_P (dC, dI) vwCl [(h0, .inr (8, [.ref a0_marks, .ref a0_classes, .int 0, .ref a0_isSort, .ref h0_nodes, .ref h0_many, .int 0, .ref a0_in, .int 0, .int 0, .int 0, .ref a0_asked, .ref a0_turned, .int 0, .int (-1), .int (-1), .ref h0_heap, .ref a0_heapYes, .ref a0_path, .ref a0_bestWrong, .ref a0_bestAsked, .ref a0_bestMark, .ref a0_bestV])), (h0_heap, .inl (k0_heap, 4, .inl (fun _ => 0))), (h0_many, .inl (k0_many, 21, .inl (fun _ => 0))), (h0_nodes, .inl (k0_nodes, 134400, .inl (fun _ => 0)))] H := hP
        have hD : va_D A [(h0, .inr (8, [.ref a0_marks, .ref a0_classes, .int 0, .ref a0_isSort, .ref h0_nodes, .ref h0_many, .int 0, .ref a0_in, .int 0, .int 0, .int 0, .ref a0_asked, .ref a0_turned, .int 0, .int (-1), .int (-1), .ref h0_heap, .ref a0_heapYes, .ref a0_path, .ref a0_bestWrong, .ref a0_bestAsked, .ref a0_bestMark, .ref a0_bestV])), (h0_heap, .inl (k0_heap, 4, .inl (fun _ => 0))), (h0_many, .inl (k0_many, 21, .inl (fun _ => 0))), (h0_nodes, .inl (k0_nodes, 134400, .inl (fun _ => 0)))] := hD
        refine lv_if_ne (tgt := 21) hx hb dX8_folds_16 (by decide) (fun c_18 => ?_) (fun c_18 => ?_)
        · exact absurd c_18 (by decide)
        refine lv_iconst (v := (-1)) hx hb dX8_folds_19 (by decide) ?_
        exact W.iret (v := (-1)) hx hb hr (fun t ht hW => ⟨⟨(-1), (), rfl, (Or.inr ⟨(lf_m_folds_6 p1 p2 p3 c_1 c_2 c_4), rfl⟩), trivial⟩, hS.F ht⟩) hS.2.2 dX8_folds_20
      · skip
        obtain ⟨hP1, hK1, hD1⟩ := hB
        rw [ht] at hP1
        obtain ⟨hP, hD⟩ := va_join (wr := [(h0, .inr (8, [.ref a0_marks, .ref a0_classes, .int 0, .ref a0_isSort, .ref h0_nodes, .ref h0_many, .int 0, .ref a0_in, .int 0, .int 0, .int 0, .ref a0_asked, .ref a0_turned, .int 0, .int (-1), .int (-1), .ref h0_heap, .ref a0_heapYes, .ref a0_path, .ref a0_bestWrong, .ref a0_bestAsked, .ref a0_bestMark, .ref a0_bestV])), (h0_heap, .inl (k0_heap, 4, .inl (fun _ => 0))), (h0_many, .inl (k0_many, 21, .inl (fun _ => 0))), (h0_nodes, .inl (k0_nodes, 134400, .inl (fun _ => 0)))]) (w1 := []) hP hD [] [0, 1, 2, 3] rfl rfl (by decide) (by decide) hk1 hFc hP1 hD1
        generalize H1 = H at hP hS ⊢
        clear hP1 hD1 hFc hk1 hz1 ht hvm hK1
        have hP : va_P (dC, dI) vwCl [(h0, .inr (8, [.ref a0_marks, .ref a0_classes, .int 0, .ref a0_isSort, .ref h0_nodes, .ref h0_many, .int 0, .ref a0_in, .int 0, .int 0, .int 0, .ref a0_asked, .ref a0_turned, .int 0, .int (-1), .int (-1), .ref h0_heap, .ref a0_heapYes, .ref a0_path, .ref a0_bestWrong, .ref a0_bestAsked, .ref a0_bestMark, .ref a0_bestV])), (h0_heap, .inl (k0_heap, 4, .inl (fun _ => 0))), (h0_many, .inl (k0_many, 21, .inl (fun _ => 0))), (h0_nodes, .inl (k0_nodes, 134400, .inl (fun _ => 0)))] H := hP
        have hD : va_D A [(h0, .inr (8, [.ref a0_marks, .ref a0_classes, .int 0, .ref a0_isSort, .ref h0_nodes, .ref h0_many, .int 0, .ref a0_in, .int 0, .int 0, .int 0, .ref a0_asked, .ref a0_turned, .int 0, .int (-1), .int (-1), .ref h0_heap, .ref a0_heapYes, .ref a0_path, .ref a0_bestWrong, .ref a0_bestAsked, .ref a0_bestMark, .ref a0_bestV])), (h0_heap, .inl (k0_heap, 4, .inl (fun _ => 0))), (h0_many, .inl (k0_many, 21, .inl (fun _ => 0))), (h0_nodes, .inl (k0_nodes, 134400, .inl (fun _ => 0)))] := hD
        refine lv_if_ne (tgt := 21) hx hb dX8_folds_16 (by decide) (fun c_19 => ?_) (fun c_19 => ?_)
        · exact absurd c_19 (by decide)
        refine lv_iconst (v := (-1)) hx hb dX8_folds_19 (by decide) ?_
        exact W.iret (v := (-1)) hx hb hr (fun t ht hW => ⟨⟨(-1), (), rfl, (Or.inr ⟨(lf_m_folds_7 p1 p2 p3 c_1 c_2 c_5 c_6), rfl⟩), trivial⟩, hS.F ht⟩) hS.2.2 dX8_folds_20
      · skip
        obtain ⟨hP1, hK1, hD1⟩ := hB
        rw [ht] at hP1
        obtain ⟨hP, hD⟩ := va_join (wr := [(h0, .inr (8, [.ref a0_marks, .ref a0_classes, .int 0, .ref a0_isSort, .ref h0_nodes, .ref h0_many, .int 0, .ref a0_in, .int 0, .int 0, .int 0, .ref a0_asked, .ref a0_turned, .int 0, .int (-1), .int (-1), .ref h0_heap, .ref a0_heapYes, .ref a0_path, .ref a0_bestWrong, .ref a0_bestAsked, .ref a0_bestMark, .ref a0_bestV])), (h0_heap, .inl (k0_heap, 4, .inl (fun _ => 0))), (h0_many, .inl (k0_many, 21, .inl (fun _ => 0))), (h0_nodes, .inl (k0_nodes, 134400, .inl (fun _ => 0)))]) (w1 := []) hP hD [] [0, 1, 2, 3] rfl rfl (by decide) (by decide) hk1 hFc hP1 hD1
        generalize H1 = H at hP hS ⊢
        clear hP1 hD1 hFc hk1 hz1 ht hvm hK1
        have hP : va_P (dC, dI) vwCl [(h0, .inr (8, [.ref a0_marks, .ref a0_classes, .int 0, .ref a0_isSort, .ref h0_nodes, .ref h0_many, .int 0, .ref a0_in, .int 0, .int 0, .int 0, .ref a0_asked, .ref a0_turned, .int 0, .int (-1), .int (-1), .ref h0_heap, .ref a0_heapYes, .ref a0_path, .ref a0_bestWrong, .ref a0_bestAsked, .ref a0_bestMark, .ref a0_bestV])), (h0_heap, .inl (k0_heap, 4, .inl (fun _ => 0))), (h0_many, .inl (k0_many, 21, .inl (fun _ => 0))), (h0_nodes, .inl (k0_nodes, 134400, .inl (fun _ => 0)))] H := hP
        have hD : va_D A [(h0, .inr (8, [.ref a0_marks, .ref a0_classes, .int 0, .ref a0_isSort, .ref h0_nodes, .ref h0_many, .int 0, .ref a0_in, .int 0, .int 0, .int 0, .ref a0_asked, .ref a0_turned, .int 0, .int (-1), .int (-1), .ref h0_heap, .ref a0_heapYes, .ref a0_path, .ref a0_bestWrong, .ref a0_bestAsked, .ref a0_bestMark, .ref a0_bestV])), (h0_heap, .inl (k0_heap, 4, .inl (fun _ => 0))), (h0_many, .inl (k0_many, 21, .inl (fun _ => 0))), (h0_nodes, .inl (k0_nodes, 134400, .inl (fun _ => 0)))] := hD
        refine lv_if_ne (tgt := 21) hx hb dX8_folds_16 (by decide) (fun c_20 => ?_) (fun c_20 => ?_)
        · exact absurd c_20 (by decide)
        refine lv_iconst (v := (-1)) hx hb dX8_folds_19 (by decide) ?_
        exact W.iret (v := (-1)) hx hb hr (fun t ht hW => ⟨⟨(-1), (), rfl, (Or.inr ⟨(lf_m_folds_8 p1 p2 p3 c_1 c_2 c_7 c_8 c_9), rfl⟩), trivial⟩, hS.F ht⟩) hS.2.2 dX8_folds_20
      · skip
        obtain ⟨hP1, hK1, hD1⟩ := hB
        rw [ht] at hP1
        obtain ⟨hP, hD⟩ := va_join (wr := [(h0, .inr (8, [.ref a0_marks, .ref a0_classes, .int 0, .ref a0_isSort, .ref h0_nodes, .ref h0_many, .int 0, .ref a0_in, .int 0, .int 0, .int 0, .ref a0_asked, .ref a0_turned, .int 0, .int (-1), .int (-1), .ref h0_heap, .ref a0_heapYes, .ref a0_path, .ref a0_bestWrong, .ref a0_bestAsked, .ref a0_bestMark, .ref a0_bestV])), (h0_heap, .inl (k0_heap, 4, .inl (fun _ => 0))), (h0_many, .inl (k0_many, 21, .inl (fun _ => 0))), (h0_nodes, .inl (k0_nodes, 134400, .inl (fun _ => 0)))]) (w1 := []) hP hD [] [0, 1, 2, 3] rfl rfl (by decide) (by decide) hk1 hFc hP1 hD1
        generalize H1 = H at hP hS ⊢
        clear hP1 hD1 hFc hk1 hz1 ht hvm hK1
        have hP : va_P (dC, dI) vwCl [(h0, .inr (8, [.ref a0_marks, .ref a0_classes, .int 0, .ref a0_isSort, .ref h0_nodes, .ref h0_many, .int 0, .ref a0_in, .int 0, .int 0, .int 0, .ref a0_asked, .ref a0_turned, .int 0, .int (-1), .int (-1), .ref h0_heap, .ref a0_heapYes, .ref a0_path, .ref a0_bestWrong, .ref a0_bestAsked, .ref a0_bestMark, .ref a0_bestV])), (h0_heap, .inl (k0_heap, 4, .inl (fun _ => 0))), (h0_many, .inl (k0_many, 21, .inl (fun _ => 0))), (h0_nodes, .inl (k0_nodes, 134400, .inl (fun _ => 0)))] H := hP
        have hD : va_D A [(h0, .inr (8, [.ref a0_marks, .ref a0_classes, .int 0, .ref a0_isSort, .ref h0_nodes, .ref h0_many, .int 0, .ref a0_in, .int 0, .int 0, .int 0, .ref a0_asked, .ref a0_turned, .int 0, .int (-1), .int (-1), .ref h0_heap, .ref a0_heapYes, .ref a0_path, .ref a0_bestWrong, .ref a0_bestAsked, .ref a0_bestMark, .ref a0_bestV])), (h0_heap, .inl (k0_heap, 4, .inl (fun _ => 0))), (h0_many, .inl (k0_many, 21, .inl (fun _ => 0))), (h0_nodes, .inl (k0_nodes, 134400, .inl (fun _ => 0)))] := hD
        refine lv_if_ne (tgt := 21) hx hb dX8_folds_16 (by decide) (fun c_21 => ?_) (fun c_21 => ?_)
        · exact absurd c_21 (by decide)
        refine lv_iconst (v := (-1)) hx hb dX8_folds_19 (by decide) ?_
        exact W.iret (v := (-1)) hx hb hr (fun t ht hW => ⟨⟨(-1), (), rfl, (Or.inr ⟨(lf_m_folds_9 p1 p2 p3 c_1 c_2 c_10 c_11 c_12 c_13), rfl⟩), trivial⟩, hS.F ht⟩) hS.2.2 dX8_folds_20
      · skip
        obtain ⟨hP1, hK1, hD1⟩ := hB
        rw [ht] at hP1
        obtain ⟨hP, hD⟩ := va_join (wr := [(h0, .inr (8, [.ref a0_marks, .ref a0_classes, .int 0, .ref a0_isSort, .ref h0_nodes, .ref h0_many, .int 0, .ref a0_in, .int 0, .int 0, .int 0, .ref a0_asked, .ref a0_turned, .int 0, .int (-1), .int (-1), .ref h0_heap, .ref a0_heapYes, .ref a0_path, .ref a0_bestWrong, .ref a0_bestAsked, .ref a0_bestMark, .ref a0_bestV])), (h0_heap, .inl (k0_heap, 4, .inl (fun _ => 0))), (h0_many, .inl (k0_many, 21, .inl (fun _ => 0))), (h0_nodes, .inl (k0_nodes, 134400, .inl (fun _ => 0)))]) (w1 := []) hP hD [] [0, 1, 2, 3] rfl rfl (by decide) (by decide) hk1 hFc hP1 hD1
        generalize H1 = H at hP hS ⊢
        clear hP1 hD1 hFc hk1 hz1 ht hvm hK1
        have hP : va_P (dC, dI) vwCl [(h0, .inr (8, [.ref a0_marks, .ref a0_classes, .int 0, .ref a0_isSort, .ref h0_nodes, .ref h0_many, .int 0, .ref a0_in, .int 0, .int 0, .int 0, .ref a0_asked, .ref a0_turned, .int 0, .int (-1), .int (-1), .ref h0_heap, .ref a0_heapYes, .ref a0_path, .ref a0_bestWrong, .ref a0_bestAsked, .ref a0_bestMark, .ref a0_bestV])), (h0_heap, .inl (k0_heap, 4, .inl (fun _ => 0))), (h0_many, .inl (k0_many, 21, .inl (fun _ => 0))), (h0_nodes, .inl (k0_nodes, 134400, .inl (fun _ => 0)))] H := hP
        have hD : va_D A [(h0, .inr (8, [.ref a0_marks, .ref a0_classes, .int 0, .ref a0_isSort, .ref h0_nodes, .ref h0_many, .int 0, .ref a0_in, .int 0, .int 0, .int 0, .ref a0_asked, .ref a0_turned, .int 0, .int (-1), .int (-1), .ref h0_heap, .ref a0_heapYes, .ref a0_path, .ref a0_bestWrong, .ref a0_bestAsked, .ref a0_bestMark, .ref a0_bestV])), (h0_heap, .inl (k0_heap, 4, .inl (fun _ => 0))), (h0_many, .inl (k0_many, 21, .inl (fun _ => 0))), (h0_nodes, .inl (k0_nodes, 134400, .inl (fun _ => 0)))] := hD
        refine lv_if_ne (tgt := 21) hx hb dX8_folds_16 (by decide) (fun c_22 => ?_) (fun c_22 => ?_)
        rotate_left
        · exact absurd c_22 (by decide)
        refine lv_iconst (v := 0) hx hb dX8_folds_21 (by decide) ?_
        refine lv_istore (lv' := [(4, .int 0), (0, .ref h0), (1, .int p1), (2, .int p2), (3, .int p3)]) hx hb dX8_folds_22 hl (by decide) rfl (fun ls hl => ?_)
        refine lv_iconst (v := 0) hx hb dX8_folds_24 (by decide) ?_
        refine lv_istore (lv' := [(5, .int 0), (4, .int 0), (0, .ref h0), (1, .int p1), (2, .int p2), (3, .int p3)]) hx hb dX8_folds_25 hl (by decide) rfl (fun ls hl => ?_)
        refine lv_iload hx hb dX8_folds_27 (lv_at hl 0 rfl) ?_
        refine lv_iload_n hx hb dX8_folds_29 rfl (lv_at hl 3 rfl) ?_
        refine lv_icmp_ge (tgt := 146) hx hb dX8_folds_30 (by decide) (fun c_23 => ?_) (fun c_23 => ?_)
        · exact False.elim (lf_m_folds_1 p1 c_1 c_2 c_23)
        refine lv_iconst (v := 0) hx hb dX8_folds_33 (by decide) ?_
        refine lv_istore (lv' := [(6, .int 0), (5, .int 0), (4, .int 0), (0, .ref h0), (1, .int p1), (2, .int p2), (3, .int p3)]) hx hb dX8_folds_34 hl (by decide) rfl (fun ls hl => ?_)
        refine lv_iload hx hb dX8_folds_36 (lv_at hl 0 rfl) ?_
        refine lv_aload_n hx hb dX8_folds_38 rfl (lv_at hl 3 rfl) ?_
        refine va_get (D := (dC, dI)) (ci := 8) (v := .int 0) (C := RX8) (T := TX8) (N := 23) hx hb hts hi8 hown hK hP 0 rfl rfl 2 (by decide) (hts (.fieldLink RX8 64 "AskTreeModel" "cases" "I") (by decide +kernel)) (fun _ h9 => h9) rfl dX8_folds_39 ?_
        refine lv_icmp_ge (tgt := 72) hx hb dX8_folds_42 (by decide) (fun c_24 => ?_) (fun c_24 => ?_)
        rotate_left
        · exact absurd c_24 (by decide)
        refine lv_aload_n hx hb dX8_folds_72 rfl (lv_at hl 3 rfl) ?_
        refine lv_bipush (v := 20) hx hb dX8_folds_73 (by decide) ?_
        refine va_put (D := (dC, dI)) (ci := 8) (v := .int 20) (ty := .int) (C := RX8) (T := TX8) (N := 23) hx hb hts hi8 tyX8 tyX8_ok nmX8 hown hK hP hD hS 0 rfl rfl 8 (by decide) (hts (.fieldLink RX8 111 "AskTreeModel" "making" "I") (by decide +kernel)) (fun _ h9 => h9) rfl (by decide +kernel) rfl rfl (Nat.le_of_ble_eq_true rfl) dX8_folds_75 (fun H locs hP hD hS => ?_)
        have hP : va_P (dC, dI) vwCl [(h0, .inr (8, [.ref a0_marks, .ref a0_classes, .int 0, .ref a0_isSort, .ref h0_nodes, .ref h0_many, .int 0, .ref a0_in, .int 20, .int 0, .int 0, .ref a0_asked, .ref a0_turned, .int 0, .int (-1), .int (-1), .ref h0_heap, .ref a0_heapYes, .ref a0_path, .ref a0_bestWrong, .ref a0_bestAsked, .ref a0_bestMark, .ref a0_bestV])), (h0_heap, .inl (k0_heap, 4, .inl (fun _ => 0))), (h0_many, .inl (k0_many, 21, .inl (fun _ => 0))), (h0_nodes, .inl (k0_nodes, 134400, .inl (fun _ => 0)))] H := hP
        have hD : va_D A [(h0, .inr (8, [.ref a0_marks, .ref a0_classes, .int 0, .ref a0_isSort, .ref h0_nodes, .ref h0_many, .int 0, .ref a0_in, .int 20, .int 0, .int 0, .ref a0_asked, .ref a0_turned, .int 0, .int (-1), .int (-1), .ref h0_heap, .ref a0_heapYes, .ref a0_path, .ref a0_bestWrong, .ref a0_bestAsked, .ref a0_bestMark, .ref a0_bestV])), (h0_heap, .inl (k0_heap, 4, .inl (fun _ => 0))), (h0_many, .inl (k0_many, 21, .inl (fun _ => 0))), (h0_nodes, .inl (k0_nodes, 134400, .inl (fun _ => 0)))] := hD
        refine lv_aload_n hx hb dX8_folds_78 rfl (lv_at hl 3 rfl) ?_
        refine va_get (D := (dC, dI)) (ci := 8) (v := .ref h0_many) (C := RX8) (T := TX8) (N := 23) hx hb hts hi8 hown hK hP 0 rfl rfl 5 (by decide) (hts (.fieldLink RX8 24 "AskTreeModel" "many" "[I") (by decide +kernel)) (fun _ h9 => h9) rfl dX8_folds_79 ?_
        refine lv_aload_n hx hb dX8_folds_82 rfl (lv_at hl 3 rfl) ?_
        refine va_get (D := (dC, dI)) (ci := 8) (v := .int 20) (C := RX8) (T := TX8) (N := 23) hx hb hts hi8 hown hK hP 0 rfl rfl 8 (by decide) (hts (.fieldLink RX8 111 "AskTreeModel" "making" "I") (by decide +kernel)) (fun _ h9 => h9) rfl dX8_folds_83 ?_
        refine lv_iconst (v := 0) hx hb dX8_folds_86 (by decide) ?_
        refine va_iast hx hb hK hP hD hS 2 1 rfl rfl (vi _ _ (by decide)) dX8_folds_87 (fun H locs hP hD hS => ?_)
        have hP : va_P (dC, dI) vwCl [(h0, .inr (8, [.ref a0_marks, .ref a0_classes, .int 0, .ref a0_isSort, .ref h0_nodes, .ref h0_many, .int 0, .ref a0_in, .int 20, .int 0, .int 0, .ref a0_asked, .ref a0_turned, .int 0, .int (-1), .int (-1), .ref h0_heap, .ref a0_heapYes, .ref a0_path, .ref a0_bestWrong, .ref a0_bestAsked, .ref a0_bestMark, .ref a0_bestV])), (h0_heap, .inl (k0_heap, 4, .inl (fun _ => 0))), (h0_many, .inl (k0_many, 21, .inl (upd (fun _ => 0) (Int32.toNatClampNeg 20) 0))), (h0_nodes, .inl (k0_nodes, 134400, .inl (fun _ => 0)))] H := hP
        have hD : va_D A [(h0, .inr (8, [.ref a0_marks, .ref a0_classes, .int 0, .ref a0_isSort, .ref h0_nodes, .ref h0_many, .int 0, .ref a0_in, .int 20, .int 0, .int 0, .ref a0_asked, .ref a0_turned, .int 0, .int (-1), .int (-1), .ref h0_heap, .ref a0_heapYes, .ref a0_path, .ref a0_bestWrong, .ref a0_bestAsked, .ref a0_bestMark, .ref a0_bestV])), (h0_heap, .inl (k0_heap, 4, .inl (fun _ => 0))), (h0_many, .inl (k0_many, 21, .inl (upd (fun _ => 0) (Int32.toNatClampNeg 20) 0))), (h0_nodes, .inl (k0_nodes, 134400, .inl (fun _ => 0)))] := hD
        generalize hf_26 : upd (fun _ => 0) (Int32.toNatClampNeg 20) 0 = f_25 at hP hD
        have hk_27 : f_25 20 = 0 := by rw [← hf_26]; exact up_s (by decide)
        clear hf_26
        refine lv_aload_n hx hb dX8_folds_88 rfl (lv_at hl 3 rfl) ?_
        refine lv_iconst (v := 0) hx hb dX8_folds_89 (by decide) ?_
        refine lv_iload_n hx hb dX8_folds_90 rfl (lv_at hl 5 rfl) ?_
        refine lv_iload_n hx hb dX8_folds_91 rfl (lv_at hl 6 rfl) ?_
        have hPc := hP.sub (ws' := [(h0, .inr (8, [.ref a0_marks, .ref a0_classes, .int 0, .ref a0_isSort, .ref h0_nodes, .ref h0_many, .int 0, .ref a0_in, .int 20, .int 0, .int 0, .ref a0_asked, .ref a0_turned, .int 0, .int (-1), .int (-1), .ref h0_heap, .ref a0_heapYes, .ref a0_path, .ref a0_bestWrong, .ref a0_bestAsked, .ref a0_bestMark, .ref a0_bestV])), (h0_heap, .inl (k0_heap, 4, .inl (fun _ => 0))), (h0_many, .inl (k0_many, 21, .inl f_25)), (h0_nodes, .inl (k0_nodes, 134400, .inl (fun _ => 0)))]) [0, 1, 2, 3] rfl
        have hDc := hD.sub (ws' := [(h0, .inr (8, [.ref a0_marks, .ref a0_classes, .int 0, .ref a0_isSort, .ref h0_nodes, .ref h0_many, .int 0, .ref a0_in, .int 20, .int 0, .int 0, .ref a0_asked, .ref a0_turned, .int 0, .int (-1), .int (-1), .ref h0_heap, .ref a0_heapYes, .ref a0_path, .ref a0_bestWrong, .ref a0_bestAsked, .ref a0_bestMark, .ref a0_bestV])), (h0_heap, .inl (k0_heap, 4, .inl (fun _ => 0))), (h0_many, .inl (k0_many, 21, .inl f_25)), (h0_nodes, .inl (k0_nodes, 134400, .inl (fun _ => 0)))]) [0, 1, 2, 3] (by decide) rfl
        have hKc := hK.sub (tys' := [(k0_heap, .int), (k0_many, .int), (k0_nodes, .int)]) [0, 1, 2] rfl
        have hFc := va_free (wc := [(h0, .inr (8, [.ref a0_marks, .ref a0_classes, .int 0, .ref a0_isSort, .ref h0_nodes, .ref h0_many, .int 0, .ref a0_in, .int 20, .int 0, .int 0, .ref a0_asked, .ref a0_turned, .int 0, .int (-1), .int (-1), .ref h0_heap, .ref a0_heapYes, .ref a0_path, .ref a0_bestWrong, .ref a0_bestAsked, .ref a0_bestMark, .ref a0_bestV])), (h0_heap, .inl (k0_heap, 4, .inl (fun _ => 0))), (h0_many, .inl (k0_many, 21, .inl f_25)), (h0_nodes, .inl (k0_nodes, 134400, .inl (fun _ => 0)))]) hD hS hA [0, 1, 2, 3] rfl
        refine va_calli (va_runV (As := [.int 0, .int p2, .int p3]) (rest := []) ⟨hx, hb, hml, hown, hts⟩ (c_growNode20 l dC dI H.size h0 p2 p3 h0_heap h0_many h0_nodes a0_marks a0_classes a0_isSort a0_in a0_asked a0_turned a0_heapYes a0_path a0_bestWrong a0_bestAsked a0_bestMark a0_bestV k0_heap (fun _ => 0) k0_many f_25 k0_nodes (fun _ => 0) hk_27) (cwV 3 hts gX8_folds_X8_growNode rfl rfl rfl (by decide +kernel) ⟨Nat.le_of_ble_eq_true rfl, Nat.le_of_ble_eq_true rfl⟩) (pre_V hPc hKc hDc hN (ci := 8) (q0 := 0) rfl rfl) rfl rfl hl.1 rfl (lv_room (Nat.le_of_ble_eq_true rfl)) dX8_folds_92 ⟨Nat.le_of_ble_eq_true rfl, Nat.le_of_ble_eq_true rfl⟩) hS (fun q _ h => hFc q h) hFc (fun r_28 u t H1 locs ht hvm hw hB hz1 hk1 hS => ?_)
        clear hPc hDc hKc
        obtain ⟨f_29, f_30, f_31, rfl, hk_32, hk_33, hk_34, hk_35, rfl⟩ := hw
        obtain ⟨hP1, hK1, hD1⟩ := hB
        rw [ht] at hP1
        obtain ⟨hP, hD⟩ := va_join (wr := []) (w1 := [(h0, .inr (8, [.ref a0_marks, .ref a0_classes, .int 0, .ref a0_isSort, .ref h0_nodes, .ref h0_many, .int 0, .ref a0_in, .int 20, .int 0, .int 0, .ref a0_asked, .ref a0_turned, .int 0, .int (-1), .int (-1), .ref h0_heap, .ref a0_heapYes, .ref a0_path, .ref a0_bestWrong, .ref a0_bestAsked, .ref a0_bestMark, .ref a0_bestV])), (h0_heap, .inl (k0_heap, 4, .inl f_29)), (h0_many, .inl (k0_many, 21, .inl f_30)), (h0_nodes, .inl (k0_nodes, 134400, .inl f_31))]) hP hD [0, 1, 2, 3] [] rfl rfl (by decide) (by decide) hk1 hFc hP1 hD1
        generalize H1 = H at hP hS ⊢
        clear hP1 hD1 hFc hk1 hz1 ht hvm hK1
        have hP : va_P (dC, dI) vwCl [(h0, .inr (8, [.ref a0_marks, .ref a0_classes, .int 0, .ref a0_isSort, .ref h0_nodes, .ref h0_many, .int 0, .ref a0_in, .int 20, .int 0, .int 0, .ref a0_asked, .ref a0_turned, .int 0, .int (-1), .int (-1), .ref h0_heap, .ref a0_heapYes, .ref a0_path, .ref a0_bestWrong, .ref a0_bestAsked, .ref a0_bestMark, .ref a0_bestV])), (h0_heap, .inl (k0_heap, 4, .inl f_29)), (h0_many, .inl (k0_many, 21, .inl f_30)), (h0_nodes, .inl (k0_nodes, 134400, .inl f_31))] H := hP
        have hD : va_D A [(h0, .inr (8, [.ref a0_marks, .ref a0_classes, .int 0, .ref a0_isSort, .ref h0_nodes, .ref h0_many, .int 0, .ref a0_in, .int 20, .int 0, .int 0, .ref a0_asked, .ref a0_turned, .int 0, .int (-1), .int (-1), .ref h0_heap, .ref a0_heapYes, .ref a0_path, .ref a0_bestWrong, .ref a0_bestAsked, .ref a0_bestMark, .ref a0_bestV])), (h0_heap, .inl (k0_heap, 4, .inl f_29)), (h0_many, .inl (k0_many, 21, .inl f_30)), (h0_nodes, .inl (k0_nodes, 134400, .inl f_31))] := hD
        refine lv_istore (lv' := [(6, .int 0), (5, .int 0), (4, .int 0), (0, .ref h0), (1, .int p1), (2, .int p2), (3, .int p3)]) hx hb dX8_folds_95 hl (by decide) rfl (fun ls hl => ?_)
        refine lv_iload hx hb dX8_folds_97 (lv_at hl 1 rfl) ?_
        refine lv_istore (lv' := [(7, .int 0), (6, .int 0), (5, .int 0), (4, .int 0), (0, .ref h0), (1, .int p1), (2, .int p2), (3, .int p3)]) hx hb dX8_folds_99 hl (by decide) rfl (fun ls hl => ?_)
        refine lv_iload hx hb dX8_folds_101 (lv_at hl 0 rfl) ?_
        refine lv_aload_n hx hb dX8_folds_103 rfl (lv_at hl 4 rfl) ?_
        refine va_get (D := (dC, dI)) (ci := 8) (v := .int 0) (C := RX8) (T := TX8) (N := 23) hx hb hts hi8 hown hK hP 0 rfl rfl 2 (by decide) (hts (.fieldLink RX8 64 "AskTreeModel" "cases" "I") (by decide +kernel)) (fun _ h9 => h9) rfl dX8_folds_104 ?_
        refine lv_icmp_ge (tgt := 140) hx hb dX8_folds_107 (by decide) (fun c_36 => ?_) (fun c_36 => ?_)
        rotate_left
        · exact absurd c_36 (by decide)
        refine lv_iinc (v := 1) (lv' := [(5, .int 1), (7, .int 0), (6, .int 0), (4, .int 0), (0, .ref h0), (1, .int p1), (2, .int p2), (3, .int p3)]) hx hb dX8_folds_140 hl (k := 2) rfl (by decide) (by decide) rfl (fun ls hl => ?_)
        refine lv_goto (tgt := 27) hx hb dX8_folds_143 (by decide) ?_
        have key : ∀ (n : Nat) (x_40 : Int32) (Lf_37 : Nat → Int32) (Lf_38 : Nat → Int32) (Lf_39 : Nat → Int32) (H : Heap) (locs : List Loc) (ls : Array Slot), 0 ≤ x_40 → x_40 ≤ p1 → p1.toInt ≤ x_40.toInt + (n : Int) → va_P (dC, dI) vwCl [(h0, .inr (8, [.ref a0_marks, .ref a0_classes, .int 0, .ref a0_isSort, .ref h0_nodes, .ref h0_many, .int 0, .ref a0_in, .int 20, .int 0, .int 0, .ref a0_asked, .ref a0_turned, .int 0, .int (-1), .int (-1), .ref h0_heap, .ref a0_heapYes, .ref a0_path, .ref a0_bestWrong, .ref a0_bestAsked, .ref a0_bestMark, .ref a0_bestV])), (h0_heap, .inl (k0_heap, 4, .inl Lf_37)), (h0_many, .inl (k0_many, 21, .inl Lf_38)), (h0_nodes, .inl (k0_nodes, 134400, .inl Lf_39))] H → va_D A [(h0, .inr (8, [.ref a0_marks, .ref a0_classes, .int 0, .ref a0_isSort, .ref h0_nodes, .ref h0_many, .int 0, .ref a0_in, .int 20, .int 0, .int 0, .ref a0_asked, .ref a0_turned, .int 0, .int (-1), .int (-1), .ref h0_heap, .ref a0_heapYes, .ref a0_path, .ref a0_bestWrong, .ref a0_bestAsked, .ref a0_bestMark, .ref a0_bestV])), (h0_heap, .inl (k0_heap, 4, .inl Lf_37)), (h0_many, .inl (k0_many, 21, .inl Lf_38)), (h0_nodes, .inl (k0_nodes, 134400, .inl Lf_39))] → va_S A s.heap H locs → lv_has ls 8 [(0, .ref h0), (1, .int p1), (2, .int p2), (3, .int p3), (4, .int 0), (5, .int x_40)] → W p l e (headSpec wsX8_folds ({ frames := 4, cells := 0, slots := 0, locals := 134 } : Room)).room s m [Value.ref h0, Value.int p1, Value.int p2, Value.int p3].toArray below meth c H locs 0 0 (MQ below (va_Qi (fun (r : Int32) (_ : Unit) => ((2 ≤ p1 ∧ p1 ≤ 10 ∧ 0 ≤ p2 ∧ p2 ≤ 8 ∧ 1 ≤ p3 ∧ p3 ≤ 100) ∧ r = 0) ∨ (¬ (2 ≤ p1 ∧ p1 ≤ 10 ∧ 0 ≤ p2 ∧ p2 ≤ 8 ∧ 1 ≤ p3 ∧ p3 ≤ 100) ∧ r = (-1))) (fun _ _ => True) A) [Value.ref h0, Value.int p1, Value.int p2, Value.int p3].toArray s 0 0 A) (F0 m 27 ls []) := by
          intro n
          induction n with
          | zero =>
            intro x_40 Lf_37 Lf_38 Lf_39 H locs ls hx1 hx2 hx3 hP hD hS hl
            have hz : ¬ x_40 < p1 := fo_zero hx3
            refine lv_iload hx hb dX8_folds_27 (lv_at hl 5 rfl) ?_
            refine lv_iload_n hx hb dX8_folds_29 rfl (lv_at hl 1 rfl) ?_
            refine lv_icmp_ge (tgt := 146) hx hb dX8_folds_30 (by decide) (fun c_41 => ?_) (fun c_41 => ?_)
            rotate_left
            · exact False.elim (lf_m_folds_2 p1 x_40 hz c_41)
            refine lv_iload hx hb dX8_folds_146 (lv_at hl 4 rfl) ?_
            exact W.iret (v := 0) hx hb hr (fun t ht hW => ⟨⟨0, (), rfl, (Or.inl ⟨(lf_m_folds_10 p1 p2 p3 x_40 c_1 c_2 c_14 c_15 c_16 c_17 hx1 hz), rfl⟩), trivial⟩, hS.F ht⟩) hS.2.2 dX8_folds_148
          | succ n ih =>
            intro x_40 Lf_37 Lf_38 Lf_39 H locs ls hx1 hx2 hx3 hP hD hS hl
            refine lv_iload hx hb dX8_folds_27 (lv_at hl 5 rfl) ?_
            refine lv_iload_n hx hb dX8_folds_29 rfl (lv_at hl 1 rfl) ?_
            refine lv_icmp_ge (tgt := 146) hx hb dX8_folds_30 (by decide) (fun c_42 => ?_) (fun c_42 => ?_)
            · skip
              refine lv_iload hx hb dX8_folds_146 (lv_at hl 4 rfl) ?_
              exact W.iret (v := 0) hx hb hr (fun t ht hW => ⟨⟨0, (), rfl, (Or.inl ⟨(lf_m_folds_11 p1 p2 p3 x_40 c_1 c_2 c_14 c_15 c_16 c_17 hx1 c_42), rfl⟩), trivial⟩, hS.F ht⟩) hS.2.2 dX8_folds_148
            · skip
              refine lv_iconst (v := 0) hx hb dX8_folds_33 (by decide) ?_
              refine lv_istore (lv' := [(6, .int 0), (0, .ref h0), (1, .int p1), (2, .int p2), (3, .int p3), (4, .int 0), (5, .int x_40)]) hx hb dX8_folds_34 hl (by decide) rfl (fun ls hl => ?_)
              refine lv_iload hx hb dX8_folds_36 (lv_at hl 0 rfl) ?_
              refine lv_aload_n hx hb dX8_folds_38 rfl (lv_at hl 1 rfl) ?_
              refine va_get (D := (dC, dI)) (ci := 8) (v := .int 0) (C := RX8) (T := TX8) (N := 23) hx hb hts hi8 hown hK hP 0 rfl rfl 2 (by decide) (hts (.fieldLink RX8 64 "AskTreeModel" "cases" "I") (by decide +kernel)) (fun _ h9 => h9) rfl dX8_folds_39 ?_
              refine lv_icmp_ge (tgt := 72) hx hb dX8_folds_42 (by decide) (fun c_43 => ?_) (fun c_43 => ?_)
              rotate_left
              · exact absurd c_43 (by decide)
              refine lv_aload_n hx hb dX8_folds_72 rfl (lv_at hl 1 rfl) ?_
              refine lv_bipush (v := 20) hx hb dX8_folds_73 (by decide) ?_
              refine va_put (D := (dC, dI)) (ci := 8) (v := .int 20) (ty := .int) (C := RX8) (T := TX8) (N := 23) hx hb hts hi8 tyX8 tyX8_ok nmX8 hown hK hP hD hS 0 rfl rfl 8 (by decide) (hts (.fieldLink RX8 111 "AskTreeModel" "making" "I") (by decide +kernel)) (fun _ h9 => h9) rfl (by decide +kernel) rfl rfl (Nat.le_of_ble_eq_true rfl) dX8_folds_75 (fun H locs hP hD hS => ?_)
              have hP : va_P (dC, dI) vwCl [(h0, .inr (8, [.ref a0_marks, .ref a0_classes, .int 0, .ref a0_isSort, .ref h0_nodes, .ref h0_many, .int 0, .ref a0_in, .int 20, .int 0, .int 0, .ref a0_asked, .ref a0_turned, .int 0, .int (-1), .int (-1), .ref h0_heap, .ref a0_heapYes, .ref a0_path, .ref a0_bestWrong, .ref a0_bestAsked, .ref a0_bestMark, .ref a0_bestV])), (h0_heap, .inl (k0_heap, 4, .inl Lf_37)), (h0_many, .inl (k0_many, 21, .inl Lf_38)), (h0_nodes, .inl (k0_nodes, 134400, .inl Lf_39))] H := hP
              have hD : va_D A [(h0, .inr (8, [.ref a0_marks, .ref a0_classes, .int 0, .ref a0_isSort, .ref h0_nodes, .ref h0_many, .int 0, .ref a0_in, .int 20, .int 0, .int 0, .ref a0_asked, .ref a0_turned, .int 0, .int (-1), .int (-1), .ref h0_heap, .ref a0_heapYes, .ref a0_path, .ref a0_bestWrong, .ref a0_bestAsked, .ref a0_bestMark, .ref a0_bestV])), (h0_heap, .inl (k0_heap, 4, .inl Lf_37)), (h0_many, .inl (k0_many, 21, .inl Lf_38)), (h0_nodes, .inl (k0_nodes, 134400, .inl Lf_39))] := hD
              refine lv_aload_n hx hb dX8_folds_78 rfl (lv_at hl 1 rfl) ?_
              refine va_get (D := (dC, dI)) (ci := 8) (v := .ref h0_many) (C := RX8) (T := TX8) (N := 23) hx hb hts hi8 hown hK hP 0 rfl rfl 5 (by decide) (hts (.fieldLink RX8 24 "AskTreeModel" "many" "[I") (by decide +kernel)) (fun _ h9 => h9) rfl dX8_folds_79 ?_
              refine lv_aload_n hx hb dX8_folds_82 rfl (lv_at hl 1 rfl) ?_
              refine va_get (D := (dC, dI)) (ci := 8) (v := .int 20) (C := RX8) (T := TX8) (N := 23) hx hb hts hi8 hown hK hP 0 rfl rfl 8 (by decide) (hts (.fieldLink RX8 111 "AskTreeModel" "making" "I") (by decide +kernel)) (fun _ h9 => h9) rfl dX8_folds_83 ?_
              refine lv_iconst (v := 0) hx hb dX8_folds_86 (by decide) ?_
              refine va_iast hx hb hK hP hD hS 2 1 rfl rfl (vi _ _ (by decide)) dX8_folds_87 (fun H locs hP hD hS => ?_)
              have hP : va_P (dC, dI) vwCl [(h0, .inr (8, [.ref a0_marks, .ref a0_classes, .int 0, .ref a0_isSort, .ref h0_nodes, .ref h0_many, .int 0, .ref a0_in, .int 20, .int 0, .int 0, .ref a0_asked, .ref a0_turned, .int 0, .int (-1), .int (-1), .ref h0_heap, .ref a0_heapYes, .ref a0_path, .ref a0_bestWrong, .ref a0_bestAsked, .ref a0_bestMark, .ref a0_bestV])), (h0_heap, .inl (k0_heap, 4, .inl Lf_37)), (h0_many, .inl (k0_many, 21, .inl (upd Lf_38 (Int32.toNatClampNeg 20) 0))), (h0_nodes, .inl (k0_nodes, 134400, .inl Lf_39))] H := hP
              have hD : va_D A [(h0, .inr (8, [.ref a0_marks, .ref a0_classes, .int 0, .ref a0_isSort, .ref h0_nodes, .ref h0_many, .int 0, .ref a0_in, .int 20, .int 0, .int 0, .ref a0_asked, .ref a0_turned, .int 0, .int (-1), .int (-1), .ref h0_heap, .ref a0_heapYes, .ref a0_path, .ref a0_bestWrong, .ref a0_bestAsked, .ref a0_bestMark, .ref a0_bestV])), (h0_heap, .inl (k0_heap, 4, .inl Lf_37)), (h0_many, .inl (k0_many, 21, .inl (upd Lf_38 (Int32.toNatClampNeg 20) 0))), (h0_nodes, .inl (k0_nodes, 134400, .inl Lf_39))] := hD
              generalize hf_45 : upd Lf_38 (Int32.toNatClampNeg 20) 0 = f_44 at hP hD
              have hk_46 : f_44 20 = 0 := by rw [← hf_45]; exact up_s (by decide)
              clear hf_45
              refine lv_aload_n hx hb dX8_folds_88 rfl (lv_at hl 1 rfl) ?_
              refine lv_iconst (v := 0) hx hb dX8_folds_89 (by decide) ?_
              refine lv_iload_n hx hb dX8_folds_90 rfl (lv_at hl 3 rfl) ?_
              refine lv_iload_n hx hb dX8_folds_91 rfl (lv_at hl 4 rfl) ?_
              have hPc := hP.sub (ws' := [(h0, .inr (8, [.ref a0_marks, .ref a0_classes, .int 0, .ref a0_isSort, .ref h0_nodes, .ref h0_many, .int 0, .ref a0_in, .int 20, .int 0, .int 0, .ref a0_asked, .ref a0_turned, .int 0, .int (-1), .int (-1), .ref h0_heap, .ref a0_heapYes, .ref a0_path, .ref a0_bestWrong, .ref a0_bestAsked, .ref a0_bestMark, .ref a0_bestV])), (h0_heap, .inl (k0_heap, 4, .inl Lf_37)), (h0_many, .inl (k0_many, 21, .inl f_44)), (h0_nodes, .inl (k0_nodes, 134400, .inl Lf_39))]) [0, 1, 2, 3] rfl
              have hDc := hD.sub (ws' := [(h0, .inr (8, [.ref a0_marks, .ref a0_classes, .int 0, .ref a0_isSort, .ref h0_nodes, .ref h0_many, .int 0, .ref a0_in, .int 20, .int 0, .int 0, .ref a0_asked, .ref a0_turned, .int 0, .int (-1), .int (-1), .ref h0_heap, .ref a0_heapYes, .ref a0_path, .ref a0_bestWrong, .ref a0_bestAsked, .ref a0_bestMark, .ref a0_bestV])), (h0_heap, .inl (k0_heap, 4, .inl Lf_37)), (h0_many, .inl (k0_many, 21, .inl f_44)), (h0_nodes, .inl (k0_nodes, 134400, .inl Lf_39))]) [0, 1, 2, 3] (by decide) rfl
              have hKc := hK.sub (tys' := [(k0_heap, .int), (k0_many, .int), (k0_nodes, .int)]) [0, 1, 2] rfl
              have hFc := va_free (wc := [(h0, .inr (8, [.ref a0_marks, .ref a0_classes, .int 0, .ref a0_isSort, .ref h0_nodes, .ref h0_many, .int 0, .ref a0_in, .int 20, .int 0, .int 0, .ref a0_asked, .ref a0_turned, .int 0, .int (-1), .int (-1), .ref h0_heap, .ref a0_heapYes, .ref a0_path, .ref a0_bestWrong, .ref a0_bestAsked, .ref a0_bestMark, .ref a0_bestV])), (h0_heap, .inl (k0_heap, 4, .inl Lf_37)), (h0_many, .inl (k0_many, 21, .inl f_44)), (h0_nodes, .inl (k0_nodes, 134400, .inl Lf_39))]) hD hS hA [0, 1, 2, 3] rfl
              refine va_calli (va_runV (As := [.int 0, .int p2, .int p3]) (rest := []) ⟨hx, hb, hml, hown, hts⟩ (c_growNode20 l dC dI H.size h0 p2 p3 h0_heap h0_many h0_nodes a0_marks a0_classes a0_isSort a0_in a0_asked a0_turned a0_heapYes a0_path a0_bestWrong a0_bestAsked a0_bestMark a0_bestV k0_heap Lf_37 k0_many f_44 k0_nodes Lf_39 hk_46) (cwV 3 hts gX8_folds_X8_growNode rfl rfl rfl (by decide +kernel) ⟨Nat.le_of_ble_eq_true rfl, Nat.le_of_ble_eq_true rfl⟩) (pre_V hPc hKc hDc hN (ci := 8) (q0 := 0) rfl rfl) rfl rfl hl.1 rfl (lv_room (Nat.le_of_ble_eq_true rfl)) dX8_folds_92 ⟨Nat.le_of_ble_eq_true rfl, Nat.le_of_ble_eq_true rfl⟩) hS (fun q _ h => hFc q h) hFc (fun r_47 u t H1 locs ht hvm hw hB hz1 hk1 hS => ?_)
              clear hPc hDc hKc
              obtain ⟨f_48, f_49, f_50, rfl, hk_51, hk_52, hk_53, hk_54, rfl⟩ := hw
              obtain ⟨hP1, hK1, hD1⟩ := hB
              rw [ht] at hP1
              obtain ⟨hP, hD⟩ := va_join (wr := []) (w1 := [(h0, .inr (8, [.ref a0_marks, .ref a0_classes, .int 0, .ref a0_isSort, .ref h0_nodes, .ref h0_many, .int 0, .ref a0_in, .int 20, .int 0, .int 0, .ref a0_asked, .ref a0_turned, .int 0, .int (-1), .int (-1), .ref h0_heap, .ref a0_heapYes, .ref a0_path, .ref a0_bestWrong, .ref a0_bestAsked, .ref a0_bestMark, .ref a0_bestV])), (h0_heap, .inl (k0_heap, 4, .inl f_48)), (h0_many, .inl (k0_many, 21, .inl f_49)), (h0_nodes, .inl (k0_nodes, 134400, .inl f_50))]) hP hD [0, 1, 2, 3] [] rfl rfl (by decide) (by decide) hk1 hFc hP1 hD1
              generalize H1 = H at hP hS ⊢
              clear hP1 hD1 hFc hk1 hz1 ht hvm hK1
              have hP : va_P (dC, dI) vwCl [(h0, .inr (8, [.ref a0_marks, .ref a0_classes, .int 0, .ref a0_isSort, .ref h0_nodes, .ref h0_many, .int 0, .ref a0_in, .int 20, .int 0, .int 0, .ref a0_asked, .ref a0_turned, .int 0, .int (-1), .int (-1), .ref h0_heap, .ref a0_heapYes, .ref a0_path, .ref a0_bestWrong, .ref a0_bestAsked, .ref a0_bestMark, .ref a0_bestV])), (h0_heap, .inl (k0_heap, 4, .inl f_48)), (h0_many, .inl (k0_many, 21, .inl f_49)), (h0_nodes, .inl (k0_nodes, 134400, .inl f_50))] H := hP
              have hD : va_D A [(h0, .inr (8, [.ref a0_marks, .ref a0_classes, .int 0, .ref a0_isSort, .ref h0_nodes, .ref h0_many, .int 0, .ref a0_in, .int 20, .int 0, .int 0, .ref a0_asked, .ref a0_turned, .int 0, .int (-1), .int (-1), .ref h0_heap, .ref a0_heapYes, .ref a0_path, .ref a0_bestWrong, .ref a0_bestAsked, .ref a0_bestMark, .ref a0_bestV])), (h0_heap, .inl (k0_heap, 4, .inl f_48)), (h0_many, .inl (k0_many, 21, .inl f_49)), (h0_nodes, .inl (k0_nodes, 134400, .inl f_50))] := hD
              refine lv_istore (lv' := [(6, .int 0), (0, .ref h0), (1, .int p1), (2, .int p2), (3, .int p3), (4, .int 0), (5, .int x_40)]) hx hb dX8_folds_95 hl (by decide) rfl (fun ls hl => ?_)
              refine lv_iload hx hb dX8_folds_97 (lv_at hl 6 rfl) ?_
              refine lv_istore (lv' := [(7, .int x_40), (6, .int 0), (0, .ref h0), (1, .int p1), (2, .int p2), (3, .int p3), (4, .int 0), (5, .int x_40)]) hx hb dX8_folds_99 hl (by decide) rfl (fun ls hl => ?_)
              refine lv_iload hx hb dX8_folds_101 (lv_at hl 0 rfl) ?_
              refine lv_aload_n hx hb dX8_folds_103 rfl (lv_at hl 2 rfl) ?_
              refine va_get (D := (dC, dI)) (ci := 8) (v := .int 0) (C := RX8) (T := TX8) (N := 23) hx hb hts hi8 hown hK hP 0 rfl rfl 2 (by decide) (hts (.fieldLink RX8 64 "AskTreeModel" "cases" "I") (by decide +kernel)) (fun _ h9 => h9) rfl dX8_folds_104 ?_
              refine lv_icmp_ge (tgt := 140) hx hb dX8_folds_107 (by decide) (fun c_55 => ?_) (fun c_55 => ?_)
              rotate_left
              · exact False.elim (lf_m_folds_3 x_40 hx1 c_55)
              refine lv_iinc (v := (x_40 + 1)) (lv' := [(5, .int (x_40 + 1)), (7, .int x_40), (6, .int 0), (0, .ref h0), (1, .int p1), (2, .int p2), (3, .int p3), (4, .int 0)]) hx hb dX8_folds_140 hl (k := 7) rfl (rfl) (by decide) rfl (fun ls hl => ?_)
              refine lv_goto (tgt := 27) hx hb dX8_folds_143 (by decide) ?_
              exact ih (x_40 + 1) f_48 f_49 f_50 H locs ls (fo_1 hx1 (Int32.not_le.mp c_42) c_2) (fo_2 hx1 (Int32.not_le.mp c_42) c_2) (fo_3 hx1 (Int32.not_le.mp c_42) c_2 hx3)  (hP.sub [0, 1, 2, 3] rfl) (hD.sub [0, 1, 2, 3] (by decide) rfl) hS (lv_sub hl [3, 4, 5, 6, 7, 0] rfl)
        exact key 10 1 f_29 f_30 f_31 H locs ls (by decide) (fo_a c_1) (fo_b c_2)  (hP.sub [0, 1, 2, 3] rfl) (hD.sub [0, 1, 2, 3] (by decide) rfl) hS (lv_sub hl [4, 5, 6, 7, 3, 0] rfl)
