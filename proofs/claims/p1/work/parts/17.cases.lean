set_option maxHeartbeats 4000000 in
set_option maxRecDepth 100000 in
/-- the law at tree -/
theorem law_11 {p : Program} {l : Launch} {e : Env} {s : State} {m : MethodId} {below : List Frame} {meth : Method} {c : Code} {dC : Nat → ClassId} {dI : Nat → Nat → Nat} {b : Nat} {xs : Nat → Int32} {A : Nat → Prop} (C0 : lw_At p s m meth c b 6 xs) (hN : nw s) (hA : ∀ q : Nat, s.heap.size ≤ q → A q) (hAi : ∀ q : Nat, A q → s.heap.size ≤ q) (q_1 : Nat) (q_3 : Nat) (q_4 : Nat) (q_5 : Nat) (q_6 : Nat) (q_7 : Nat) (q_8 : Nat) (q_9 : Nat) (q_10 : Nat) (q_11 : Nat) (q_12 : Nat) (q_55 : Nat) (q_57 : Nat) (q_58 : Nat) (q_59 : Nat) (q_60 : Nat) (q_61 : Nat) (q_62 : Nat) (q_63 : Nat) (q_64 : Nat) (q_65 : Nat) (q_66 : Nat) (q_67 : Nat) (q_68 : Nat) (q_69 : Nat) (q_70 : Nat) (q_71 : Nat) (H : Heap) (locs : List Loc) (ls : Array Slot) (hK : va_K (dC, dI) vwCl [] s) (hP : va_P (dC, dI) vwCl [(q_1, .inr (7, [.ref q_3, .ref q_4, .ref q_5, .ref q_6, .ref q_7, .ref q_8, .ref q_9, .ref q_10, .ref q_11, .ref q_12, .int 0, .int (-1), .int (-1), .int 0])), (q_55, .inr (8, [.ref q_57, .ref q_58, .int 0, .ref q_59, .ref q_60, .ref q_61, .int 0, .ref q_62, .int 0, .int 0, .int 0, .ref q_63, .ref q_64, .int 0, .int (-1), .int (-1), .ref q_65, .ref q_66, .ref q_67, .ref q_68, .ref q_69, .ref q_70, .ref q_71]))] H) (hD : va_D A [(q_1, .inr (7, [.ref q_3, .ref q_4, .ref q_5, .ref q_6, .ref q_7, .ref q_8, .ref q_9, .ref q_10, .ref q_11, .ref q_12, .int 0, .int (-1), .int (-1), .int 0])), (q_55, .inr (8, [.ref q_57, .ref q_58, .int 0, .ref q_59, .ref q_60, .ref q_61, .int 0, .ref q_62, .int 0, .int 0, .int 0, .ref q_63, .ref q_64, .int 0, .int (-1), .int (-1), .ref q_65, .ref q_66, .ref q_67, .ref q_68, .ref q_69, .ref q_70, .ref q_71]))]) (hS : va_S A s.heap H locs) (hl : lv_has ls 4 [(3, .int 0), (2, .ref q_55), (1, .ref q_1), (0, .ref b)]) : W p l e room_1 s m #[Value.ref b] below meth c H locs 46 149056 (lw_Z below #[Value.ref b] s) (F0 m 499 ls []) := by
  obtain ⟨hx, hb, hr, hml, hown, hts0, hX, hbl, hlocks, hgv⟩ := id C0
  have hts : ∀ w ∈ wsL_law, w.before #[Value.ref b] s = true := fun w h => hts0 w (wsL_law_in w h)
  have hown : s.vm.findClass RL = some m.cls := hown
  have hb : c.code = cL_law := hb
  have hbA : ¬ A b := fun q => absurd (hAi b q) (Nat.not_le.mpr hbl)
  refine lv_aload_n hx hb dL_law_499 rfl (lv_at hl 2 rfl) ?_
  refine lv_aload_n hx hb dL_law_500 rfl (lv_at hl 3 rfl) ?_
  refine lv_iload_n hx hb dL_law_501 rfl (lv_at hl 0 rfl) ?_
  refine lv_iconst (v := 1) hx hb dL_law_502 (by decide) ?_
  refine lv_iadd hx hb dL_law_503 ?_
  refine tvv (v := .int 1) (congrArg Value.int (by decide)) ?_
  refine va_sld hx hb hX hbl hbA hS (vi _ _ (by decide)) dL_law_504 ?_
  refine tvv (v := .int (xs 1)) (congrArg Value.int (congrArg xs (by decide))) ?_
  refine lv_aload_n hx hb dL_law_505 rfl (lv_at hl 3 rfl) ?_
  refine lv_iload_n hx hb dL_law_506 rfl (lv_at hl 0 rfl) ?_
  refine lv_iconst (v := 2) hx hb dL_law_507 (by decide) ?_
  refine lv_iadd hx hb dL_law_508 ?_
  refine tvv (v := .int 2) (congrArg Value.int (by decide)) ?_
  refine va_sld hx hb hX hbl hbA hS (vi _ _ (by decide)) dL_law_509 ?_
  refine tvv (v := .int (xs 2)) (congrArg Value.int (congrArg xs (by decide))) ?_
  have hPc := hP.sub (ws' := [(q_1, .inr (7, [.ref q_3, .ref q_4, .ref q_5, .ref q_6, .ref q_7, .ref q_8, .ref q_9, .ref q_10, .ref q_11, .ref q_12, .int 0, .int (-1), .int (-1), .int 0]))]) [0] rfl
  have hDc := hD.sub (ws' := [(q_1, .inr (7, [.ref q_3, .ref q_4, .ref q_5, .ref q_6, .ref q_7, .ref q_8, .ref q_9, .ref q_10, .ref q_11, .ref q_12, .int 0, .int (-1), .int (-1), .int 0]))]) [0] (by decide) rfl
  have hKc := hK.sub (tys' := []) [] rfl
  have hFc := va_free (wc := [(q_1, .inr (7, [.ref q_3, .ref q_4, .ref q_5, .ref q_6, .ref q_7, .ref q_8, .ref q_9, .ref q_10, .ref q_11, .ref q_12, .int 0, .int (-1), .int (-1), .int 0]))]) hD hS hA [0] rfl
  refine va_calli (va_runV (As := [.int (xs 1), .int (xs 2)]) (rest := []) ⟨hx, hb, hml, hown, hts⟩ (c_x_tree l dC dI H.size q_1 (xs 1) (xs 2) q_3 q_4 q_5 q_6 q_7 q_8 q_9 q_10 q_11 q_12 ) (cwV 2 hts gL_law_X7_tree rfl rfl rfl (by decide +kernel) ⟨Nat.le_of_ble_eq_true rfl, Nat.le_of_ble_eq_true rfl⟩) (pre_V hPc hKc hDc hN (ci := 7) (q0 := 0) rfl rfl) rfl rfl hl.1 rfl (lv_room (Nat.le_of_ble_eq_true rfl)) dL_law_510 ⟨Nat.le_of_ble_eq_true rfl, Nat.le_of_ble_eq_true rfl⟩) hS (fun q _ h => hFc q h) hFc (fun r_501 u t H1 locs ht hvm hw hB hz1 hk1 hS => ?_)
  clear hPc hDc hKc
  have hw_502 := hw
  obtain ⟨hP, hD⟩ := va_join (wr := [(q_55, .inr (8, [.ref q_57, .ref q_58, .int 0, .ref q_59, .ref q_60, .ref q_61, .int 0, .ref q_62, .int 0, .int 0, .int 0, .ref q_63, .ref q_64, .int 0, .int (-1), .int (-1), .ref q_65, .ref q_66, .ref q_67, .ref q_68, .ref q_69, .ref q_70, .ref q_71]))]) (w1 := []) hP hD [0] [1] rfl rfl (by decide) (by decide) hk1 hFc nil_P nil_D
  generalize H1 = H at hP hS ⊢
  have hP : va_P (dC, dI) vwCl [(q_55, .inr (8, [.ref q_57, .ref q_58, .int 0, .ref q_59, .ref q_60, .ref q_61, .int 0, .ref q_62, .int 0, .int 0, .int 0, .ref q_63, .ref q_64, .int 0, .int (-1), .int (-1), .ref q_65, .ref q_66, .ref q_67, .ref q_68, .ref q_69, .ref q_70, .ref q_71]))] H := hP
  have hD : va_D A [(q_55, .inr (8, [.ref q_57, .ref q_58, .int 0, .ref q_59, .ref q_60, .ref q_61, .int 0, .ref q_62, .int 0, .int 0, .int 0, .ref q_63, .ref q_64, .int 0, .int (-1), .int (-1), .ref q_65, .ref q_66, .ref q_67, .ref q_68, .ref q_69, .ref q_70, .ref q_71]))] := hD
  refine lv_aload_n hx hb dL_law_513 rfl (lv_at hl 1 rfl) ?_
  refine lv_aload_n hx hb dL_law_514 rfl (lv_at hl 3 rfl) ?_
  refine lv_iload_n hx hb dL_law_515 rfl (lv_at hl 0 rfl) ?_
  refine lv_iconst (v := 1) hx hb dL_law_516 (by decide) ?_
  refine lv_iadd hx hb dL_law_517 ?_
  refine tvv (v := .int 1) (congrArg Value.int (by decide)) ?_
  refine va_sld hx hb hX hbl hbA hS (vi _ _ (by decide)) dL_law_518 ?_
  refine tvv (v := .int (xs 1)) (congrArg Value.int (congrArg xs (by decide))) ?_
  refine lv_aload_n hx hb dL_law_519 rfl (lv_at hl 3 rfl) ?_
  refine lv_iload_n hx hb dL_law_520 rfl (lv_at hl 0 rfl) ?_
  refine lv_iconst (v := 2) hx hb dL_law_521 (by decide) ?_
  refine lv_iadd hx hb dL_law_522 ?_
  refine tvv (v := .int 2) (congrArg Value.int (by decide)) ?_
  refine va_sld hx hb hX hbl hbA hS (vi _ _ (by decide)) dL_law_523 ?_
  refine tvv (v := .int (xs 2)) (congrArg Value.int (congrArg xs (by decide))) ?_
  have hPc := hP.sub (ws' := [(q_55, .inr (8, [.ref q_57, .ref q_58, .int 0, .ref q_59, .ref q_60, .ref q_61, .int 0, .ref q_62, .int 0, .int 0, .int 0, .ref q_63, .ref q_64, .int 0, .int (-1), .int (-1), .ref q_65, .ref q_66, .ref q_67, .ref q_68, .ref q_69, .ref q_70, .ref q_71]))]) [0] rfl
  have hDc := hD.sub (ws' := [(q_55, .inr (8, [.ref q_57, .ref q_58, .int 0, .ref q_59, .ref q_60, .ref q_61, .int 0, .ref q_62, .int 0, .int 0, .int 0, .ref q_63, .ref q_64, .int 0, .int (-1), .int (-1), .ref q_65, .ref q_66, .ref q_67, .ref q_68, .ref q_69, .ref q_70, .ref q_71]))]) [0] (by decide) rfl
  have hKc := hK.sub (tys' := []) [] rfl
  have hFc := va_free (wc := [(q_55, .inr (8, [.ref q_57, .ref q_58, .int 0, .ref q_59, .ref q_60, .ref q_61, .int 0, .ref q_62, .int 0, .int 0, .int 0, .ref q_63, .ref q_64, .int 0, .int (-1), .int (-1), .ref q_65, .ref q_66, .ref q_67, .ref q_68, .ref q_69, .ref q_70, .ref q_71]))]) hD hS hA [0] rfl
  refine va_calli (va_runV (As := [.int (xs 1), .int (xs 2)]) (rest := [.int r_501]) ⟨hx, hb, hml, hown, hts⟩ (c_m_tree l dC dI H.size q_55 (xs 1) (xs 2) q_57 q_58 q_59 q_60 q_61 q_62 q_63 q_64 q_65 q_66 q_67 q_68 q_69 q_70 q_71 ) (cwV 2 hts gL_law_X8_tree rfl rfl rfl (by decide +kernel) ⟨Nat.le_of_ble_eq_true rfl, Nat.le_of_ble_eq_true rfl⟩) (pre_V hPc hKc hDc hN (ci := 8) (q0 := 0) rfl rfl) rfl rfl hl.1 rfl (lv_room (Nat.le_of_ble_eq_true rfl)) dL_law_524 ⟨Nat.le_of_ble_eq_true rfl, Nat.le_of_ble_eq_true rfl⟩) hS (fun q _ h => hFc q h) hFc (fun r_503 u t H1 locs ht hvm hw hB hz1 hk1 hS => ?_)
  clear hPc hDc hKc
  have hw_504 := hw
  obtain ⟨hP, hD⟩ := va_join (wr := []) (w1 := []) hP hD [0] [] rfl rfl (by decide) (by decide) hk1 hFc nil_P nil_D
  generalize H1 = H at hP hS ⊢
  have hP : va_P (dC, dI) vwCl [] H := hP
  have hD : va_D A [] := hD
  refine lv_icmp_eq (tgt := 922) hx hb dL_law_527 (by decide) (fun c_505 => ?_) (fun c_505 => ?_)
  · skip
    refine W.widen (k := 600000) (n := 7302250) (Nat.le_of_ble_eq_true rfl) (Nat.le_of_ble_eq_true rfl) ?_
    exact law_tail C0 hAi H locs ls q_1 q_55 hS hl
  · exact absurd (hw_502.trans hw_504.symm) c_505

set_option maxHeartbeats 4000000 in
set_option maxRecDepth 100000 in
/-- the law at node -/
theorem law_12 {p : Program} {l : Launch} {e : Env} {s : State} {m : MethodId} {below : List Frame} {meth : Method} {c : Code} {dC : Nat → ClassId} {dI : Nat → Nat → Nat} {b : Nat} {xs : Nat → Int32} {A : Nat → Prop} (C0 : lw_At p s m meth c b 6 xs) (hN : nw s) (hA : ∀ q : Nat, s.heap.size ≤ q → A q) (hAi : ∀ q : Nat, A q → s.heap.size ≤ q) (q_1 : Nat) (q_3 : Nat) (q_4 : Nat) (q_5 : Nat) (q_6 : Nat) (q_7 : Nat) (q_8 : Nat) (q_9 : Nat) (q_10 : Nat) (q_11 : Nat) (q_12 : Nat) (q_55 : Nat) (q_57 : Nat) (q_58 : Nat) (q_59 : Nat) (q_60 : Nat) (q_61 : Nat) (q_62 : Nat) (q_63 : Nat) (q_64 : Nat) (q_65 : Nat) (q_66 : Nat) (q_67 : Nat) (q_68 : Nat) (q_69 : Nat) (q_70 : Nat) (q_71 : Nat) (H : Heap) (locs : List Loc) (ls : Array Slot) (hK : va_K (dC, dI) vwCl [] s) (hP : va_P (dC, dI) vwCl [(q_1, .inr (7, [.ref q_3, .ref q_4, .ref q_5, .ref q_6, .ref q_7, .ref q_8, .ref q_9, .ref q_10, .ref q_11, .ref q_12, .int 0, .int (-1), .int (-1), .int 0])), (q_55, .inr (8, [.ref q_57, .ref q_58, .int 0, .ref q_59, .ref q_60, .ref q_61, .int 0, .ref q_62, .int 0, .int 0, .int 0, .ref q_63, .ref q_64, .int 0, .int (-1), .int (-1), .ref q_65, .ref q_66, .ref q_67, .ref q_68, .ref q_69, .ref q_70, .ref q_71]))] H) (hD : va_D A [(q_1, .inr (7, [.ref q_3, .ref q_4, .ref q_5, .ref q_6, .ref q_7, .ref q_8, .ref q_9, .ref q_10, .ref q_11, .ref q_12, .int 0, .int (-1), .int (-1), .int 0])), (q_55, .inr (8, [.ref q_57, .ref q_58, .int 0, .ref q_59, .ref q_60, .ref q_61, .int 0, .ref q_62, .int 0, .int 0, .int 0, .ref q_63, .ref q_64, .int 0, .int (-1), .int (-1), .ref q_65, .ref q_66, .ref q_67, .ref q_68, .ref q_69, .ref q_70, .ref q_71]))]) (hS : va_S A s.heap H locs) (hl : lv_has ls 4 [(3, .int 0), (2, .ref q_55), (1, .ref q_1), (0, .ref b)]) : W p l e room_1 s m #[Value.ref b] below meth c H locs 46 149056 (lw_Z below #[Value.ref b] s) (F0 m 532 ls []) := by
  obtain ⟨hx, hb, hr, hml, hown, hts0, hX, hbl, hlocks, hgv⟩ := id C0
  have hts : ∀ w ∈ wsL_law, w.before #[Value.ref b] s = true := fun w h => hts0 w (wsL_law_in w h)
  have hown : s.vm.findClass RL = some m.cls := hown
  have hb : c.code = cL_law := hb
  have hbA : ¬ A b := fun q => absurd (hAi b q) (Nat.not_le.mpr hbl)
  refine lv_aload_n hx hb dL_law_532 rfl (lv_at hl 2 rfl) ?_
  refine lv_aload_n hx hb dL_law_533 rfl (lv_at hl 3 rfl) ?_
  refine lv_iload_n hx hb dL_law_534 rfl (lv_at hl 0 rfl) ?_
  refine lv_iconst (v := 1) hx hb dL_law_535 (by decide) ?_
  refine lv_iadd hx hb dL_law_536 ?_
  refine tvv (v := .int 1) (congrArg Value.int (by decide)) ?_
  refine va_sld hx hb hX hbl hbA hS (vi _ _ (by decide)) dL_law_537 ?_
  refine tvv (v := .int (xs 1)) (congrArg Value.int (congrArg xs (by decide))) ?_
  refine lv_aload_n hx hb dL_law_538 rfl (lv_at hl 3 rfl) ?_
  refine lv_iload_n hx hb dL_law_539 rfl (lv_at hl 0 rfl) ?_
  refine lv_iconst (v := 2) hx hb dL_law_540 (by decide) ?_
  refine lv_iadd hx hb dL_law_541 ?_
  refine tvv (v := .int 2) (congrArg Value.int (by decide)) ?_
  refine va_sld hx hb hX hbl hbA hS (vi _ _ (by decide)) dL_law_542 ?_
  refine tvv (v := .int (xs 2)) (congrArg Value.int (congrArg xs (by decide))) ?_
  refine lv_aload_n hx hb dL_law_543 rfl (lv_at hl 3 rfl) ?_
  refine lv_iload_n hx hb dL_law_544 rfl (lv_at hl 0 rfl) ?_
  refine lv_iconst (v := 3) hx hb dL_law_545 (by decide) ?_
  refine lv_iadd hx hb dL_law_546 ?_
  refine tvv (v := .int 3) (congrArg Value.int (by decide)) ?_
  refine va_sld hx hb hX hbl hbA hS (vi _ _ (by decide)) dL_law_547 ?_
  refine tvv (v := .int (xs 3)) (congrArg Value.int (congrArg xs (by decide))) ?_
  have hPc := hP.sub (ws' := [(q_1, .inr (7, [.ref q_3, .ref q_4, .ref q_5, .ref q_6, .ref q_7, .ref q_8, .ref q_9, .ref q_10, .ref q_11, .ref q_12, .int 0, .int (-1), .int (-1), .int 0]))]) [0] rfl
  have hDc := hD.sub (ws' := [(q_1, .inr (7, [.ref q_3, .ref q_4, .ref q_5, .ref q_6, .ref q_7, .ref q_8, .ref q_9, .ref q_10, .ref q_11, .ref q_12, .int 0, .int (-1), .int (-1), .int 0]))]) [0] (by decide) rfl
  have hKc := hK.sub (tys' := []) [] rfl
  have hFc := va_free (wc := [(q_1, .inr (7, [.ref q_3, .ref q_4, .ref q_5, .ref q_6, .ref q_7, .ref q_8, .ref q_9, .ref q_10, .ref q_11, .ref q_12, .int 0, .int (-1), .int (-1), .int 0]))]) hD hS hA [0] rfl
  refine va_calli (va_runV (As := [.int (xs 1), .int (xs 2), .int (xs 3)]) (rest := []) ⟨hx, hb, hml, hown, hts⟩ (c_x_node l dC dI H.size q_1 (xs 1) (xs 2) (xs 3) q_3 q_4 q_5 q_6 q_7 q_8 q_9 q_10 q_11 q_12 ) (cwV 3 hts gL_law_X7_node rfl rfl rfl (by decide +kernel) ⟨Nat.le_of_ble_eq_true rfl, Nat.le_of_ble_eq_true rfl⟩) (pre_V hPc hKc hDc hN (ci := 7) (q0 := 0) rfl rfl) rfl rfl hl.1 rfl (lv_room (Nat.le_of_ble_eq_true rfl)) dL_law_548 ⟨Nat.le_of_ble_eq_true rfl, Nat.le_of_ble_eq_true rfl⟩) hS (fun q _ h => hFc q h) hFc (fun r_501 u t H1 locs ht hvm hw hB hz1 hk1 hS => ?_)
  clear hPc hDc hKc
  have hw_502 := hw
  obtain ⟨hP, hD⟩ := va_join (wr := [(q_55, .inr (8, [.ref q_57, .ref q_58, .int 0, .ref q_59, .ref q_60, .ref q_61, .int 0, .ref q_62, .int 0, .int 0, .int 0, .ref q_63, .ref q_64, .int 0, .int (-1), .int (-1), .ref q_65, .ref q_66, .ref q_67, .ref q_68, .ref q_69, .ref q_70, .ref q_71]))]) (w1 := []) hP hD [0] [1] rfl rfl (by decide) (by decide) hk1 hFc nil_P nil_D
  generalize H1 = H at hP hS ⊢
  have hP : va_P (dC, dI) vwCl [(q_55, .inr (8, [.ref q_57, .ref q_58, .int 0, .ref q_59, .ref q_60, .ref q_61, .int 0, .ref q_62, .int 0, .int 0, .int 0, .ref q_63, .ref q_64, .int 0, .int (-1), .int (-1), .ref q_65, .ref q_66, .ref q_67, .ref q_68, .ref q_69, .ref q_70, .ref q_71]))] H := hP
  have hD : va_D A [(q_55, .inr (8, [.ref q_57, .ref q_58, .int 0, .ref q_59, .ref q_60, .ref q_61, .int 0, .ref q_62, .int 0, .int 0, .int 0, .ref q_63, .ref q_64, .int 0, .int (-1), .int (-1), .ref q_65, .ref q_66, .ref q_67, .ref q_68, .ref q_69, .ref q_70, .ref q_71]))] := hD
  refine lv_aload_n hx hb dL_law_551 rfl (lv_at hl 1 rfl) ?_
  refine lv_aload_n hx hb dL_law_552 rfl (lv_at hl 3 rfl) ?_
  refine lv_iload_n hx hb dL_law_553 rfl (lv_at hl 0 rfl) ?_
  refine lv_iconst (v := 1) hx hb dL_law_554 (by decide) ?_
  refine lv_iadd hx hb dL_law_555 ?_
  refine tvv (v := .int 1) (congrArg Value.int (by decide)) ?_
  refine va_sld hx hb hX hbl hbA hS (vi _ _ (by decide)) dL_law_556 ?_
  refine tvv (v := .int (xs 1)) (congrArg Value.int (congrArg xs (by decide))) ?_
  refine lv_aload_n hx hb dL_law_557 rfl (lv_at hl 3 rfl) ?_
  refine lv_iload_n hx hb dL_law_558 rfl (lv_at hl 0 rfl) ?_
  refine lv_iconst (v := 2) hx hb dL_law_559 (by decide) ?_
  refine lv_iadd hx hb dL_law_560 ?_
  refine tvv (v := .int 2) (congrArg Value.int (by decide)) ?_
  refine va_sld hx hb hX hbl hbA hS (vi _ _ (by decide)) dL_law_561 ?_
  refine tvv (v := .int (xs 2)) (congrArg Value.int (congrArg xs (by decide))) ?_
  refine lv_aload_n hx hb dL_law_562 rfl (lv_at hl 3 rfl) ?_
  refine lv_iload_n hx hb dL_law_563 rfl (lv_at hl 0 rfl) ?_
  refine lv_iconst (v := 3) hx hb dL_law_564 (by decide) ?_
  refine lv_iadd hx hb dL_law_565 ?_
  refine tvv (v := .int 3) (congrArg Value.int (by decide)) ?_
  refine va_sld hx hb hX hbl hbA hS (vi _ _ (by decide)) dL_law_566 ?_
  refine tvv (v := .int (xs 3)) (congrArg Value.int (congrArg xs (by decide))) ?_
  have hPc := hP.sub (ws' := [(q_55, .inr (8, [.ref q_57, .ref q_58, .int 0, .ref q_59, .ref q_60, .ref q_61, .int 0, .ref q_62, .int 0, .int 0, .int 0, .ref q_63, .ref q_64, .int 0, .int (-1), .int (-1), .ref q_65, .ref q_66, .ref q_67, .ref q_68, .ref q_69, .ref q_70, .ref q_71]))]) [0] rfl
  have hDc := hD.sub (ws' := [(q_55, .inr (8, [.ref q_57, .ref q_58, .int 0, .ref q_59, .ref q_60, .ref q_61, .int 0, .ref q_62, .int 0, .int 0, .int 0, .ref q_63, .ref q_64, .int 0, .int (-1), .int (-1), .ref q_65, .ref q_66, .ref q_67, .ref q_68, .ref q_69, .ref q_70, .ref q_71]))]) [0] (by decide) rfl
  have hKc := hK.sub (tys' := []) [] rfl
  have hFc := va_free (wc := [(q_55, .inr (8, [.ref q_57, .ref q_58, .int 0, .ref q_59, .ref q_60, .ref q_61, .int 0, .ref q_62, .int 0, .int 0, .int 0, .ref q_63, .ref q_64, .int 0, .int (-1), .int (-1), .ref q_65, .ref q_66, .ref q_67, .ref q_68, .ref q_69, .ref q_70, .ref q_71]))]) hD hS hA [0] rfl
  refine va_calli (va_runV (As := [.int (xs 1), .int (xs 2), .int (xs 3)]) (rest := [.int r_501]) ⟨hx, hb, hml, hown, hts⟩ (c_m_node l dC dI H.size q_55 (xs 1) (xs 2) (xs 3) q_57 q_58 q_59 q_60 q_61 q_62 q_63 q_64 q_65 q_66 q_67 q_68 q_69 q_70 q_71 ) (cwV 3 hts gL_law_X8_node rfl rfl rfl (by decide +kernel) ⟨Nat.le_of_ble_eq_true rfl, Nat.le_of_ble_eq_true rfl⟩) (pre_V hPc hKc hDc hN (ci := 8) (q0 := 0) rfl rfl) rfl rfl hl.1 rfl (lv_room (Nat.le_of_ble_eq_true rfl)) dL_law_567 ⟨Nat.le_of_ble_eq_true rfl, Nat.le_of_ble_eq_true rfl⟩) hS (fun q _ h => hFc q h) hFc (fun r_503 u t H1 locs ht hvm hw hB hz1 hk1 hS => ?_)
  clear hPc hDc hKc
  have hw_504 := hw
  obtain ⟨hP, hD⟩ := va_join (wr := []) (w1 := []) hP hD [0] [] rfl rfl (by decide) (by decide) hk1 hFc nil_P nil_D
  generalize H1 = H at hP hS ⊢
  have hP : va_P (dC, dI) vwCl [] H := hP
  have hD : va_D A [] := hD
  refine lv_icmp_eq (tgt := 922) hx hb dL_law_570 (by decide) (fun c_505 => ?_) (fun c_505 => ?_)
  · skip
    refine W.widen (k := 600000) (n := 7302250) (Nat.le_of_ble_eq_true rfl) (Nat.le_of_ble_eq_true rfl) ?_
    exact law_tail C0 hAi H locs ls q_1 q_55 hS hl
  · exact absurd (hw_502.trans hw_504.symm) c_505

set_option maxHeartbeats 4000000 in
set_option maxRecDepth 100000 in
/-- the law at share -/
theorem law_13 {p : Program} {l : Launch} {e : Env} {s : State} {m : MethodId} {below : List Frame} {meth : Method} {c : Code} {dC : Nat → ClassId} {dI : Nat → Nat → Nat} {b : Nat} {xs : Nat → Int32} {A : Nat → Prop} (C0 : lw_At p s m meth c b 6 xs) (hN : nw s) (hA : ∀ q : Nat, s.heap.size ≤ q → A q) (hAi : ∀ q : Nat, A q → s.heap.size ≤ q) (q_1 : Nat) (q_3 : Nat) (q_4 : Nat) (q_5 : Nat) (q_6 : Nat) (q_7 : Nat) (q_8 : Nat) (q_9 : Nat) (q_10 : Nat) (q_11 : Nat) (q_12 : Nat) (q_55 : Nat) (q_57 : Nat) (q_58 : Nat) (q_59 : Nat) (q_60 : Nat) (q_61 : Nat) (q_62 : Nat) (q_63 : Nat) (q_64 : Nat) (q_65 : Nat) (q_66 : Nat) (q_67 : Nat) (q_68 : Nat) (q_69 : Nat) (q_70 : Nat) (q_71 : Nat) (H : Heap) (locs : List Loc) (ls : Array Slot) (hK : va_K (dC, dI) vwCl [] s) (hP : va_P (dC, dI) vwCl [(q_1, .inr (7, [.ref q_3, .ref q_4, .ref q_5, .ref q_6, .ref q_7, .ref q_8, .ref q_9, .ref q_10, .ref q_11, .ref q_12, .int 0, .int (-1), .int (-1), .int 0])), (q_55, .inr (8, [.ref q_57, .ref q_58, .int 0, .ref q_59, .ref q_60, .ref q_61, .int 0, .ref q_62, .int 0, .int 0, .int 0, .ref q_63, .ref q_64, .int 0, .int (-1), .int (-1), .ref q_65, .ref q_66, .ref q_67, .ref q_68, .ref q_69, .ref q_70, .ref q_71]))] H) (hD : va_D A [(q_1, .inr (7, [.ref q_3, .ref q_4, .ref q_5, .ref q_6, .ref q_7, .ref q_8, .ref q_9, .ref q_10, .ref q_11, .ref q_12, .int 0, .int (-1), .int (-1), .int 0])), (q_55, .inr (8, [.ref q_57, .ref q_58, .int 0, .ref q_59, .ref q_60, .ref q_61, .int 0, .ref q_62, .int 0, .int 0, .int 0, .ref q_63, .ref q_64, .int 0, .int (-1), .int (-1), .ref q_65, .ref q_66, .ref q_67, .ref q_68, .ref q_69, .ref q_70, .ref q_71]))]) (hS : va_S A s.heap H locs) (hl : lv_has ls 4 [(3, .int 0), (2, .ref q_55), (1, .ref q_1), (0, .ref b)]) : W p l e room_1 s m #[Value.ref b] below meth c H locs 46 149056 (lw_Z below #[Value.ref b] s) (F0 m 575 ls []) := by
  obtain ⟨hx, hb, hr, hml, hown, hts0, hX, hbl, hlocks, hgv⟩ := id C0
  have hts : ∀ w ∈ wsL_law, w.before #[Value.ref b] s = true := fun w h => hts0 w (wsL_law_in w h)
  have hown : s.vm.findClass RL = some m.cls := hown
  have hb : c.code = cL_law := hb
  have hbA : ¬ A b := fun q => absurd (hAi b q) (Nat.not_le.mpr hbl)
  refine lv_aload_n hx hb dL_law_575 rfl (lv_at hl 2 rfl) ?_
  refine lv_aload_n hx hb dL_law_576 rfl (lv_at hl 3 rfl) ?_
  refine lv_iload_n hx hb dL_law_577 rfl (lv_at hl 0 rfl) ?_
  refine lv_iconst (v := 1) hx hb dL_law_578 (by decide) ?_
  refine lv_iadd hx hb dL_law_579 ?_
  refine tvv (v := .int 1) (congrArg Value.int (by decide)) ?_
  refine va_sld hx hb hX hbl hbA hS (vi _ _ (by decide)) dL_law_580 ?_
  refine tvv (v := .int (xs 1)) (congrArg Value.int (congrArg xs (by decide))) ?_
  refine lv_aload_n hx hb dL_law_581 rfl (lv_at hl 3 rfl) ?_
  refine lv_iload_n hx hb dL_law_582 rfl (lv_at hl 0 rfl) ?_
  refine lv_iconst (v := 2) hx hb dL_law_583 (by decide) ?_
  refine lv_iadd hx hb dL_law_584 ?_
  refine tvv (v := .int 2) (congrArg Value.int (by decide)) ?_
  refine va_sld hx hb hX hbl hbA hS (vi _ _ (by decide)) dL_law_585 ?_
  refine tvv (v := .int (xs 2)) (congrArg Value.int (congrArg xs (by decide))) ?_
  refine lv_aload_n hx hb dL_law_586 rfl (lv_at hl 3 rfl) ?_
  refine lv_iload_n hx hb dL_law_587 rfl (lv_at hl 0 rfl) ?_
  refine lv_iconst (v := 3) hx hb dL_law_588 (by decide) ?_
  refine lv_iadd hx hb dL_law_589 ?_
  refine tvv (v := .int 3) (congrArg Value.int (by decide)) ?_
  refine va_sld hx hb hX hbl hbA hS (vi _ _ (by decide)) dL_law_590 ?_
  refine tvv (v := .int (xs 3)) (congrArg Value.int (congrArg xs (by decide))) ?_
  have hPc := hP.sub (ws' := [(q_1, .inr (7, [.ref q_3, .ref q_4, .ref q_5, .ref q_6, .ref q_7, .ref q_8, .ref q_9, .ref q_10, .ref q_11, .ref q_12, .int 0, .int (-1), .int (-1), .int 0]))]) [0] rfl
  have hDc := hD.sub (ws' := [(q_1, .inr (7, [.ref q_3, .ref q_4, .ref q_5, .ref q_6, .ref q_7, .ref q_8, .ref q_9, .ref q_10, .ref q_11, .ref q_12, .int 0, .int (-1), .int (-1), .int 0]))]) [0] (by decide) rfl
  have hKc := hK.sub (tys' := []) [] rfl
  have hFc := va_free (wc := [(q_1, .inr (7, [.ref q_3, .ref q_4, .ref q_5, .ref q_6, .ref q_7, .ref q_8, .ref q_9, .ref q_10, .ref q_11, .ref q_12, .int 0, .int (-1), .int (-1), .int 0]))]) hD hS hA [0] rfl
  refine va_calli (va_runV (As := [.int (xs 1), .int (xs 2), .int (xs 3)]) (rest := []) ⟨hx, hb, hml, hown, hts⟩ (c_x_share l dC dI H.size q_1 (xs 1) (xs 2) (xs 3) q_3 q_4 q_5 q_6 q_7 q_8 q_9 q_10 q_11 q_12 ) (cwV 3 hts gL_law_X7_share rfl rfl rfl (by decide +kernel) ⟨Nat.le_of_ble_eq_true rfl, Nat.le_of_ble_eq_true rfl⟩) (pre_V hPc hKc hDc hN (ci := 7) (q0 := 0) rfl rfl) rfl rfl hl.1 rfl (lv_room (Nat.le_of_ble_eq_true rfl)) dL_law_591 ⟨Nat.le_of_ble_eq_true rfl, Nat.le_of_ble_eq_true rfl⟩) hS (fun q _ h => hFc q h) hFc (fun r_501 u t H1 locs ht hvm hw hB hz1 hk1 hS => ?_)
  clear hPc hDc hKc
  have hw_502 := hw
  obtain ⟨hP, hD⟩ := va_join (wr := [(q_55, .inr (8, [.ref q_57, .ref q_58, .int 0, .ref q_59, .ref q_60, .ref q_61, .int 0, .ref q_62, .int 0, .int 0, .int 0, .ref q_63, .ref q_64, .int 0, .int (-1), .int (-1), .ref q_65, .ref q_66, .ref q_67, .ref q_68, .ref q_69, .ref q_70, .ref q_71]))]) (w1 := []) hP hD [0] [1] rfl rfl (by decide) (by decide) hk1 hFc nil_P nil_D
  generalize H1 = H at hP hS ⊢
  have hP : va_P (dC, dI) vwCl [(q_55, .inr (8, [.ref q_57, .ref q_58, .int 0, .ref q_59, .ref q_60, .ref q_61, .int 0, .ref q_62, .int 0, .int 0, .int 0, .ref q_63, .ref q_64, .int 0, .int (-1), .int (-1), .ref q_65, .ref q_66, .ref q_67, .ref q_68, .ref q_69, .ref q_70, .ref q_71]))] H := hP
  have hD : va_D A [(q_55, .inr (8, [.ref q_57, .ref q_58, .int 0, .ref q_59, .ref q_60, .ref q_61, .int 0, .ref q_62, .int 0, .int 0, .int 0, .ref q_63, .ref q_64, .int 0, .int (-1), .int (-1), .ref q_65, .ref q_66, .ref q_67, .ref q_68, .ref q_69, .ref q_70, .ref q_71]))] := hD
  refine lv_aload_n hx hb dL_law_594 rfl (lv_at hl 1 rfl) ?_
  refine lv_aload_n hx hb dL_law_595 rfl (lv_at hl 3 rfl) ?_
  refine lv_iload_n hx hb dL_law_596 rfl (lv_at hl 0 rfl) ?_
  refine lv_iconst (v := 1) hx hb dL_law_597 (by decide) ?_
  refine lv_iadd hx hb dL_law_598 ?_
  refine tvv (v := .int 1) (congrArg Value.int (by decide)) ?_
  refine va_sld hx hb hX hbl hbA hS (vi _ _ (by decide)) dL_law_599 ?_
  refine tvv (v := .int (xs 1)) (congrArg Value.int (congrArg xs (by decide))) ?_
  refine lv_aload_n hx hb dL_law_600 rfl (lv_at hl 3 rfl) ?_
  refine lv_iload_n hx hb dL_law_601 rfl (lv_at hl 0 rfl) ?_
  refine lv_iconst (v := 2) hx hb dL_law_602 (by decide) ?_
  refine lv_iadd hx hb dL_law_603 ?_
  refine tvv (v := .int 2) (congrArg Value.int (by decide)) ?_
  refine va_sld hx hb hX hbl hbA hS (vi _ _ (by decide)) dL_law_604 ?_
  refine tvv (v := .int (xs 2)) (congrArg Value.int (congrArg xs (by decide))) ?_
  refine lv_aload_n hx hb dL_law_605 rfl (lv_at hl 3 rfl) ?_
  refine lv_iload_n hx hb dL_law_606 rfl (lv_at hl 0 rfl) ?_
  refine lv_iconst (v := 3) hx hb dL_law_607 (by decide) ?_
  refine lv_iadd hx hb dL_law_608 ?_
  refine tvv (v := .int 3) (congrArg Value.int (by decide)) ?_
  refine va_sld hx hb hX hbl hbA hS (vi _ _ (by decide)) dL_law_609 ?_
  refine tvv (v := .int (xs 3)) (congrArg Value.int (congrArg xs (by decide))) ?_
  have hPc := hP.sub (ws' := [(q_55, .inr (8, [.ref q_57, .ref q_58, .int 0, .ref q_59, .ref q_60, .ref q_61, .int 0, .ref q_62, .int 0, .int 0, .int 0, .ref q_63, .ref q_64, .int 0, .int (-1), .int (-1), .ref q_65, .ref q_66, .ref q_67, .ref q_68, .ref q_69, .ref q_70, .ref q_71]))]) [0] rfl
  have hDc := hD.sub (ws' := [(q_55, .inr (8, [.ref q_57, .ref q_58, .int 0, .ref q_59, .ref q_60, .ref q_61, .int 0, .ref q_62, .int 0, .int 0, .int 0, .ref q_63, .ref q_64, .int 0, .int (-1), .int (-1), .ref q_65, .ref q_66, .ref q_67, .ref q_68, .ref q_69, .ref q_70, .ref q_71]))]) [0] (by decide) rfl
  have hKc := hK.sub (tys' := []) [] rfl
  have hFc := va_free (wc := [(q_55, .inr (8, [.ref q_57, .ref q_58, .int 0, .ref q_59, .ref q_60, .ref q_61, .int 0, .ref q_62, .int 0, .int 0, .int 0, .ref q_63, .ref q_64, .int 0, .int (-1), .int (-1), .ref q_65, .ref q_66, .ref q_67, .ref q_68, .ref q_69, .ref q_70, .ref q_71]))]) hD hS hA [0] rfl
  refine va_calli (va_runV (As := [.int (xs 1), .int (xs 2), .int (xs 3)]) (rest := [.int r_501]) ⟨hx, hb, hml, hown, hts⟩ (c_m_share l dC dI H.size q_55 (xs 1) (xs 2) (xs 3) q_57 q_58 q_59 q_60 q_61 q_62 q_63 q_64 q_65 q_66 q_67 q_68 q_69 q_70 q_71 ) (cwV 3 hts gL_law_X8_share rfl rfl rfl (by decide +kernel) ⟨Nat.le_of_ble_eq_true rfl, Nat.le_of_ble_eq_true rfl⟩) (pre_V hPc hKc hDc hN (ci := 8) (q0 := 0) rfl rfl) rfl rfl hl.1 rfl (lv_room (Nat.le_of_ble_eq_true rfl)) dL_law_610 ⟨Nat.le_of_ble_eq_true rfl, Nat.le_of_ble_eq_true rfl⟩) hS (fun q _ h => hFc q h) hFc (fun r_503 u t H1 locs ht hvm hw hB hz1 hk1 hS => ?_)
  clear hPc hDc hKc
  have hw_504 := hw
  obtain ⟨hP, hD⟩ := va_join (wr := []) (w1 := []) hP hD [0] [] rfl rfl (by decide) (by decide) hk1 hFc nil_P nil_D
  generalize H1 = H at hP hS ⊢
  have hP : va_P (dC, dI) vwCl [] H := hP
  have hD : va_D A [] := hD
  refine lv_icmp_eq (tgt := 922) hx hb dL_law_613 (by decide) (fun c_505 => ?_) (fun c_505 => ?_)
  · skip
    refine W.widen (k := 600000) (n := 7302250) (Nat.le_of_ble_eq_true rfl) (Nat.le_of_ble_eq_true rfl) ?_
    exact law_tail C0 hAi H locs ls q_1 q_55 hS hl
  · exact absurd (hw_502.trans hw_504.symm) c_505

set_option maxHeartbeats 4000000 in
set_option maxRecDepth 100000 in
/-- the law at say -/
theorem law_14 {p : Program} {l : Launch} {e : Env} {s : State} {m : MethodId} {below : List Frame} {meth : Method} {c : Code} {dC : Nat → ClassId} {dI : Nat → Nat → Nat} {b : Nat} {xs : Nat → Int32} {A : Nat → Prop} (C0 : lw_At p s m meth c b 6 xs) (hN : nw s) (hA : ∀ q : Nat, s.heap.size ≤ q → A q) (hAi : ∀ q : Nat, A q → s.heap.size ≤ q) (q_1 : Nat) (q_3 : Nat) (q_4 : Nat) (q_5 : Nat) (q_6 : Nat) (q_7 : Nat) (q_8 : Nat) (q_9 : Nat) (q_10 : Nat) (q_11 : Nat) (q_12 : Nat) (q_55 : Nat) (q_57 : Nat) (q_58 : Nat) (q_59 : Nat) (q_60 : Nat) (q_61 : Nat) (q_62 : Nat) (q_63 : Nat) (q_64 : Nat) (q_65 : Nat) (q_66 : Nat) (q_67 : Nat) (q_68 : Nat) (q_69 : Nat) (q_70 : Nat) (q_71 : Nat) (H : Heap) (locs : List Loc) (ls : Array Slot) (hK : va_K (dC, dI) vwCl [] s) (hP : va_P (dC, dI) vwCl [(q_1, .inr (7, [.ref q_3, .ref q_4, .ref q_5, .ref q_6, .ref q_7, .ref q_8, .ref q_9, .ref q_10, .ref q_11, .ref q_12, .int 0, .int (-1), .int (-1), .int 0])), (q_55, .inr (8, [.ref q_57, .ref q_58, .int 0, .ref q_59, .ref q_60, .ref q_61, .int 0, .ref q_62, .int 0, .int 0, .int 0, .ref q_63, .ref q_64, .int 0, .int (-1), .int (-1), .ref q_65, .ref q_66, .ref q_67, .ref q_68, .ref q_69, .ref q_70, .ref q_71]))] H) (hD : va_D A [(q_1, .inr (7, [.ref q_3, .ref q_4, .ref q_5, .ref q_6, .ref q_7, .ref q_8, .ref q_9, .ref q_10, .ref q_11, .ref q_12, .int 0, .int (-1), .int (-1), .int 0])), (q_55, .inr (8, [.ref q_57, .ref q_58, .int 0, .ref q_59, .ref q_60, .ref q_61, .int 0, .ref q_62, .int 0, .int 0, .int 0, .ref q_63, .ref q_64, .int 0, .int (-1), .int (-1), .ref q_65, .ref q_66, .ref q_67, .ref q_68, .ref q_69, .ref q_70, .ref q_71]))]) (hS : va_S A s.heap H locs) (hl : lv_has ls 4 [(3, .int 0), (2, .ref q_55), (1, .ref q_1), (0, .ref b)]) : W p l e room_1 s m #[Value.ref b] below meth c H locs 46 149056 (lw_Z below #[Value.ref b] s) (F0 m 618 ls []) := by
  obtain ⟨hx, hb, hr, hml, hown, hts0, hX, hbl, hlocks, hgv⟩ := id C0
  have hts : ∀ w ∈ wsL_law, w.before #[Value.ref b] s = true := fun w h => hts0 w (wsL_law_in w h)
  have hown : s.vm.findClass RL = some m.cls := hown
  have hb : c.code = cL_law := hb
  have hbA : ¬ A b := fun q => absurd (hAi b q) (Nat.not_le.mpr hbl)
  refine lv_aload_n hx hb dL_law_618 rfl (lv_at hl 2 rfl) ?_
  refine lv_aload_n hx hb dL_law_619 rfl (lv_at hl 3 rfl) ?_
  refine lv_iload_n hx hb dL_law_620 rfl (lv_at hl 0 rfl) ?_
  refine lv_iconst (v := 1) hx hb dL_law_621 (by decide) ?_
  refine lv_iadd hx hb dL_law_622 ?_
  refine tvv (v := .int 1) (congrArg Value.int (by decide)) ?_
  refine va_sld hx hb hX hbl hbA hS (vi _ _ (by decide)) dL_law_623 ?_
  refine tvv (v := .int (xs 1)) (congrArg Value.int (congrArg xs (by decide))) ?_
  refine lv_aload_n hx hb dL_law_624 rfl (lv_at hl 3 rfl) ?_
  refine lv_iload_n hx hb dL_law_625 rfl (lv_at hl 0 rfl) ?_
  refine lv_iconst (v := 2) hx hb dL_law_626 (by decide) ?_
  refine lv_iadd hx hb dL_law_627 ?_
  refine tvv (v := .int 2) (congrArg Value.int (by decide)) ?_
  refine va_sld hx hb hX hbl hbA hS (vi _ _ (by decide)) dL_law_628 ?_
  refine tvv (v := .int (xs 2)) (congrArg Value.int (congrArg xs (by decide))) ?_
  refine lv_aload_n hx hb dL_law_629 rfl (lv_at hl 3 rfl) ?_
  refine lv_iload_n hx hb dL_law_630 rfl (lv_at hl 0 rfl) ?_
  refine lv_iconst (v := 3) hx hb dL_law_631 (by decide) ?_
  refine lv_iadd hx hb dL_law_632 ?_
  refine tvv (v := .int 3) (congrArg Value.int (by decide)) ?_
  refine va_sld hx hb hX hbl hbA hS (vi _ _ (by decide)) dL_law_633 ?_
  refine tvv (v := .int (xs 3)) (congrArg Value.int (congrArg xs (by decide))) ?_
  refine lv_aload_n hx hb dL_law_634 rfl (lv_at hl 3 rfl) ?_
  refine lv_iload_n hx hb dL_law_635 rfl (lv_at hl 0 rfl) ?_
  refine lv_iconst (v := 4) hx hb dL_law_636 (by decide) ?_
  refine lv_iadd hx hb dL_law_637 ?_
  refine tvv (v := .int 4) (congrArg Value.int (by decide)) ?_
  refine va_sld hx hb hX hbl hbA hS (vi _ _ (by decide)) dL_law_638 ?_
  refine tvv (v := .int (xs 4)) (congrArg Value.int (congrArg xs (by decide))) ?_
  refine lv_aload_n hx hb dL_law_639 rfl (lv_at hl 3 rfl) ?_
  refine lv_iload_n hx hb dL_law_640 rfl (lv_at hl 0 rfl) ?_
  refine lv_iconst (v := 5) hx hb dL_law_641 (by decide) ?_
  refine lv_iadd hx hb dL_law_642 ?_
  refine tvv (v := .int 5) (congrArg Value.int (by decide)) ?_
  refine va_sld hx hb hX hbl hbA hS (vi _ _ (by decide)) dL_law_643 ?_
  refine tvv (v := .int (xs 5)) (congrArg Value.int (congrArg xs (by decide))) ?_
  have hPc := hP.sub (ws' := [(q_1, .inr (7, [.ref q_3, .ref q_4, .ref q_5, .ref q_6, .ref q_7, .ref q_8, .ref q_9, .ref q_10, .ref q_11, .ref q_12, .int 0, .int (-1), .int (-1), .int 0]))]) [0] rfl
  have hDc := hD.sub (ws' := [(q_1, .inr (7, [.ref q_3, .ref q_4, .ref q_5, .ref q_6, .ref q_7, .ref q_8, .ref q_9, .ref q_10, .ref q_11, .ref q_12, .int 0, .int (-1), .int (-1), .int 0]))]) [0] (by decide) rfl
  have hKc := hK.sub (tys' := []) [] rfl
  have hFc := va_free (wc := [(q_1, .inr (7, [.ref q_3, .ref q_4, .ref q_5, .ref q_6, .ref q_7, .ref q_8, .ref q_9, .ref q_10, .ref q_11, .ref q_12, .int 0, .int (-1), .int (-1), .int 0]))]) hD hS hA [0] rfl
  refine va_calli (va_runV (As := [.int (xs 1), .int (xs 2), .int (xs 3), .int (xs 4), .int (xs 5)]) (rest := []) ⟨hx, hb, hml, hown, hts⟩ (c_x_say l dC dI H.size q_1 (xs 1) (xs 2) (xs 3) (xs 4) (xs 5) q_3 q_4 q_5 q_6 q_7 q_8 q_9 q_10 q_11 q_12 ) (cwV 5 hts gL_law_X7_say rfl rfl rfl (by decide +kernel) ⟨Nat.le_of_ble_eq_true rfl, Nat.le_of_ble_eq_true rfl⟩) (pre_V hPc hKc hDc hN (ci := 7) (q0 := 0) rfl rfl) rfl rfl hl.1 rfl (lv_room (Nat.le_of_ble_eq_true rfl)) dL_law_644 ⟨Nat.le_of_ble_eq_true rfl, Nat.le_of_ble_eq_true rfl⟩) hS (fun q _ h => hFc q h) hFc (fun r_501 u t H1 locs ht hvm hw hB hz1 hk1 hS => ?_)
  clear hPc hDc hKc
  have hw_502 := hw
  obtain ⟨hP, hD⟩ := va_join (wr := [(q_55, .inr (8, [.ref q_57, .ref q_58, .int 0, .ref q_59, .ref q_60, .ref q_61, .int 0, .ref q_62, .int 0, .int 0, .int 0, .ref q_63, .ref q_64, .int 0, .int (-1), .int (-1), .ref q_65, .ref q_66, .ref q_67, .ref q_68, .ref q_69, .ref q_70, .ref q_71]))]) (w1 := []) hP hD [0] [1] rfl rfl (by decide) (by decide) hk1 hFc nil_P nil_D
  generalize H1 = H at hP hS ⊢
  have hP : va_P (dC, dI) vwCl [(q_55, .inr (8, [.ref q_57, .ref q_58, .int 0, .ref q_59, .ref q_60, .ref q_61, .int 0, .ref q_62, .int 0, .int 0, .int 0, .ref q_63, .ref q_64, .int 0, .int (-1), .int (-1), .ref q_65, .ref q_66, .ref q_67, .ref q_68, .ref q_69, .ref q_70, .ref q_71]))] H := hP
  have hD : va_D A [(q_55, .inr (8, [.ref q_57, .ref q_58, .int 0, .ref q_59, .ref q_60, .ref q_61, .int 0, .ref q_62, .int 0, .int 0, .int 0, .ref q_63, .ref q_64, .int 0, .int (-1), .int (-1), .ref q_65, .ref q_66, .ref q_67, .ref q_68, .ref q_69, .ref q_70, .ref q_71]))] := hD
  refine lv_aload_n hx hb dL_law_647 rfl (lv_at hl 1 rfl) ?_
  refine lv_aload_n hx hb dL_law_648 rfl (lv_at hl 3 rfl) ?_
  refine lv_iload_n hx hb dL_law_649 rfl (lv_at hl 0 rfl) ?_
  refine lv_iconst (v := 1) hx hb dL_law_650 (by decide) ?_
  refine lv_iadd hx hb dL_law_651 ?_
  refine tvv (v := .int 1) (congrArg Value.int (by decide)) ?_
  refine va_sld hx hb hX hbl hbA hS (vi _ _ (by decide)) dL_law_652 ?_
  refine tvv (v := .int (xs 1)) (congrArg Value.int (congrArg xs (by decide))) ?_
  refine lv_aload_n hx hb dL_law_653 rfl (lv_at hl 3 rfl) ?_
  refine lv_iload_n hx hb dL_law_654 rfl (lv_at hl 0 rfl) ?_
  refine lv_iconst (v := 2) hx hb dL_law_655 (by decide) ?_
  refine lv_iadd hx hb dL_law_656 ?_
  refine tvv (v := .int 2) (congrArg Value.int (by decide)) ?_
  refine va_sld hx hb hX hbl hbA hS (vi _ _ (by decide)) dL_law_657 ?_
  refine tvv (v := .int (xs 2)) (congrArg Value.int (congrArg xs (by decide))) ?_
  refine lv_aload_n hx hb dL_law_658 rfl (lv_at hl 3 rfl) ?_
  refine lv_iload_n hx hb dL_law_659 rfl (lv_at hl 0 rfl) ?_
  refine lv_iconst (v := 3) hx hb dL_law_660 (by decide) ?_
  refine lv_iadd hx hb dL_law_661 ?_
  refine tvv (v := .int 3) (congrArg Value.int (by decide)) ?_
  refine va_sld hx hb hX hbl hbA hS (vi _ _ (by decide)) dL_law_662 ?_
  refine tvv (v := .int (xs 3)) (congrArg Value.int (congrArg xs (by decide))) ?_
  refine lv_aload_n hx hb dL_law_663 rfl (lv_at hl 3 rfl) ?_
  refine lv_iload_n hx hb dL_law_664 rfl (lv_at hl 0 rfl) ?_
  refine lv_iconst (v := 4) hx hb dL_law_665 (by decide) ?_
  refine lv_iadd hx hb dL_law_666 ?_
  refine tvv (v := .int 4) (congrArg Value.int (by decide)) ?_
  refine va_sld hx hb hX hbl hbA hS (vi _ _ (by decide)) dL_law_667 ?_
  refine tvv (v := .int (xs 4)) (congrArg Value.int (congrArg xs (by decide))) ?_
  refine lv_aload_n hx hb dL_law_668 rfl (lv_at hl 3 rfl) ?_
  refine lv_iload_n hx hb dL_law_669 rfl (lv_at hl 0 rfl) ?_
  refine lv_iconst (v := 5) hx hb dL_law_670 (by decide) ?_
  refine lv_iadd hx hb dL_law_671 ?_
  refine tvv (v := .int 5) (congrArg Value.int (by decide)) ?_
  refine va_sld hx hb hX hbl hbA hS (vi _ _ (by decide)) dL_law_672 ?_
  refine tvv (v := .int (xs 5)) (congrArg Value.int (congrArg xs (by decide))) ?_
  have hPc := hP.sub (ws' := [(q_55, .inr (8, [.ref q_57, .ref q_58, .int 0, .ref q_59, .ref q_60, .ref q_61, .int 0, .ref q_62, .int 0, .int 0, .int 0, .ref q_63, .ref q_64, .int 0, .int (-1), .int (-1), .ref q_65, .ref q_66, .ref q_67, .ref q_68, .ref q_69, .ref q_70, .ref q_71]))]) [0] rfl
  have hDc := hD.sub (ws' := [(q_55, .inr (8, [.ref q_57, .ref q_58, .int 0, .ref q_59, .ref q_60, .ref q_61, .int 0, .ref q_62, .int 0, .int 0, .int 0, .ref q_63, .ref q_64, .int 0, .int (-1), .int (-1), .ref q_65, .ref q_66, .ref q_67, .ref q_68, .ref q_69, .ref q_70, .ref q_71]))]) [0] (by decide) rfl
  have hKc := hK.sub (tys' := []) [] rfl
  have hFc := va_free (wc := [(q_55, .inr (8, [.ref q_57, .ref q_58, .int 0, .ref q_59, .ref q_60, .ref q_61, .int 0, .ref q_62, .int 0, .int 0, .int 0, .ref q_63, .ref q_64, .int 0, .int (-1), .int (-1), .ref q_65, .ref q_66, .ref q_67, .ref q_68, .ref q_69, .ref q_70, .ref q_71]))]) hD hS hA [0] rfl
  refine va_calli (va_runV (As := [.int (xs 1), .int (xs 2), .int (xs 3), .int (xs 4), .int (xs 5)]) (rest := [.int r_501]) ⟨hx, hb, hml, hown, hts⟩ (c_m_say l dC dI H.size q_55 (xs 1) (xs 2) (xs 3) (xs 4) (xs 5) q_57 q_58 q_59 q_60 q_61 q_62 q_63 q_64 q_65 q_66 q_67 q_68 q_69 q_70 q_71 ) (cwV 5 hts gL_law_X8_say rfl rfl rfl (by decide +kernel) ⟨Nat.le_of_ble_eq_true rfl, Nat.le_of_ble_eq_true rfl⟩) (pre_V hPc hKc hDc hN (ci := 8) (q0 := 0) rfl rfl) rfl rfl hl.1 rfl (lv_room (Nat.le_of_ble_eq_true rfl)) dL_law_673 ⟨Nat.le_of_ble_eq_true rfl, Nat.le_of_ble_eq_true rfl⟩) hS (fun q _ h => hFc q h) hFc (fun r_503 u t H1 locs ht hvm hw hB hz1 hk1 hS => ?_)
  clear hPc hDc hKc
  have hw_504 := hw
  obtain ⟨hP, hD⟩ := va_join (wr := []) (w1 := []) hP hD [0] [] rfl rfl (by decide) (by decide) hk1 hFc nil_P nil_D
  generalize H1 = H at hP hS ⊢
  have hP : va_P (dC, dI) vwCl [] H := hP
  have hD : va_D A [] := hD
  refine lv_icmp_eq (tgt := 922) hx hb dL_law_676 (by decide) (fun c_505 => ?_) (fun c_505 => ?_)
  · skip
    refine W.widen (k := 600000) (n := 7302250) (Nat.le_of_ble_eq_true rfl) (Nat.le_of_ble_eq_true rfl) ?_
    exact law_tail C0 hAi H locs ls q_1 q_55 hS hl
  · exact absurd (hw_502.trans hw_504.symm) c_505

set_option maxHeartbeats 4000000 in
set_option maxRecDepth 100000 in
/-- the law at said -/
theorem law_15 {p : Program} {l : Launch} {e : Env} {s : State} {m : MethodId} {below : List Frame} {meth : Method} {c : Code} {dC : Nat → ClassId} {dI : Nat → Nat → Nat} {b : Nat} {xs : Nat → Int32} {A : Nat → Prop} (C0 : lw_At p s m meth c b 6 xs) (hN : nw s) (hA : ∀ q : Nat, s.heap.size ≤ q → A q) (hAi : ∀ q : Nat, A q → s.heap.size ≤ q) (q_1 : Nat) (q_3 : Nat) (q_4 : Nat) (q_5 : Nat) (q_6 : Nat) (q_7 : Nat) (q_8 : Nat) (q_9 : Nat) (q_10 : Nat) (q_11 : Nat) (q_12 : Nat) (q_55 : Nat) (q_57 : Nat) (q_58 : Nat) (q_59 : Nat) (q_60 : Nat) (q_61 : Nat) (q_62 : Nat) (q_63 : Nat) (q_64 : Nat) (q_65 : Nat) (q_66 : Nat) (q_67 : Nat) (q_68 : Nat) (q_69 : Nat) (q_70 : Nat) (q_71 : Nat) (H : Heap) (locs : List Loc) (ls : Array Slot) (hK : va_K (dC, dI) vwCl [] s) (hP : va_P (dC, dI) vwCl [(q_1, .inr (7, [.ref q_3, .ref q_4, .ref q_5, .ref q_6, .ref q_7, .ref q_8, .ref q_9, .ref q_10, .ref q_11, .ref q_12, .int 0, .int (-1), .int (-1), .int 0])), (q_55, .inr (8, [.ref q_57, .ref q_58, .int 0, .ref q_59, .ref q_60, .ref q_61, .int 0, .ref q_62, .int 0, .int 0, .int 0, .ref q_63, .ref q_64, .int 0, .int (-1), .int (-1), .ref q_65, .ref q_66, .ref q_67, .ref q_68, .ref q_69, .ref q_70, .ref q_71]))] H) (hD : va_D A [(q_1, .inr (7, [.ref q_3, .ref q_4, .ref q_5, .ref q_6, .ref q_7, .ref q_8, .ref q_9, .ref q_10, .ref q_11, .ref q_12, .int 0, .int (-1), .int (-1), .int 0])), (q_55, .inr (8, [.ref q_57, .ref q_58, .int 0, .ref q_59, .ref q_60, .ref q_61, .int 0, .ref q_62, .int 0, .int 0, .int 0, .ref q_63, .ref q_64, .int 0, .int (-1), .int (-1), .ref q_65, .ref q_66, .ref q_67, .ref q_68, .ref q_69, .ref q_70, .ref q_71]))]) (hS : va_S A s.heap H locs) (hl : lv_has ls 4 [(3, .int 0), (2, .ref q_55), (1, .ref q_1), (0, .ref b)]) : W p l e room_1 s m #[Value.ref b] below meth c H locs 46 149056 (lw_Z below #[Value.ref b] s) (F0 m 681 ls []) := by
  obtain ⟨hx, hb, hr, hml, hown, hts0, hX, hbl, hlocks, hgv⟩ := id C0
  have hts : ∀ w ∈ wsL_law, w.before #[Value.ref b] s = true := fun w h => hts0 w (wsL_law_in w h)
  have hown : s.vm.findClass RL = some m.cls := hown
  have hb : c.code = cL_law := hb
  have hbA : ¬ A b := fun q => absurd (hAi b q) (Nat.not_le.mpr hbl)
  refine lv_aload_n hx hb dL_law_681 rfl (lv_at hl 2 rfl) ?_
  have hPc := hP.sub (ws' := [(q_1, .inr (7, [.ref q_3, .ref q_4, .ref q_5, .ref q_6, .ref q_7, .ref q_8, .ref q_9, .ref q_10, .ref q_11, .ref q_12, .int 0, .int (-1), .int (-1), .int 0]))]) [0] rfl
  have hDc := hD.sub (ws' := [(q_1, .inr (7, [.ref q_3, .ref q_4, .ref q_5, .ref q_6, .ref q_7, .ref q_8, .ref q_9, .ref q_10, .ref q_11, .ref q_12, .int 0, .int (-1), .int (-1), .int 0]))]) [0] (by decide) rfl
  have hKc := hK.sub (tys' := []) [] rfl
  have hFc := va_free (wc := [(q_1, .inr (7, [.ref q_3, .ref q_4, .ref q_5, .ref q_6, .ref q_7, .ref q_8, .ref q_9, .ref q_10, .ref q_11, .ref q_12, .int 0, .int (-1), .int (-1), .int 0]))]) hD hS hA [0] rfl
  refine va_calli (va_runV (As := []) (rest := []) ⟨hx, hb, hml, hown, hts⟩ (c_x_said l dC dI H.size q_1 q_3 q_4 q_5 q_6 q_7 q_8 q_9 q_10 q_11 q_12 ) (cwV 0 hts gL_law_X7_said rfl rfl rfl (by decide +kernel) ⟨Nat.le_of_ble_eq_true rfl, Nat.le_of_ble_eq_true rfl⟩) (pre_V hPc hKc hDc hN (ci := 7) (q0 := 0) rfl rfl) rfl rfl hl.1 rfl (lv_room (Nat.le_of_ble_eq_true rfl)) dL_law_682 ⟨Nat.le_of_ble_eq_true rfl, Nat.le_of_ble_eq_true rfl⟩) hS (fun q _ h => hFc q h) hFc (fun r_501 u t H1 locs ht hvm hw hB hz1 hk1 hS => ?_)
  clear hPc hDc hKc
  have hw_502 := hw
  obtain ⟨hP, hD⟩ := va_join (wr := [(q_55, .inr (8, [.ref q_57, .ref q_58, .int 0, .ref q_59, .ref q_60, .ref q_61, .int 0, .ref q_62, .int 0, .int 0, .int 0, .ref q_63, .ref q_64, .int 0, .int (-1), .int (-1), .ref q_65, .ref q_66, .ref q_67, .ref q_68, .ref q_69, .ref q_70, .ref q_71]))]) (w1 := []) hP hD [0] [1] rfl rfl (by decide) (by decide) hk1 hFc nil_P nil_D
  generalize H1 = H at hP hS ⊢
  have hP : va_P (dC, dI) vwCl [(q_55, .inr (8, [.ref q_57, .ref q_58, .int 0, .ref q_59, .ref q_60, .ref q_61, .int 0, .ref q_62, .int 0, .int 0, .int 0, .ref q_63, .ref q_64, .int 0, .int (-1), .int (-1), .ref q_65, .ref q_66, .ref q_67, .ref q_68, .ref q_69, .ref q_70, .ref q_71]))] H := hP
  have hD : va_D A [(q_55, .inr (8, [.ref q_57, .ref q_58, .int 0, .ref q_59, .ref q_60, .ref q_61, .int 0, .ref q_62, .int 0, .int 0, .int 0, .ref q_63, .ref q_64, .int 0, .int (-1), .int (-1), .ref q_65, .ref q_66, .ref q_67, .ref q_68, .ref q_69, .ref q_70, .ref q_71]))] := hD
  refine lv_aload_n hx hb dL_law_685 rfl (lv_at hl 1 rfl) ?_
  have hPc := hP.sub (ws' := [(q_55, .inr (8, [.ref q_57, .ref q_58, .int 0, .ref q_59, .ref q_60, .ref q_61, .int 0, .ref q_62, .int 0, .int 0, .int 0, .ref q_63, .ref q_64, .int 0, .int (-1), .int (-1), .ref q_65, .ref q_66, .ref q_67, .ref q_68, .ref q_69, .ref q_70, .ref q_71]))]) [0] rfl
  have hDc := hD.sub (ws' := [(q_55, .inr (8, [.ref q_57, .ref q_58, .int 0, .ref q_59, .ref q_60, .ref q_61, .int 0, .ref q_62, .int 0, .int 0, .int 0, .ref q_63, .ref q_64, .int 0, .int (-1), .int (-1), .ref q_65, .ref q_66, .ref q_67, .ref q_68, .ref q_69, .ref q_70, .ref q_71]))]) [0] (by decide) rfl
  have hKc := hK.sub (tys' := []) [] rfl
  have hFc := va_free (wc := [(q_55, .inr (8, [.ref q_57, .ref q_58, .int 0, .ref q_59, .ref q_60, .ref q_61, .int 0, .ref q_62, .int 0, .int 0, .int 0, .ref q_63, .ref q_64, .int 0, .int (-1), .int (-1), .ref q_65, .ref q_66, .ref q_67, .ref q_68, .ref q_69, .ref q_70, .ref q_71]))]) hD hS hA [0] rfl
  refine va_calli (va_runV (As := []) (rest := [.int r_501]) ⟨hx, hb, hml, hown, hts⟩ (c_m_said l dC dI H.size q_55 q_57 q_58 q_59 q_60 q_61 q_62 q_63 q_64 q_65 q_66 q_67 q_68 q_69 q_70 q_71 ) (cwV 0 hts gL_law_X8_said rfl rfl rfl (by decide +kernel) ⟨Nat.le_of_ble_eq_true rfl, Nat.le_of_ble_eq_true rfl⟩) (pre_V hPc hKc hDc hN (ci := 8) (q0 := 0) rfl rfl) rfl rfl hl.1 rfl (lv_room (Nat.le_of_ble_eq_true rfl)) dL_law_686 ⟨Nat.le_of_ble_eq_true rfl, Nat.le_of_ble_eq_true rfl⟩) hS (fun q _ h => hFc q h) hFc (fun r_503 u t H1 locs ht hvm hw hB hz1 hk1 hS => ?_)
  clear hPc hDc hKc
  have hw_504 := hw
  obtain ⟨hP, hD⟩ := va_join (wr := []) (w1 := []) hP hD [0] [] rfl rfl (by decide) (by decide) hk1 hFc nil_P nil_D
  generalize H1 = H at hP hS ⊢
  have hP : va_P (dC, dI) vwCl [] H := hP
  have hD : va_D A [] := hD
  refine lv_icmp_eq (tgt := 922) hx hb dL_law_689 (by decide) (fun c_505 => ?_) (fun c_505 => ?_)
  · skip
    refine W.widen (k := 600000) (n := 7302250) (Nat.le_of_ble_eq_true rfl) (Nat.le_of_ble_eq_true rfl) ?_
    exact law_tail C0 hAi H locs ls q_1 q_55 hS hl
  · exact absurd (hw_502.trans hw_504.symm) c_505

set_option maxHeartbeats 4000000 in
set_option maxRecDepth 100000 in
/-- the law at vote -/
theorem law_16 {p : Program} {l : Launch} {e : Env} {s : State} {m : MethodId} {below : List Frame} {meth : Method} {c : Code} {dC : Nat → ClassId} {dI : Nat → Nat → Nat} {b : Nat} {xs : Nat → Int32} {A : Nat → Prop} (C0 : lw_At p s m meth c b 6 xs) (hN : nw s) (hA : ∀ q : Nat, s.heap.size ≤ q → A q) (hAi : ∀ q : Nat, A q → s.heap.size ≤ q) (q_1 : Nat) (q_3 : Nat) (q_4 : Nat) (q_5 : Nat) (q_6 : Nat) (q_7 : Nat) (q_8 : Nat) (q_9 : Nat) (q_10 : Nat) (q_11 : Nat) (q_12 : Nat) (q_55 : Nat) (q_57 : Nat) (q_58 : Nat) (q_59 : Nat) (q_60 : Nat) (q_61 : Nat) (q_62 : Nat) (q_63 : Nat) (q_64 : Nat) (q_65 : Nat) (q_66 : Nat) (q_67 : Nat) (q_68 : Nat) (q_69 : Nat) (q_70 : Nat) (q_71 : Nat) (H : Heap) (locs : List Loc) (ls : Array Slot) (hK : va_K (dC, dI) vwCl [] s) (hP : va_P (dC, dI) vwCl [(q_1, .inr (7, [.ref q_3, .ref q_4, .ref q_5, .ref q_6, .ref q_7, .ref q_8, .ref q_9, .ref q_10, .ref q_11, .ref q_12, .int 0, .int (-1), .int (-1), .int 0])), (q_55, .inr (8, [.ref q_57, .ref q_58, .int 0, .ref q_59, .ref q_60, .ref q_61, .int 0, .ref q_62, .int 0, .int 0, .int 0, .ref q_63, .ref q_64, .int 0, .int (-1), .int (-1), .ref q_65, .ref q_66, .ref q_67, .ref q_68, .ref q_69, .ref q_70, .ref q_71]))] H) (hD : va_D A [(q_1, .inr (7, [.ref q_3, .ref q_4, .ref q_5, .ref q_6, .ref q_7, .ref q_8, .ref q_9, .ref q_10, .ref q_11, .ref q_12, .int 0, .int (-1), .int (-1), .int 0])), (q_55, .inr (8, [.ref q_57, .ref q_58, .int 0, .ref q_59, .ref q_60, .ref q_61, .int 0, .ref q_62, .int 0, .int 0, .int 0, .ref q_63, .ref q_64, .int 0, .int (-1), .int (-1), .ref q_65, .ref q_66, .ref q_67, .ref q_68, .ref q_69, .ref q_70, .ref q_71]))]) (hS : va_S A s.heap H locs) (hl : lv_has ls 4 [(3, .int 0), (2, .ref q_55), (1, .ref q_1), (0, .ref b)]) : W p l e room_1 s m #[Value.ref b] below meth c H locs 46 149056 (lw_Z below #[Value.ref b] s) (F0 m 694 ls []) := by
  obtain ⟨hx, hb, hr, hml, hown, hts0, hX, hbl, hlocks, hgv⟩ := id C0
  have hts : ∀ w ∈ wsL_law, w.before #[Value.ref b] s = true := fun w h => hts0 w (wsL_law_in w h)
  have hown : s.vm.findClass RL = some m.cls := hown
  have hb : c.code = cL_law := hb
  have hbA : ¬ A b := fun q => absurd (hAi b q) (Nat.not_le.mpr hbl)
  refine lv_aload_n hx hb dL_law_694 rfl (lv_at hl 2 rfl) ?_
  refine lv_aload_n hx hb dL_law_695 rfl (lv_at hl 3 rfl) ?_
  refine lv_iload_n hx hb dL_law_696 rfl (lv_at hl 0 rfl) ?_
  refine lv_iconst (v := 1) hx hb dL_law_697 (by decide) ?_
  refine lv_iadd hx hb dL_law_698 ?_
  refine tvv (v := .int 1) (congrArg Value.int (by decide)) ?_
  refine va_sld hx hb hX hbl hbA hS (vi _ _ (by decide)) dL_law_699 ?_
  refine tvv (v := .int (xs 1)) (congrArg Value.int (congrArg xs (by decide))) ?_
  refine lv_aload_n hx hb dL_law_700 rfl (lv_at hl 3 rfl) ?_
  refine lv_iload_n hx hb dL_law_701 rfl (lv_at hl 0 rfl) ?_
  refine lv_iconst (v := 2) hx hb dL_law_702 (by decide) ?_
  refine lv_iadd hx hb dL_law_703 ?_
  refine tvv (v := .int 2) (congrArg Value.int (by decide)) ?_
  refine va_sld hx hb hX hbl hbA hS (vi _ _ (by decide)) dL_law_704 ?_
  refine tvv (v := .int (xs 2)) (congrArg Value.int (congrArg xs (by decide))) ?_
  refine lv_aload_n hx hb dL_law_705 rfl (lv_at hl 3 rfl) ?_
  refine lv_iload_n hx hb dL_law_706 rfl (lv_at hl 0 rfl) ?_
  refine lv_iconst (v := 3) hx hb dL_law_707 (by decide) ?_
  refine lv_iadd hx hb dL_law_708 ?_
  refine tvv (v := .int 3) (congrArg Value.int (by decide)) ?_
  refine va_sld hx hb hX hbl hbA hS (vi _ _ (by decide)) dL_law_709 ?_
  refine tvv (v := .int (xs 3)) (congrArg Value.int (congrArg xs (by decide))) ?_
  refine lv_aload_n hx hb dL_law_710 rfl (lv_at hl 3 rfl) ?_
  refine lv_iload_n hx hb dL_law_711 rfl (lv_at hl 0 rfl) ?_
  refine lv_iconst (v := 4) hx hb dL_law_712 (by decide) ?_
  refine lv_iadd hx hb dL_law_713 ?_
  refine tvv (v := .int 4) (congrArg Value.int (by decide)) ?_
  refine va_sld hx hb hX hbl hbA hS (vi _ _ (by decide)) dL_law_714 ?_
  refine tvv (v := .int (xs 4)) (congrArg Value.int (congrArg xs (by decide))) ?_
  have hPc := hP.sub (ws' := [(q_1, .inr (7, [.ref q_3, .ref q_4, .ref q_5, .ref q_6, .ref q_7, .ref q_8, .ref q_9, .ref q_10, .ref q_11, .ref q_12, .int 0, .int (-1), .int (-1), .int 0]))]) [0] rfl
  have hDc := hD.sub (ws' := [(q_1, .inr (7, [.ref q_3, .ref q_4, .ref q_5, .ref q_6, .ref q_7, .ref q_8, .ref q_9, .ref q_10, .ref q_11, .ref q_12, .int 0, .int (-1), .int (-1), .int 0]))]) [0] (by decide) rfl
  have hKc := hK.sub (tys' := []) [] rfl
  have hFc := va_free (wc := [(q_1, .inr (7, [.ref q_3, .ref q_4, .ref q_5, .ref q_6, .ref q_7, .ref q_8, .ref q_9, .ref q_10, .ref q_11, .ref q_12, .int 0, .int (-1), .int (-1), .int 0]))]) hD hS hA [0] rfl
  refine va_calli (va_runV (As := [.int (xs 1), .int (xs 2), .int (xs 3), .int (xs 4)]) (rest := []) ⟨hx, hb, hml, hown, hts⟩ (c_x_vote l dC dI H.size q_1 (xs 1) (xs 2) (xs 3) (xs 4) q_3 q_4 q_5 q_6 q_7 q_8 q_9 q_10 q_11 q_12 ) (cwV 4 hts gL_law_X7_vote rfl rfl rfl (by decide +kernel) ⟨Nat.le_of_ble_eq_true rfl, Nat.le_of_ble_eq_true rfl⟩) (pre_V hPc hKc hDc hN (ci := 7) (q0 := 0) rfl rfl) rfl rfl hl.1 rfl (lv_room (Nat.le_of_ble_eq_true rfl)) dL_law_715 ⟨Nat.le_of_ble_eq_true rfl, Nat.le_of_ble_eq_true rfl⟩) hS (fun q _ h => hFc q h) hFc (fun r_501 u t H1 locs ht hvm hw hB hz1 hk1 hS => ?_)
  clear hPc hDc hKc
  have hw_502 := hw
  obtain ⟨hP, hD⟩ := va_join (wr := [(q_55, .inr (8, [.ref q_57, .ref q_58, .int 0, .ref q_59, .ref q_60, .ref q_61, .int 0, .ref q_62, .int 0, .int 0, .int 0, .ref q_63, .ref q_64, .int 0, .int (-1), .int (-1), .ref q_65, .ref q_66, .ref q_67, .ref q_68, .ref q_69, .ref q_70, .ref q_71]))]) (w1 := []) hP hD [0] [1] rfl rfl (by decide) (by decide) hk1 hFc nil_P nil_D
  generalize H1 = H at hP hS ⊢
  have hP : va_P (dC, dI) vwCl [(q_55, .inr (8, [.ref q_57, .ref q_58, .int 0, .ref q_59, .ref q_60, .ref q_61, .int 0, .ref q_62, .int 0, .int 0, .int 0, .ref q_63, .ref q_64, .int 0, .int (-1), .int (-1), .ref q_65, .ref q_66, .ref q_67, .ref q_68, .ref q_69, .ref q_70, .ref q_71]))] H := hP
  have hD : va_D A [(q_55, .inr (8, [.ref q_57, .ref q_58, .int 0, .ref q_59, .ref q_60, .ref q_61, .int 0, .ref q_62, .int 0, .int 0, .int 0, .ref q_63, .ref q_64, .int 0, .int (-1), .int (-1), .ref q_65, .ref q_66, .ref q_67, .ref q_68, .ref q_69, .ref q_70, .ref q_71]))] := hD
  refine lv_aload_n hx hb dL_law_718 rfl (lv_at hl 1 rfl) ?_
  refine lv_aload_n hx hb dL_law_719 rfl (lv_at hl 3 rfl) ?_
  refine lv_iload_n hx hb dL_law_720 rfl (lv_at hl 0 rfl) ?_
  refine lv_iconst (v := 1) hx hb dL_law_721 (by decide) ?_
  refine lv_iadd hx hb dL_law_722 ?_
  refine tvv (v := .int 1) (congrArg Value.int (by decide)) ?_
  refine va_sld hx hb hX hbl hbA hS (vi _ _ (by decide)) dL_law_723 ?_
  refine tvv (v := .int (xs 1)) (congrArg Value.int (congrArg xs (by decide))) ?_
  refine lv_aload_n hx hb dL_law_724 rfl (lv_at hl 3 rfl) ?_
  refine lv_iload_n hx hb dL_law_725 rfl (lv_at hl 0 rfl) ?_
  refine lv_iconst (v := 2) hx hb dL_law_726 (by decide) ?_
  refine lv_iadd hx hb dL_law_727 ?_
  refine tvv (v := .int 2) (congrArg Value.int (by decide)) ?_
  refine va_sld hx hb hX hbl hbA hS (vi _ _ (by decide)) dL_law_728 ?_
  refine tvv (v := .int (xs 2)) (congrArg Value.int (congrArg xs (by decide))) ?_
  refine lv_aload_n hx hb dL_law_729 rfl (lv_at hl 3 rfl) ?_
  refine lv_iload_n hx hb dL_law_730 rfl (lv_at hl 0 rfl) ?_
  refine lv_iconst (v := 3) hx hb dL_law_731 (by decide) ?_
  refine lv_iadd hx hb dL_law_732 ?_
  refine tvv (v := .int 3) (congrArg Value.int (by decide)) ?_
  refine va_sld hx hb hX hbl hbA hS (vi _ _ (by decide)) dL_law_733 ?_
  refine tvv (v := .int (xs 3)) (congrArg Value.int (congrArg xs (by decide))) ?_
  refine lv_aload_n hx hb dL_law_734 rfl (lv_at hl 3 rfl) ?_
  refine lv_iload_n hx hb dL_law_735 rfl (lv_at hl 0 rfl) ?_
  refine lv_iconst (v := 4) hx hb dL_law_736 (by decide) ?_
  refine lv_iadd hx hb dL_law_737 ?_
  refine tvv (v := .int 4) (congrArg Value.int (by decide)) ?_
  refine va_sld hx hb hX hbl hbA hS (vi _ _ (by decide)) dL_law_738 ?_
  refine tvv (v := .int (xs 4)) (congrArg Value.int (congrArg xs (by decide))) ?_
  have hPc := hP.sub (ws' := [(q_55, .inr (8, [.ref q_57, .ref q_58, .int 0, .ref q_59, .ref q_60, .ref q_61, .int 0, .ref q_62, .int 0, .int 0, .int 0, .ref q_63, .ref q_64, .int 0, .int (-1), .int (-1), .ref q_65, .ref q_66, .ref q_67, .ref q_68, .ref q_69, .ref q_70, .ref q_71]))]) [0] rfl
  have hDc := hD.sub (ws' := [(q_55, .inr (8, [.ref q_57, .ref q_58, .int 0, .ref q_59, .ref q_60, .ref q_61, .int 0, .ref q_62, .int 0, .int 0, .int 0, .ref q_63, .ref q_64, .int 0, .int (-1), .int (-1), .ref q_65, .ref q_66, .ref q_67, .ref q_68, .ref q_69, .ref q_70, .ref q_71]))]) [0] (by decide) rfl
  have hKc := hK.sub (tys' := []) [] rfl
  have hFc := va_free (wc := [(q_55, .inr (8, [.ref q_57, .ref q_58, .int 0, .ref q_59, .ref q_60, .ref q_61, .int 0, .ref q_62, .int 0, .int 0, .int 0, .ref q_63, .ref q_64, .int 0, .int (-1), .int (-1), .ref q_65, .ref q_66, .ref q_67, .ref q_68, .ref q_69, .ref q_70, .ref q_71]))]) hD hS hA [0] rfl
  refine va_calli (va_runV (As := [.int (xs 1), .int (xs 2), .int (xs 3), .int (xs 4)]) (rest := [.int r_501]) ⟨hx, hb, hml, hown, hts⟩ (c_m_vote l dC dI H.size q_55 (xs 1) (xs 2) (xs 3) (xs 4) q_57 q_58 q_59 q_60 q_61 q_62 q_63 q_64 q_65 q_66 q_67 q_68 q_69 q_70 q_71 ) (cwV 4 hts gL_law_X8_vote rfl rfl rfl (by decide +kernel) ⟨Nat.le_of_ble_eq_true rfl, Nat.le_of_ble_eq_true rfl⟩) (pre_V hPc hKc hDc hN (ci := 8) (q0 := 0) rfl rfl) rfl rfl hl.1 rfl (lv_room (Nat.le_of_ble_eq_true rfl)) dL_law_739 ⟨Nat.le_of_ble_eq_true rfl, Nat.le_of_ble_eq_true rfl⟩) hS (fun q _ h => hFc q h) hFc (fun r_503 u t H1 locs ht hvm hw hB hz1 hk1 hS => ?_)
  clear hPc hDc hKc
  have hw_504 := hw
  obtain ⟨hP, hD⟩ := va_join (wr := []) (w1 := []) hP hD [0] [] rfl rfl (by decide) (by decide) hk1 hFc nil_P nil_D
  generalize H1 = H at hP hS ⊢
  have hP : va_P (dC, dI) vwCl [] H := hP
  have hD : va_D A [] := hD
  refine lv_icmp_eq (tgt := 922) hx hb dL_law_742 (by decide) (fun c_505 => ?_) (fun c_505 => ?_)
  · skip
    refine W.widen (k := 600000) (n := 7302250) (Nat.le_of_ble_eq_true rfl) (Nat.le_of_ble_eq_true rfl) ?_
    exact law_tail C0 hAi H locs ls q_1 q_55 hS hl
  · exact absurd (hw_502.trans hw_504.symm) c_505

set_option maxHeartbeats 4000000 in
set_option maxRecDepth 100000 in
/-- the law at voices -/
theorem law_17 {p : Program} {l : Launch} {e : Env} {s : State} {m : MethodId} {below : List Frame} {meth : Method} {c : Code} {dC : Nat → ClassId} {dI : Nat → Nat → Nat} {b : Nat} {xs : Nat → Int32} {A : Nat → Prop} (C0 : lw_At p s m meth c b 6 xs) (hN : nw s) (hA : ∀ q : Nat, s.heap.size ≤ q → A q) (hAi : ∀ q : Nat, A q → s.heap.size ≤ q) (q_1 : Nat) (q_3 : Nat) (q_4 : Nat) (q_5 : Nat) (q_6 : Nat) (q_7 : Nat) (q_8 : Nat) (q_9 : Nat) (q_10 : Nat) (q_11 : Nat) (q_12 : Nat) (q_55 : Nat) (q_57 : Nat) (q_58 : Nat) (q_59 : Nat) (q_60 : Nat) (q_61 : Nat) (q_62 : Nat) (q_63 : Nat) (q_64 : Nat) (q_65 : Nat) (q_66 : Nat) (q_67 : Nat) (q_68 : Nat) (q_69 : Nat) (q_70 : Nat) (q_71 : Nat) (H : Heap) (locs : List Loc) (ls : Array Slot) (hK : va_K (dC, dI) vwCl [] s) (hP : va_P (dC, dI) vwCl [(q_1, .inr (7, [.ref q_3, .ref q_4, .ref q_5, .ref q_6, .ref q_7, .ref q_8, .ref q_9, .ref q_10, .ref q_11, .ref q_12, .int 0, .int (-1), .int (-1), .int 0])), (q_55, .inr (8, [.ref q_57, .ref q_58, .int 0, .ref q_59, .ref q_60, .ref q_61, .int 0, .ref q_62, .int 0, .int 0, .int 0, .ref q_63, .ref q_64, .int 0, .int (-1), .int (-1), .ref q_65, .ref q_66, .ref q_67, .ref q_68, .ref q_69, .ref q_70, .ref q_71]))] H) (hD : va_D A [(q_1, .inr (7, [.ref q_3, .ref q_4, .ref q_5, .ref q_6, .ref q_7, .ref q_8, .ref q_9, .ref q_10, .ref q_11, .ref q_12, .int 0, .int (-1), .int (-1), .int 0])), (q_55, .inr (8, [.ref q_57, .ref q_58, .int 0, .ref q_59, .ref q_60, .ref q_61, .int 0, .ref q_62, .int 0, .int 0, .int 0, .ref q_63, .ref q_64, .int 0, .int (-1), .int (-1), .ref q_65, .ref q_66, .ref q_67, .ref q_68, .ref q_69, .ref q_70, .ref q_71]))]) (hS : va_S A s.heap H locs) (hl : lv_has ls 4 [(3, .int 0), (2, .ref q_55), (1, .ref q_1), (0, .ref b)]) : W p l e room_1 s m #[Value.ref b] below meth c H locs 46 149056 (lw_Z below #[Value.ref b] s) (F0 m 747 ls []) := by
  obtain ⟨hx, hb, hr, hml, hown, hts0, hX, hbl, hlocks, hgv⟩ := id C0
  have hts : ∀ w ∈ wsL_law, w.before #[Value.ref b] s = true := fun w h => hts0 w (wsL_law_in w h)
  have hown : s.vm.findClass RL = some m.cls := hown
  have hb : c.code = cL_law := hb
  have hbA : ¬ A b := fun q => absurd (hAi b q) (Nat.not_le.mpr hbl)
  refine lv_aload_n hx hb dL_law_747 rfl (lv_at hl 2 rfl) ?_
  have hPc := hP.sub (ws' := [(q_1, .inr (7, [.ref q_3, .ref q_4, .ref q_5, .ref q_6, .ref q_7, .ref q_8, .ref q_9, .ref q_10, .ref q_11, .ref q_12, .int 0, .int (-1), .int (-1), .int 0]))]) [0] rfl
  have hDc := hD.sub (ws' := [(q_1, .inr (7, [.ref q_3, .ref q_4, .ref q_5, .ref q_6, .ref q_7, .ref q_8, .ref q_9, .ref q_10, .ref q_11, .ref q_12, .int 0, .int (-1), .int (-1), .int 0]))]) [0] (by decide) rfl
  have hKc := hK.sub (tys' := []) [] rfl
  have hFc := va_free (wc := [(q_1, .inr (7, [.ref q_3, .ref q_4, .ref q_5, .ref q_6, .ref q_7, .ref q_8, .ref q_9, .ref q_10, .ref q_11, .ref q_12, .int 0, .int (-1), .int (-1), .int 0]))]) hD hS hA [0] rfl
  refine va_calli (va_runV (As := []) (rest := []) ⟨hx, hb, hml, hown, hts⟩ (c_x_voices l dC dI H.size q_1 q_3 q_4 q_5 q_6 q_7 q_8 q_9 q_10 q_11 q_12 ) (cwV 0 hts gL_law_X7_voices rfl rfl rfl (by decide +kernel) ⟨Nat.le_of_ble_eq_true rfl, Nat.le_of_ble_eq_true rfl⟩) (pre_V hPc hKc hDc hN (ci := 7) (q0 := 0) rfl rfl) rfl rfl hl.1 rfl (lv_room (Nat.le_of_ble_eq_true rfl)) dL_law_748 ⟨Nat.le_of_ble_eq_true rfl, Nat.le_of_ble_eq_true rfl⟩) hS (fun q _ h => hFc q h) hFc (fun r_501 u t H1 locs ht hvm hw hB hz1 hk1 hS => ?_)
  clear hPc hDc hKc
  have hw_502 := hw
  obtain ⟨hP, hD⟩ := va_join (wr := [(q_55, .inr (8, [.ref q_57, .ref q_58, .int 0, .ref q_59, .ref q_60, .ref q_61, .int 0, .ref q_62, .int 0, .int 0, .int 0, .ref q_63, .ref q_64, .int 0, .int (-1), .int (-1), .ref q_65, .ref q_66, .ref q_67, .ref q_68, .ref q_69, .ref q_70, .ref q_71]))]) (w1 := []) hP hD [0] [1] rfl rfl (by decide) (by decide) hk1 hFc nil_P nil_D
  generalize H1 = H at hP hS ⊢
  have hP : va_P (dC, dI) vwCl [(q_55, .inr (8, [.ref q_57, .ref q_58, .int 0, .ref q_59, .ref q_60, .ref q_61, .int 0, .ref q_62, .int 0, .int 0, .int 0, .ref q_63, .ref q_64, .int 0, .int (-1), .int (-1), .ref q_65, .ref q_66, .ref q_67, .ref q_68, .ref q_69, .ref q_70, .ref q_71]))] H := hP
  have hD : va_D A [(q_55, .inr (8, [.ref q_57, .ref q_58, .int 0, .ref q_59, .ref q_60, .ref q_61, .int 0, .ref q_62, .int 0, .int 0, .int 0, .ref q_63, .ref q_64, .int 0, .int (-1), .int (-1), .ref q_65, .ref q_66, .ref q_67, .ref q_68, .ref q_69, .ref q_70, .ref q_71]))] := hD
  refine lv_aload_n hx hb dL_law_751 rfl (lv_at hl 1 rfl) ?_
  have hPc := hP.sub (ws' := [(q_55, .inr (8, [.ref q_57, .ref q_58, .int 0, .ref q_59, .ref q_60, .ref q_61, .int 0, .ref q_62, .int 0, .int 0, .int 0, .ref q_63, .ref q_64, .int 0, .int (-1), .int (-1), .ref q_65, .ref q_66, .ref q_67, .ref q_68, .ref q_69, .ref q_70, .ref q_71]))]) [0] rfl
  have hDc := hD.sub (ws' := [(q_55, .inr (8, [.ref q_57, .ref q_58, .int 0, .ref q_59, .ref q_60, .ref q_61, .int 0, .ref q_62, .int 0, .int 0, .int 0, .ref q_63, .ref q_64, .int 0, .int (-1), .int (-1), .ref q_65, .ref q_66, .ref q_67, .ref q_68, .ref q_69, .ref q_70, .ref q_71]))]) [0] (by decide) rfl
  have hKc := hK.sub (tys' := []) [] rfl
  have hFc := va_free (wc := [(q_55, .inr (8, [.ref q_57, .ref q_58, .int 0, .ref q_59, .ref q_60, .ref q_61, .int 0, .ref q_62, .int 0, .int 0, .int 0, .ref q_63, .ref q_64, .int 0, .int (-1), .int (-1), .ref q_65, .ref q_66, .ref q_67, .ref q_68, .ref q_69, .ref q_70, .ref q_71]))]) hD hS hA [0] rfl
  refine va_calli (va_runV (As := []) (rest := [.int r_501]) ⟨hx, hb, hml, hown, hts⟩ (c_m_voices l dC dI H.size q_55 q_57 q_58 q_59 q_60 q_61 q_62 q_63 q_64 q_65 q_66 q_67 q_68 q_69 q_70 q_71 ) (cwV 0 hts gL_law_X8_voices rfl rfl rfl (by decide +kernel) ⟨Nat.le_of_ble_eq_true rfl, Nat.le_of_ble_eq_true rfl⟩) (pre_V hPc hKc hDc hN (ci := 8) (q0 := 0) rfl rfl) rfl rfl hl.1 rfl (lv_room (Nat.le_of_ble_eq_true rfl)) dL_law_752 ⟨Nat.le_of_ble_eq_true rfl, Nat.le_of_ble_eq_true rfl⟩) hS (fun q _ h => hFc q h) hFc (fun r_503 u t H1 locs ht hvm hw hB hz1 hk1 hS => ?_)
  clear hPc hDc hKc
  have hw_504 := hw
  obtain ⟨hP, hD⟩ := va_join (wr := []) (w1 := []) hP hD [0] [] rfl rfl (by decide) (by decide) hk1 hFc nil_P nil_D
  generalize H1 = H at hP hS ⊢
  have hP : va_P (dC, dI) vwCl [] H := hP
  have hD : va_D A [] := hD
  refine lv_icmp_eq (tgt := 922) hx hb dL_law_755 (by decide) (fun c_505 => ?_) (fun c_505 => ?_)
  · skip
    refine W.widen (k := 600000) (n := 7302250) (Nat.le_of_ble_eq_true rfl) (Nat.le_of_ble_eq_true rfl) ?_
    exact law_tail C0 hAi H locs ls q_1 q_55 hS hl
  · exact absurd (hw_502.trans hw_504.symm) c_505

set_option maxHeartbeats 4000000 in
set_option maxRecDepth 100000 in
/-- the law at rule -/
theorem law_18 {p : Program} {l : Launch} {e : Env} {s : State} {m : MethodId} {below : List Frame} {meth : Method} {c : Code} {dC : Nat → ClassId} {dI : Nat → Nat → Nat} {b : Nat} {xs : Nat → Int32} {A : Nat → Prop} (C0 : lw_At p s m meth c b 6 xs) (hN : nw s) (hA : ∀ q : Nat, s.heap.size ≤ q → A q) (hAi : ∀ q : Nat, A q → s.heap.size ≤ q) (q_1 : Nat) (q_3 : Nat) (q_4 : Nat) (q_5 : Nat) (q_6 : Nat) (q_7 : Nat) (q_8 : Nat) (q_9 : Nat) (q_10 : Nat) (q_11 : Nat) (q_12 : Nat) (q_55 : Nat) (q_57 : Nat) (q_58 : Nat) (q_59 : Nat) (q_60 : Nat) (q_61 : Nat) (q_62 : Nat) (q_63 : Nat) (q_64 : Nat) (q_65 : Nat) (q_66 : Nat) (q_67 : Nat) (q_68 : Nat) (q_69 : Nat) (q_70 : Nat) (q_71 : Nat) (H : Heap) (locs : List Loc) (ls : Array Slot) (hK : va_K (dC, dI) vwCl [] s) (hP : va_P (dC, dI) vwCl [(q_1, .inr (7, [.ref q_3, .ref q_4, .ref q_5, .ref q_6, .ref q_7, .ref q_8, .ref q_9, .ref q_10, .ref q_11, .ref q_12, .int 0, .int (-1), .int (-1), .int 0])), (q_55, .inr (8, [.ref q_57, .ref q_58, .int 0, .ref q_59, .ref q_60, .ref q_61, .int 0, .ref q_62, .int 0, .int 0, .int 0, .ref q_63, .ref q_64, .int 0, .int (-1), .int (-1), .ref q_65, .ref q_66, .ref q_67, .ref q_68, .ref q_69, .ref q_70, .ref q_71]))] H) (hD : va_D A [(q_1, .inr (7, [.ref q_3, .ref q_4, .ref q_5, .ref q_6, .ref q_7, .ref q_8, .ref q_9, .ref q_10, .ref q_11, .ref q_12, .int 0, .int (-1), .int (-1), .int 0])), (q_55, .inr (8, [.ref q_57, .ref q_58, .int 0, .ref q_59, .ref q_60, .ref q_61, .int 0, .ref q_62, .int 0, .int 0, .int 0, .ref q_63, .ref q_64, .int 0, .int (-1), .int (-1), .ref q_65, .ref q_66, .ref q_67, .ref q_68, .ref q_69, .ref q_70, .ref q_71]))]) (hS : va_S A s.heap H locs) (hl : lv_has ls 4 [(3, .int 0), (2, .ref q_55), (1, .ref q_1), (0, .ref b)]) : W p l e room_1 s m #[Value.ref b] below meth c H locs 46 149056 (lw_Z below #[Value.ref b] s) (F0 m 760 ls []) := by
  obtain ⟨hx, hb, hr, hml, hown, hts0, hX, hbl, hlocks, hgv⟩ := id C0
  have hts : ∀ w ∈ wsL_law, w.before #[Value.ref b] s = true := fun w h => hts0 w (wsL_law_in w h)
  have hown : s.vm.findClass RL = some m.cls := hown
  have hb : c.code = cL_law := hb
  have hbA : ¬ A b := fun q => absurd (hAi b q) (Nat.not_le.mpr hbl)
  refine lv_aload_n hx hb dL_law_760 rfl (lv_at hl 2 rfl) ?_
  refine lv_aload_n hx hb dL_law_761 rfl (lv_at hl 3 rfl) ?_
  refine lv_iload_n hx hb dL_law_762 rfl (lv_at hl 0 rfl) ?_
  refine lv_iconst (v := 1) hx hb dL_law_763 (by decide) ?_
  refine lv_iadd hx hb dL_law_764 ?_
  refine tvv (v := .int 1) (congrArg Value.int (by decide)) ?_
  refine va_sld hx hb hX hbl hbA hS (vi _ _ (by decide)) dL_law_765 ?_
  refine tvv (v := .int (xs 1)) (congrArg Value.int (congrArg xs (by decide))) ?_
  refine lv_aload_n hx hb dL_law_766 rfl (lv_at hl 3 rfl) ?_
  refine lv_iload_n hx hb dL_law_767 rfl (lv_at hl 0 rfl) ?_
  refine lv_iconst (v := 2) hx hb dL_law_768 (by decide) ?_
  refine lv_iadd hx hb dL_law_769 ?_
  refine tvv (v := .int 2) (congrArg Value.int (by decide)) ?_
  refine va_sld hx hb hX hbl hbA hS (vi _ _ (by decide)) dL_law_770 ?_
  refine tvv (v := .int (xs 2)) (congrArg Value.int (congrArg xs (by decide))) ?_
  refine lv_aload_n hx hb dL_law_771 rfl (lv_at hl 3 rfl) ?_
  refine lv_iload_n hx hb dL_law_772 rfl (lv_at hl 0 rfl) ?_
  refine lv_iconst (v := 3) hx hb dL_law_773 (by decide) ?_
  refine lv_iadd hx hb dL_law_774 ?_
  refine tvv (v := .int 3) (congrArg Value.int (by decide)) ?_
  refine va_sld hx hb hX hbl hbA hS (vi _ _ (by decide)) dL_law_775 ?_
  refine tvv (v := .int (xs 3)) (congrArg Value.int (congrArg xs (by decide))) ?_
  refine lv_aload_n hx hb dL_law_776 rfl (lv_at hl 3 rfl) ?_
  refine lv_iload_n hx hb dL_law_777 rfl (lv_at hl 0 rfl) ?_
  refine lv_iconst (v := 4) hx hb dL_law_778 (by decide) ?_
  refine lv_iadd hx hb dL_law_779 ?_
  refine tvv (v := .int 4) (congrArg Value.int (by decide)) ?_
  refine va_sld hx hb hX hbl hbA hS (vi _ _ (by decide)) dL_law_780 ?_
  refine tvv (v := .int (xs 4)) (congrArg Value.int (congrArg xs (by decide))) ?_
  have hPc := hP.sub (ws' := [(q_1, .inr (7, [.ref q_3, .ref q_4, .ref q_5, .ref q_6, .ref q_7, .ref q_8, .ref q_9, .ref q_10, .ref q_11, .ref q_12, .int 0, .int (-1), .int (-1), .int 0]))]) [0] rfl
  have hDc := hD.sub (ws' := [(q_1, .inr (7, [.ref q_3, .ref q_4, .ref q_5, .ref q_6, .ref q_7, .ref q_8, .ref q_9, .ref q_10, .ref q_11, .ref q_12, .int 0, .int (-1), .int (-1), .int 0]))]) [0] (by decide) rfl
  have hKc := hK.sub (tys' := []) [] rfl
  have hFc := va_free (wc := [(q_1, .inr (7, [.ref q_3, .ref q_4, .ref q_5, .ref q_6, .ref q_7, .ref q_8, .ref q_9, .ref q_10, .ref q_11, .ref q_12, .int 0, .int (-1), .int (-1), .int 0]))]) hD hS hA [0] rfl
  refine va_calli (va_runV (As := [.int (xs 1), .int (xs 2), .int (xs 3), .int (xs 4)]) (rest := []) ⟨hx, hb, hml, hown, hts⟩ (c_x_rule l dC dI H.size q_1 (xs 1) (xs 2) (xs 3) (xs 4) q_3 q_4 q_5 q_6 q_7 q_8 q_9 q_10 q_11 q_12 ) (cwV 4 hts gL_law_X7_rule rfl rfl rfl (by decide +kernel) ⟨Nat.le_of_ble_eq_true rfl, Nat.le_of_ble_eq_true rfl⟩) (pre_V hPc hKc hDc hN (ci := 7) (q0 := 0) rfl rfl) rfl rfl hl.1 rfl (lv_room (Nat.le_of_ble_eq_true rfl)) dL_law_781 ⟨Nat.le_of_ble_eq_true rfl, Nat.le_of_ble_eq_true rfl⟩) hS (fun q _ h => hFc q h) hFc (fun r_501 u t H1 locs ht hvm hw hB hz1 hk1 hS => ?_)
  clear hPc hDc hKc
  have hw_502 := hw
  obtain ⟨hP, hD⟩ := va_join (wr := [(q_55, .inr (8, [.ref q_57, .ref q_58, .int 0, .ref q_59, .ref q_60, .ref q_61, .int 0, .ref q_62, .int 0, .int 0, .int 0, .ref q_63, .ref q_64, .int 0, .int (-1), .int (-1), .ref q_65, .ref q_66, .ref q_67, .ref q_68, .ref q_69, .ref q_70, .ref q_71]))]) (w1 := []) hP hD [0] [1] rfl rfl (by decide) (by decide) hk1 hFc nil_P nil_D
  generalize H1 = H at hP hS ⊢
  have hP : va_P (dC, dI) vwCl [(q_55, .inr (8, [.ref q_57, .ref q_58, .int 0, .ref q_59, .ref q_60, .ref q_61, .int 0, .ref q_62, .int 0, .int 0, .int 0, .ref q_63, .ref q_64, .int 0, .int (-1), .int (-1), .ref q_65, .ref q_66, .ref q_67, .ref q_68, .ref q_69, .ref q_70, .ref q_71]))] H := hP
  have hD : va_D A [(q_55, .inr (8, [.ref q_57, .ref q_58, .int 0, .ref q_59, .ref q_60, .ref q_61, .int 0, .ref q_62, .int 0, .int 0, .int 0, .ref q_63, .ref q_64, .int 0, .int (-1), .int (-1), .ref q_65, .ref q_66, .ref q_67, .ref q_68, .ref q_69, .ref q_70, .ref q_71]))] := hD
  refine lv_aload_n hx hb dL_law_784 rfl (lv_at hl 1 rfl) ?_
  refine lv_aload_n hx hb dL_law_785 rfl (lv_at hl 3 rfl) ?_
  refine lv_iload_n hx hb dL_law_786 rfl (lv_at hl 0 rfl) ?_
  refine lv_iconst (v := 1) hx hb dL_law_787 (by decide) ?_
  refine lv_iadd hx hb dL_law_788 ?_
  refine tvv (v := .int 1) (congrArg Value.int (by decide)) ?_
  refine va_sld hx hb hX hbl hbA hS (vi _ _ (by decide)) dL_law_789 ?_
  refine tvv (v := .int (xs 1)) (congrArg Value.int (congrArg xs (by decide))) ?_
  refine lv_aload_n hx hb dL_law_790 rfl (lv_at hl 3 rfl) ?_
  refine lv_iload_n hx hb dL_law_791 rfl (lv_at hl 0 rfl) ?_
  refine lv_iconst (v := 2) hx hb dL_law_792 (by decide) ?_
  refine lv_iadd hx hb dL_law_793 ?_
  refine tvv (v := .int 2) (congrArg Value.int (by decide)) ?_
  refine va_sld hx hb hX hbl hbA hS (vi _ _ (by decide)) dL_law_794 ?_
  refine tvv (v := .int (xs 2)) (congrArg Value.int (congrArg xs (by decide))) ?_
  refine lv_aload_n hx hb dL_law_795 rfl (lv_at hl 3 rfl) ?_
  refine lv_iload_n hx hb dL_law_796 rfl (lv_at hl 0 rfl) ?_
  refine lv_iconst (v := 3) hx hb dL_law_797 (by decide) ?_
  refine lv_iadd hx hb dL_law_798 ?_
  refine tvv (v := .int 3) (congrArg Value.int (by decide)) ?_
  refine va_sld hx hb hX hbl hbA hS (vi _ _ (by decide)) dL_law_799 ?_
  refine tvv (v := .int (xs 3)) (congrArg Value.int (congrArg xs (by decide))) ?_
  refine lv_aload_n hx hb dL_law_800 rfl (lv_at hl 3 rfl) ?_
  refine lv_iload_n hx hb dL_law_801 rfl (lv_at hl 0 rfl) ?_
  refine lv_iconst (v := 4) hx hb dL_law_802 (by decide) ?_
  refine lv_iadd hx hb dL_law_803 ?_
  refine tvv (v := .int 4) (congrArg Value.int (by decide)) ?_
  refine va_sld hx hb hX hbl hbA hS (vi _ _ (by decide)) dL_law_804 ?_
  refine tvv (v := .int (xs 4)) (congrArg Value.int (congrArg xs (by decide))) ?_
  have hPc := hP.sub (ws' := [(q_55, .inr (8, [.ref q_57, .ref q_58, .int 0, .ref q_59, .ref q_60, .ref q_61, .int 0, .ref q_62, .int 0, .int 0, .int 0, .ref q_63, .ref q_64, .int 0, .int (-1), .int (-1), .ref q_65, .ref q_66, .ref q_67, .ref q_68, .ref q_69, .ref q_70, .ref q_71]))]) [0] rfl
  have hDc := hD.sub (ws' := [(q_55, .inr (8, [.ref q_57, .ref q_58, .int 0, .ref q_59, .ref q_60, .ref q_61, .int 0, .ref q_62, .int 0, .int 0, .int 0, .ref q_63, .ref q_64, .int 0, .int (-1), .int (-1), .ref q_65, .ref q_66, .ref q_67, .ref q_68, .ref q_69, .ref q_70, .ref q_71]))]) [0] (by decide) rfl
  have hKc := hK.sub (tys' := []) [] rfl
  have hFc := va_free (wc := [(q_55, .inr (8, [.ref q_57, .ref q_58, .int 0, .ref q_59, .ref q_60, .ref q_61, .int 0, .ref q_62, .int 0, .int 0, .int 0, .ref q_63, .ref q_64, .int 0, .int (-1), .int (-1), .ref q_65, .ref q_66, .ref q_67, .ref q_68, .ref q_69, .ref q_70, .ref q_71]))]) hD hS hA [0] rfl
  refine va_calli (va_runV (As := [.int (xs 1), .int (xs 2), .int (xs 3), .int (xs 4)]) (rest := [.int r_501]) ⟨hx, hb, hml, hown, hts⟩ (c_m_rule l dC dI H.size q_55 (xs 1) (xs 2) (xs 3) (xs 4) q_57 q_58 q_59 q_60 q_61 q_62 q_63 q_64 q_65 q_66 q_67 q_68 q_69 q_70 q_71 ) (cwV 4 hts gL_law_X8_rule rfl rfl rfl (by decide +kernel) ⟨Nat.le_of_ble_eq_true rfl, Nat.le_of_ble_eq_true rfl⟩) (pre_V hPc hKc hDc hN (ci := 8) (q0 := 0) rfl rfl) rfl rfl hl.1 rfl (lv_room (Nat.le_of_ble_eq_true rfl)) dL_law_805 ⟨Nat.le_of_ble_eq_true rfl, Nat.le_of_ble_eq_true rfl⟩) hS (fun q _ h => hFc q h) hFc (fun r_503 u t H1 locs ht hvm hw hB hz1 hk1 hS => ?_)
  clear hPc hDc hKc
  have hw_504 := hw
  obtain ⟨hP, hD⟩ := va_join (wr := []) (w1 := []) hP hD [0] [] rfl rfl (by decide) (by decide) hk1 hFc nil_P nil_D
  generalize H1 = H at hP hS ⊢
  have hP : va_P (dC, dI) vwCl [] H := hP
  have hD : va_D A [] := hD
  refine lv_icmp_eq (tgt := 922) hx hb dL_law_808 (by decide) (fun c_505 => ?_) (fun c_505 => ?_)
  · skip
    refine W.widen (k := 600000) (n := 7302250) (Nat.le_of_ble_eq_true rfl) (Nat.le_of_ble_eq_true rfl) ?_
    exact law_tail C0 hAi H locs ls q_1 q_55 hS hl
  · exact absurd (hw_502.trans hw_504.symm) c_505

set_option maxHeartbeats 4000000 in
set_option maxRecDepth 100000 in
/-- the law at near -/
theorem law_19 {p : Program} {l : Launch} {e : Env} {s : State} {m : MethodId} {below : List Frame} {meth : Method} {c : Code} {dC : Nat → ClassId} {dI : Nat → Nat → Nat} {b : Nat} {xs : Nat → Int32} {A : Nat → Prop} (C0 : lw_At p s m meth c b 6 xs) (hN : nw s) (hA : ∀ q : Nat, s.heap.size ≤ q → A q) (hAi : ∀ q : Nat, A q → s.heap.size ≤ q) (q_1 : Nat) (q_3 : Nat) (q_4 : Nat) (q_5 : Nat) (q_6 : Nat) (q_7 : Nat) (q_8 : Nat) (q_9 : Nat) (q_10 : Nat) (q_11 : Nat) (q_12 : Nat) (q_55 : Nat) (q_57 : Nat) (q_58 : Nat) (q_59 : Nat) (q_60 : Nat) (q_61 : Nat) (q_62 : Nat) (q_63 : Nat) (q_64 : Nat) (q_65 : Nat) (q_66 : Nat) (q_67 : Nat) (q_68 : Nat) (q_69 : Nat) (q_70 : Nat) (q_71 : Nat) (H : Heap) (locs : List Loc) (ls : Array Slot) (hK : va_K (dC, dI) vwCl [] s) (hP : va_P (dC, dI) vwCl [(q_1, .inr (7, [.ref q_3, .ref q_4, .ref q_5, .ref q_6, .ref q_7, .ref q_8, .ref q_9, .ref q_10, .ref q_11, .ref q_12, .int 0, .int (-1), .int (-1), .int 0])), (q_55, .inr (8, [.ref q_57, .ref q_58, .int 0, .ref q_59, .ref q_60, .ref q_61, .int 0, .ref q_62, .int 0, .int 0, .int 0, .ref q_63, .ref q_64, .int 0, .int (-1), .int (-1), .ref q_65, .ref q_66, .ref q_67, .ref q_68, .ref q_69, .ref q_70, .ref q_71]))] H) (hD : va_D A [(q_1, .inr (7, [.ref q_3, .ref q_4, .ref q_5, .ref q_6, .ref q_7, .ref q_8, .ref q_9, .ref q_10, .ref q_11, .ref q_12, .int 0, .int (-1), .int (-1), .int 0])), (q_55, .inr (8, [.ref q_57, .ref q_58, .int 0, .ref q_59, .ref q_60, .ref q_61, .int 0, .ref q_62, .int 0, .int 0, .int 0, .ref q_63, .ref q_64, .int 0, .int (-1), .int (-1), .ref q_65, .ref q_66, .ref q_67, .ref q_68, .ref q_69, .ref q_70, .ref q_71]))]) (hS : va_S A s.heap H locs) (hl : lv_has ls 4 [(3, .int 0), (2, .ref q_55), (1, .ref q_1), (0, .ref b)]) : W p l e room_1 s m #[Value.ref b] below meth c H locs 46 149056 (lw_Z below #[Value.ref b] s) (F0 m 813 ls []) := by
  obtain ⟨hx, hb, hr, hml, hown, hts0, hX, hbl, hlocks, hgv⟩ := id C0
  have hts : ∀ w ∈ wsL_law, w.before #[Value.ref b] s = true := fun w h => hts0 w (wsL_law_in w h)
  have hown : s.vm.findClass RL = some m.cls := hown
  have hb : c.code = cL_law := hb
  have hbA : ¬ A b := fun q => absurd (hAi b q) (Nat.not_le.mpr hbl)
  refine lv_aload_n hx hb dL_law_813 rfl (lv_at hl 2 rfl) ?_
  refine lv_aload_n hx hb dL_law_814 rfl (lv_at hl 3 rfl) ?_
  refine lv_iload_n hx hb dL_law_815 rfl (lv_at hl 0 rfl) ?_
  refine lv_iconst (v := 1) hx hb dL_law_816 (by decide) ?_
  refine lv_iadd hx hb dL_law_817 ?_
  refine tvv (v := .int 1) (congrArg Value.int (by decide)) ?_
  refine va_sld hx hb hX hbl hbA hS (vi _ _ (by decide)) dL_law_818 ?_
  refine tvv (v := .int (xs 1)) (congrArg Value.int (congrArg xs (by decide))) ?_
  refine lv_aload_n hx hb dL_law_819 rfl (lv_at hl 3 rfl) ?_
  refine lv_iload_n hx hb dL_law_820 rfl (lv_at hl 0 rfl) ?_
  refine lv_iconst (v := 2) hx hb dL_law_821 (by decide) ?_
  refine lv_iadd hx hb dL_law_822 ?_
  refine tvv (v := .int 2) (congrArg Value.int (by decide)) ?_
  refine va_sld hx hb hX hbl hbA hS (vi _ _ (by decide)) dL_law_823 ?_
  refine tvv (v := .int (xs 2)) (congrArg Value.int (congrArg xs (by decide))) ?_
  refine lv_aload_n hx hb dL_law_824 rfl (lv_at hl 3 rfl) ?_
  refine lv_iload_n hx hb dL_law_825 rfl (lv_at hl 0 rfl) ?_
  refine lv_iconst (v := 3) hx hb dL_law_826 (by decide) ?_
  refine lv_iadd hx hb dL_law_827 ?_
  refine tvv (v := .int 3) (congrArg Value.int (by decide)) ?_
  refine va_sld hx hb hX hbl hbA hS (vi _ _ (by decide)) dL_law_828 ?_
  refine tvv (v := .int (xs 3)) (congrArg Value.int (congrArg xs (by decide))) ?_
  refine lv_aload_n hx hb dL_law_829 rfl (lv_at hl 3 rfl) ?_
  refine lv_iload_n hx hb dL_law_830 rfl (lv_at hl 0 rfl) ?_
  refine lv_iconst (v := 4) hx hb dL_law_831 (by decide) ?_
  refine lv_iadd hx hb dL_law_832 ?_
  refine tvv (v := .int 4) (congrArg Value.int (by decide)) ?_
  refine va_sld hx hb hX hbl hbA hS (vi _ _ (by decide)) dL_law_833 ?_
  refine tvv (v := .int (xs 4)) (congrArg Value.int (congrArg xs (by decide))) ?_
  refine lv_aload_n hx hb dL_law_834 rfl (lv_at hl 3 rfl) ?_
  refine lv_iload_n hx hb dL_law_835 rfl (lv_at hl 0 rfl) ?_
  refine lv_iconst (v := 5) hx hb dL_law_836 (by decide) ?_
  refine lv_iadd hx hb dL_law_837 ?_
  refine tvv (v := .int 5) (congrArg Value.int (by decide)) ?_
  refine va_sld hx hb hX hbl hbA hS (vi _ _ (by decide)) dL_law_838 ?_
  refine tvv (v := .int (xs 5)) (congrArg Value.int (congrArg xs (by decide))) ?_
  have hPc := hP.sub (ws' := [(q_1, .inr (7, [.ref q_3, .ref q_4, .ref q_5, .ref q_6, .ref q_7, .ref q_8, .ref q_9, .ref q_10, .ref q_11, .ref q_12, .int 0, .int (-1), .int (-1), .int 0]))]) [0] rfl
  have hDc := hD.sub (ws' := [(q_1, .inr (7, [.ref q_3, .ref q_4, .ref q_5, .ref q_6, .ref q_7, .ref q_8, .ref q_9, .ref q_10, .ref q_11, .ref q_12, .int 0, .int (-1), .int (-1), .int 0]))]) [0] (by decide) rfl
  have hKc := hK.sub (tys' := []) [] rfl
  have hFc := va_free (wc := [(q_1, .inr (7, [.ref q_3, .ref q_4, .ref q_5, .ref q_6, .ref q_7, .ref q_8, .ref q_9, .ref q_10, .ref q_11, .ref q_12, .int 0, .int (-1), .int (-1), .int 0]))]) hD hS hA [0] rfl
  refine va_calli (va_runV (As := [.int (xs 1), .int (xs 2), .int (xs 3), .int (xs 4), .int (xs 5)]) (rest := []) ⟨hx, hb, hml, hown, hts⟩ (c_x_near l dC dI H.size q_1 (xs 1) (xs 2) (xs 3) (xs 4) (xs 5) q_3 q_4 q_5 q_6 q_7 q_8 q_9 q_10 q_11 q_12 ) (cwV 5 hts gL_law_X7_near rfl rfl rfl (by decide +kernel) ⟨Nat.le_of_ble_eq_true rfl, Nat.le_of_ble_eq_true rfl⟩) (pre_V hPc hKc hDc hN (ci := 7) (q0 := 0) rfl rfl) rfl rfl hl.1 rfl (lv_room (Nat.le_of_ble_eq_true rfl)) dL_law_839 ⟨Nat.le_of_ble_eq_true rfl, Nat.le_of_ble_eq_true rfl⟩) hS (fun q _ h => hFc q h) hFc (fun r_501 u t H1 locs ht hvm hw hB hz1 hk1 hS => ?_)
  clear hPc hDc hKc
  have hw_502 := hw
  obtain ⟨hP, hD⟩ := va_join (wr := [(q_55, .inr (8, [.ref q_57, .ref q_58, .int 0, .ref q_59, .ref q_60, .ref q_61, .int 0, .ref q_62, .int 0, .int 0, .int 0, .ref q_63, .ref q_64, .int 0, .int (-1), .int (-1), .ref q_65, .ref q_66, .ref q_67, .ref q_68, .ref q_69, .ref q_70, .ref q_71]))]) (w1 := []) hP hD [0] [1] rfl rfl (by decide) (by decide) hk1 hFc nil_P nil_D
  generalize H1 = H at hP hS ⊢
  have hP : va_P (dC, dI) vwCl [(q_55, .inr (8, [.ref q_57, .ref q_58, .int 0, .ref q_59, .ref q_60, .ref q_61, .int 0, .ref q_62, .int 0, .int 0, .int 0, .ref q_63, .ref q_64, .int 0, .int (-1), .int (-1), .ref q_65, .ref q_66, .ref q_67, .ref q_68, .ref q_69, .ref q_70, .ref q_71]))] H := hP
  have hD : va_D A [(q_55, .inr (8, [.ref q_57, .ref q_58, .int 0, .ref q_59, .ref q_60, .ref q_61, .int 0, .ref q_62, .int 0, .int 0, .int 0, .ref q_63, .ref q_64, .int 0, .int (-1), .int (-1), .ref q_65, .ref q_66, .ref q_67, .ref q_68, .ref q_69, .ref q_70, .ref q_71]))] := hD
  refine lv_aload_n hx hb dL_law_842 rfl (lv_at hl 1 rfl) ?_
  refine lv_aload_n hx hb dL_law_843 rfl (lv_at hl 3 rfl) ?_
  refine lv_iload_n hx hb dL_law_844 rfl (lv_at hl 0 rfl) ?_
  refine lv_iconst (v := 1) hx hb dL_law_845 (by decide) ?_
  refine lv_iadd hx hb dL_law_846 ?_
  refine tvv (v := .int 1) (congrArg Value.int (by decide)) ?_
  refine va_sld hx hb hX hbl hbA hS (vi _ _ (by decide)) dL_law_847 ?_
  refine tvv (v := .int (xs 1)) (congrArg Value.int (congrArg xs (by decide))) ?_
  refine lv_aload_n hx hb dL_law_848 rfl (lv_at hl 3 rfl) ?_
  refine lv_iload_n hx hb dL_law_849 rfl (lv_at hl 0 rfl) ?_
  refine lv_iconst (v := 2) hx hb dL_law_850 (by decide) ?_
  refine lv_iadd hx hb dL_law_851 ?_
  refine tvv (v := .int 2) (congrArg Value.int (by decide)) ?_
  refine va_sld hx hb hX hbl hbA hS (vi _ _ (by decide)) dL_law_852 ?_
  refine tvv (v := .int (xs 2)) (congrArg Value.int (congrArg xs (by decide))) ?_
  refine lv_aload_n hx hb dL_law_853 rfl (lv_at hl 3 rfl) ?_
  refine lv_iload_n hx hb dL_law_854 rfl (lv_at hl 0 rfl) ?_
  refine lv_iconst (v := 3) hx hb dL_law_855 (by decide) ?_
  refine lv_iadd hx hb dL_law_856 ?_
  refine tvv (v := .int 3) (congrArg Value.int (by decide)) ?_
  refine va_sld hx hb hX hbl hbA hS (vi _ _ (by decide)) dL_law_857 ?_
  refine tvv (v := .int (xs 3)) (congrArg Value.int (congrArg xs (by decide))) ?_
  refine lv_aload_n hx hb dL_law_858 rfl (lv_at hl 3 rfl) ?_
  refine lv_iload_n hx hb dL_law_859 rfl (lv_at hl 0 rfl) ?_
  refine lv_iconst (v := 4) hx hb dL_law_860 (by decide) ?_
  refine lv_iadd hx hb dL_law_861 ?_
  refine tvv (v := .int 4) (congrArg Value.int (by decide)) ?_
  refine va_sld hx hb hX hbl hbA hS (vi _ _ (by decide)) dL_law_862 ?_
  refine tvv (v := .int (xs 4)) (congrArg Value.int (congrArg xs (by decide))) ?_
  refine lv_aload_n hx hb dL_law_863 rfl (lv_at hl 3 rfl) ?_
  refine lv_iload_n hx hb dL_law_864 rfl (lv_at hl 0 rfl) ?_
  refine lv_iconst (v := 5) hx hb dL_law_865 (by decide) ?_
  refine lv_iadd hx hb dL_law_866 ?_
  refine tvv (v := .int 5) (congrArg Value.int (by decide)) ?_
  refine va_sld hx hb hX hbl hbA hS (vi _ _ (by decide)) dL_law_867 ?_
  refine tvv (v := .int (xs 5)) (congrArg Value.int (congrArg xs (by decide))) ?_
  have hPc := hP.sub (ws' := [(q_55, .inr (8, [.ref q_57, .ref q_58, .int 0, .ref q_59, .ref q_60, .ref q_61, .int 0, .ref q_62, .int 0, .int 0, .int 0, .ref q_63, .ref q_64, .int 0, .int (-1), .int (-1), .ref q_65, .ref q_66, .ref q_67, .ref q_68, .ref q_69, .ref q_70, .ref q_71]))]) [0] rfl
  have hDc := hD.sub (ws' := [(q_55, .inr (8, [.ref q_57, .ref q_58, .int 0, .ref q_59, .ref q_60, .ref q_61, .int 0, .ref q_62, .int 0, .int 0, .int 0, .ref q_63, .ref q_64, .int 0, .int (-1), .int (-1), .ref q_65, .ref q_66, .ref q_67, .ref q_68, .ref q_69, .ref q_70, .ref q_71]))]) [0] (by decide) rfl
  have hKc := hK.sub (tys' := []) [] rfl
  have hFc := va_free (wc := [(q_55, .inr (8, [.ref q_57, .ref q_58, .int 0, .ref q_59, .ref q_60, .ref q_61, .int 0, .ref q_62, .int 0, .int 0, .int 0, .ref q_63, .ref q_64, .int 0, .int (-1), .int (-1), .ref q_65, .ref q_66, .ref q_67, .ref q_68, .ref q_69, .ref q_70, .ref q_71]))]) hD hS hA [0] rfl
  refine va_calli (va_runV (As := [.int (xs 1), .int (xs 2), .int (xs 3), .int (xs 4), .int (xs 5)]) (rest := [.int r_501]) ⟨hx, hb, hml, hown, hts⟩ (c_m_near l dC dI H.size q_55 (xs 1) (xs 2) (xs 3) (xs 4) (xs 5) q_57 q_58 q_59 q_60 q_61 q_62 q_63 q_64 q_65 q_66 q_67 q_68 q_69 q_70 q_71 ) (cwV 5 hts gL_law_X8_near rfl rfl rfl (by decide +kernel) ⟨Nat.le_of_ble_eq_true rfl, Nat.le_of_ble_eq_true rfl⟩) (pre_V hPc hKc hDc hN (ci := 8) (q0 := 0) rfl rfl) rfl rfl hl.1 rfl (lv_room (Nat.le_of_ble_eq_true rfl)) dL_law_868 ⟨Nat.le_of_ble_eq_true rfl, Nat.le_of_ble_eq_true rfl⟩) hS (fun q _ h => hFc q h) hFc (fun r_503 u t H1 locs ht hvm hw hB hz1 hk1 hS => ?_)
  clear hPc hDc hKc
  have hw_504 := hw
  obtain ⟨hP, hD⟩ := va_join (wr := []) (w1 := []) hP hD [0] [] rfl rfl (by decide) (by decide) hk1 hFc nil_P nil_D
  generalize H1 = H at hP hS ⊢
  have hP : va_P (dC, dI) vwCl [] H := hP
  have hD : va_D A [] := hD
  refine lv_icmp_eq (tgt := 922) hx hb dL_law_871 (by decide) (fun c_505 => ?_) (fun c_505 => ?_)
  · skip
    refine W.widen (k := 600000) (n := 7302250) (Nat.le_of_ble_eq_true rfl) (Nat.le_of_ble_eq_true rfl) ?_
    exact law_tail C0 hAi H locs ls q_1 q_55 hS hl
  · exact absurd (hw_502.trans hw_504.symm) c_505

set_option maxHeartbeats 4000000 in
set_option maxRecDepth 100000 in
/-- the law at turned -/
theorem law_20 {p : Program} {l : Launch} {e : Env} {s : State} {m : MethodId} {below : List Frame} {meth : Method} {c : Code} {dC : Nat → ClassId} {dI : Nat → Nat → Nat} {b : Nat} {xs : Nat → Int32} {A : Nat → Prop} (C0 : lw_At p s m meth c b 6 xs) (hN : nw s) (hA : ∀ q : Nat, s.heap.size ≤ q → A q) (hAi : ∀ q : Nat, A q → s.heap.size ≤ q) (q_1 : Nat) (q_3 : Nat) (q_4 : Nat) (q_5 : Nat) (q_6 : Nat) (q_7 : Nat) (q_8 : Nat) (q_9 : Nat) (q_10 : Nat) (q_11 : Nat) (q_12 : Nat) (q_55 : Nat) (q_57 : Nat) (q_58 : Nat) (q_59 : Nat) (q_60 : Nat) (q_61 : Nat) (q_62 : Nat) (q_63 : Nat) (q_64 : Nat) (q_65 : Nat) (q_66 : Nat) (q_67 : Nat) (q_68 : Nat) (q_69 : Nat) (q_70 : Nat) (q_71 : Nat) (H : Heap) (locs : List Loc) (ls : Array Slot) (hK : va_K (dC, dI) vwCl [] s) (hP : va_P (dC, dI) vwCl [(q_1, .inr (7, [.ref q_3, .ref q_4, .ref q_5, .ref q_6, .ref q_7, .ref q_8, .ref q_9, .ref q_10, .ref q_11, .ref q_12, .int 0, .int (-1), .int (-1), .int 0])), (q_55, .inr (8, [.ref q_57, .ref q_58, .int 0, .ref q_59, .ref q_60, .ref q_61, .int 0, .ref q_62, .int 0, .int 0, .int 0, .ref q_63, .ref q_64, .int 0, .int (-1), .int (-1), .ref q_65, .ref q_66, .ref q_67, .ref q_68, .ref q_69, .ref q_70, .ref q_71]))] H) (hD : va_D A [(q_1, .inr (7, [.ref q_3, .ref q_4, .ref q_5, .ref q_6, .ref q_7, .ref q_8, .ref q_9, .ref q_10, .ref q_11, .ref q_12, .int 0, .int (-1), .int (-1), .int 0])), (q_55, .inr (8, [.ref q_57, .ref q_58, .int 0, .ref q_59, .ref q_60, .ref q_61, .int 0, .ref q_62, .int 0, .int 0, .int 0, .ref q_63, .ref q_64, .int 0, .int (-1), .int (-1), .ref q_65, .ref q_66, .ref q_67, .ref q_68, .ref q_69, .ref q_70, .ref q_71]))]) (hS : va_S A s.heap H locs) (hl : lv_has ls 4 [(3, .int 0), (2, .ref q_55), (1, .ref q_1), (0, .ref b)]) : W p l e room_1 s m #[Value.ref b] below meth c H locs 46 149056 (lw_Z below #[Value.ref b] s) (F0 m 876 ls []) := by
  obtain ⟨hx, hb, hr, hml, hown, hts0, hX, hbl, hlocks, hgv⟩ := id C0
  have hts : ∀ w ∈ wsL_law, w.before #[Value.ref b] s = true := fun w h => hts0 w (wsL_law_in w h)
  have hown : s.vm.findClass RL = some m.cls := hown
  have hb : c.code = cL_law := hb
  have hbA : ¬ A b := fun q => absurd (hAi b q) (Nat.not_le.mpr hbl)
  refine lv_aload_n hx hb dL_law_876 rfl (lv_at hl 2 rfl) ?_
  refine lv_aload_n hx hb dL_law_877 rfl (lv_at hl 3 rfl) ?_
  refine lv_iload_n hx hb dL_law_878 rfl (lv_at hl 0 rfl) ?_
  refine lv_iconst (v := 1) hx hb dL_law_879 (by decide) ?_
  refine lv_iadd hx hb dL_law_880 ?_
  refine tvv (v := .int 1) (congrArg Value.int (by decide)) ?_
  refine va_sld hx hb hX hbl hbA hS (vi _ _ (by decide)) dL_law_881 ?_
  refine tvv (v := .int (xs 1)) (congrArg Value.int (congrArg xs (by decide))) ?_
  have hPc := hP.sub (ws' := [(q_1, .inr (7, [.ref q_3, .ref q_4, .ref q_5, .ref q_6, .ref q_7, .ref q_8, .ref q_9, .ref q_10, .ref q_11, .ref q_12, .int 0, .int (-1), .int (-1), .int 0]))]) [0] rfl
  have hDc := hD.sub (ws' := [(q_1, .inr (7, [.ref q_3, .ref q_4, .ref q_5, .ref q_6, .ref q_7, .ref q_8, .ref q_9, .ref q_10, .ref q_11, .ref q_12, .int 0, .int (-1), .int (-1), .int 0]))]) [0] (by decide) rfl
  have hKc := hK.sub (tys' := []) [] rfl
  have hFc := va_free (wc := [(q_1, .inr (7, [.ref q_3, .ref q_4, .ref q_5, .ref q_6, .ref q_7, .ref q_8, .ref q_9, .ref q_10, .ref q_11, .ref q_12, .int 0, .int (-1), .int (-1), .int 0]))]) hD hS hA [0] rfl
  refine va_calli (va_runV (As := [.int (xs 1)]) (rest := []) ⟨hx, hb, hml, hown, hts⟩ (c_x_turned l dC dI H.size q_1 (xs 1) q_3 q_4 q_5 q_6 q_7 q_8 q_9 q_10 q_11 q_12 ) (cwV 1 hts gL_law_X7_turned rfl rfl rfl (by decide +kernel) ⟨Nat.le_of_ble_eq_true rfl, Nat.le_of_ble_eq_true rfl⟩) (pre_V hPc hKc hDc hN (ci := 7) (q0 := 0) rfl rfl) rfl rfl hl.1 rfl (lv_room (Nat.le_of_ble_eq_true rfl)) dL_law_882 ⟨Nat.le_of_ble_eq_true rfl, Nat.le_of_ble_eq_true rfl⟩) hS (fun q _ h => hFc q h) hFc (fun r_501 u t H1 locs ht hvm hw hB hz1 hk1 hS => ?_)
  clear hPc hDc hKc
  have hw_502 := hw
  obtain ⟨hP, hD⟩ := va_join (wr := [(q_55, .inr (8, [.ref q_57, .ref q_58, .int 0, .ref q_59, .ref q_60, .ref q_61, .int 0, .ref q_62, .int 0, .int 0, .int 0, .ref q_63, .ref q_64, .int 0, .int (-1), .int (-1), .ref q_65, .ref q_66, .ref q_67, .ref q_68, .ref q_69, .ref q_70, .ref q_71]))]) (w1 := []) hP hD [0] [1] rfl rfl (by decide) (by decide) hk1 hFc nil_P nil_D
  generalize H1 = H at hP hS ⊢
  have hP : va_P (dC, dI) vwCl [(q_55, .inr (8, [.ref q_57, .ref q_58, .int 0, .ref q_59, .ref q_60, .ref q_61, .int 0, .ref q_62, .int 0, .int 0, .int 0, .ref q_63, .ref q_64, .int 0, .int (-1), .int (-1), .ref q_65, .ref q_66, .ref q_67, .ref q_68, .ref q_69, .ref q_70, .ref q_71]))] H := hP
  have hD : va_D A [(q_55, .inr (8, [.ref q_57, .ref q_58, .int 0, .ref q_59, .ref q_60, .ref q_61, .int 0, .ref q_62, .int 0, .int 0, .int 0, .ref q_63, .ref q_64, .int 0, .int (-1), .int (-1), .ref q_65, .ref q_66, .ref q_67, .ref q_68, .ref q_69, .ref q_70, .ref q_71]))] := hD
  refine lv_aload_n hx hb dL_law_885 rfl (lv_at hl 1 rfl) ?_
  refine lv_aload_n hx hb dL_law_886 rfl (lv_at hl 3 rfl) ?_
  refine lv_iload_n hx hb dL_law_887 rfl (lv_at hl 0 rfl) ?_
  refine lv_iconst (v := 1) hx hb dL_law_888 (by decide) ?_
  refine lv_iadd hx hb dL_law_889 ?_
  refine tvv (v := .int 1) (congrArg Value.int (by decide)) ?_
  refine va_sld hx hb hX hbl hbA hS (vi _ _ (by decide)) dL_law_890 ?_
  refine tvv (v := .int (xs 1)) (congrArg Value.int (congrArg xs (by decide))) ?_
  have hPc := hP.sub (ws' := [(q_55, .inr (8, [.ref q_57, .ref q_58, .int 0, .ref q_59, .ref q_60, .ref q_61, .int 0, .ref q_62, .int 0, .int 0, .int 0, .ref q_63, .ref q_64, .int 0, .int (-1), .int (-1), .ref q_65, .ref q_66, .ref q_67, .ref q_68, .ref q_69, .ref q_70, .ref q_71]))]) [0] rfl
  have hDc := hD.sub (ws' := [(q_55, .inr (8, [.ref q_57, .ref q_58, .int 0, .ref q_59, .ref q_60, .ref q_61, .int 0, .ref q_62, .int 0, .int 0, .int 0, .ref q_63, .ref q_64, .int 0, .int (-1), .int (-1), .ref q_65, .ref q_66, .ref q_67, .ref q_68, .ref q_69, .ref q_70, .ref q_71]))]) [0] (by decide) rfl
  have hKc := hK.sub (tys' := []) [] rfl
  have hFc := va_free (wc := [(q_55, .inr (8, [.ref q_57, .ref q_58, .int 0, .ref q_59, .ref q_60, .ref q_61, .int 0, .ref q_62, .int 0, .int 0, .int 0, .ref q_63, .ref q_64, .int 0, .int (-1), .int (-1), .ref q_65, .ref q_66, .ref q_67, .ref q_68, .ref q_69, .ref q_70, .ref q_71]))]) hD hS hA [0] rfl
  refine va_calli (va_runV (As := [.int (xs 1)]) (rest := [.int r_501]) ⟨hx, hb, hml, hown, hts⟩ (c_m_turned l dC dI H.size q_55 (xs 1) q_57 q_58 q_59 q_60 q_61 q_62 q_63 q_64 q_65 q_66 q_67 q_68 q_69 q_70 q_71 ) (cwV 1 hts gL_law_X8_turned rfl rfl rfl (by decide +kernel) ⟨Nat.le_of_ble_eq_true rfl, Nat.le_of_ble_eq_true rfl⟩) (pre_V hPc hKc hDc hN (ci := 8) (q0 := 0) rfl rfl) rfl rfl hl.1 rfl (lv_room (Nat.le_of_ble_eq_true rfl)) dL_law_891 ⟨Nat.le_of_ble_eq_true rfl, Nat.le_of_ble_eq_true rfl⟩) hS (fun q _ h => hFc q h) hFc (fun r_503 u t H1 locs ht hvm hw hB hz1 hk1 hS => ?_)
  clear hPc hDc hKc
  have hw_504 := hw
  obtain ⟨hP, hD⟩ := va_join (wr := []) (w1 := []) hP hD [0] [] rfl rfl (by decide) (by decide) hk1 hFc nil_P nil_D
  generalize H1 = H at hP hS ⊢
  have hP : va_P (dC, dI) vwCl [] H := hP
  have hD : va_D A [] := hD
  refine lv_icmp_eq (tgt := 922) hx hb dL_law_894 (by decide) (fun c_505 => ?_) (fun c_505 => ?_)
  · skip
    refine W.widen (k := 600000) (n := 7302250) (Nat.le_of_ble_eq_true rfl) (Nat.le_of_ble_eq_true rfl) ?_
    exact law_tail C0 hAi H locs ls q_1 q_55 hS hl
  · exact absurd (hw_502.trans hw_504.symm) c_505

set_option maxHeartbeats 4000000 in
set_option maxRecDepth 100000 in
/-- the law at count -/
theorem law_21 {p : Program} {l : Launch} {e : Env} {s : State} {m : MethodId} {below : List Frame} {meth : Method} {c : Code} {dC : Nat → ClassId} {dI : Nat → Nat → Nat} {b : Nat} {xs : Nat → Int32} {A : Nat → Prop} (C0 : lw_At p s m meth c b 6 xs) (hN : nw s) (hA : ∀ q : Nat, s.heap.size ≤ q → A q) (hAi : ∀ q : Nat, A q → s.heap.size ≤ q) (q_1 : Nat) (q_3 : Nat) (q_4 : Nat) (q_5 : Nat) (q_6 : Nat) (q_7 : Nat) (q_8 : Nat) (q_9 : Nat) (q_10 : Nat) (q_11 : Nat) (q_12 : Nat) (q_13 : Nat) (q_14 : Nat) (q_15 : Nat) (q_16 : Nat) (q_55 : Nat) (q_57 : Nat) (q_58 : Nat) (q_59 : Nat) (q_60 : Nat) (q_61 : Nat) (q_62 : Nat) (q_63 : Nat) (q_64 : Nat) (q_65 : Nat) (q_66 : Nat) (q_67 : Nat) (q_68 : Nat) (q_69 : Nat) (q_70 : Nat) (q_71 : Nat) (H : Heap) (locs : List Loc) (ls : Array Slot) (hK : va_K (dC, dI) vwCl [] s) (hP : va_P (dC, dI) vwCl [(q_1, .inr (7, [.ref q_3, .ref q_4, .ref q_5, .ref q_6, .ref q_7, .ref q_8, .ref q_9, .ref q_10, .ref q_11, .ref q_12, .int 0, .int (-1), .int (-1), .int 0])), (q_3, .inr (0, [.ref q_13, .ref q_14, .ref q_15, .ref q_16, .int 0])), (q_55, .inr (8, [.ref q_57, .ref q_58, .int 0, .ref q_59, .ref q_60, .ref q_61, .int 0, .ref q_62, .int 0, .int 0, .int 0, .ref q_63, .ref q_64, .int 0, .int (-1), .int (-1), .ref q_65, .ref q_66, .ref q_67, .ref q_68, .ref q_69, .ref q_70, .ref q_71]))] H) (hD : va_D A [(q_1, .inr (7, [.ref q_3, .ref q_4, .ref q_5, .ref q_6, .ref q_7, .ref q_8, .ref q_9, .ref q_10, .ref q_11, .ref q_12, .int 0, .int (-1), .int (-1), .int 0])), (q_3, .inr (0, [.ref q_13, .ref q_14, .ref q_15, .ref q_16, .int 0])), (q_55, .inr (8, [.ref q_57, .ref q_58, .int 0, .ref q_59, .ref q_60, .ref q_61, .int 0, .ref q_62, .int 0, .int 0, .int 0, .ref q_63, .ref q_64, .int 0, .int (-1), .int (-1), .ref q_65, .ref q_66, .ref q_67, .ref q_68, .ref q_69, .ref q_70, .ref q_71]))]) (hS : va_S A s.heap H locs) (hl : lv_has ls 4 [(3, .int 0), (2, .ref q_55), (1, .ref q_1), (0, .ref b)]) : W p l e room_1 s m #[Value.ref b] below meth c H locs 46 149056 (lw_Z below #[Value.ref b] s) (F0 m 899 ls []) := by
  obtain ⟨hx, hb, hr, hml, hown, hts0, hX, hbl, hlocks, hgv⟩ := id C0
  have hts : ∀ w ∈ wsL_law, w.before #[Value.ref b] s = true := fun w h => hts0 w (wsL_law_in w h)
  have hown : s.vm.findClass RL = some m.cls := hown
  have hb : c.code = cL_law := hb
  have hbA : ¬ A b := fun q => absurd (hAi b q) (Nat.not_le.mpr hbl)
  refine lv_aload_n hx hb dL_law_899 rfl (lv_at hl 2 rfl) ?_
  refine lv_aload_n hx hb dL_law_900 rfl (lv_at hl 3 rfl) ?_
  refine lv_iload_n hx hb dL_law_901 rfl (lv_at hl 0 rfl) ?_
  refine lv_iconst (v := 1) hx hb dL_law_902 (by decide) ?_
  refine lv_iadd hx hb dL_law_903 ?_
  refine tvv (v := .int 1) (congrArg Value.int (by decide)) ?_
  refine va_sld hx hb hX hbl hbA hS (vi _ _ (by decide)) dL_law_904 ?_
  refine tvv (v := .int (xs 1)) (congrArg Value.int (congrArg xs (by decide))) ?_
  have hPc := hP.sub (ws' := [(q_1, .inr (7, [.ref q_3, .ref q_4, .ref q_5, .ref q_6, .ref q_7, .ref q_8, .ref q_9, .ref q_10, .ref q_11, .ref q_12, .int 0, .int (-1), .int (-1), .int 0])), (q_3, .inr (0, [.ref q_13, .ref q_14, .ref q_15, .ref q_16, .int 0]))]) [0, 1] rfl
  have hDc := hD.sub (ws' := [(q_1, .inr (7, [.ref q_3, .ref q_4, .ref q_5, .ref q_6, .ref q_7, .ref q_8, .ref q_9, .ref q_10, .ref q_11, .ref q_12, .int 0, .int (-1), .int (-1), .int 0])), (q_3, .inr (0, [.ref q_13, .ref q_14, .ref q_15, .ref q_16, .int 0]))]) [0, 1] (by decide) rfl
  have hKc := hK.sub (tys' := []) [] rfl
  have hFc := va_free (wc := [(q_1, .inr (7, [.ref q_3, .ref q_4, .ref q_5, .ref q_6, .ref q_7, .ref q_8, .ref q_9, .ref q_10, .ref q_11, .ref q_12, .int 0, .int (-1), .int (-1), .int 0])), (q_3, .inr (0, [.ref q_13, .ref q_14, .ref q_15, .ref q_16, .int 0]))]) hD hS hA [0, 1] rfl
  refine va_calli (va_runV (As := [.int (xs 1)]) (rest := []) ⟨hx, hb, hml, hown, hts⟩ (c_x_count l dC dI H.size q_1 (xs 1) q_3 q_4 q_5 q_6 q_7 q_8 q_9 q_10 q_11 q_12 q_13 q_14 q_15 q_16 ) (cwV 1 hts gL_law_X7_count rfl rfl rfl (by decide +kernel) ⟨Nat.le_of_ble_eq_true rfl, Nat.le_of_ble_eq_true rfl⟩) (pre_V hPc hKc hDc hN (ci := 7) (q0 := 0) rfl rfl) rfl rfl hl.1 rfl (lv_room (Nat.le_of_ble_eq_true rfl)) dL_law_905 ⟨Nat.le_of_ble_eq_true rfl, Nat.le_of_ble_eq_true rfl⟩) hS (fun q _ h => hFc q h) hFc (fun r_501 u t H1 locs ht hvm hw hB hz1 hk1 hS => ?_)
  clear hPc hDc hKc
  have hw_502 := hw
  obtain ⟨hP, hD⟩ := va_join (wr := [(q_55, .inr (8, [.ref q_57, .ref q_58, .int 0, .ref q_59, .ref q_60, .ref q_61, .int 0, .ref q_62, .int 0, .int 0, .int 0, .ref q_63, .ref q_64, .int 0, .int (-1), .int (-1), .ref q_65, .ref q_66, .ref q_67, .ref q_68, .ref q_69, .ref q_70, .ref q_71]))]) (w1 := []) hP hD [0, 1] [2] rfl rfl (by decide) (by decide) hk1 hFc nil_P nil_D
  generalize H1 = H at hP hS ⊢
  have hP : va_P (dC, dI) vwCl [(q_55, .inr (8, [.ref q_57, .ref q_58, .int 0, .ref q_59, .ref q_60, .ref q_61, .int 0, .ref q_62, .int 0, .int 0, .int 0, .ref q_63, .ref q_64, .int 0, .int (-1), .int (-1), .ref q_65, .ref q_66, .ref q_67, .ref q_68, .ref q_69, .ref q_70, .ref q_71]))] H := hP
  have hD : va_D A [(q_55, .inr (8, [.ref q_57, .ref q_58, .int 0, .ref q_59, .ref q_60, .ref q_61, .int 0, .ref q_62, .int 0, .int 0, .int 0, .ref q_63, .ref q_64, .int 0, .int (-1), .int (-1), .ref q_65, .ref q_66, .ref q_67, .ref q_68, .ref q_69, .ref q_70, .ref q_71]))] := hD
  refine lv_aload_n hx hb dL_law_908 rfl (lv_at hl 1 rfl) ?_
  refine lv_aload_n hx hb dL_law_909 rfl (lv_at hl 3 rfl) ?_
  refine lv_iload_n hx hb dL_law_910 rfl (lv_at hl 0 rfl) ?_
  refine lv_iconst (v := 1) hx hb dL_law_911 (by decide) ?_
  refine lv_iadd hx hb dL_law_912 ?_
  refine tvv (v := .int 1) (congrArg Value.int (by decide)) ?_
  refine va_sld hx hb hX hbl hbA hS (vi _ _ (by decide)) dL_law_913 ?_
  refine tvv (v := .int (xs 1)) (congrArg Value.int (congrArg xs (by decide))) ?_
  have hPc := hP.sub (ws' := [(q_55, .inr (8, [.ref q_57, .ref q_58, .int 0, .ref q_59, .ref q_60, .ref q_61, .int 0, .ref q_62, .int 0, .int 0, .int 0, .ref q_63, .ref q_64, .int 0, .int (-1), .int (-1), .ref q_65, .ref q_66, .ref q_67, .ref q_68, .ref q_69, .ref q_70, .ref q_71]))]) [0] rfl
  have hDc := hD.sub (ws' := [(q_55, .inr (8, [.ref q_57, .ref q_58, .int 0, .ref q_59, .ref q_60, .ref q_61, .int 0, .ref q_62, .int 0, .int 0, .int 0, .ref q_63, .ref q_64, .int 0, .int (-1), .int (-1), .ref q_65, .ref q_66, .ref q_67, .ref q_68, .ref q_69, .ref q_70, .ref q_71]))]) [0] (by decide) rfl
  have hKc := hK.sub (tys' := []) [] rfl
  have hFc := va_free (wc := [(q_55, .inr (8, [.ref q_57, .ref q_58, .int 0, .ref q_59, .ref q_60, .ref q_61, .int 0, .ref q_62, .int 0, .int 0, .int 0, .ref q_63, .ref q_64, .int 0, .int (-1), .int (-1), .ref q_65, .ref q_66, .ref q_67, .ref q_68, .ref q_69, .ref q_70, .ref q_71]))]) hD hS hA [0] rfl
  refine va_calli (va_runV (As := [.int (xs 1)]) (rest := [.int r_501]) ⟨hx, hb, hml, hown, hts⟩ (c_m_count l dC dI H.size q_55 (xs 1) q_57 q_58 q_59 q_60 q_61 q_62 q_63 q_64 q_65 q_66 q_67 q_68 q_69 q_70 q_71 ) (cwV 1 hts gL_law_X8_count rfl rfl rfl (by decide +kernel) ⟨Nat.le_of_ble_eq_true rfl, Nat.le_of_ble_eq_true rfl⟩) (pre_V hPc hKc hDc hN (ci := 8) (q0 := 0) rfl rfl) rfl rfl hl.1 rfl (lv_room (Nat.le_of_ble_eq_true rfl)) dL_law_914 ⟨Nat.le_of_ble_eq_true rfl, Nat.le_of_ble_eq_true rfl⟩) hS (fun q _ h => hFc q h) hFc (fun r_503 u t H1 locs ht hvm hw hB hz1 hk1 hS => ?_)
  clear hPc hDc hKc
  have hw_504 := hw
  obtain ⟨hP, hD⟩ := va_join (wr := []) (w1 := []) hP hD [0] [] rfl rfl (by decide) (by decide) hk1 hFc nil_P nil_D
  generalize H1 = H at hP hS ⊢
  have hP : va_P (dC, dI) vwCl [] H := hP
  have hD : va_D A [] := hD
  refine lv_icmp_eq (tgt := 922) hx hb dL_law_917 (by decide) (fun c_505 => ?_) (fun c_505 => ?_)
  · skip
    refine W.widen (k := 600000) (n := 7302250) (Nat.le_of_ble_eq_true rfl) (Nat.le_of_ble_eq_true rfl) ?_
    exact law_tail C0 hAi H locs ls q_1 q_55 hS hl
  · exact absurd (pe hw_502 hw_504) c_505
