set_option maxHeartbeats 4000000 in
set_option maxRecDepth 100000 in
/-- the law at sort -/
theorem law_0 {p : Program} {l : Launch} {e : Env} {s : State} {m : MethodId} {below : List Frame} {meth : Method} {c : Code} {dC : Nat → ClassId} {dI : Nat → Nat → Nat} {b : Nat} {xs : Nat → Int32} {A : Nat → Prop} (C0 : lw_At p s m meth c b 6 xs) (hN : nw s) (hA : ∀ q : Nat, s.heap.size ≤ q → A q) (hAi : ∀ q : Nat, A q → s.heap.size ≤ q) (q_1 : Nat) (q_3 : Nat) (q_4 : Nat) (q_5 : Nat) (q_6 : Nat) (q_7 : Nat) (q_8 : Nat) (q_9 : Nat) (q_10 : Nat) (q_11 : Nat) (q_12 : Nat) (q_13 : Nat) (q_14 : Nat) (q_15 : Nat) (q_16 : Nat) (c_17 : ClassId) (q_55 : Nat) (q_57 : Nat) (q_58 : Nat) (q_59 : Nat) (q_60 : Nat) (q_61 : Nat) (q_62 : Nat) (q_63 : Nat) (q_64 : Nat) (q_65 : Nat) (q_66 : Nat) (q_67 : Nat) (q_68 : Nat) (q_69 : Nat) (q_70 : Nat) (q_71 : Nat) (c_74 : ClassId) (H : Heap) (locs : List Loc) (ls : Array Slot) (hK : va_K (dC, dI) vwCl [(c_17, .int), (c_74, .boolean)] s) (hP : va_P (dC, dI) vwCl [(q_1, .inr (7, [.ref q_3, .ref q_4, .ref q_5, .ref q_6, .ref q_7, .ref q_8, .ref q_9, .ref q_10, .ref q_11, .ref q_12, .int 0, .int (-1), .int (-1), .int 0])), (q_3, .inr (0, [.ref q_13, .ref q_14, .ref q_15, .ref q_16, .int 0])), (q_13, .inl (c_17, 8, .inl (fun _ => 0))), (q_55, .inr (8, [.ref q_57, .ref q_58, .int 0, .ref q_59, .ref q_60, .ref q_61, .int 0, .ref q_62, .int 0, .int 0, .int 0, .ref q_63, .ref q_64, .int 0, .int (-1), .int (-1), .ref q_65, .ref q_66, .ref q_67, .ref q_68, .ref q_69, .ref q_70, .ref q_71])), (q_59, .inl (c_74, 8, .inl (fun _ => 0)))] H) (hD : va_D A [(q_1, .inr (7, [.ref q_3, .ref q_4, .ref q_5, .ref q_6, .ref q_7, .ref q_8, .ref q_9, .ref q_10, .ref q_11, .ref q_12, .int 0, .int (-1), .int (-1), .int 0])), (q_3, .inr (0, [.ref q_13, .ref q_14, .ref q_15, .ref q_16, .int 0])), (q_13, .inl (c_17, 8, .inl (fun _ => 0))), (q_55, .inr (8, [.ref q_57, .ref q_58, .int 0, .ref q_59, .ref q_60, .ref q_61, .int 0, .ref q_62, .int 0, .int 0, .int 0, .ref q_63, .ref q_64, .int 0, .int (-1), .int (-1), .ref q_65, .ref q_66, .ref q_67, .ref q_68, .ref q_69, .ref q_70, .ref q_71])), (q_59, .inl (c_74, 8, .inl (fun _ => 0)))]) (hS : va_S A s.heap H locs) (hl : lv_has ls 4 [(3, .int 0), (2, .ref q_55), (1, .ref q_1), (0, .ref b)]) : W p l e room_1 s m #[Value.ref b] below meth c H locs 46 149056 (lw_Z below #[Value.ref b] s) (F0 m 136 ls []) := by
  obtain ⟨hx, hb, hr, hml, hown, hts0, hX, hbl, hlocks, hgv⟩ := id C0
  have hts : ∀ w ∈ wsL_law, w.before #[Value.ref b] s = true := fun w h => hts0 w (wsL_law_in w h)
  have hown : s.vm.findClass RL = some m.cls := hown
  have hb : c.code = cL_law := hb
  have hbA : ¬ A b := fun q => absurd (hAi b q) (Nat.not_le.mpr hbl)
  refine lv_aload_n hx hb dL_law_136 rfl (lv_at hl 2 rfl) ?_
  refine lv_aload_n hx hb dL_law_137 rfl (lv_at hl 3 rfl) ?_
  refine lv_iload_n hx hb dL_law_138 rfl (lv_at hl 0 rfl) ?_
  refine lv_iconst (v := 1) hx hb dL_law_139 (by decide) ?_
  refine lv_iadd hx hb dL_law_140 ?_
  refine tvv (v := .int 1) (congrArg Value.int (by decide)) ?_
  refine va_sld hx hb hX hbl hbA hS (vi _ _ (by decide)) dL_law_141 ?_
  refine tvv (v := .int (xs 1)) (congrArg Value.int (congrArg xs (by decide))) ?_
  refine lv_aload_n hx hb dL_law_142 rfl (lv_at hl 3 rfl) ?_
  refine lv_iload_n hx hb dL_law_143 rfl (lv_at hl 0 rfl) ?_
  refine lv_iconst (v := 2) hx hb dL_law_144 (by decide) ?_
  refine lv_iadd hx hb dL_law_145 ?_
  refine tvv (v := .int 2) (congrArg Value.int (by decide)) ?_
  refine va_sld hx hb hX hbl hbA hS (vi _ _ (by decide)) dL_law_146 ?_
  refine tvv (v := .int (xs 2)) (congrArg Value.int (congrArg xs (by decide))) ?_
  have hPc := hP.sub (ws' := [(q_1, .inr (7, [.ref q_3, .ref q_4, .ref q_5, .ref q_6, .ref q_7, .ref q_8, .ref q_9, .ref q_10, .ref q_11, .ref q_12, .int 0, .int (-1), .int (-1), .int 0])), (q_3, .inr (0, [.ref q_13, .ref q_14, .ref q_15, .ref q_16, .int 0])), (q_13, .inl (c_17, 8, .inl (fun _ => 0)))]) [0, 1, 2] rfl
  have hDc := hD.sub (ws' := [(q_1, .inr (7, [.ref q_3, .ref q_4, .ref q_5, .ref q_6, .ref q_7, .ref q_8, .ref q_9, .ref q_10, .ref q_11, .ref q_12, .int 0, .int (-1), .int (-1), .int 0])), (q_3, .inr (0, [.ref q_13, .ref q_14, .ref q_15, .ref q_16, .int 0])), (q_13, .inl (c_17, 8, .inl (fun _ => 0)))]) [0, 1, 2] (by decide) rfl
  have hKc := hK.sub (tys' := [(c_17, .int)]) [0] rfl
  have hFc := va_free (wc := [(q_1, .inr (7, [.ref q_3, .ref q_4, .ref q_5, .ref q_6, .ref q_7, .ref q_8, .ref q_9, .ref q_10, .ref q_11, .ref q_12, .int 0, .int (-1), .int (-1), .int 0])), (q_3, .inr (0, [.ref q_13, .ref q_14, .ref q_15, .ref q_16, .int 0])), (q_13, .inl (c_17, 8, .inl (fun _ => 0)))]) hD hS hA [0, 1, 2] rfl
  refine va_calli (va_runV (As := [.int (xs 1), .int (xs 2)]) (rest := []) ⟨hx, hb, hml, hown, hts⟩ (c_x_sort l dC dI H.size q_1 (xs 1) (xs 2) q_3 q_13 q_4 q_5 q_6 q_7 q_8 q_9 q_10 q_11 q_12 q_14 q_15 q_16 c_17 ) (cwV 2 hts gL_law_X7_sort rfl rfl rfl (by decide +kernel) ⟨Nat.le_of_ble_eq_true rfl, Nat.le_of_ble_eq_true rfl⟩) (pre_V hPc hKc hDc hN (ci := 7) (q0 := 0) rfl rfl) rfl rfl hl.1 rfl (lv_room (Nat.le_of_ble_eq_true rfl)) dL_law_147 ⟨Nat.le_of_ble_eq_true rfl, Nat.le_of_ble_eq_true rfl⟩) hS (fun q _ h => hFc q h) hFc (fun r_501 u t H1 locs ht hvm hw hB hz1 hk1 hS => ?_)
  clear hPc hDc hKc
  have hw_502 := hw
  obtain ⟨hP, hD⟩ := va_join (wr := [(q_55, .inr (8, [.ref q_57, .ref q_58, .int 0, .ref q_59, .ref q_60, .ref q_61, .int 0, .ref q_62, .int 0, .int 0, .int 0, .ref q_63, .ref q_64, .int 0, .int (-1), .int (-1), .ref q_65, .ref q_66, .ref q_67, .ref q_68, .ref q_69, .ref q_70, .ref q_71])), (q_59, .inl (c_74, 8, .inl (fun _ => 0)))]) (w1 := []) hP hD [0, 1, 2] [3, 4] rfl rfl (by decide) (by decide) hk1 hFc nil_P nil_D
  generalize H1 = H at hP hS ⊢
  have hP : va_P (dC, dI) vwCl [(q_55, .inr (8, [.ref q_57, .ref q_58, .int 0, .ref q_59, .ref q_60, .ref q_61, .int 0, .ref q_62, .int 0, .int 0, .int 0, .ref q_63, .ref q_64, .int 0, .int (-1), .int (-1), .ref q_65, .ref q_66, .ref q_67, .ref q_68, .ref q_69, .ref q_70, .ref q_71])), (q_59, .inl (c_74, 8, .inl (fun _ => 0)))] H := hP
  have hD : va_D A [(q_55, .inr (8, [.ref q_57, .ref q_58, .int 0, .ref q_59, .ref q_60, .ref q_61, .int 0, .ref q_62, .int 0, .int 0, .int 0, .ref q_63, .ref q_64, .int 0, .int (-1), .int (-1), .ref q_65, .ref q_66, .ref q_67, .ref q_68, .ref q_69, .ref q_70, .ref q_71])), (q_59, .inl (c_74, 8, .inl (fun _ => 0)))] := hD
  refine lv_aload_n hx hb dL_law_150 rfl (lv_at hl 1 rfl) ?_
  refine lv_aload_n hx hb dL_law_151 rfl (lv_at hl 3 rfl) ?_
  refine lv_iload_n hx hb dL_law_152 rfl (lv_at hl 0 rfl) ?_
  refine lv_iconst (v := 1) hx hb dL_law_153 (by decide) ?_
  refine lv_iadd hx hb dL_law_154 ?_
  refine tvv (v := .int 1) (congrArg Value.int (by decide)) ?_
  refine va_sld hx hb hX hbl hbA hS (vi _ _ (by decide)) dL_law_155 ?_
  refine tvv (v := .int (xs 1)) (congrArg Value.int (congrArg xs (by decide))) ?_
  refine lv_aload_n hx hb dL_law_156 rfl (lv_at hl 3 rfl) ?_
  refine lv_iload_n hx hb dL_law_157 rfl (lv_at hl 0 rfl) ?_
  refine lv_iconst (v := 2) hx hb dL_law_158 (by decide) ?_
  refine lv_iadd hx hb dL_law_159 ?_
  refine tvv (v := .int 2) (congrArg Value.int (by decide)) ?_
  refine va_sld hx hb hX hbl hbA hS (vi _ _ (by decide)) dL_law_160 ?_
  refine tvv (v := .int (xs 2)) (congrArg Value.int (congrArg xs (by decide))) ?_
  have hPc := hP.sub (ws' := [(q_55, .inr (8, [.ref q_57, .ref q_58, .int 0, .ref q_59, .ref q_60, .ref q_61, .int 0, .ref q_62, .int 0, .int 0, .int 0, .ref q_63, .ref q_64, .int 0, .int (-1), .int (-1), .ref q_65, .ref q_66, .ref q_67, .ref q_68, .ref q_69, .ref q_70, .ref q_71])), (q_59, .inl (c_74, 8, .inl (fun _ => 0)))]) [0, 1] rfl
  have hDc := hD.sub (ws' := [(q_55, .inr (8, [.ref q_57, .ref q_58, .int 0, .ref q_59, .ref q_60, .ref q_61, .int 0, .ref q_62, .int 0, .int 0, .int 0, .ref q_63, .ref q_64, .int 0, .int (-1), .int (-1), .ref q_65, .ref q_66, .ref q_67, .ref q_68, .ref q_69, .ref q_70, .ref q_71])), (q_59, .inl (c_74, 8, .inl (fun _ => 0)))]) [0, 1] (by decide) rfl
  have hKc := hK.sub (tys' := [(c_74, .boolean)]) [1] rfl
  have hFc := va_free (wc := [(q_55, .inr (8, [.ref q_57, .ref q_58, .int 0, .ref q_59, .ref q_60, .ref q_61, .int 0, .ref q_62, .int 0, .int 0, .int 0, .ref q_63, .ref q_64, .int 0, .int (-1), .int (-1), .ref q_65, .ref q_66, .ref q_67, .ref q_68, .ref q_69, .ref q_70, .ref q_71])), (q_59, .inl (c_74, 8, .inl (fun _ => 0)))]) hD hS hA [0, 1] rfl
  refine va_calli (va_runV (As := [.int (xs 1), .int (xs 2)]) (rest := [.int r_501]) ⟨hx, hb, hml, hown, hts⟩ (c_m_sort l dC dI H.size q_55 (xs 1) (xs 2) q_59 q_57 q_58 q_60 q_61 q_62 q_63 q_64 q_65 q_66 q_67 q_68 q_69 q_70 q_71 c_74 ) (cwV 2 hts gL_law_X8_sort rfl rfl rfl (by decide +kernel) ⟨Nat.le_of_ble_eq_true rfl, Nat.le_of_ble_eq_true rfl⟩) (pre_V hPc hKc hDc hN (ci := 8) (q0 := 0) rfl rfl) rfl rfl hl.1 rfl (lv_room (Nat.le_of_ble_eq_true rfl)) dL_law_161 ⟨Nat.le_of_ble_eq_true rfl, Nat.le_of_ble_eq_true rfl⟩) hS (fun q _ h => hFc q h) hFc (fun r_503 u t H1 locs ht hvm hw hB hz1 hk1 hS => ?_)
  clear hPc hDc hKc
  have hw_504 := hw
  obtain ⟨hP, hD⟩ := va_join (wr := []) (w1 := []) hP hD [0, 1] [] rfl rfl (by decide) (by decide) hk1 hFc nil_P nil_D
  generalize H1 = H at hP hS ⊢
  have hP : va_P (dC, dI) vwCl [] H := hP
  have hD : va_D A [] := hD
  refine lv_icmp_eq (tgt := 922) hx hb dL_law_164 (by decide) (fun c_505 => ?_) (fun c_505 => ?_)
  · skip
    refine W.widen (k := 600000) (n := 7302250) (Nat.le_of_ble_eq_true rfl) (Nat.le_of_ble_eq_true rfl) ?_
    exact law_tail C0 hAi H locs ls q_1 q_55 hS hl
  · exact absurd (pe hw_502 hw_504) c_505

set_option maxHeartbeats 4000000 in
set_option maxRecDepth 100000 in
/-- the law at add -/
theorem law_1 {p : Program} {l : Launch} {e : Env} {s : State} {m : MethodId} {below : List Frame} {meth : Method} {c : Code} {dC : Nat → ClassId} {dI : Nat → Nat → Nat} {b : Nat} {xs : Nat → Int32} {A : Nat → Prop} (C0 : lw_At p s m meth c b 6 xs) (hN : nw s) (hA : ∀ q : Nat, s.heap.size ≤ q → A q) (hAi : ∀ q : Nat, A q → s.heap.size ≤ q) (q_1 : Nat) (q_3 : Nat) (q_4 : Nat) (q_5 : Nat) (q_6 : Nat) (q_7 : Nat) (q_8 : Nat) (q_9 : Nat) (q_10 : Nat) (q_11 : Nat) (q_12 : Nat) (q_13 : Nat) (q_14 : Nat) (q_15 : Nat) (q_16 : Nat) (c_52 : ClassId) (c_18 : ClassId) (c_19 : ClassId) (c_20 : ClassId) (q_55 : Nat) (q_57 : Nat) (q_58 : Nat) (q_59 : Nat) (q_60 : Nat) (q_61 : Nat) (q_62 : Nat) (q_63 : Nat) (q_64 : Nat) (q_65 : Nat) (q_66 : Nat) (q_67 : Nat) (q_68 : Nat) (q_69 : Nat) (q_70 : Nat) (q_71 : Nat) (c_78 : ClassId) (c_72 : ClassId) (c_73 : ClassId) (H : Heap) (locs : List Loc) (ls : Array Slot) (hK : va_K (dC, dI) vwCl [(c_52, .int), (c_18, .int), (c_19, .int), (c_20, .int), (c_78, .int), (c_72, .int), (c_73, .int)] s) (hP : va_P (dC, dI) vwCl [(q_1, .inr (7, [.ref q_3, .ref q_4, .ref q_5, .ref q_6, .ref q_7, .ref q_8, .ref q_9, .ref q_10, .ref q_11, .ref q_12, .int 0, .int (-1), .int (-1), .int 0])), (q_3, .inr (0, [.ref q_13, .ref q_14, .ref q_15, .ref q_16, .int 0])), (q_10, .inl (c_52, 8, .inl (fun _ => 0))), (q_14, .inl (c_18, 300, .inl (fun _ => 0))), (q_15, .inl (c_19, 2400, .inl (fun _ => 0))), (q_16, .inl (c_20, 2400, .inl (fun _ => 0))), (q_55, .inr (8, [.ref q_57, .ref q_58, .int 0, .ref q_59, .ref q_60, .ref q_61, .int 0, .ref q_62, .int 0, .int 0, .int 0, .ref q_63, .ref q_64, .int 0, .int (-1), .int (-1), .ref q_65, .ref q_66, .ref q_67, .ref q_68, .ref q_69, .ref q_70, .ref q_71])), (q_63, .inl (c_78, 8, .inl (fun _ => 0))), (q_57, .inl (c_72, 2400, .inl (fun _ => 0))), (q_58, .inl (c_73, 300, .inl (fun _ => 0)))] H) (hD : va_D A [(q_1, .inr (7, [.ref q_3, .ref q_4, .ref q_5, .ref q_6, .ref q_7, .ref q_8, .ref q_9, .ref q_10, .ref q_11, .ref q_12, .int 0, .int (-1), .int (-1), .int 0])), (q_3, .inr (0, [.ref q_13, .ref q_14, .ref q_15, .ref q_16, .int 0])), (q_10, .inl (c_52, 8, .inl (fun _ => 0))), (q_14, .inl (c_18, 300, .inl (fun _ => 0))), (q_15, .inl (c_19, 2400, .inl (fun _ => 0))), (q_16, .inl (c_20, 2400, .inl (fun _ => 0))), (q_55, .inr (8, [.ref q_57, .ref q_58, .int 0, .ref q_59, .ref q_60, .ref q_61, .int 0, .ref q_62, .int 0, .int 0, .int 0, .ref q_63, .ref q_64, .int 0, .int (-1), .int (-1), .ref q_65, .ref q_66, .ref q_67, .ref q_68, .ref q_69, .ref q_70, .ref q_71])), (q_63, .inl (c_78, 8, .inl (fun _ => 0))), (q_57, .inl (c_72, 2400, .inl (fun _ => 0))), (q_58, .inl (c_73, 300, .inl (fun _ => 0)))]) (hS : va_S A s.heap H locs) (hl : lv_has ls 4 [(3, .int 0), (2, .ref q_55), (1, .ref q_1), (0, .ref b)]) : W p l e room_1 s m #[Value.ref b] below meth c H locs 46 149056 (lw_Z below #[Value.ref b] s) (F0 m 169 ls []) := by
  obtain ⟨hx, hb, hr, hml, hown, hts0, hX, hbl, hlocks, hgv⟩ := id C0
  have hts : ∀ w ∈ wsL_law, w.before #[Value.ref b] s = true := fun w h => hts0 w (wsL_law_in w h)
  have hown : s.vm.findClass RL = some m.cls := hown
  have hb : c.code = cL_law := hb
  have hbA : ¬ A b := fun q => absurd (hAi b q) (Nat.not_le.mpr hbl)
  refine lv_aload_n hx hb dL_law_169 rfl (lv_at hl 2 rfl) ?_
  refine lv_aload_n hx hb dL_law_170 rfl (lv_at hl 3 rfl) ?_
  refine lv_iload_n hx hb dL_law_171 rfl (lv_at hl 0 rfl) ?_
  refine lv_iconst (v := 1) hx hb dL_law_172 (by decide) ?_
  refine lv_iadd hx hb dL_law_173 ?_
  refine tvv (v := .int 1) (congrArg Value.int (by decide)) ?_
  refine va_sld hx hb hX hbl hbA hS (vi _ _ (by decide)) dL_law_174 ?_
  refine tvv (v := .int (xs 1)) (congrArg Value.int (congrArg xs (by decide))) ?_
  refine lv_aload_n hx hb dL_law_175 rfl (lv_at hl 3 rfl) ?_
  refine lv_iload_n hx hb dL_law_176 rfl (lv_at hl 0 rfl) ?_
  refine lv_iconst (v := 2) hx hb dL_law_177 (by decide) ?_
  refine lv_iadd hx hb dL_law_178 ?_
  refine tvv (v := .int 2) (congrArg Value.int (by decide)) ?_
  refine va_sld hx hb hX hbl hbA hS (vi _ _ (by decide)) dL_law_179 ?_
  refine tvv (v := .int (xs 2)) (congrArg Value.int (congrArg xs (by decide))) ?_
  refine lv_aload_n hx hb dL_law_180 rfl (lv_at hl 3 rfl) ?_
  refine lv_iload_n hx hb dL_law_181 rfl (lv_at hl 0 rfl) ?_
  refine lv_iconst (v := 3) hx hb dL_law_182 (by decide) ?_
  refine lv_iadd hx hb dL_law_183 ?_
  refine tvv (v := .int 3) (congrArg Value.int (by decide)) ?_
  refine va_sld hx hb hX hbl hbA hS (vi _ _ (by decide)) dL_law_184 ?_
  refine tvv (v := .int (xs 3)) (congrArg Value.int (congrArg xs (by decide))) ?_
  refine lv_aload_n hx hb dL_law_185 rfl (lv_at hl 3 rfl) ?_
  refine lv_iload_n hx hb dL_law_186 rfl (lv_at hl 0 rfl) ?_
  refine lv_iconst (v := 4) hx hb dL_law_187 (by decide) ?_
  refine lv_iadd hx hb dL_law_188 ?_
  refine tvv (v := .int 4) (congrArg Value.int (by decide)) ?_
  refine va_sld hx hb hX hbl hbA hS (vi _ _ (by decide)) dL_law_189 ?_
  refine tvv (v := .int (xs 4)) (congrArg Value.int (congrArg xs (by decide))) ?_
  refine lv_aload_n hx hb dL_law_190 rfl (lv_at hl 3 rfl) ?_
  refine lv_iload_n hx hb dL_law_191 rfl (lv_at hl 0 rfl) ?_
  refine lv_iconst (v := 5) hx hb dL_law_192 (by decide) ?_
  refine lv_iadd hx hb dL_law_193 ?_
  refine tvv (v := .int 5) (congrArg Value.int (by decide)) ?_
  refine va_sld hx hb hX hbl hbA hS (vi _ _ (by decide)) dL_law_194 ?_
  refine tvv (v := .int (xs 5)) (congrArg Value.int (congrArg xs (by decide))) ?_
  have hPc := hP.sub (ws' := [(q_1, .inr (7, [.ref q_3, .ref q_4, .ref q_5, .ref q_6, .ref q_7, .ref q_8, .ref q_9, .ref q_10, .ref q_11, .ref q_12, .int 0, .int (-1), .int (-1), .int 0])), (q_3, .inr (0, [.ref q_13, .ref q_14, .ref q_15, .ref q_16, .int 0])), (q_10, .inl (c_52, 8, .inl (fun _ => 0))), (q_14, .inl (c_18, 300, .inl (fun _ => 0))), (q_15, .inl (c_19, 2400, .inl (fun _ => 0))), (q_16, .inl (c_20, 2400, .inl (fun _ => 0)))]) [0, 1, 2, 3, 4, 5] rfl
  have hDc := hD.sub (ws' := [(q_1, .inr (7, [.ref q_3, .ref q_4, .ref q_5, .ref q_6, .ref q_7, .ref q_8, .ref q_9, .ref q_10, .ref q_11, .ref q_12, .int 0, .int (-1), .int (-1), .int 0])), (q_3, .inr (0, [.ref q_13, .ref q_14, .ref q_15, .ref q_16, .int 0])), (q_10, .inl (c_52, 8, .inl (fun _ => 0))), (q_14, .inl (c_18, 300, .inl (fun _ => 0))), (q_15, .inl (c_19, 2400, .inl (fun _ => 0))), (q_16, .inl (c_20, 2400, .inl (fun _ => 0)))]) [0, 1, 2, 3, 4, 5] (by decide) rfl
  have hKc := hK.sub (tys' := [(c_52, .int), (c_18, .int), (c_19, .int), (c_20, .int)]) [0, 1, 2, 3] rfl
  have hFc := va_free (wc := [(q_1, .inr (7, [.ref q_3, .ref q_4, .ref q_5, .ref q_6, .ref q_7, .ref q_8, .ref q_9, .ref q_10, .ref q_11, .ref q_12, .int 0, .int (-1), .int (-1), .int 0])), (q_3, .inr (0, [.ref q_13, .ref q_14, .ref q_15, .ref q_16, .int 0])), (q_10, .inl (c_52, 8, .inl (fun _ => 0))), (q_14, .inl (c_18, 300, .inl (fun _ => 0))), (q_15, .inl (c_19, 2400, .inl (fun _ => 0))), (q_16, .inl (c_20, 2400, .inl (fun _ => 0)))]) hD hS hA [0, 1, 2, 3, 4, 5] rfl
  refine va_calli (va_runV (As := [.int (xs 1), .int (xs 2), .int (xs 3), .int (xs 4), .int (xs 5)]) (rest := []) ⟨hx, hb, hml, hown, hts⟩ (c_x_add l dC dI H.size q_1 (xs 1) (xs 2) (xs 3) (xs 4) (xs 5) q_3 q_10 q_14 q_15 q_16 q_4 q_5 q_6 q_7 q_8 q_9 q_11 q_12 q_13 c_52 c_18 c_19 c_20 ) (cwV 5 hts gL_law_X7_add rfl rfl rfl (by decide +kernel) ⟨Nat.le_of_ble_eq_true rfl, Nat.le_of_ble_eq_true rfl⟩) (pre_V hPc hKc hDc hN (ci := 7) (q0 := 0) rfl rfl) rfl rfl hl.1 rfl (lv_room (Nat.le_of_ble_eq_true rfl)) dL_law_195 ⟨Nat.le_of_ble_eq_true rfl, Nat.le_of_ble_eq_true rfl⟩) hS (fun q _ h => hFc q h) hFc (fun r_501 u t H1 locs ht hvm hw hB hz1 hk1 hS => ?_)
  clear hPc hDc hKc
  have hw_502 := hw
  obtain ⟨hP, hD⟩ := va_join (wr := [(q_55, .inr (8, [.ref q_57, .ref q_58, .int 0, .ref q_59, .ref q_60, .ref q_61, .int 0, .ref q_62, .int 0, .int 0, .int 0, .ref q_63, .ref q_64, .int 0, .int (-1), .int (-1), .ref q_65, .ref q_66, .ref q_67, .ref q_68, .ref q_69, .ref q_70, .ref q_71])), (q_63, .inl (c_78, 8, .inl (fun _ => 0))), (q_57, .inl (c_72, 2400, .inl (fun _ => 0))), (q_58, .inl (c_73, 300, .inl (fun _ => 0)))]) (w1 := []) hP hD [0, 1, 2, 3, 4, 5] [6, 7, 8, 9] rfl rfl (by decide) (by decide) hk1 hFc nil_P nil_D
  generalize H1 = H at hP hS ⊢
  have hP : va_P (dC, dI) vwCl [(q_55, .inr (8, [.ref q_57, .ref q_58, .int 0, .ref q_59, .ref q_60, .ref q_61, .int 0, .ref q_62, .int 0, .int 0, .int 0, .ref q_63, .ref q_64, .int 0, .int (-1), .int (-1), .ref q_65, .ref q_66, .ref q_67, .ref q_68, .ref q_69, .ref q_70, .ref q_71])), (q_63, .inl (c_78, 8, .inl (fun _ => 0))), (q_57, .inl (c_72, 2400, .inl (fun _ => 0))), (q_58, .inl (c_73, 300, .inl (fun _ => 0)))] H := hP
  have hD : va_D A [(q_55, .inr (8, [.ref q_57, .ref q_58, .int 0, .ref q_59, .ref q_60, .ref q_61, .int 0, .ref q_62, .int 0, .int 0, .int 0, .ref q_63, .ref q_64, .int 0, .int (-1), .int (-1), .ref q_65, .ref q_66, .ref q_67, .ref q_68, .ref q_69, .ref q_70, .ref q_71])), (q_63, .inl (c_78, 8, .inl (fun _ => 0))), (q_57, .inl (c_72, 2400, .inl (fun _ => 0))), (q_58, .inl (c_73, 300, .inl (fun _ => 0)))] := hD
  refine lv_aload_n hx hb dL_law_198 rfl (lv_at hl 1 rfl) ?_
  refine lv_aload_n hx hb dL_law_199 rfl (lv_at hl 3 rfl) ?_
  refine lv_iload_n hx hb dL_law_200 rfl (lv_at hl 0 rfl) ?_
  refine lv_iconst (v := 1) hx hb dL_law_201 (by decide) ?_
  refine lv_iadd hx hb dL_law_202 ?_
  refine tvv (v := .int 1) (congrArg Value.int (by decide)) ?_
  refine va_sld hx hb hX hbl hbA hS (vi _ _ (by decide)) dL_law_203 ?_
  refine tvv (v := .int (xs 1)) (congrArg Value.int (congrArg xs (by decide))) ?_
  refine lv_aload_n hx hb dL_law_204 rfl (lv_at hl 3 rfl) ?_
  refine lv_iload_n hx hb dL_law_205 rfl (lv_at hl 0 rfl) ?_
  refine lv_iconst (v := 2) hx hb dL_law_206 (by decide) ?_
  refine lv_iadd hx hb dL_law_207 ?_
  refine tvv (v := .int 2) (congrArg Value.int (by decide)) ?_
  refine va_sld hx hb hX hbl hbA hS (vi _ _ (by decide)) dL_law_208 ?_
  refine tvv (v := .int (xs 2)) (congrArg Value.int (congrArg xs (by decide))) ?_
  refine lv_aload_n hx hb dL_law_209 rfl (lv_at hl 3 rfl) ?_
  refine lv_iload_n hx hb dL_law_210 rfl (lv_at hl 0 rfl) ?_
  refine lv_iconst (v := 3) hx hb dL_law_211 (by decide) ?_
  refine lv_iadd hx hb dL_law_212 ?_
  refine tvv (v := .int 3) (congrArg Value.int (by decide)) ?_
  refine va_sld hx hb hX hbl hbA hS (vi _ _ (by decide)) dL_law_213 ?_
  refine tvv (v := .int (xs 3)) (congrArg Value.int (congrArg xs (by decide))) ?_
  refine lv_aload_n hx hb dL_law_214 rfl (lv_at hl 3 rfl) ?_
  refine lv_iload_n hx hb dL_law_215 rfl (lv_at hl 0 rfl) ?_
  refine lv_iconst (v := 4) hx hb dL_law_216 (by decide) ?_
  refine lv_iadd hx hb dL_law_217 ?_
  refine tvv (v := .int 4) (congrArg Value.int (by decide)) ?_
  refine va_sld hx hb hX hbl hbA hS (vi _ _ (by decide)) dL_law_218 ?_
  refine tvv (v := .int (xs 4)) (congrArg Value.int (congrArg xs (by decide))) ?_
  refine lv_aload_n hx hb dL_law_219 rfl (lv_at hl 3 rfl) ?_
  refine lv_iload_n hx hb dL_law_220 rfl (lv_at hl 0 rfl) ?_
  refine lv_iconst (v := 5) hx hb dL_law_221 (by decide) ?_
  refine lv_iadd hx hb dL_law_222 ?_
  refine tvv (v := .int 5) (congrArg Value.int (by decide)) ?_
  refine va_sld hx hb hX hbl hbA hS (vi _ _ (by decide)) dL_law_223 ?_
  refine tvv (v := .int (xs 5)) (congrArg Value.int (congrArg xs (by decide))) ?_
  have hPc := hP.sub (ws' := [(q_55, .inr (8, [.ref q_57, .ref q_58, .int 0, .ref q_59, .ref q_60, .ref q_61, .int 0, .ref q_62, .int 0, .int 0, .int 0, .ref q_63, .ref q_64, .int 0, .int (-1), .int (-1), .ref q_65, .ref q_66, .ref q_67, .ref q_68, .ref q_69, .ref q_70, .ref q_71])), (q_63, .inl (c_78, 8, .inl (fun _ => 0))), (q_57, .inl (c_72, 2400, .inl (fun _ => 0))), (q_58, .inl (c_73, 300, .inl (fun _ => 0)))]) [0, 1, 2, 3] rfl
  have hDc := hD.sub (ws' := [(q_55, .inr (8, [.ref q_57, .ref q_58, .int 0, .ref q_59, .ref q_60, .ref q_61, .int 0, .ref q_62, .int 0, .int 0, .int 0, .ref q_63, .ref q_64, .int 0, .int (-1), .int (-1), .ref q_65, .ref q_66, .ref q_67, .ref q_68, .ref q_69, .ref q_70, .ref q_71])), (q_63, .inl (c_78, 8, .inl (fun _ => 0))), (q_57, .inl (c_72, 2400, .inl (fun _ => 0))), (q_58, .inl (c_73, 300, .inl (fun _ => 0)))]) [0, 1, 2, 3] (by decide) rfl
  have hKc := hK.sub (tys' := [(c_78, .int), (c_72, .int), (c_73, .int)]) [4, 5, 6] rfl
  have hFc := va_free (wc := [(q_55, .inr (8, [.ref q_57, .ref q_58, .int 0, .ref q_59, .ref q_60, .ref q_61, .int 0, .ref q_62, .int 0, .int 0, .int 0, .ref q_63, .ref q_64, .int 0, .int (-1), .int (-1), .ref q_65, .ref q_66, .ref q_67, .ref q_68, .ref q_69, .ref q_70, .ref q_71])), (q_63, .inl (c_78, 8, .inl (fun _ => 0))), (q_57, .inl (c_72, 2400, .inl (fun _ => 0))), (q_58, .inl (c_73, 300, .inl (fun _ => 0)))]) hD hS hA [0, 1, 2, 3] rfl
  refine va_calli (va_runV (As := [.int (xs 1), .int (xs 2), .int (xs 3), .int (xs 4), .int (xs 5)]) (rest := [.int r_501]) ⟨hx, hb, hml, hown, hts⟩ (c_m_add l dC dI H.size q_55 (xs 1) (xs 2) (xs 3) (xs 4) (xs 5) q_63 q_57 q_58 q_59 q_60 q_61 q_62 q_64 q_65 q_66 q_67 q_68 q_69 q_70 q_71 c_78 c_72 c_73 ) (cwV 5 hts gL_law_X8_add rfl rfl rfl (by decide +kernel) ⟨Nat.le_of_ble_eq_true rfl, Nat.le_of_ble_eq_true rfl⟩) (pre_V hPc hKc hDc hN (ci := 8) (q0 := 0) rfl rfl) rfl rfl hl.1 rfl (lv_room (Nat.le_of_ble_eq_true rfl)) dL_law_224 ⟨Nat.le_of_ble_eq_true rfl, Nat.le_of_ble_eq_true rfl⟩) hS (fun q _ h => hFc q h) hFc (fun r_503 u t H1 locs ht hvm hw hB hz1 hk1 hS => ?_)
  clear hPc hDc hKc
  have hw_504 := hw
  obtain ⟨hP, hD⟩ := va_join (wr := []) (w1 := []) hP hD [0, 1, 2, 3] [] rfl rfl (by decide) (by decide) hk1 hFc nil_P nil_D
  generalize H1 = H at hP hS ⊢
  have hP : va_P (dC, dI) vwCl [] H := hP
  have hD : va_D A [] := hD
  refine lv_icmp_eq (tgt := 922) hx hb dL_law_227 (by decide) (fun c_505 => ?_) (fun c_505 => ?_)
  · skip
    refine W.widen (k := 600000) (n := 7302250) (Nat.le_of_ble_eq_true rfl) (Nat.le_of_ble_eq_true rfl) ?_
    exact law_tail C0 hAi H locs ls q_1 q_55 hS hl
  · exact absurd (pe hw_502 hw_504) c_505

set_option maxHeartbeats 4000000 in
set_option maxRecDepth 100000 in
/-- the law at drop -/
theorem law_2 {p : Program} {l : Launch} {e : Env} {s : State} {m : MethodId} {below : List Frame} {meth : Method} {c : Code} {dC : Nat → ClassId} {dI : Nat → Nat → Nat} {b : Nat} {xs : Nat → Int32} {A : Nat → Prop} (C0 : lw_At p s m meth c b 6 xs) (hN : nw s) (hA : ∀ q : Nat, s.heap.size ≤ q → A q) (hAi : ∀ q : Nat, A q → s.heap.size ≤ q) (q_1 : Nat) (q_3 : Nat) (q_4 : Nat) (q_5 : Nat) (q_6 : Nat) (q_7 : Nat) (q_8 : Nat) (q_9 : Nat) (q_10 : Nat) (q_11 : Nat) (q_12 : Nat) (q_13 : Nat) (q_14 : Nat) (q_15 : Nat) (q_16 : Nat) (q_55 : Nat) (q_57 : Nat) (q_58 : Nat) (q_59 : Nat) (q_60 : Nat) (q_61 : Nat) (q_62 : Nat) (q_63 : Nat) (q_64 : Nat) (q_65 : Nat) (q_66 : Nat) (q_67 : Nat) (q_68 : Nat) (q_69 : Nat) (q_70 : Nat) (q_71 : Nat) (H : Heap) (locs : List Loc) (ls : Array Slot) (hK : va_K (dC, dI) vwCl [] s) (hP : va_P (dC, dI) vwCl [(q_1, .inr (7, [.ref q_3, .ref q_4, .ref q_5, .ref q_6, .ref q_7, .ref q_8, .ref q_9, .ref q_10, .ref q_11, .ref q_12, .int 0, .int (-1), .int (-1), .int 0])), (q_3, .inr (0, [.ref q_13, .ref q_14, .ref q_15, .ref q_16, .int 0])), (q_55, .inr (8, [.ref q_57, .ref q_58, .int 0, .ref q_59, .ref q_60, .ref q_61, .int 0, .ref q_62, .int 0, .int 0, .int 0, .ref q_63, .ref q_64, .int 0, .int (-1), .int (-1), .ref q_65, .ref q_66, .ref q_67, .ref q_68, .ref q_69, .ref q_70, .ref q_71]))] H) (hD : va_D A [(q_1, .inr (7, [.ref q_3, .ref q_4, .ref q_5, .ref q_6, .ref q_7, .ref q_8, .ref q_9, .ref q_10, .ref q_11, .ref q_12, .int 0, .int (-1), .int (-1), .int 0])), (q_3, .inr (0, [.ref q_13, .ref q_14, .ref q_15, .ref q_16, .int 0])), (q_55, .inr (8, [.ref q_57, .ref q_58, .int 0, .ref q_59, .ref q_60, .ref q_61, .int 0, .ref q_62, .int 0, .int 0, .int 0, .ref q_63, .ref q_64, .int 0, .int (-1), .int (-1), .ref q_65, .ref q_66, .ref q_67, .ref q_68, .ref q_69, .ref q_70, .ref q_71]))]) (hS : va_S A s.heap H locs) (hl : lv_has ls 4 [(3, .int 0), (2, .ref q_55), (1, .ref q_1), (0, .ref b)]) : W p l e room_1 s m #[Value.ref b] below meth c H locs 46 149056 (lw_Z below #[Value.ref b] s) (F0 m 232 ls []) := by
  obtain ⟨hx, hb, hr, hml, hown, hts0, hX, hbl, hlocks, hgv⟩ := id C0
  have hts : ∀ w ∈ wsL_law, w.before #[Value.ref b] s = true := fun w h => hts0 w (wsL_law_in w h)
  have hown : s.vm.findClass RL = some m.cls := hown
  have hb : c.code = cL_law := hb
  have hbA : ¬ A b := fun q => absurd (hAi b q) (Nat.not_le.mpr hbl)
  refine lv_aload_n hx hb dL_law_232 rfl (lv_at hl 2 rfl) ?_
  refine lv_aload_n hx hb dL_law_233 rfl (lv_at hl 3 rfl) ?_
  refine lv_iload_n hx hb dL_law_234 rfl (lv_at hl 0 rfl) ?_
  refine lv_iconst (v := 1) hx hb dL_law_235 (by decide) ?_
  refine lv_iadd hx hb dL_law_236 ?_
  refine tvv (v := .int 1) (congrArg Value.int (by decide)) ?_
  refine va_sld hx hb hX hbl hbA hS (vi _ _ (by decide)) dL_law_237 ?_
  refine tvv (v := .int (xs 1)) (congrArg Value.int (congrArg xs (by decide))) ?_
  have hPc := hP.sub (ws' := [(q_1, .inr (7, [.ref q_3, .ref q_4, .ref q_5, .ref q_6, .ref q_7, .ref q_8, .ref q_9, .ref q_10, .ref q_11, .ref q_12, .int 0, .int (-1), .int (-1), .int 0])), (q_3, .inr (0, [.ref q_13, .ref q_14, .ref q_15, .ref q_16, .int 0]))]) [0, 1] rfl
  have hDc := hD.sub (ws' := [(q_1, .inr (7, [.ref q_3, .ref q_4, .ref q_5, .ref q_6, .ref q_7, .ref q_8, .ref q_9, .ref q_10, .ref q_11, .ref q_12, .int 0, .int (-1), .int (-1), .int 0])), (q_3, .inr (0, [.ref q_13, .ref q_14, .ref q_15, .ref q_16, .int 0]))]) [0, 1] (by decide) rfl
  have hKc := hK.sub (tys' := []) [] rfl
  have hFc := va_free (wc := [(q_1, .inr (7, [.ref q_3, .ref q_4, .ref q_5, .ref q_6, .ref q_7, .ref q_8, .ref q_9, .ref q_10, .ref q_11, .ref q_12, .int 0, .int (-1), .int (-1), .int 0])), (q_3, .inr (0, [.ref q_13, .ref q_14, .ref q_15, .ref q_16, .int 0]))]) hD hS hA [0, 1] rfl
  refine va_calli (va_runV (As := [.int (xs 1)]) (rest := []) ⟨hx, hb, hml, hown, hts⟩ (c_x_drop l dC dI H.size q_1 (xs 1) q_3 q_4 q_5 q_6 q_7 q_8 q_9 q_10 q_11 q_12 q_13 q_14 q_15 q_16 ) (cwV 1 hts gL_law_X7_drop rfl rfl rfl (by decide +kernel) ⟨Nat.le_of_ble_eq_true rfl, Nat.le_of_ble_eq_true rfl⟩) (pre_V hPc hKc hDc hN (ci := 7) (q0 := 0) rfl rfl) rfl rfl hl.1 rfl (lv_room (Nat.le_of_ble_eq_true rfl)) dL_law_238 ⟨Nat.le_of_ble_eq_true rfl, Nat.le_of_ble_eq_true rfl⟩) hS (fun q _ h => hFc q h) hFc (fun r_501 u t H1 locs ht hvm hw hB hz1 hk1 hS => ?_)
  clear hPc hDc hKc
  have hw_502 := hw
  obtain ⟨hP, hD⟩ := va_join (wr := [(q_55, .inr (8, [.ref q_57, .ref q_58, .int 0, .ref q_59, .ref q_60, .ref q_61, .int 0, .ref q_62, .int 0, .int 0, .int 0, .ref q_63, .ref q_64, .int 0, .int (-1), .int (-1), .ref q_65, .ref q_66, .ref q_67, .ref q_68, .ref q_69, .ref q_70, .ref q_71]))]) (w1 := []) hP hD [0, 1] [2] rfl rfl (by decide) (by decide) hk1 hFc nil_P nil_D
  generalize H1 = H at hP hS ⊢
  have hP : va_P (dC, dI) vwCl [(q_55, .inr (8, [.ref q_57, .ref q_58, .int 0, .ref q_59, .ref q_60, .ref q_61, .int 0, .ref q_62, .int 0, .int 0, .int 0, .ref q_63, .ref q_64, .int 0, .int (-1), .int (-1), .ref q_65, .ref q_66, .ref q_67, .ref q_68, .ref q_69, .ref q_70, .ref q_71]))] H := hP
  have hD : va_D A [(q_55, .inr (8, [.ref q_57, .ref q_58, .int 0, .ref q_59, .ref q_60, .ref q_61, .int 0, .ref q_62, .int 0, .int 0, .int 0, .ref q_63, .ref q_64, .int 0, .int (-1), .int (-1), .ref q_65, .ref q_66, .ref q_67, .ref q_68, .ref q_69, .ref q_70, .ref q_71]))] := hD
  refine lv_aload_n hx hb dL_law_241 rfl (lv_at hl 1 rfl) ?_
  refine lv_aload_n hx hb dL_law_242 rfl (lv_at hl 3 rfl) ?_
  refine lv_iload_n hx hb dL_law_243 rfl (lv_at hl 0 rfl) ?_
  refine lv_iconst (v := 1) hx hb dL_law_244 (by decide) ?_
  refine lv_iadd hx hb dL_law_245 ?_
  refine tvv (v := .int 1) (congrArg Value.int (by decide)) ?_
  refine va_sld hx hb hX hbl hbA hS (vi _ _ (by decide)) dL_law_246 ?_
  refine tvv (v := .int (xs 1)) (congrArg Value.int (congrArg xs (by decide))) ?_
  have hPc := hP.sub (ws' := [(q_55, .inr (8, [.ref q_57, .ref q_58, .int 0, .ref q_59, .ref q_60, .ref q_61, .int 0, .ref q_62, .int 0, .int 0, .int 0, .ref q_63, .ref q_64, .int 0, .int (-1), .int (-1), .ref q_65, .ref q_66, .ref q_67, .ref q_68, .ref q_69, .ref q_70, .ref q_71]))]) [0] rfl
  have hDc := hD.sub (ws' := [(q_55, .inr (8, [.ref q_57, .ref q_58, .int 0, .ref q_59, .ref q_60, .ref q_61, .int 0, .ref q_62, .int 0, .int 0, .int 0, .ref q_63, .ref q_64, .int 0, .int (-1), .int (-1), .ref q_65, .ref q_66, .ref q_67, .ref q_68, .ref q_69, .ref q_70, .ref q_71]))]) [0] (by decide) rfl
  have hKc := hK.sub (tys' := []) [] rfl
  have hFc := va_free (wc := [(q_55, .inr (8, [.ref q_57, .ref q_58, .int 0, .ref q_59, .ref q_60, .ref q_61, .int 0, .ref q_62, .int 0, .int 0, .int 0, .ref q_63, .ref q_64, .int 0, .int (-1), .int (-1), .ref q_65, .ref q_66, .ref q_67, .ref q_68, .ref q_69, .ref q_70, .ref q_71]))]) hD hS hA [0] rfl
  refine va_calli (va_runV (As := [.int (xs 1)]) (rest := [.int r_501]) ⟨hx, hb, hml, hown, hts⟩ (c_m_drop l dC dI H.size q_55 (xs 1) q_57 q_58 q_59 q_60 q_61 q_62 q_63 q_64 q_65 q_66 q_67 q_68 q_69 q_70 q_71 ) (cwV 1 hts gL_law_X8_drop rfl rfl rfl (by decide +kernel) ⟨Nat.le_of_ble_eq_true rfl, Nat.le_of_ble_eq_true rfl⟩) (pre_V hPc hKc hDc hN (ci := 8) (q0 := 0) rfl rfl) rfl rfl hl.1 rfl (lv_room (Nat.le_of_ble_eq_true rfl)) dL_law_247 ⟨Nat.le_of_ble_eq_true rfl, Nat.le_of_ble_eq_true rfl⟩) hS (fun q _ h => hFc q h) hFc (fun r_503 u t H1 locs ht hvm hw hB hz1 hk1 hS => ?_)
  clear hPc hDc hKc
  have hw_504 := hw
  obtain ⟨hP, hD⟩ := va_join (wr := []) (w1 := []) hP hD [0] [] rfl rfl (by decide) (by decide) hk1 hFc nil_P nil_D
  generalize H1 = H at hP hS ⊢
  have hP : va_P (dC, dI) vwCl [] H := hP
  have hD : va_D A [] := hD
  refine lv_icmp_eq (tgt := 922) hx hb dL_law_250 (by decide) (fun c_505 => ?_) (fun c_505 => ?_)
  · skip
    refine W.widen (k := 600000) (n := 7302250) (Nat.le_of_ble_eq_true rfl) (Nat.le_of_ble_eq_true rfl) ?_
    exact law_tail C0 hAi H locs ls q_1 q_55 hS hl
  · exact absurd (hw_502.trans hw_504.symm) c_505

set_option maxHeartbeats 4000000 in
set_option maxRecDepth 100000 in
/-- the law at mark -/
theorem law_3 {p : Program} {l : Launch} {e : Env} {s : State} {m : MethodId} {below : List Frame} {meth : Method} {c : Code} {dC : Nat → ClassId} {dI : Nat → Nat → Nat} {b : Nat} {xs : Nat → Int32} {A : Nat → Prop} (C0 : lw_At p s m meth c b 6 xs) (hN : nw s) (hA : ∀ q : Nat, s.heap.size ≤ q → A q) (hAi : ∀ q : Nat, A q → s.heap.size ≤ q) (q_1 : Nat) (q_3 : Nat) (q_4 : Nat) (q_5 : Nat) (q_6 : Nat) (q_7 : Nat) (q_8 : Nat) (q_9 : Nat) (q_10 : Nat) (q_11 : Nat) (q_12 : Nat) (q_13 : Nat) (q_14 : Nat) (q_15 : Nat) (q_16 : Nat) (q_55 : Nat) (q_57 : Nat) (q_58 : Nat) (q_59 : Nat) (q_60 : Nat) (q_61 : Nat) (q_62 : Nat) (q_63 : Nat) (q_64 : Nat) (q_65 : Nat) (q_66 : Nat) (q_67 : Nat) (q_68 : Nat) (q_69 : Nat) (q_70 : Nat) (q_71 : Nat) (H : Heap) (locs : List Loc) (ls : Array Slot) (hK : va_K (dC, dI) vwCl [] s) (hP : va_P (dC, dI) vwCl [(q_1, .inr (7, [.ref q_3, .ref q_4, .ref q_5, .ref q_6, .ref q_7, .ref q_8, .ref q_9, .ref q_10, .ref q_11, .ref q_12, .int 0, .int (-1), .int (-1), .int 0])), (q_3, .inr (0, [.ref q_13, .ref q_14, .ref q_15, .ref q_16, .int 0])), (q_55, .inr (8, [.ref q_57, .ref q_58, .int 0, .ref q_59, .ref q_60, .ref q_61, .int 0, .ref q_62, .int 0, .int 0, .int 0, .ref q_63, .ref q_64, .int 0, .int (-1), .int (-1), .ref q_65, .ref q_66, .ref q_67, .ref q_68, .ref q_69, .ref q_70, .ref q_71]))] H) (hD : va_D A [(q_1, .inr (7, [.ref q_3, .ref q_4, .ref q_5, .ref q_6, .ref q_7, .ref q_8, .ref q_9, .ref q_10, .ref q_11, .ref q_12, .int 0, .int (-1), .int (-1), .int 0])), (q_3, .inr (0, [.ref q_13, .ref q_14, .ref q_15, .ref q_16, .int 0])), (q_55, .inr (8, [.ref q_57, .ref q_58, .int 0, .ref q_59, .ref q_60, .ref q_61, .int 0, .ref q_62, .int 0, .int 0, .int 0, .ref q_63, .ref q_64, .int 0, .int (-1), .int (-1), .ref q_65, .ref q_66, .ref q_67, .ref q_68, .ref q_69, .ref q_70, .ref q_71]))]) (hS : va_S A s.heap H locs) (hl : lv_has ls 4 [(3, .int 0), (2, .ref q_55), (1, .ref q_1), (0, .ref b)]) : W p l e room_1 s m #[Value.ref b] below meth c H locs 46 149056 (lw_Z below #[Value.ref b] s) (F0 m 255 ls []) := by
  obtain ⟨hx, hb, hr, hml, hown, hts0, hX, hbl, hlocks, hgv⟩ := id C0
  have hts : ∀ w ∈ wsL_law, w.before #[Value.ref b] s = true := fun w h => hts0 w (wsL_law_in w h)
  have hown : s.vm.findClass RL = some m.cls := hown
  have hb : c.code = cL_law := hb
  have hbA : ¬ A b := fun q => absurd (hAi b q) (Nat.not_le.mpr hbl)
  refine lv_aload_n hx hb dL_law_255 rfl (lv_at hl 2 rfl) ?_
  refine lv_aload_n hx hb dL_law_256 rfl (lv_at hl 3 rfl) ?_
  refine lv_iload_n hx hb dL_law_257 rfl (lv_at hl 0 rfl) ?_
  refine lv_iconst (v := 1) hx hb dL_law_258 (by decide) ?_
  refine lv_iadd hx hb dL_law_259 ?_
  refine tvv (v := .int 1) (congrArg Value.int (by decide)) ?_
  refine va_sld hx hb hX hbl hbA hS (vi _ _ (by decide)) dL_law_260 ?_
  refine tvv (v := .int (xs 1)) (congrArg Value.int (congrArg xs (by decide))) ?_
  refine lv_aload_n hx hb dL_law_261 rfl (lv_at hl 3 rfl) ?_
  refine lv_iload_n hx hb dL_law_262 rfl (lv_at hl 0 rfl) ?_
  refine lv_iconst (v := 2) hx hb dL_law_263 (by decide) ?_
  refine lv_iadd hx hb dL_law_264 ?_
  refine tvv (v := .int 2) (congrArg Value.int (by decide)) ?_
  refine va_sld hx hb hX hbl hbA hS (vi _ _ (by decide)) dL_law_265 ?_
  refine tvv (v := .int (xs 2)) (congrArg Value.int (congrArg xs (by decide))) ?_
  have hPc := hP.sub (ws' := [(q_1, .inr (7, [.ref q_3, .ref q_4, .ref q_5, .ref q_6, .ref q_7, .ref q_8, .ref q_9, .ref q_10, .ref q_11, .ref q_12, .int 0, .int (-1), .int (-1), .int 0])), (q_3, .inr (0, [.ref q_13, .ref q_14, .ref q_15, .ref q_16, .int 0]))]) [0, 1] rfl
  have hDc := hD.sub (ws' := [(q_1, .inr (7, [.ref q_3, .ref q_4, .ref q_5, .ref q_6, .ref q_7, .ref q_8, .ref q_9, .ref q_10, .ref q_11, .ref q_12, .int 0, .int (-1), .int (-1), .int 0])), (q_3, .inr (0, [.ref q_13, .ref q_14, .ref q_15, .ref q_16, .int 0]))]) [0, 1] (by decide) rfl
  have hKc := hK.sub (tys' := []) [] rfl
  have hFc := va_free (wc := [(q_1, .inr (7, [.ref q_3, .ref q_4, .ref q_5, .ref q_6, .ref q_7, .ref q_8, .ref q_9, .ref q_10, .ref q_11, .ref q_12, .int 0, .int (-1), .int (-1), .int 0])), (q_3, .inr (0, [.ref q_13, .ref q_14, .ref q_15, .ref q_16, .int 0]))]) hD hS hA [0, 1] rfl
  refine va_calli (va_runV (As := [.int (xs 1), .int (xs 2)]) (rest := []) ⟨hx, hb, hml, hown, hts⟩ (c_x_mark l dC dI H.size q_1 (xs 1) (xs 2) q_3 q_4 q_5 q_6 q_7 q_8 q_9 q_10 q_11 q_12 q_13 q_14 q_15 q_16 ) (cwV 2 hts gL_law_X7_mark rfl rfl rfl (by decide +kernel) ⟨Nat.le_of_ble_eq_true rfl, Nat.le_of_ble_eq_true rfl⟩) (pre_V hPc hKc hDc hN (ci := 7) (q0 := 0) rfl rfl) rfl rfl hl.1 rfl (lv_room (Nat.le_of_ble_eq_true rfl)) dL_law_266 ⟨Nat.le_of_ble_eq_true rfl, Nat.le_of_ble_eq_true rfl⟩) hS (fun q _ h => hFc q h) hFc (fun r_501 u t H1 locs ht hvm hw hB hz1 hk1 hS => ?_)
  clear hPc hDc hKc
  have hw_502 := hw
  obtain ⟨hP, hD⟩ := va_join (wr := [(q_55, .inr (8, [.ref q_57, .ref q_58, .int 0, .ref q_59, .ref q_60, .ref q_61, .int 0, .ref q_62, .int 0, .int 0, .int 0, .ref q_63, .ref q_64, .int 0, .int (-1), .int (-1), .ref q_65, .ref q_66, .ref q_67, .ref q_68, .ref q_69, .ref q_70, .ref q_71]))]) (w1 := []) hP hD [0, 1] [2] rfl rfl (by decide) (by decide) hk1 hFc nil_P nil_D
  generalize H1 = H at hP hS ⊢
  have hP : va_P (dC, dI) vwCl [(q_55, .inr (8, [.ref q_57, .ref q_58, .int 0, .ref q_59, .ref q_60, .ref q_61, .int 0, .ref q_62, .int 0, .int 0, .int 0, .ref q_63, .ref q_64, .int 0, .int (-1), .int (-1), .ref q_65, .ref q_66, .ref q_67, .ref q_68, .ref q_69, .ref q_70, .ref q_71]))] H := hP
  have hD : va_D A [(q_55, .inr (8, [.ref q_57, .ref q_58, .int 0, .ref q_59, .ref q_60, .ref q_61, .int 0, .ref q_62, .int 0, .int 0, .int 0, .ref q_63, .ref q_64, .int 0, .int (-1), .int (-1), .ref q_65, .ref q_66, .ref q_67, .ref q_68, .ref q_69, .ref q_70, .ref q_71]))] := hD
  refine lv_aload_n hx hb dL_law_269 rfl (lv_at hl 1 rfl) ?_
  refine lv_aload_n hx hb dL_law_270 rfl (lv_at hl 3 rfl) ?_
  refine lv_iload_n hx hb dL_law_271 rfl (lv_at hl 0 rfl) ?_
  refine lv_iconst (v := 1) hx hb dL_law_272 (by decide) ?_
  refine lv_iadd hx hb dL_law_273 ?_
  refine tvv (v := .int 1) (congrArg Value.int (by decide)) ?_
  refine va_sld hx hb hX hbl hbA hS (vi _ _ (by decide)) dL_law_274 ?_
  refine tvv (v := .int (xs 1)) (congrArg Value.int (congrArg xs (by decide))) ?_
  refine lv_aload_n hx hb dL_law_275 rfl (lv_at hl 3 rfl) ?_
  refine lv_iload_n hx hb dL_law_276 rfl (lv_at hl 0 rfl) ?_
  refine lv_iconst (v := 2) hx hb dL_law_277 (by decide) ?_
  refine lv_iadd hx hb dL_law_278 ?_
  refine tvv (v := .int 2) (congrArg Value.int (by decide)) ?_
  refine va_sld hx hb hX hbl hbA hS (vi _ _ (by decide)) dL_law_279 ?_
  refine tvv (v := .int (xs 2)) (congrArg Value.int (congrArg xs (by decide))) ?_
  have hPc := hP.sub (ws' := [(q_55, .inr (8, [.ref q_57, .ref q_58, .int 0, .ref q_59, .ref q_60, .ref q_61, .int 0, .ref q_62, .int 0, .int 0, .int 0, .ref q_63, .ref q_64, .int 0, .int (-1), .int (-1), .ref q_65, .ref q_66, .ref q_67, .ref q_68, .ref q_69, .ref q_70, .ref q_71]))]) [0] rfl
  have hDc := hD.sub (ws' := [(q_55, .inr (8, [.ref q_57, .ref q_58, .int 0, .ref q_59, .ref q_60, .ref q_61, .int 0, .ref q_62, .int 0, .int 0, .int 0, .ref q_63, .ref q_64, .int 0, .int (-1), .int (-1), .ref q_65, .ref q_66, .ref q_67, .ref q_68, .ref q_69, .ref q_70, .ref q_71]))]) [0] (by decide) rfl
  have hKc := hK.sub (tys' := []) [] rfl
  have hFc := va_free (wc := [(q_55, .inr (8, [.ref q_57, .ref q_58, .int 0, .ref q_59, .ref q_60, .ref q_61, .int 0, .ref q_62, .int 0, .int 0, .int 0, .ref q_63, .ref q_64, .int 0, .int (-1), .int (-1), .ref q_65, .ref q_66, .ref q_67, .ref q_68, .ref q_69, .ref q_70, .ref q_71]))]) hD hS hA [0] rfl
  refine va_calli (va_runV (As := [.int (xs 1), .int (xs 2)]) (rest := [.int r_501]) ⟨hx, hb, hml, hown, hts⟩ (c_m_mark l dC dI H.size q_55 (xs 1) (xs 2) q_57 q_58 q_59 q_60 q_61 q_62 q_63 q_64 q_65 q_66 q_67 q_68 q_69 q_70 q_71 ) (cwV 2 hts gL_law_X8_mark rfl rfl rfl (by decide +kernel) ⟨Nat.le_of_ble_eq_true rfl, Nat.le_of_ble_eq_true rfl⟩) (pre_V hPc hKc hDc hN (ci := 8) (q0 := 0) rfl rfl) rfl rfl hl.1 rfl (lv_room (Nat.le_of_ble_eq_true rfl)) dL_law_280 ⟨Nat.le_of_ble_eq_true rfl, Nat.le_of_ble_eq_true rfl⟩) hS (fun q _ h => hFc q h) hFc (fun r_503 u t H1 locs ht hvm hw hB hz1 hk1 hS => ?_)
  clear hPc hDc hKc
  have hw_504 := hw
  obtain ⟨hP, hD⟩ := va_join (wr := []) (w1 := []) hP hD [0] [] rfl rfl (by decide) (by decide) hk1 hFc nil_P nil_D
  generalize H1 = H at hP hS ⊢
  have hP : va_P (dC, dI) vwCl [] H := hP
  have hD : va_D A [] := hD
  refine lv_icmp_eq (tgt := 922) hx hb dL_law_283 (by decide) (fun c_505 => ?_) (fun c_505 => ?_)
  · skip
    refine W.widen (k := 600000) (n := 7302250) (Nat.le_of_ble_eq_true rfl) (Nat.le_of_ble_eq_true rfl) ?_
    exact law_tail C0 hAi H locs ls q_1 q_55 hS hl
  · exact absurd (hw_502.trans hw_504.symm) c_505

set_option maxHeartbeats 4000000 in
set_option maxRecDepth 100000 in
/-- the law at cls -/
theorem law_4 {p : Program} {l : Launch} {e : Env} {s : State} {m : MethodId} {below : List Frame} {meth : Method} {c : Code} {dC : Nat → ClassId} {dI : Nat → Nat → Nat} {b : Nat} {xs : Nat → Int32} {A : Nat → Prop} (C0 : lw_At p s m meth c b 6 xs) (hN : nw s) (hA : ∀ q : Nat, s.heap.size ≤ q → A q) (hAi : ∀ q : Nat, A q → s.heap.size ≤ q) (q_1 : Nat) (q_3 : Nat) (q_4 : Nat) (q_5 : Nat) (q_6 : Nat) (q_7 : Nat) (q_8 : Nat) (q_9 : Nat) (q_10 : Nat) (q_11 : Nat) (q_12 : Nat) (q_13 : Nat) (q_14 : Nat) (q_15 : Nat) (q_16 : Nat) (q_55 : Nat) (q_57 : Nat) (q_58 : Nat) (q_59 : Nat) (q_60 : Nat) (q_61 : Nat) (q_62 : Nat) (q_63 : Nat) (q_64 : Nat) (q_65 : Nat) (q_66 : Nat) (q_67 : Nat) (q_68 : Nat) (q_69 : Nat) (q_70 : Nat) (q_71 : Nat) (H : Heap) (locs : List Loc) (ls : Array Slot) (hK : va_K (dC, dI) vwCl [] s) (hP : va_P (dC, dI) vwCl [(q_1, .inr (7, [.ref q_3, .ref q_4, .ref q_5, .ref q_6, .ref q_7, .ref q_8, .ref q_9, .ref q_10, .ref q_11, .ref q_12, .int 0, .int (-1), .int (-1), .int 0])), (q_3, .inr (0, [.ref q_13, .ref q_14, .ref q_15, .ref q_16, .int 0])), (q_55, .inr (8, [.ref q_57, .ref q_58, .int 0, .ref q_59, .ref q_60, .ref q_61, .int 0, .ref q_62, .int 0, .int 0, .int 0, .ref q_63, .ref q_64, .int 0, .int (-1), .int (-1), .ref q_65, .ref q_66, .ref q_67, .ref q_68, .ref q_69, .ref q_70, .ref q_71]))] H) (hD : va_D A [(q_1, .inr (7, [.ref q_3, .ref q_4, .ref q_5, .ref q_6, .ref q_7, .ref q_8, .ref q_9, .ref q_10, .ref q_11, .ref q_12, .int 0, .int (-1), .int (-1), .int 0])), (q_3, .inr (0, [.ref q_13, .ref q_14, .ref q_15, .ref q_16, .int 0])), (q_55, .inr (8, [.ref q_57, .ref q_58, .int 0, .ref q_59, .ref q_60, .ref q_61, .int 0, .ref q_62, .int 0, .int 0, .int 0, .ref q_63, .ref q_64, .int 0, .int (-1), .int (-1), .ref q_65, .ref q_66, .ref q_67, .ref q_68, .ref q_69, .ref q_70, .ref q_71]))]) (hS : va_S A s.heap H locs) (hl : lv_has ls 4 [(3, .int 0), (2, .ref q_55), (1, .ref q_1), (0, .ref b)]) : W p l e room_1 s m #[Value.ref b] below meth c H locs 46 149056 (lw_Z below #[Value.ref b] s) (F0 m 288 ls []) := by
  obtain ⟨hx, hb, hr, hml, hown, hts0, hX, hbl, hlocks, hgv⟩ := id C0
  have hts : ∀ w ∈ wsL_law, w.before #[Value.ref b] s = true := fun w h => hts0 w (wsL_law_in w h)
  have hown : s.vm.findClass RL = some m.cls := hown
  have hb : c.code = cL_law := hb
  have hbA : ¬ A b := fun q => absurd (hAi b q) (Nat.not_le.mpr hbl)
  refine lv_aload_n hx hb dL_law_288 rfl (lv_at hl 2 rfl) ?_
  refine lv_aload_n hx hb dL_law_289 rfl (lv_at hl 3 rfl) ?_
  refine lv_iload_n hx hb dL_law_290 rfl (lv_at hl 0 rfl) ?_
  refine lv_iconst (v := 1) hx hb dL_law_291 (by decide) ?_
  refine lv_iadd hx hb dL_law_292 ?_
  refine tvv (v := .int 1) (congrArg Value.int (by decide)) ?_
  refine va_sld hx hb hX hbl hbA hS (vi _ _ (by decide)) dL_law_293 ?_
  refine tvv (v := .int (xs 1)) (congrArg Value.int (congrArg xs (by decide))) ?_
  have hPc := hP.sub (ws' := [(q_1, .inr (7, [.ref q_3, .ref q_4, .ref q_5, .ref q_6, .ref q_7, .ref q_8, .ref q_9, .ref q_10, .ref q_11, .ref q_12, .int 0, .int (-1), .int (-1), .int 0])), (q_3, .inr (0, [.ref q_13, .ref q_14, .ref q_15, .ref q_16, .int 0]))]) [0, 1] rfl
  have hDc := hD.sub (ws' := [(q_1, .inr (7, [.ref q_3, .ref q_4, .ref q_5, .ref q_6, .ref q_7, .ref q_8, .ref q_9, .ref q_10, .ref q_11, .ref q_12, .int 0, .int (-1), .int (-1), .int 0])), (q_3, .inr (0, [.ref q_13, .ref q_14, .ref q_15, .ref q_16, .int 0]))]) [0, 1] (by decide) rfl
  have hKc := hK.sub (tys' := []) [] rfl
  have hFc := va_free (wc := [(q_1, .inr (7, [.ref q_3, .ref q_4, .ref q_5, .ref q_6, .ref q_7, .ref q_8, .ref q_9, .ref q_10, .ref q_11, .ref q_12, .int 0, .int (-1), .int (-1), .int 0])), (q_3, .inr (0, [.ref q_13, .ref q_14, .ref q_15, .ref q_16, .int 0]))]) hD hS hA [0, 1] rfl
  refine va_calli (va_runV (As := [.int (xs 1)]) (rest := []) ⟨hx, hb, hml, hown, hts⟩ (c_x_cls l dC dI H.size q_1 (xs 1) q_3 q_4 q_5 q_6 q_7 q_8 q_9 q_10 q_11 q_12 q_13 q_14 q_15 q_16 ) (cwV 1 hts gL_law_X7_cls rfl rfl rfl (by decide +kernel) ⟨Nat.le_of_ble_eq_true rfl, Nat.le_of_ble_eq_true rfl⟩) (pre_V hPc hKc hDc hN (ci := 7) (q0 := 0) rfl rfl) rfl rfl hl.1 rfl (lv_room (Nat.le_of_ble_eq_true rfl)) dL_law_294 ⟨Nat.le_of_ble_eq_true rfl, Nat.le_of_ble_eq_true rfl⟩) hS (fun q _ h => hFc q h) hFc (fun r_501 u t H1 locs ht hvm hw hB hz1 hk1 hS => ?_)
  clear hPc hDc hKc
  have hw_502 := hw
  obtain ⟨hP, hD⟩ := va_join (wr := [(q_55, .inr (8, [.ref q_57, .ref q_58, .int 0, .ref q_59, .ref q_60, .ref q_61, .int 0, .ref q_62, .int 0, .int 0, .int 0, .ref q_63, .ref q_64, .int 0, .int (-1), .int (-1), .ref q_65, .ref q_66, .ref q_67, .ref q_68, .ref q_69, .ref q_70, .ref q_71]))]) (w1 := []) hP hD [0, 1] [2] rfl rfl (by decide) (by decide) hk1 hFc nil_P nil_D
  generalize H1 = H at hP hS ⊢
  have hP : va_P (dC, dI) vwCl [(q_55, .inr (8, [.ref q_57, .ref q_58, .int 0, .ref q_59, .ref q_60, .ref q_61, .int 0, .ref q_62, .int 0, .int 0, .int 0, .ref q_63, .ref q_64, .int 0, .int (-1), .int (-1), .ref q_65, .ref q_66, .ref q_67, .ref q_68, .ref q_69, .ref q_70, .ref q_71]))] H := hP
  have hD : va_D A [(q_55, .inr (8, [.ref q_57, .ref q_58, .int 0, .ref q_59, .ref q_60, .ref q_61, .int 0, .ref q_62, .int 0, .int 0, .int 0, .ref q_63, .ref q_64, .int 0, .int (-1), .int (-1), .ref q_65, .ref q_66, .ref q_67, .ref q_68, .ref q_69, .ref q_70, .ref q_71]))] := hD
  refine lv_aload_n hx hb dL_law_297 rfl (lv_at hl 1 rfl) ?_
  refine lv_aload_n hx hb dL_law_298 rfl (lv_at hl 3 rfl) ?_
  refine lv_iload_n hx hb dL_law_299 rfl (lv_at hl 0 rfl) ?_
  refine lv_iconst (v := 1) hx hb dL_law_300 (by decide) ?_
  refine lv_iadd hx hb dL_law_301 ?_
  refine tvv (v := .int 1) (congrArg Value.int (by decide)) ?_
  refine va_sld hx hb hX hbl hbA hS (vi _ _ (by decide)) dL_law_302 ?_
  refine tvv (v := .int (xs 1)) (congrArg Value.int (congrArg xs (by decide))) ?_
  have hPc := hP.sub (ws' := [(q_55, .inr (8, [.ref q_57, .ref q_58, .int 0, .ref q_59, .ref q_60, .ref q_61, .int 0, .ref q_62, .int 0, .int 0, .int 0, .ref q_63, .ref q_64, .int 0, .int (-1), .int (-1), .ref q_65, .ref q_66, .ref q_67, .ref q_68, .ref q_69, .ref q_70, .ref q_71]))]) [0] rfl
  have hDc := hD.sub (ws' := [(q_55, .inr (8, [.ref q_57, .ref q_58, .int 0, .ref q_59, .ref q_60, .ref q_61, .int 0, .ref q_62, .int 0, .int 0, .int 0, .ref q_63, .ref q_64, .int 0, .int (-1), .int (-1), .ref q_65, .ref q_66, .ref q_67, .ref q_68, .ref q_69, .ref q_70, .ref q_71]))]) [0] (by decide) rfl
  have hKc := hK.sub (tys' := []) [] rfl
  have hFc := va_free (wc := [(q_55, .inr (8, [.ref q_57, .ref q_58, .int 0, .ref q_59, .ref q_60, .ref q_61, .int 0, .ref q_62, .int 0, .int 0, .int 0, .ref q_63, .ref q_64, .int 0, .int (-1), .int (-1), .ref q_65, .ref q_66, .ref q_67, .ref q_68, .ref q_69, .ref q_70, .ref q_71]))]) hD hS hA [0] rfl
  refine va_calli (va_runV (As := [.int (xs 1)]) (rest := [.int r_501]) ⟨hx, hb, hml, hown, hts⟩ (c_m_cls l dC dI H.size q_55 (xs 1) q_57 q_58 q_59 q_60 q_61 q_62 q_63 q_64 q_65 q_66 q_67 q_68 q_69 q_70 q_71 ) (cwV 1 hts gL_law_X8_cls rfl rfl rfl (by decide +kernel) ⟨Nat.le_of_ble_eq_true rfl, Nat.le_of_ble_eq_true rfl⟩) (pre_V hPc hKc hDc hN (ci := 8) (q0 := 0) rfl rfl) rfl rfl hl.1 rfl (lv_room (Nat.le_of_ble_eq_true rfl)) dL_law_303 ⟨Nat.le_of_ble_eq_true rfl, Nat.le_of_ble_eq_true rfl⟩) hS (fun q _ h => hFc q h) hFc (fun r_503 u t H1 locs ht hvm hw hB hz1 hk1 hS => ?_)
  clear hPc hDc hKc
  have hw_504 := hw
  obtain ⟨hP, hD⟩ := va_join (wr := []) (w1 := []) hP hD [0] [] rfl rfl (by decide) (by decide) hk1 hFc nil_P nil_D
  generalize H1 = H at hP hS ⊢
  have hP : va_P (dC, dI) vwCl [] H := hP
  have hD : va_D A [] := hD
  refine lv_icmp_eq (tgt := 922) hx hb dL_law_306 (by decide) (fun c_505 => ?_) (fun c_505 => ?_)
  · skip
    refine W.widen (k := 600000) (n := 7302250) (Nat.le_of_ble_eq_true rfl) (Nat.le_of_ble_eq_true rfl) ?_
    exact law_tail C0 hAi H locs ls q_1 q_55 hS hl
  · exact absurd (hw_502.trans hw_504.symm) c_505

set_option maxHeartbeats 4000000 in
set_option maxRecDepth 100000 in
/-- the law at grow -/
theorem law_5 {p : Program} {l : Launch} {e : Env} {s : State} {m : MethodId} {below : List Frame} {meth : Method} {c : Code} {dC : Nat → ClassId} {dI : Nat → Nat → Nat} {b : Nat} {xs : Nat → Int32} {A : Nat → Prop} (C0 : lw_At p s m meth c b 6 xs) (hN : nw s) (hA : ∀ q : Nat, s.heap.size ≤ q → A q) (hAi : ∀ q : Nat, A q → s.heap.size ≤ q) (q_1 : Nat) (q_3 : Nat) (q_4 : Nat) (q_5 : Nat) (q_6 : Nat) (q_7 : Nat) (q_8 : Nat) (q_9 : Nat) (q_10 : Nat) (q_11 : Nat) (q_12 : Nat) (q_13 : Nat) (q_14 : Nat) (q_15 : Nat) (q_16 : Nat) (q_21 : Nat) (q_22 : Nat) (q_23 : Nat) (c_20 : ClassId) (c_24 : ClassId) (q_27 : Nat) (q_28 : Nat) (q_29 : Nat) (c_30 : ClassId) (c_51 : ClassId) (q_55 : Nat) (q_57 : Nat) (q_58 : Nat) (q_59 : Nat) (q_60 : Nat) (q_61 : Nat) (q_62 : Nat) (q_63 : Nat) (q_64 : Nat) (q_65 : Nat) (q_66 : Nat) (q_67 : Nat) (q_68 : Nat) (q_69 : Nat) (q_70 : Nat) (q_71 : Nat) (c_80 : ClassId) (c_76 : ClassId) (c_75 : ClassId) (H : Heap) (locs : List Loc) (ls : Array Slot) (hK : va_K (dC, dI) vwCl [(c_20, .int), (c_24, .int), (c_30, .int), (c_51, .object RX6), (c_80, .int), (c_76, .int), (c_75, .int)] s) (hP : va_P (dC, dI) vwCl [(q_1, .inr (7, [.ref q_3, .ref q_4, .ref q_5, .ref q_6, .ref q_7, .ref q_8, .ref q_9, .ref q_10, .ref q_11, .ref q_12, .int 0, .int (-1), .int (-1), .int 0])), (q_3, .inr (0, [.ref q_13, .ref q_14, .ref q_15, .ref q_16, .int 0])), (q_4, .inr (4, [.ref q_21, .ref q_22, .ref q_23, .ref q_3, .int 0])), (q_16, .inl (c_20, 2400, .inl (fun _ => 0))), (q_21, .inl (c_24, 2400, .inl (fun _ => 0))), (q_5, .inr (2, [.ref q_3, .ref q_4, .ref q_27, .ref q_28, .ref q_29, .int 0, .int 0, .int 0, .int 0, .int 0, .long 0, .long 0])), (q_27, .inl (c_30, 4, .inl (fun _ => 0))), (q_9, .inl (c_51, 21, .inr (.inr (.inr (.inr (fun _ => none)))))), (q_55, .inr (8, [.ref q_57, .ref q_58, .int 0, .ref q_59, .ref q_60, .ref q_61, .int 0, .ref q_62, .int 0, .int 0, .int 0, .ref q_63, .ref q_64, .int 0, .int (-1), .int (-1), .ref q_65, .ref q_66, .ref q_67, .ref q_68, .ref q_69, .ref q_70, .ref q_71])), (q_65, .inl (c_80, 4, .inl (fun _ => 0))), (q_61, .inl (c_76, 21, .inl (fun _ => 0))), (q_60, .inl (c_75, 134400, .inl (fun _ => 0)))] H) (hD : va_D A [(q_1, .inr (7, [.ref q_3, .ref q_4, .ref q_5, .ref q_6, .ref q_7, .ref q_8, .ref q_9, .ref q_10, .ref q_11, .ref q_12, .int 0, .int (-1), .int (-1), .int 0])), (q_3, .inr (0, [.ref q_13, .ref q_14, .ref q_15, .ref q_16, .int 0])), (q_4, .inr (4, [.ref q_21, .ref q_22, .ref q_23, .ref q_3, .int 0])), (q_16, .inl (c_20, 2400, .inl (fun _ => 0))), (q_21, .inl (c_24, 2400, .inl (fun _ => 0))), (q_5, .inr (2, [.ref q_3, .ref q_4, .ref q_27, .ref q_28, .ref q_29, .int 0, .int 0, .int 0, .int 0, .int 0, .long 0, .long 0])), (q_27, .inl (c_30, 4, .inl (fun _ => 0))), (q_9, .inl (c_51, 21, .inr (.inr (.inr (.inr (fun _ => none)))))), (q_55, .inr (8, [.ref q_57, .ref q_58, .int 0, .ref q_59, .ref q_60, .ref q_61, .int 0, .ref q_62, .int 0, .int 0, .int 0, .ref q_63, .ref q_64, .int 0, .int (-1), .int (-1), .ref q_65, .ref q_66, .ref q_67, .ref q_68, .ref q_69, .ref q_70, .ref q_71])), (q_65, .inl (c_80, 4, .inl (fun _ => 0))), (q_61, .inl (c_76, 21, .inl (fun _ => 0))), (q_60, .inl (c_75, 134400, .inl (fun _ => 0)))]) (hS : va_S A s.heap H locs) (hl : lv_has ls 4 [(3, .int 0), (2, .ref q_55), (1, .ref q_1), (0, .ref b)]) : W p l e room_1 s m #[Value.ref b] below meth c H locs 46 149056 (lw_Z below #[Value.ref b] s) (F0 m 311 ls []) := by
  obtain ⟨hx, hb, hr, hml, hown, hts0, hX, hbl, hlocks, hgv⟩ := id C0
  have hts : ∀ w ∈ wsL_law, w.before #[Value.ref b] s = true := fun w h => hts0 w (wsL_law_in w h)
  have hown : s.vm.findClass RL = some m.cls := hown
  have hb : c.code = cL_law := hb
  have hbA : ¬ A b := fun q => absurd (hAi b q) (Nat.not_le.mpr hbl)
  refine lv_aload_n hx hb dL_law_311 rfl (lv_at hl 2 rfl) ?_
  refine lv_aload_n hx hb dL_law_312 rfl (lv_at hl 3 rfl) ?_
  refine lv_iload_n hx hb dL_law_313 rfl (lv_at hl 0 rfl) ?_
  refine lv_iconst (v := 1) hx hb dL_law_314 (by decide) ?_
  refine lv_iadd hx hb dL_law_315 ?_
  refine tvv (v := .int 1) (congrArg Value.int (by decide)) ?_
  refine va_sld hx hb hX hbl hbA hS (vi _ _ (by decide)) dL_law_316 ?_
  refine tvv (v := .int (xs 1)) (congrArg Value.int (congrArg xs (by decide))) ?_
  refine lv_aload_n hx hb dL_law_317 rfl (lv_at hl 3 rfl) ?_
  refine lv_iload_n hx hb dL_law_318 rfl (lv_at hl 0 rfl) ?_
  refine lv_iconst (v := 2) hx hb dL_law_319 (by decide) ?_
  refine lv_iadd hx hb dL_law_320 ?_
  refine tvv (v := .int 2) (congrArg Value.int (by decide)) ?_
  refine va_sld hx hb hX hbl hbA hS (vi _ _ (by decide)) dL_law_321 ?_
  refine tvv (v := .int (xs 2)) (congrArg Value.int (congrArg xs (by decide))) ?_
  have hPc := hP.sub (ws' := [(q_1, .inr (7, [.ref q_3, .ref q_4, .ref q_5, .ref q_6, .ref q_7, .ref q_8, .ref q_9, .ref q_10, .ref q_11, .ref q_12, .int 0, .int (-1), .int (-1), .int 0])), (q_3, .inr (0, [.ref q_13, .ref q_14, .ref q_15, .ref q_16, .int 0])), (q_4, .inr (4, [.ref q_21, .ref q_22, .ref q_23, .ref q_3, .int 0])), (q_16, .inl (c_20, 2400, .inl (fun _ => 0))), (q_21, .inl (c_24, 2400, .inl (fun _ => 0))), (q_5, .inr (2, [.ref q_3, .ref q_4, .ref q_27, .ref q_28, .ref q_29, .int 0, .int 0, .int 0, .int 0, .int 0, .long 0, .long 0])), (q_27, .inl (c_30, 4, .inl (fun _ => 0))), (q_9, .inl (c_51, 21, .inr (.inr (.inr (.inr (fun _ => none))))))]) [0, 1, 2, 3, 4, 5, 6, 7] rfl
  have hDc := hD.sub (ws' := [(q_1, .inr (7, [.ref q_3, .ref q_4, .ref q_5, .ref q_6, .ref q_7, .ref q_8, .ref q_9, .ref q_10, .ref q_11, .ref q_12, .int 0, .int (-1), .int (-1), .int 0])), (q_3, .inr (0, [.ref q_13, .ref q_14, .ref q_15, .ref q_16, .int 0])), (q_4, .inr (4, [.ref q_21, .ref q_22, .ref q_23, .ref q_3, .int 0])), (q_16, .inl (c_20, 2400, .inl (fun _ => 0))), (q_21, .inl (c_24, 2400, .inl (fun _ => 0))), (q_5, .inr (2, [.ref q_3, .ref q_4, .ref q_27, .ref q_28, .ref q_29, .int 0, .int 0, .int 0, .int 0, .int 0, .long 0, .long 0])), (q_27, .inl (c_30, 4, .inl (fun _ => 0))), (q_9, .inl (c_51, 21, .inr (.inr (.inr (.inr (fun _ => none))))))]) [0, 1, 2, 3, 4, 5, 6, 7] (by decide) rfl
  have hKc := hK.sub (tys' := [(c_20, .int), (c_24, .int), (c_30, .int), (c_51, .object RX6)]) [0, 1, 2, 3] rfl
  have hFc := va_free (wc := [(q_1, .inr (7, [.ref q_3, .ref q_4, .ref q_5, .ref q_6, .ref q_7, .ref q_8, .ref q_9, .ref q_10, .ref q_11, .ref q_12, .int 0, .int (-1), .int (-1), .int 0])), (q_3, .inr (0, [.ref q_13, .ref q_14, .ref q_15, .ref q_16, .int 0])), (q_4, .inr (4, [.ref q_21, .ref q_22, .ref q_23, .ref q_3, .int 0])), (q_16, .inl (c_20, 2400, .inl (fun _ => 0))), (q_21, .inl (c_24, 2400, .inl (fun _ => 0))), (q_5, .inr (2, [.ref q_3, .ref q_4, .ref q_27, .ref q_28, .ref q_29, .int 0, .int 0, .int 0, .int 0, .int 0, .long 0, .long 0])), (q_27, .inl (c_30, 4, .inl (fun _ => 0))), (q_9, .inl (c_51, 21, .inr (.inr (.inr (.inr (fun _ => none))))))]) hD hS hA [0, 1, 2, 3, 4, 5, 6, 7] rfl
  refine va_calli (va_runV (As := [.int (xs 1), .int (xs 2)]) (rest := []) ⟨hx, hb, hml, hown, hts⟩ (c_x_grow l dC dI H.size q_1 (xs 1) (xs 2) q_3 q_4 q_16 q_21 q_5 q_27 q_9 q_6 q_7 q_8 q_10 q_11 q_12 q_13 q_14 q_15 q_22 q_23 c_20 c_24 q_3 q_28 q_29 c_30 c_51 ) (cwV 2 hts gL_law_X7_grow rfl rfl rfl (by decide +kernel) ⟨Nat.le_of_ble_eq_true rfl, Nat.le_of_ble_eq_true rfl⟩) (pre_V hPc hKc hDc hN (ci := 7) (q0 := 0) rfl rfl) rfl rfl hl.1 rfl (lv_room (Nat.le_of_ble_eq_true rfl)) dL_law_322 ⟨Nat.le_of_ble_eq_true rfl, Nat.le_of_ble_eq_true rfl⟩) hS (fun q _ h => hFc q h) hFc (fun r_501 u t H1 locs ht hvm hw hB hz1 hk1 hS => ?_)
  clear hPc hDc hKc
  have hw_502 := hw
  obtain ⟨hP, hD⟩ := va_join (wr := [(q_55, .inr (8, [.ref q_57, .ref q_58, .int 0, .ref q_59, .ref q_60, .ref q_61, .int 0, .ref q_62, .int 0, .int 0, .int 0, .ref q_63, .ref q_64, .int 0, .int (-1), .int (-1), .ref q_65, .ref q_66, .ref q_67, .ref q_68, .ref q_69, .ref q_70, .ref q_71])), (q_65, .inl (c_80, 4, .inl (fun _ => 0))), (q_61, .inl (c_76, 21, .inl (fun _ => 0))), (q_60, .inl (c_75, 134400, .inl (fun _ => 0)))]) (w1 := []) hP hD [0, 1, 2, 3, 4, 5, 6, 7] [8, 9, 10, 11] rfl rfl (by decide) (by decide) hk1 hFc nil_P nil_D
  generalize H1 = H at hP hS ⊢
  have hP : va_P (dC, dI) vwCl [(q_55, .inr (8, [.ref q_57, .ref q_58, .int 0, .ref q_59, .ref q_60, .ref q_61, .int 0, .ref q_62, .int 0, .int 0, .int 0, .ref q_63, .ref q_64, .int 0, .int (-1), .int (-1), .ref q_65, .ref q_66, .ref q_67, .ref q_68, .ref q_69, .ref q_70, .ref q_71])), (q_65, .inl (c_80, 4, .inl (fun _ => 0))), (q_61, .inl (c_76, 21, .inl (fun _ => 0))), (q_60, .inl (c_75, 134400, .inl (fun _ => 0)))] H := hP
  have hD : va_D A [(q_55, .inr (8, [.ref q_57, .ref q_58, .int 0, .ref q_59, .ref q_60, .ref q_61, .int 0, .ref q_62, .int 0, .int 0, .int 0, .ref q_63, .ref q_64, .int 0, .int (-1), .int (-1), .ref q_65, .ref q_66, .ref q_67, .ref q_68, .ref q_69, .ref q_70, .ref q_71])), (q_65, .inl (c_80, 4, .inl (fun _ => 0))), (q_61, .inl (c_76, 21, .inl (fun _ => 0))), (q_60, .inl (c_75, 134400, .inl (fun _ => 0)))] := hD
  refine W.widen (k := 53) (n := 153662) (Nat.le_of_ble_eq_true rfl) (Nat.le_of_ble_eq_true rfl) ?_
  refine lv_aload_n hx hb dL_law_325 rfl (lv_at hl 1 rfl) ?_
  refine lv_aload_n hx hb dL_law_326 rfl (lv_at hl 3 rfl) ?_
  refine lv_iload_n hx hb dL_law_327 rfl (lv_at hl 0 rfl) ?_
  refine lv_iconst (v := 1) hx hb dL_law_328 (by decide) ?_
  refine lv_iadd hx hb dL_law_329 ?_
  refine tvv (v := .int 1) (congrArg Value.int (by decide)) ?_
  refine va_sld hx hb hX hbl hbA hS (vi _ _ (by decide)) dL_law_330 ?_
  refine tvv (v := .int (xs 1)) (congrArg Value.int (congrArg xs (by decide))) ?_
  refine lv_aload_n hx hb dL_law_331 rfl (lv_at hl 3 rfl) ?_
  refine lv_iload_n hx hb dL_law_332 rfl (lv_at hl 0 rfl) ?_
  refine lv_iconst (v := 2) hx hb dL_law_333 (by decide) ?_
  refine lv_iadd hx hb dL_law_334 ?_
  refine tvv (v := .int 2) (congrArg Value.int (by decide)) ?_
  refine va_sld hx hb hX hbl hbA hS (vi _ _ (by decide)) dL_law_335 ?_
  refine tvv (v := .int (xs 2)) (congrArg Value.int (congrArg xs (by decide))) ?_
  have hPc := hP.sub (ws' := [(q_55, .inr (8, [.ref q_57, .ref q_58, .int 0, .ref q_59, .ref q_60, .ref q_61, .int 0, .ref q_62, .int 0, .int 0, .int 0, .ref q_63, .ref q_64, .int 0, .int (-1), .int (-1), .ref q_65, .ref q_66, .ref q_67, .ref q_68, .ref q_69, .ref q_70, .ref q_71])), (q_65, .inl (c_80, 4, .inl (fun _ => 0))), (q_61, .inl (c_76, 21, .inl (fun _ => 0))), (q_60, .inl (c_75, 134400, .inl (fun _ => 0)))]) [0, 1, 2, 3] rfl
  have hDc := hD.sub (ws' := [(q_55, .inr (8, [.ref q_57, .ref q_58, .int 0, .ref q_59, .ref q_60, .ref q_61, .int 0, .ref q_62, .int 0, .int 0, .int 0, .ref q_63, .ref q_64, .int 0, .int (-1), .int (-1), .ref q_65, .ref q_66, .ref q_67, .ref q_68, .ref q_69, .ref q_70, .ref q_71])), (q_65, .inl (c_80, 4, .inl (fun _ => 0))), (q_61, .inl (c_76, 21, .inl (fun _ => 0))), (q_60, .inl (c_75, 134400, .inl (fun _ => 0)))]) [0, 1, 2, 3] (by decide) rfl
  have hKc := hK.sub (tys' := [(c_80, .int), (c_76, .int), (c_75, .int)]) [4, 5, 6] rfl
  have hFc := va_free (wc := [(q_55, .inr (8, [.ref q_57, .ref q_58, .int 0, .ref q_59, .ref q_60, .ref q_61, .int 0, .ref q_62, .int 0, .int 0, .int 0, .ref q_63, .ref q_64, .int 0, .int (-1), .int (-1), .ref q_65, .ref q_66, .ref q_67, .ref q_68, .ref q_69, .ref q_70, .ref q_71])), (q_65, .inl (c_80, 4, .inl (fun _ => 0))), (q_61, .inl (c_76, 21, .inl (fun _ => 0))), (q_60, .inl (c_75, 134400, .inl (fun _ => 0)))]) hD hS hA [0, 1, 2, 3] rfl
  refine va_calli (va_runV (As := [.int (xs 1), .int (xs 2)]) (rest := [.int r_501]) ⟨hx, hb, hml, hown, hts⟩ (c_m_grow l dC dI H.size q_55 (xs 1) (xs 2) q_65 q_61 q_60 q_57 q_58 q_59 q_62 q_63 q_64 q_66 q_67 q_68 q_69 q_70 q_71 c_80 c_76 c_75 ) (cwV 2 hts gL_law_X8_grow rfl rfl rfl (by decide +kernel) ⟨Nat.le_of_ble_eq_true rfl, Nat.le_of_ble_eq_true rfl⟩) (pre_V hPc hKc hDc hN (ci := 8) (q0 := 0) rfl rfl) rfl rfl hl.1 rfl (lv_room (Nat.le_of_ble_eq_true rfl)) dL_law_336 ⟨Nat.le_of_ble_eq_true rfl, Nat.le_of_ble_eq_true rfl⟩) hS (fun q _ h => hFc q h) hFc (fun r_503 u t H1 locs ht hvm hw hB hz1 hk1 hS => ?_)
  clear hPc hDc hKc
  have hw_504 := hw
  obtain ⟨hP, hD⟩ := va_join (wr := []) (w1 := []) hP hD [0, 1, 2, 3] [] rfl rfl (by decide) (by decide) hk1 hFc nil_P nil_D
  generalize H1 = H at hP hS ⊢
  have hP : va_P (dC, dI) vwCl [] H := hP
  have hD : va_D A [] := hD
  refine lv_icmp_eq (tgt := 922) hx hb dL_law_339 (by decide) (fun c_505 => ?_) (fun c_505 => ?_)
  · skip
    refine W.widen (k := 600000) (n := 7302250) (Nat.le_of_ble_eq_true rfl) (Nat.le_of_ble_eq_true rfl) ?_
    exact law_tail C0 hAi H locs ls q_1 q_55 hS hl
  · exact absurd (pe hw_502 hw_504) c_505

set_option maxHeartbeats 4000000 in
set_option maxRecDepth 100000 in
/-- the law at best -/
theorem law_6 {p : Program} {l : Launch} {e : Env} {s : State} {m : MethodId} {below : List Frame} {meth : Method} {c : Code} {dC : Nat → ClassId} {dI : Nat → Nat → Nat} {b : Nat} {xs : Nat → Int32} {A : Nat → Prop} (C0 : lw_At p s m meth c b 6 xs) (hN : nw s) (hA : ∀ q : Nat, s.heap.size ≤ q → A q) (hAi : ∀ q : Nat, A q → s.heap.size ≤ q) (q_1 : Nat) (q_3 : Nat) (q_4 : Nat) (q_5 : Nat) (q_6 : Nat) (q_7 : Nat) (q_8 : Nat) (q_9 : Nat) (q_10 : Nat) (q_11 : Nat) (q_12 : Nat) (q_13 : Nat) (q_14 : Nat) (q_15 : Nat) (q_16 : Nat) (q_21 : Nat) (q_22 : Nat) (q_23 : Nat) (c_20 : ClassId) (c_24 : ClassId) (q_33 : Nat) (q_34 : Nat) (c_35 : ClassId) (c_51 : ClassId) (q_55 : Nat) (q_57 : Nat) (q_58 : Nat) (q_59 : Nat) (q_60 : Nat) (q_61 : Nat) (q_62 : Nat) (q_63 : Nat) (q_64 : Nat) (q_65 : Nat) (q_66 : Nat) (q_67 : Nat) (q_68 : Nat) (q_69 : Nat) (q_70 : Nat) (q_71 : Nat) (c_80 : ClassId) (c_76 : ClassId) (c_75 : ClassId) (c_83 : ClassId) (c_84 : ClassId) (c_85 : ClassId) (c_86 : ClassId) (H : Heap) (locs : List Loc) (ls : Array Slot) (hK : va_K (dC, dI) vwCl [(c_20, .int), (c_24, .int), (c_35, .int), (c_51, .object RX6), (c_80, .int), (c_76, .int), (c_75, .int), (c_83, .int), (c_84, .int), (c_85, .int), (c_86, .int)] s) (hP : va_P (dC, dI) vwCl [(q_1, .inr (7, [.ref q_3, .ref q_4, .ref q_5, .ref q_6, .ref q_7, .ref q_8, .ref q_9, .ref q_10, .ref q_11, .ref q_12, .int 0, .int (-1), .int (-1), .int 0])), (q_3, .inr (0, [.ref q_13, .ref q_14, .ref q_15, .ref q_16, .int 0])), (q_4, .inr (4, [.ref q_21, .ref q_22, .ref q_23, .ref q_3, .int 0])), (q_16, .inl (c_20, 2400, .inl (fun _ => 0))), (q_21, .inl (c_24, 2400, .inl (fun _ => 0))), (q_6, .inr (1, [.ref q_3, .ref q_4, .ref q_33, .ref q_34, .int 0, .int 0, .int 0, .int 0, .int 0, .int 0, .int 0, .int 0])), (q_33, .inl (c_35, 4, .inl (fun _ => 0))), (q_9, .inl (c_51, 21, .inr (.inr (.inr (.inr (fun _ => none)))))), (q_55, .inr (8, [.ref q_57, .ref q_58, .int 0, .ref q_59, .ref q_60, .ref q_61, .int 0, .ref q_62, .int 0, .int 0, .int 0, .ref q_63, .ref q_64, .int 0, .int (-1), .int (-1), .ref q_65, .ref q_66, .ref q_67, .ref q_68, .ref q_69, .ref q_70, .ref q_71])), (q_65, .inl (c_80, 4, .inl (fun _ => 0))), (q_61, .inl (c_76, 21, .inl (fun _ => 0))), (q_60, .inl (c_75, 134400, .inl (fun _ => 0))), (q_68, .inl (c_83, 4, .inl (fun _ => 0))), (q_69, .inl (c_84, 4, .inl (fun _ => 0))), (q_70, .inl (c_85, 4, .inl (fun _ => 0))), (q_71, .inl (c_86, 4, .inl (fun _ => 0)))] H) (hD : va_D A [(q_1, .inr (7, [.ref q_3, .ref q_4, .ref q_5, .ref q_6, .ref q_7, .ref q_8, .ref q_9, .ref q_10, .ref q_11, .ref q_12, .int 0, .int (-1), .int (-1), .int 0])), (q_3, .inr (0, [.ref q_13, .ref q_14, .ref q_15, .ref q_16, .int 0])), (q_4, .inr (4, [.ref q_21, .ref q_22, .ref q_23, .ref q_3, .int 0])), (q_16, .inl (c_20, 2400, .inl (fun _ => 0))), (q_21, .inl (c_24, 2400, .inl (fun _ => 0))), (q_6, .inr (1, [.ref q_3, .ref q_4, .ref q_33, .ref q_34, .int 0, .int 0, .int 0, .int 0, .int 0, .int 0, .int 0, .int 0])), (q_33, .inl (c_35, 4, .inl (fun _ => 0))), (q_9, .inl (c_51, 21, .inr (.inr (.inr (.inr (fun _ => none)))))), (q_55, .inr (8, [.ref q_57, .ref q_58, .int 0, .ref q_59, .ref q_60, .ref q_61, .int 0, .ref q_62, .int 0, .int 0, .int 0, .ref q_63, .ref q_64, .int 0, .int (-1), .int (-1), .ref q_65, .ref q_66, .ref q_67, .ref q_68, .ref q_69, .ref q_70, .ref q_71])), (q_65, .inl (c_80, 4, .inl (fun _ => 0))), (q_61, .inl (c_76, 21, .inl (fun _ => 0))), (q_60, .inl (c_75, 134400, .inl (fun _ => 0))), (q_68, .inl (c_83, 4, .inl (fun _ => 0))), (q_69, .inl (c_84, 4, .inl (fun _ => 0))), (q_70, .inl (c_85, 4, .inl (fun _ => 0))), (q_71, .inl (c_86, 4, .inl (fun _ => 0)))]) (hS : va_S A s.heap H locs) (hl : lv_has ls 4 [(3, .int 0), (2, .ref q_55), (1, .ref q_1), (0, .ref b)]) : W p l e room_1 s m #[Value.ref b] below meth c H locs 46 149056 (lw_Z below #[Value.ref b] s) (F0 m 344 ls []) := by
  obtain ⟨hx, hb, hr, hml, hown, hts0, hX, hbl, hlocks, hgv⟩ := id C0
  have hts : ∀ w ∈ wsL_law, w.before #[Value.ref b] s = true := fun w h => hts0 w (wsL_law_in w h)
  have hown : s.vm.findClass RL = some m.cls := hown
  have hb : c.code = cL_law := hb
  have hbA : ¬ A b := fun q => absurd (hAi b q) (Nat.not_le.mpr hbl)
  refine lv_aload_n hx hb dL_law_344 rfl (lv_at hl 2 rfl) ?_
  refine lv_aload_n hx hb dL_law_345 rfl (lv_at hl 3 rfl) ?_
  refine lv_iload_n hx hb dL_law_346 rfl (lv_at hl 0 rfl) ?_
  refine lv_iconst (v := 1) hx hb dL_law_347 (by decide) ?_
  refine lv_iadd hx hb dL_law_348 ?_
  refine tvv (v := .int 1) (congrArg Value.int (by decide)) ?_
  refine va_sld hx hb hX hbl hbA hS (vi _ _ (by decide)) dL_law_349 ?_
  refine tvv (v := .int (xs 1)) (congrArg Value.int (congrArg xs (by decide))) ?_
  have hPc := hP.sub (ws' := [(q_1, .inr (7, [.ref q_3, .ref q_4, .ref q_5, .ref q_6, .ref q_7, .ref q_8, .ref q_9, .ref q_10, .ref q_11, .ref q_12, .int 0, .int (-1), .int (-1), .int 0])), (q_3, .inr (0, [.ref q_13, .ref q_14, .ref q_15, .ref q_16, .int 0])), (q_4, .inr (4, [.ref q_21, .ref q_22, .ref q_23, .ref q_3, .int 0])), (q_16, .inl (c_20, 2400, .inl (fun _ => 0))), (q_21, .inl (c_24, 2400, .inl (fun _ => 0))), (q_6, .inr (1, [.ref q_3, .ref q_4, .ref q_33, .ref q_34, .int 0, .int 0, .int 0, .int 0, .int 0, .int 0, .int 0, .int 0])), (q_33, .inl (c_35, 4, .inl (fun _ => 0))), (q_9, .inl (c_51, 21, .inr (.inr (.inr (.inr (fun _ => none))))))]) [0, 1, 2, 3, 4, 5, 6, 7] rfl
  have hDc := hD.sub (ws' := [(q_1, .inr (7, [.ref q_3, .ref q_4, .ref q_5, .ref q_6, .ref q_7, .ref q_8, .ref q_9, .ref q_10, .ref q_11, .ref q_12, .int 0, .int (-1), .int (-1), .int 0])), (q_3, .inr (0, [.ref q_13, .ref q_14, .ref q_15, .ref q_16, .int 0])), (q_4, .inr (4, [.ref q_21, .ref q_22, .ref q_23, .ref q_3, .int 0])), (q_16, .inl (c_20, 2400, .inl (fun _ => 0))), (q_21, .inl (c_24, 2400, .inl (fun _ => 0))), (q_6, .inr (1, [.ref q_3, .ref q_4, .ref q_33, .ref q_34, .int 0, .int 0, .int 0, .int 0, .int 0, .int 0, .int 0, .int 0])), (q_33, .inl (c_35, 4, .inl (fun _ => 0))), (q_9, .inl (c_51, 21, .inr (.inr (.inr (.inr (fun _ => none))))))]) [0, 1, 2, 3, 4, 5, 6, 7] (by decide) rfl
  have hKc := hK.sub (tys' := [(c_20, .int), (c_24, .int), (c_35, .int), (c_51, .object RX6)]) [0, 1, 2, 3] rfl
  have hFc := va_free (wc := [(q_1, .inr (7, [.ref q_3, .ref q_4, .ref q_5, .ref q_6, .ref q_7, .ref q_8, .ref q_9, .ref q_10, .ref q_11, .ref q_12, .int 0, .int (-1), .int (-1), .int 0])), (q_3, .inr (0, [.ref q_13, .ref q_14, .ref q_15, .ref q_16, .int 0])), (q_4, .inr (4, [.ref q_21, .ref q_22, .ref q_23, .ref q_3, .int 0])), (q_16, .inl (c_20, 2400, .inl (fun _ => 0))), (q_21, .inl (c_24, 2400, .inl (fun _ => 0))), (q_6, .inr (1, [.ref q_3, .ref q_4, .ref q_33, .ref q_34, .int 0, .int 0, .int 0, .int 0, .int 0, .int 0, .int 0, .int 0])), (q_33, .inl (c_35, 4, .inl (fun _ => 0))), (q_9, .inl (c_51, 21, .inr (.inr (.inr (.inr (fun _ => none))))))]) hD hS hA [0, 1, 2, 3, 4, 5, 6, 7] rfl
  refine va_calli (va_runV (As := [.int (xs 1)]) (rest := []) ⟨hx, hb, hml, hown, hts⟩ (c_x_best l dC dI H.size q_1 (xs 1) q_3 q_4 q_16 q_21 q_6 q_33 q_9 q_5 q_7 q_8 q_10 q_11 q_12 q_13 q_14 q_15 q_22 q_23 c_20 c_24 q_3 q_34 c_35 c_51 ) (cwV 1 hts gL_law_X7_best rfl rfl rfl (by decide +kernel) ⟨Nat.le_of_ble_eq_true rfl, Nat.le_of_ble_eq_true rfl⟩) (pre_V hPc hKc hDc hN (ci := 7) (q0 := 0) rfl rfl) rfl rfl hl.1 rfl (lv_room (Nat.le_of_ble_eq_true rfl)) dL_law_350 ⟨Nat.le_of_ble_eq_true rfl, Nat.le_of_ble_eq_true rfl⟩) hS (fun q _ h => hFc q h) hFc (fun r_501 u t H1 locs ht hvm hw hB hz1 hk1 hS => ?_)
  clear hPc hDc hKc
  have hw_502 := hw
  obtain ⟨hP, hD⟩ := va_join (wr := [(q_55, .inr (8, [.ref q_57, .ref q_58, .int 0, .ref q_59, .ref q_60, .ref q_61, .int 0, .ref q_62, .int 0, .int 0, .int 0, .ref q_63, .ref q_64, .int 0, .int (-1), .int (-1), .ref q_65, .ref q_66, .ref q_67, .ref q_68, .ref q_69, .ref q_70, .ref q_71])), (q_65, .inl (c_80, 4, .inl (fun _ => 0))), (q_61, .inl (c_76, 21, .inl (fun _ => 0))), (q_60, .inl (c_75, 134400, .inl (fun _ => 0))), (q_68, .inl (c_83, 4, .inl (fun _ => 0))), (q_69, .inl (c_84, 4, .inl (fun _ => 0))), (q_70, .inl (c_85, 4, .inl (fun _ => 0))), (q_71, .inl (c_86, 4, .inl (fun _ => 0)))]) (w1 := []) hP hD [0, 1, 2, 3, 4, 5, 6, 7] [8, 9, 10, 11, 12, 13, 14, 15] rfl rfl (by decide) (by decide) hk1 hFc nil_P nil_D
  generalize H1 = H at hP hS ⊢
  have hP : va_P (dC, dI) vwCl [(q_55, .inr (8, [.ref q_57, .ref q_58, .int 0, .ref q_59, .ref q_60, .ref q_61, .int 0, .ref q_62, .int 0, .int 0, .int 0, .ref q_63, .ref q_64, .int 0, .int (-1), .int (-1), .ref q_65, .ref q_66, .ref q_67, .ref q_68, .ref q_69, .ref q_70, .ref q_71])), (q_65, .inl (c_80, 4, .inl (fun _ => 0))), (q_61, .inl (c_76, 21, .inl (fun _ => 0))), (q_60, .inl (c_75, 134400, .inl (fun _ => 0))), (q_68, .inl (c_83, 4, .inl (fun _ => 0))), (q_69, .inl (c_84, 4, .inl (fun _ => 0))), (q_70, .inl (c_85, 4, .inl (fun _ => 0))), (q_71, .inl (c_86, 4, .inl (fun _ => 0)))] H := hP
  have hD : va_D A [(q_55, .inr (8, [.ref q_57, .ref q_58, .int 0, .ref q_59, .ref q_60, .ref q_61, .int 0, .ref q_62, .int 0, .int 0, .int 0, .ref q_63, .ref q_64, .int 0, .int (-1), .int (-1), .ref q_65, .ref q_66, .ref q_67, .ref q_68, .ref q_69, .ref q_70, .ref q_71])), (q_65, .inl (c_80, 4, .inl (fun _ => 0))), (q_61, .inl (c_76, 21, .inl (fun _ => 0))), (q_60, .inl (c_75, 134400, .inl (fun _ => 0))), (q_68, .inl (c_83, 4, .inl (fun _ => 0))), (q_69, .inl (c_84, 4, .inl (fun _ => 0))), (q_70, .inl (c_85, 4, .inl (fun _ => 0))), (q_71, .inl (c_86, 4, .inl (fun _ => 0)))] := hD
  refine W.widen (k := 53) (n := 153662) (Nat.le_of_ble_eq_true rfl) (Nat.le_of_ble_eq_true rfl) ?_
  refine lv_aload_n hx hb dL_law_353 rfl (lv_at hl 1 rfl) ?_
  refine lv_aload_n hx hb dL_law_354 rfl (lv_at hl 3 rfl) ?_
  refine lv_iload_n hx hb dL_law_355 rfl (lv_at hl 0 rfl) ?_
  refine lv_iconst (v := 1) hx hb dL_law_356 (by decide) ?_
  refine lv_iadd hx hb dL_law_357 ?_
  refine tvv (v := .int 1) (congrArg Value.int (by decide)) ?_
  refine va_sld hx hb hX hbl hbA hS (vi _ _ (by decide)) dL_law_358 ?_
  refine tvv (v := .int (xs 1)) (congrArg Value.int (congrArg xs (by decide))) ?_
  have hPc := hP.sub (ws' := [(q_55, .inr (8, [.ref q_57, .ref q_58, .int 0, .ref q_59, .ref q_60, .ref q_61, .int 0, .ref q_62, .int 0, .int 0, .int 0, .ref q_63, .ref q_64, .int 0, .int (-1), .int (-1), .ref q_65, .ref q_66, .ref q_67, .ref q_68, .ref q_69, .ref q_70, .ref q_71])), (q_65, .inl (c_80, 4, .inl (fun _ => 0))), (q_61, .inl (c_76, 21, .inl (fun _ => 0))), (q_60, .inl (c_75, 134400, .inl (fun _ => 0))), (q_68, .inl (c_83, 4, .inl (fun _ => 0))), (q_69, .inl (c_84, 4, .inl (fun _ => 0))), (q_70, .inl (c_85, 4, .inl (fun _ => 0))), (q_71, .inl (c_86, 4, .inl (fun _ => 0)))]) [0, 1, 2, 3, 4, 5, 6, 7] rfl
  have hDc := hD.sub (ws' := [(q_55, .inr (8, [.ref q_57, .ref q_58, .int 0, .ref q_59, .ref q_60, .ref q_61, .int 0, .ref q_62, .int 0, .int 0, .int 0, .ref q_63, .ref q_64, .int 0, .int (-1), .int (-1), .ref q_65, .ref q_66, .ref q_67, .ref q_68, .ref q_69, .ref q_70, .ref q_71])), (q_65, .inl (c_80, 4, .inl (fun _ => 0))), (q_61, .inl (c_76, 21, .inl (fun _ => 0))), (q_60, .inl (c_75, 134400, .inl (fun _ => 0))), (q_68, .inl (c_83, 4, .inl (fun _ => 0))), (q_69, .inl (c_84, 4, .inl (fun _ => 0))), (q_70, .inl (c_85, 4, .inl (fun _ => 0))), (q_71, .inl (c_86, 4, .inl (fun _ => 0)))]) [0, 1, 2, 3, 4, 5, 6, 7] (by decide) rfl
  have hKc := hK.sub (tys' := [(c_80, .int), (c_76, .int), (c_75, .int), (c_83, .int), (c_84, .int), (c_85, .int), (c_86, .int)]) [4, 5, 6, 7, 8, 9, 10] rfl
  have hFc := va_free (wc := [(q_55, .inr (8, [.ref q_57, .ref q_58, .int 0, .ref q_59, .ref q_60, .ref q_61, .int 0, .ref q_62, .int 0, .int 0, .int 0, .ref q_63, .ref q_64, .int 0, .int (-1), .int (-1), .ref q_65, .ref q_66, .ref q_67, .ref q_68, .ref q_69, .ref q_70, .ref q_71])), (q_65, .inl (c_80, 4, .inl (fun _ => 0))), (q_61, .inl (c_76, 21, .inl (fun _ => 0))), (q_60, .inl (c_75, 134400, .inl (fun _ => 0))), (q_68, .inl (c_83, 4, .inl (fun _ => 0))), (q_69, .inl (c_84, 4, .inl (fun _ => 0))), (q_70, .inl (c_85, 4, .inl (fun _ => 0))), (q_71, .inl (c_86, 4, .inl (fun _ => 0)))]) hD hS hA [0, 1, 2, 3, 4, 5, 6, 7] rfl
  refine va_calli (va_runV (As := [.int (xs 1)]) (rest := [.int r_501]) ⟨hx, hb, hml, hown, hts⟩ (c_m_best l dC dI H.size q_55 (xs 1) q_65 q_61 q_60 q_68 q_69 q_70 q_71 q_57 q_58 q_59 q_62 q_63 q_64 q_66 q_67 c_80 c_76 c_75 c_83 c_84 c_85 c_86 ) (cwV 1 hts gL_law_X8_best rfl rfl rfl (by decide +kernel) ⟨Nat.le_of_ble_eq_true rfl, Nat.le_of_ble_eq_true rfl⟩) (pre_V hPc hKc hDc hN (ci := 8) (q0 := 0) rfl rfl) rfl rfl hl.1 rfl (lv_room (Nat.le_of_ble_eq_true rfl)) dL_law_359 ⟨Nat.le_of_ble_eq_true rfl, Nat.le_of_ble_eq_true rfl⟩) hS (fun q _ h => hFc q h) hFc (fun r_503 u t H1 locs ht hvm hw hB hz1 hk1 hS => ?_)
  clear hPc hDc hKc
  have hw_504 := hw
  obtain ⟨hP, hD⟩ := va_join (wr := []) (w1 := []) hP hD [0, 1, 2, 3, 4, 5, 6, 7] [] rfl rfl (by decide) (by decide) hk1 hFc nil_P nil_D
  generalize H1 = H at hP hS ⊢
  have hP : va_P (dC, dI) vwCl [] H := hP
  have hD : va_D A [] := hD
  refine lv_icmp_eq (tgt := 922) hx hb dL_law_362 (by decide) (fun c_505 => ?_) (fun c_505 => ?_)
  · skip
    refine W.widen (k := 600000) (n := 7302250) (Nat.le_of_ble_eq_true rfl) (Nat.le_of_ble_eq_true rfl) ?_
    exact law_tail C0 hAi H locs ls q_1 q_55 hS hl
  · exact absurd (pe hw_502 hw_504) c_505

set_option maxHeartbeats 4000000 in
set_option maxRecDepth 100000 in
/-- the law at cut -/
theorem law_7 {p : Program} {l : Launch} {e : Env} {s : State} {m : MethodId} {below : List Frame} {meth : Method} {c : Code} {dC : Nat → ClassId} {dI : Nat → Nat → Nat} {b : Nat} {xs : Nat → Int32} {A : Nat → Prop} (C0 : lw_At p s m meth c b 6 xs) (hN : nw s) (hA : ∀ q : Nat, s.heap.size ≤ q → A q) (hAi : ∀ q : Nat, A q → s.heap.size ≤ q) (q_1 : Nat) (q_3 : Nat) (q_4 : Nat) (q_5 : Nat) (q_6 : Nat) (q_7 : Nat) (q_8 : Nat) (q_9 : Nat) (q_10 : Nat) (q_11 : Nat) (q_12 : Nat) (q_55 : Nat) (q_57 : Nat) (q_58 : Nat) (q_59 : Nat) (q_60 : Nat) (q_61 : Nat) (q_62 : Nat) (q_63 : Nat) (q_64 : Nat) (q_65 : Nat) (q_66 : Nat) (q_67 : Nat) (q_68 : Nat) (q_69 : Nat) (q_70 : Nat) (q_71 : Nat) (H : Heap) (locs : List Loc) (ls : Array Slot) (hK : va_K (dC, dI) vwCl [] s) (hP : va_P (dC, dI) vwCl [(q_1, .inr (7, [.ref q_3, .ref q_4, .ref q_5, .ref q_6, .ref q_7, .ref q_8, .ref q_9, .ref q_10, .ref q_11, .ref q_12, .int 0, .int (-1), .int (-1), .int 0])), (q_55, .inr (8, [.ref q_57, .ref q_58, .int 0, .ref q_59, .ref q_60, .ref q_61, .int 0, .ref q_62, .int 0, .int 0, .int 0, .ref q_63, .ref q_64, .int 0, .int (-1), .int (-1), .ref q_65, .ref q_66, .ref q_67, .ref q_68, .ref q_69, .ref q_70, .ref q_71]))] H) (hD : va_D A [(q_1, .inr (7, [.ref q_3, .ref q_4, .ref q_5, .ref q_6, .ref q_7, .ref q_8, .ref q_9, .ref q_10, .ref q_11, .ref q_12, .int 0, .int (-1), .int (-1), .int 0])), (q_55, .inr (8, [.ref q_57, .ref q_58, .int 0, .ref q_59, .ref q_60, .ref q_61, .int 0, .ref q_62, .int 0, .int 0, .int 0, .ref q_63, .ref q_64, .int 0, .int (-1), .int (-1), .ref q_65, .ref q_66, .ref q_67, .ref q_68, .ref q_69, .ref q_70, .ref q_71]))]) (hS : va_S A s.heap H locs) (hl : lv_has ls 4 [(3, .int 0), (2, .ref q_55), (1, .ref q_1), (0, .ref b)]) : W p l e room_1 s m #[Value.ref b] below meth c H locs 46 149056 (lw_Z below #[Value.ref b] s) (F0 m 367 ls []) := by
  obtain ⟨hx, hb, hr, hml, hown, hts0, hX, hbl, hlocks, hgv⟩ := id C0
  have hts : ∀ w ∈ wsL_law, w.before #[Value.ref b] s = true := fun w h => hts0 w (wsL_law_in w h)
  have hown : s.vm.findClass RL = some m.cls := hown
  have hb : c.code = cL_law := hb
  have hbA : ¬ A b := fun q => absurd (hAi b q) (Nat.not_le.mpr hbl)
  refine lv_aload_n hx hb dL_law_367 rfl (lv_at hl 2 rfl) ?_
  refine lv_aload_n hx hb dL_law_368 rfl (lv_at hl 3 rfl) ?_
  refine lv_iload_n hx hb dL_law_369 rfl (lv_at hl 0 rfl) ?_
  refine lv_iconst (v := 1) hx hb dL_law_370 (by decide) ?_
  refine lv_iadd hx hb dL_law_371 ?_
  refine tvv (v := .int 1) (congrArg Value.int (by decide)) ?_
  refine va_sld hx hb hX hbl hbA hS (vi _ _ (by decide)) dL_law_372 ?_
  refine tvv (v := .int (xs 1)) (congrArg Value.int (congrArg xs (by decide))) ?_
  refine lv_aload_n hx hb dL_law_373 rfl (lv_at hl 3 rfl) ?_
  refine lv_iload_n hx hb dL_law_374 rfl (lv_at hl 0 rfl) ?_
  refine lv_iconst (v := 2) hx hb dL_law_375 (by decide) ?_
  refine lv_iadd hx hb dL_law_376 ?_
  refine tvv (v := .int 2) (congrArg Value.int (by decide)) ?_
  refine va_sld hx hb hX hbl hbA hS (vi _ _ (by decide)) dL_law_377 ?_
  refine tvv (v := .int (xs 2)) (congrArg Value.int (congrArg xs (by decide))) ?_
  refine lv_aload_n hx hb dL_law_378 rfl (lv_at hl 3 rfl) ?_
  refine lv_iload_n hx hb dL_law_379 rfl (lv_at hl 0 rfl) ?_
  refine lv_iconst (v := 3) hx hb dL_law_380 (by decide) ?_
  refine lv_iadd hx hb dL_law_381 ?_
  refine tvv (v := .int 3) (congrArg Value.int (by decide)) ?_
  refine va_sld hx hb hX hbl hbA hS (vi _ _ (by decide)) dL_law_382 ?_
  refine tvv (v := .int (xs 3)) (congrArg Value.int (congrArg xs (by decide))) ?_
  have hPc := hP.sub (ws' := [(q_1, .inr (7, [.ref q_3, .ref q_4, .ref q_5, .ref q_6, .ref q_7, .ref q_8, .ref q_9, .ref q_10, .ref q_11, .ref q_12, .int 0, .int (-1), .int (-1), .int 0]))]) [0] rfl
  have hDc := hD.sub (ws' := [(q_1, .inr (7, [.ref q_3, .ref q_4, .ref q_5, .ref q_6, .ref q_7, .ref q_8, .ref q_9, .ref q_10, .ref q_11, .ref q_12, .int 0, .int (-1), .int (-1), .int 0]))]) [0] (by decide) rfl
  have hKc := hK.sub (tys' := []) [] rfl
  have hFc := va_free (wc := [(q_1, .inr (7, [.ref q_3, .ref q_4, .ref q_5, .ref q_6, .ref q_7, .ref q_8, .ref q_9, .ref q_10, .ref q_11, .ref q_12, .int 0, .int (-1), .int (-1), .int 0]))]) hD hS hA [0] rfl
  refine va_calli (va_runV (As := [.int (xs 1), .int (xs 2), .int (xs 3)]) (rest := []) ⟨hx, hb, hml, hown, hts⟩ (c_x_cut l dC dI H.size q_1 (xs 1) (xs 2) (xs 3) q_3 q_4 q_5 q_6 q_7 q_8 q_9 q_10 q_11 q_12 ) (cwV 3 hts gL_law_X7_cut rfl rfl rfl (by decide +kernel) ⟨Nat.le_of_ble_eq_true rfl, Nat.le_of_ble_eq_true rfl⟩) (pre_V hPc hKc hDc hN (ci := 7) (q0 := 0) rfl rfl) rfl rfl hl.1 rfl (lv_room (Nat.le_of_ble_eq_true rfl)) dL_law_383 ⟨Nat.le_of_ble_eq_true rfl, Nat.le_of_ble_eq_true rfl⟩) hS (fun q _ h => hFc q h) hFc (fun r_501 u t H1 locs ht hvm hw hB hz1 hk1 hS => ?_)
  clear hPc hDc hKc
  have hw_502 := hw
  obtain ⟨hP, hD⟩ := va_join (wr := [(q_55, .inr (8, [.ref q_57, .ref q_58, .int 0, .ref q_59, .ref q_60, .ref q_61, .int 0, .ref q_62, .int 0, .int 0, .int 0, .ref q_63, .ref q_64, .int 0, .int (-1), .int (-1), .ref q_65, .ref q_66, .ref q_67, .ref q_68, .ref q_69, .ref q_70, .ref q_71]))]) (w1 := []) hP hD [0] [1] rfl rfl (by decide) (by decide) hk1 hFc nil_P nil_D
  generalize H1 = H at hP hS ⊢
  have hP : va_P (dC, dI) vwCl [(q_55, .inr (8, [.ref q_57, .ref q_58, .int 0, .ref q_59, .ref q_60, .ref q_61, .int 0, .ref q_62, .int 0, .int 0, .int 0, .ref q_63, .ref q_64, .int 0, .int (-1), .int (-1), .ref q_65, .ref q_66, .ref q_67, .ref q_68, .ref q_69, .ref q_70, .ref q_71]))] H := hP
  have hD : va_D A [(q_55, .inr (8, [.ref q_57, .ref q_58, .int 0, .ref q_59, .ref q_60, .ref q_61, .int 0, .ref q_62, .int 0, .int 0, .int 0, .ref q_63, .ref q_64, .int 0, .int (-1), .int (-1), .ref q_65, .ref q_66, .ref q_67, .ref q_68, .ref q_69, .ref q_70, .ref q_71]))] := hD
  refine lv_aload_n hx hb dL_law_386 rfl (lv_at hl 1 rfl) ?_
  refine lv_aload_n hx hb dL_law_387 rfl (lv_at hl 3 rfl) ?_
  refine lv_iload_n hx hb dL_law_388 rfl (lv_at hl 0 rfl) ?_
  refine lv_iconst (v := 1) hx hb dL_law_389 (by decide) ?_
  refine lv_iadd hx hb dL_law_390 ?_
  refine tvv (v := .int 1) (congrArg Value.int (by decide)) ?_
  refine va_sld hx hb hX hbl hbA hS (vi _ _ (by decide)) dL_law_391 ?_
  refine tvv (v := .int (xs 1)) (congrArg Value.int (congrArg xs (by decide))) ?_
  refine lv_aload_n hx hb dL_law_392 rfl (lv_at hl 3 rfl) ?_
  refine lv_iload_n hx hb dL_law_393 rfl (lv_at hl 0 rfl) ?_
  refine lv_iconst (v := 2) hx hb dL_law_394 (by decide) ?_
  refine lv_iadd hx hb dL_law_395 ?_
  refine tvv (v := .int 2) (congrArg Value.int (by decide)) ?_
  refine va_sld hx hb hX hbl hbA hS (vi _ _ (by decide)) dL_law_396 ?_
  refine tvv (v := .int (xs 2)) (congrArg Value.int (congrArg xs (by decide))) ?_
  refine lv_aload_n hx hb dL_law_397 rfl (lv_at hl 3 rfl) ?_
  refine lv_iload_n hx hb dL_law_398 rfl (lv_at hl 0 rfl) ?_
  refine lv_iconst (v := 3) hx hb dL_law_399 (by decide) ?_
  refine lv_iadd hx hb dL_law_400 ?_
  refine tvv (v := .int 3) (congrArg Value.int (by decide)) ?_
  refine va_sld hx hb hX hbl hbA hS (vi _ _ (by decide)) dL_law_401 ?_
  refine tvv (v := .int (xs 3)) (congrArg Value.int (congrArg xs (by decide))) ?_
  have hPc := hP.sub (ws' := [(q_55, .inr (8, [.ref q_57, .ref q_58, .int 0, .ref q_59, .ref q_60, .ref q_61, .int 0, .ref q_62, .int 0, .int 0, .int 0, .ref q_63, .ref q_64, .int 0, .int (-1), .int (-1), .ref q_65, .ref q_66, .ref q_67, .ref q_68, .ref q_69, .ref q_70, .ref q_71]))]) [0] rfl
  have hDc := hD.sub (ws' := [(q_55, .inr (8, [.ref q_57, .ref q_58, .int 0, .ref q_59, .ref q_60, .ref q_61, .int 0, .ref q_62, .int 0, .int 0, .int 0, .ref q_63, .ref q_64, .int 0, .int (-1), .int (-1), .ref q_65, .ref q_66, .ref q_67, .ref q_68, .ref q_69, .ref q_70, .ref q_71]))]) [0] (by decide) rfl
  have hKc := hK.sub (tys' := []) [] rfl
  have hFc := va_free (wc := [(q_55, .inr (8, [.ref q_57, .ref q_58, .int 0, .ref q_59, .ref q_60, .ref q_61, .int 0, .ref q_62, .int 0, .int 0, .int 0, .ref q_63, .ref q_64, .int 0, .int (-1), .int (-1), .ref q_65, .ref q_66, .ref q_67, .ref q_68, .ref q_69, .ref q_70, .ref q_71]))]) hD hS hA [0] rfl
  refine va_calli (va_runV (As := [.int (xs 1), .int (xs 2), .int (xs 3)]) (rest := [.int r_501]) ⟨hx, hb, hml, hown, hts⟩ (c_m_cut l dC dI H.size q_55 (xs 1) (xs 2) (xs 3) q_57 q_58 q_59 q_60 q_61 q_62 q_63 q_64 q_65 q_66 q_67 q_68 q_69 q_70 q_71 ) (cwV 3 hts gL_law_X8_cut rfl rfl rfl (by decide +kernel) ⟨Nat.le_of_ble_eq_true rfl, Nat.le_of_ble_eq_true rfl⟩) (pre_V hPc hKc hDc hN (ci := 8) (q0 := 0) rfl rfl) rfl rfl hl.1 rfl (lv_room (Nat.le_of_ble_eq_true rfl)) dL_law_402 ⟨Nat.le_of_ble_eq_true rfl, Nat.le_of_ble_eq_true rfl⟩) hS (fun q _ h => hFc q h) hFc (fun r_503 u t H1 locs ht hvm hw hB hz1 hk1 hS => ?_)
  clear hPc hDc hKc
  have hw_504 := hw
  obtain ⟨hP, hD⟩ := va_join (wr := []) (w1 := []) hP hD [0] [] rfl rfl (by decide) (by decide) hk1 hFc nil_P nil_D
  generalize H1 = H at hP hS ⊢
  have hP : va_P (dC, dI) vwCl [] H := hP
  have hD : va_D A [] := hD
  refine lv_icmp_eq (tgt := 922) hx hb dL_law_405 (by decide) (fun c_505 => ?_) (fun c_505 => ?_)
  · skip
    refine W.widen (k := 600000) (n := 7302250) (Nat.le_of_ble_eq_true rfl) (Nat.le_of_ble_eq_true rfl) ?_
    exact law_tail C0 hAi H locs ls q_1 q_55 hS hl
  · exact absurd (hw_502.trans hw_504.symm) c_505

set_option maxHeartbeats 4000000 in
set_option maxRecDepth 100000 in
/-- the law at price -/
theorem law_8 {p : Program} {l : Launch} {e : Env} {s : State} {m : MethodId} {below : List Frame} {meth : Method} {c : Code} {dC : Nat → ClassId} {dI : Nat → Nat → Nat} {b : Nat} {xs : Nat → Int32} {A : Nat → Prop} (C0 : lw_At p s m meth c b 6 xs) (hN : nw s) (hA : ∀ q : Nat, s.heap.size ≤ q → A q) (hAi : ∀ q : Nat, A q → s.heap.size ≤ q) (q_1 : Nat) (q_3 : Nat) (q_4 : Nat) (q_5 : Nat) (q_6 : Nat) (q_7 : Nat) (q_8 : Nat) (q_9 : Nat) (q_10 : Nat) (q_11 : Nat) (q_12 : Nat) (q_55 : Nat) (q_57 : Nat) (q_58 : Nat) (q_59 : Nat) (q_60 : Nat) (q_61 : Nat) (q_62 : Nat) (q_63 : Nat) (q_64 : Nat) (q_65 : Nat) (q_66 : Nat) (q_67 : Nat) (q_68 : Nat) (q_69 : Nat) (q_70 : Nat) (q_71 : Nat) (H : Heap) (locs : List Loc) (ls : Array Slot) (hK : va_K (dC, dI) vwCl [] s) (hP : va_P (dC, dI) vwCl [(q_1, .inr (7, [.ref q_3, .ref q_4, .ref q_5, .ref q_6, .ref q_7, .ref q_8, .ref q_9, .ref q_10, .ref q_11, .ref q_12, .int 0, .int (-1), .int (-1), .int 0])), (q_55, .inr (8, [.ref q_57, .ref q_58, .int 0, .ref q_59, .ref q_60, .ref q_61, .int 0, .ref q_62, .int 0, .int 0, .int 0, .ref q_63, .ref q_64, .int 0, .int (-1), .int (-1), .ref q_65, .ref q_66, .ref q_67, .ref q_68, .ref q_69, .ref q_70, .ref q_71]))] H) (hD : va_D A [(q_1, .inr (7, [.ref q_3, .ref q_4, .ref q_5, .ref q_6, .ref q_7, .ref q_8, .ref q_9, .ref q_10, .ref q_11, .ref q_12, .int 0, .int (-1), .int (-1), .int 0])), (q_55, .inr (8, [.ref q_57, .ref q_58, .int 0, .ref q_59, .ref q_60, .ref q_61, .int 0, .ref q_62, .int 0, .int 0, .int 0, .ref q_63, .ref q_64, .int 0, .int (-1), .int (-1), .ref q_65, .ref q_66, .ref q_67, .ref q_68, .ref q_69, .ref q_70, .ref q_71]))]) (hS : va_S A s.heap H locs) (hl : lv_has ls 4 [(3, .int 0), (2, .ref q_55), (1, .ref q_1), (0, .ref b)]) : W p l e room_1 s m #[Value.ref b] below meth c H locs 46 149056 (lw_Z below #[Value.ref b] s) (F0 m 410 ls []) := by
  obtain ⟨hx, hb, hr, hml, hown, hts0, hX, hbl, hlocks, hgv⟩ := id C0
  have hts : ∀ w ∈ wsL_law, w.before #[Value.ref b] s = true := fun w h => hts0 w (wsL_law_in w h)
  have hown : s.vm.findClass RL = some m.cls := hown
  have hb : c.code = cL_law := hb
  have hbA : ¬ A b := fun q => absurd (hAi b q) (Nat.not_le.mpr hbl)
  refine lv_aload_n hx hb dL_law_410 rfl (lv_at hl 2 rfl) ?_
  refine lv_aload_n hx hb dL_law_411 rfl (lv_at hl 3 rfl) ?_
  refine lv_iload_n hx hb dL_law_412 rfl (lv_at hl 0 rfl) ?_
  refine lv_iconst (v := 1) hx hb dL_law_413 (by decide) ?_
  refine lv_iadd hx hb dL_law_414 ?_
  refine tvv (v := .int 1) (congrArg Value.int (by decide)) ?_
  refine va_sld hx hb hX hbl hbA hS (vi _ _ (by decide)) dL_law_415 ?_
  refine tvv (v := .int (xs 1)) (congrArg Value.int (congrArg xs (by decide))) ?_
  refine lv_aload_n hx hb dL_law_416 rfl (lv_at hl 3 rfl) ?_
  refine lv_iload_n hx hb dL_law_417 rfl (lv_at hl 0 rfl) ?_
  refine lv_iconst (v := 2) hx hb dL_law_418 (by decide) ?_
  refine lv_iadd hx hb dL_law_419 ?_
  refine tvv (v := .int 2) (congrArg Value.int (by decide)) ?_
  refine va_sld hx hb hX hbl hbA hS (vi _ _ (by decide)) dL_law_420 ?_
  refine tvv (v := .int (xs 2)) (congrArg Value.int (congrArg xs (by decide))) ?_
  have hPc := hP.sub (ws' := [(q_1, .inr (7, [.ref q_3, .ref q_4, .ref q_5, .ref q_6, .ref q_7, .ref q_8, .ref q_9, .ref q_10, .ref q_11, .ref q_12, .int 0, .int (-1), .int (-1), .int 0]))]) [0] rfl
  have hDc := hD.sub (ws' := [(q_1, .inr (7, [.ref q_3, .ref q_4, .ref q_5, .ref q_6, .ref q_7, .ref q_8, .ref q_9, .ref q_10, .ref q_11, .ref q_12, .int 0, .int (-1), .int (-1), .int 0]))]) [0] (by decide) rfl
  have hKc := hK.sub (tys' := []) [] rfl
  have hFc := va_free (wc := [(q_1, .inr (7, [.ref q_3, .ref q_4, .ref q_5, .ref q_6, .ref q_7, .ref q_8, .ref q_9, .ref q_10, .ref q_11, .ref q_12, .int 0, .int (-1), .int (-1), .int 0]))]) hD hS hA [0] rfl
  refine va_calli (va_runV (As := [.int (xs 1), .int (xs 2)]) (rest := []) ⟨hx, hb, hml, hown, hts⟩ (c_x_price l dC dI H.size q_1 (xs 1) (xs 2) q_3 q_4 q_5 q_6 q_7 q_8 q_9 q_10 q_11 q_12 ) (cwV 2 hts gL_law_X7_price rfl rfl rfl (by decide +kernel) ⟨Nat.le_of_ble_eq_true rfl, Nat.le_of_ble_eq_true rfl⟩) (pre_V hPc hKc hDc hN (ci := 7) (q0 := 0) rfl rfl) rfl rfl hl.1 rfl (lv_room (Nat.le_of_ble_eq_true rfl)) dL_law_421 ⟨Nat.le_of_ble_eq_true rfl, Nat.le_of_ble_eq_true rfl⟩) hS (fun q _ h => hFc q h) hFc (fun r_501 u t H1 locs ht hvm hw hB hz1 hk1 hS => ?_)
  clear hPc hDc hKc
  have hw_502 := hw
  obtain ⟨hP, hD⟩ := va_join (wr := [(q_55, .inr (8, [.ref q_57, .ref q_58, .int 0, .ref q_59, .ref q_60, .ref q_61, .int 0, .ref q_62, .int 0, .int 0, .int 0, .ref q_63, .ref q_64, .int 0, .int (-1), .int (-1), .ref q_65, .ref q_66, .ref q_67, .ref q_68, .ref q_69, .ref q_70, .ref q_71]))]) (w1 := []) hP hD [0] [1] rfl rfl (by decide) (by decide) hk1 hFc nil_P nil_D
  generalize H1 = H at hP hS ⊢
  have hP : va_P (dC, dI) vwCl [(q_55, .inr (8, [.ref q_57, .ref q_58, .int 0, .ref q_59, .ref q_60, .ref q_61, .int 0, .ref q_62, .int 0, .int 0, .int 0, .ref q_63, .ref q_64, .int 0, .int (-1), .int (-1), .ref q_65, .ref q_66, .ref q_67, .ref q_68, .ref q_69, .ref q_70, .ref q_71]))] H := hP
  have hD : va_D A [(q_55, .inr (8, [.ref q_57, .ref q_58, .int 0, .ref q_59, .ref q_60, .ref q_61, .int 0, .ref q_62, .int 0, .int 0, .int 0, .ref q_63, .ref q_64, .int 0, .int (-1), .int (-1), .ref q_65, .ref q_66, .ref q_67, .ref q_68, .ref q_69, .ref q_70, .ref q_71]))] := hD
  refine lv_aload_n hx hb dL_law_424 rfl (lv_at hl 1 rfl) ?_
  refine lv_aload_n hx hb dL_law_425 rfl (lv_at hl 3 rfl) ?_
  refine lv_iload_n hx hb dL_law_426 rfl (lv_at hl 0 rfl) ?_
  refine lv_iconst (v := 1) hx hb dL_law_427 (by decide) ?_
  refine lv_iadd hx hb dL_law_428 ?_
  refine tvv (v := .int 1) (congrArg Value.int (by decide)) ?_
  refine va_sld hx hb hX hbl hbA hS (vi _ _ (by decide)) dL_law_429 ?_
  refine tvv (v := .int (xs 1)) (congrArg Value.int (congrArg xs (by decide))) ?_
  refine lv_aload_n hx hb dL_law_430 rfl (lv_at hl 3 rfl) ?_
  refine lv_iload_n hx hb dL_law_431 rfl (lv_at hl 0 rfl) ?_
  refine lv_iconst (v := 2) hx hb dL_law_432 (by decide) ?_
  refine lv_iadd hx hb dL_law_433 ?_
  refine tvv (v := .int 2) (congrArg Value.int (by decide)) ?_
  refine va_sld hx hb hX hbl hbA hS (vi _ _ (by decide)) dL_law_434 ?_
  refine tvv (v := .int (xs 2)) (congrArg Value.int (congrArg xs (by decide))) ?_
  have hPc := hP.sub (ws' := [(q_55, .inr (8, [.ref q_57, .ref q_58, .int 0, .ref q_59, .ref q_60, .ref q_61, .int 0, .ref q_62, .int 0, .int 0, .int 0, .ref q_63, .ref q_64, .int 0, .int (-1), .int (-1), .ref q_65, .ref q_66, .ref q_67, .ref q_68, .ref q_69, .ref q_70, .ref q_71]))]) [0] rfl
  have hDc := hD.sub (ws' := [(q_55, .inr (8, [.ref q_57, .ref q_58, .int 0, .ref q_59, .ref q_60, .ref q_61, .int 0, .ref q_62, .int 0, .int 0, .int 0, .ref q_63, .ref q_64, .int 0, .int (-1), .int (-1), .ref q_65, .ref q_66, .ref q_67, .ref q_68, .ref q_69, .ref q_70, .ref q_71]))]) [0] (by decide) rfl
  have hKc := hK.sub (tys' := []) [] rfl
  have hFc := va_free (wc := [(q_55, .inr (8, [.ref q_57, .ref q_58, .int 0, .ref q_59, .ref q_60, .ref q_61, .int 0, .ref q_62, .int 0, .int 0, .int 0, .ref q_63, .ref q_64, .int 0, .int (-1), .int (-1), .ref q_65, .ref q_66, .ref q_67, .ref q_68, .ref q_69, .ref q_70, .ref q_71]))]) hD hS hA [0] rfl
  refine va_calli (va_runV (As := [.int (xs 1), .int (xs 2)]) (rest := [.int r_501]) ⟨hx, hb, hml, hown, hts⟩ (c_m_price l dC dI H.size q_55 (xs 1) (xs 2) q_57 q_58 q_59 q_60 q_61 q_62 q_63 q_64 q_65 q_66 q_67 q_68 q_69 q_70 q_71 ) (cwV 2 hts gL_law_X8_price rfl rfl rfl (by decide +kernel) ⟨Nat.le_of_ble_eq_true rfl, Nat.le_of_ble_eq_true rfl⟩) (pre_V hPc hKc hDc hN (ci := 8) (q0 := 0) rfl rfl) rfl rfl hl.1 rfl (lv_room (Nat.le_of_ble_eq_true rfl)) dL_law_435 ⟨Nat.le_of_ble_eq_true rfl, Nat.le_of_ble_eq_true rfl⟩) hS (fun q _ h => hFc q h) hFc (fun r_503 u t H1 locs ht hvm hw hB hz1 hk1 hS => ?_)
  clear hPc hDc hKc
  have hw_504 := hw
  obtain ⟨hP, hD⟩ := va_join (wr := []) (w1 := []) hP hD [0] [] rfl rfl (by decide) (by decide) hk1 hFc nil_P nil_D
  generalize H1 = H at hP hS ⊢
  have hP : va_P (dC, dI) vwCl [] H := hP
  have hD : va_D A [] := hD
  refine lv_icmp_eq (tgt := 922) hx hb dL_law_438 (by decide) (fun c_505 => ?_) (fun c_505 => ?_)
  · skip
    refine W.widen (k := 600000) (n := 7302250) (Nat.le_of_ble_eq_true rfl) (Nat.le_of_ble_eq_true rfl) ?_
    exact law_tail C0 hAi H locs ls q_1 q_55 hS hl
  · exact absurd (hw_502.trans hw_504.symm) c_505

set_option maxHeartbeats 4000000 in
set_option maxRecDepth 100000 in
/-- the law at folds -/
theorem law_9 {p : Program} {l : Launch} {e : Env} {s : State} {m : MethodId} {below : List Frame} {meth : Method} {c : Code} {dC : Nat → ClassId} {dI : Nat → Nat → Nat} {b : Nat} {xs : Nat → Int32} {A : Nat → Prop} (C0 : lw_At p s m meth c b 6 xs) (hN : nw s) (hA : ∀ q : Nat, s.heap.size ≤ q → A q) (hAi : ∀ q : Nat, A q → s.heap.size ≤ q) (q_1 : Nat) (q_3 : Nat) (q_4 : Nat) (q_5 : Nat) (q_6 : Nat) (q_7 : Nat) (q_8 : Nat) (q_9 : Nat) (q_10 : Nat) (q_11 : Nat) (q_12 : Nat) (q_13 : Nat) (q_14 : Nat) (q_15 : Nat) (q_16 : Nat) (q_21 : Nat) (q_22 : Nat) (q_23 : Nat) (q_27 : Nat) (q_28 : Nat) (q_29 : Nat) (c_30 : ClassId) (c_51 : ClassId) (q_55 : Nat) (q_57 : Nat) (q_58 : Nat) (q_59 : Nat) (q_60 : Nat) (q_61 : Nat) (q_62 : Nat) (q_63 : Nat) (q_64 : Nat) (q_65 : Nat) (q_66 : Nat) (q_67 : Nat) (q_68 : Nat) (q_69 : Nat) (q_70 : Nat) (q_71 : Nat) (c_80 : ClassId) (c_76 : ClassId) (c_75 : ClassId) (H : Heap) (locs : List Loc) (ls : Array Slot) (hK : va_K (dC, dI) vwCl [(c_30, .int), (c_51, .object RX6), (c_80, .int), (c_76, .int), (c_75, .int)] s) (hP : va_P (dC, dI) vwCl [(q_1, .inr (7, [.ref q_3, .ref q_4, .ref q_5, .ref q_6, .ref q_7, .ref q_8, .ref q_9, .ref q_10, .ref q_11, .ref q_12, .int 0, .int (-1), .int (-1), .int 0])), (q_3, .inr (0, [.ref q_13, .ref q_14, .ref q_15, .ref q_16, .int 0])), (q_4, .inr (4, [.ref q_21, .ref q_22, .ref q_23, .ref q_3, .int 0])), (q_5, .inr (2, [.ref q_3, .ref q_4, .ref q_27, .ref q_28, .ref q_29, .int 0, .int 0, .int 0, .int 0, .int 0, .long 0, .long 0])), (q_27, .inl (c_30, 4, .inl (fun _ => 0))), (q_9, .inl (c_51, 21, .inr (.inr (.inr (.inr (fun _ => none)))))), (q_55, .inr (8, [.ref q_57, .ref q_58, .int 0, .ref q_59, .ref q_60, .ref q_61, .int 0, .ref q_62, .int 0, .int 0, .int 0, .ref q_63, .ref q_64, .int 0, .int (-1), .int (-1), .ref q_65, .ref q_66, .ref q_67, .ref q_68, .ref q_69, .ref q_70, .ref q_71])), (q_65, .inl (c_80, 4, .inl (fun _ => 0))), (q_61, .inl (c_76, 21, .inl (fun _ => 0))), (q_60, .inl (c_75, 134400, .inl (fun _ => 0)))] H) (hD : va_D A [(q_1, .inr (7, [.ref q_3, .ref q_4, .ref q_5, .ref q_6, .ref q_7, .ref q_8, .ref q_9, .ref q_10, .ref q_11, .ref q_12, .int 0, .int (-1), .int (-1), .int 0])), (q_3, .inr (0, [.ref q_13, .ref q_14, .ref q_15, .ref q_16, .int 0])), (q_4, .inr (4, [.ref q_21, .ref q_22, .ref q_23, .ref q_3, .int 0])), (q_5, .inr (2, [.ref q_3, .ref q_4, .ref q_27, .ref q_28, .ref q_29, .int 0, .int 0, .int 0, .int 0, .int 0, .long 0, .long 0])), (q_27, .inl (c_30, 4, .inl (fun _ => 0))), (q_9, .inl (c_51, 21, .inr (.inr (.inr (.inr (fun _ => none)))))), (q_55, .inr (8, [.ref q_57, .ref q_58, .int 0, .ref q_59, .ref q_60, .ref q_61, .int 0, .ref q_62, .int 0, .int 0, .int 0, .ref q_63, .ref q_64, .int 0, .int (-1), .int (-1), .ref q_65, .ref q_66, .ref q_67, .ref q_68, .ref q_69, .ref q_70, .ref q_71])), (q_65, .inl (c_80, 4, .inl (fun _ => 0))), (q_61, .inl (c_76, 21, .inl (fun _ => 0))), (q_60, .inl (c_75, 134400, .inl (fun _ => 0)))]) (hS : va_S A s.heap H locs) (hl : lv_has ls 4 [(3, .int 0), (2, .ref q_55), (1, .ref q_1), (0, .ref b)]) : W p l e room_1 s m #[Value.ref b] below meth c H locs 46 149056 (lw_Z below #[Value.ref b] s) (F0 m 443 ls []) := by
  obtain ⟨hx, hb, hr, hml, hown, hts0, hX, hbl, hlocks, hgv⟩ := id C0
  have hts : ∀ w ∈ wsL_law, w.before #[Value.ref b] s = true := fun w h => hts0 w (wsL_law_in w h)
  have hown : s.vm.findClass RL = some m.cls := hown
  have hb : c.code = cL_law := hb
  have hbA : ¬ A b := fun q => absurd (hAi b q) (Nat.not_le.mpr hbl)
  refine lv_aload_n hx hb dL_law_443 rfl (lv_at hl 2 rfl) ?_
  refine lv_aload_n hx hb dL_law_444 rfl (lv_at hl 3 rfl) ?_
  refine lv_iload_n hx hb dL_law_445 rfl (lv_at hl 0 rfl) ?_
  refine lv_iconst (v := 1) hx hb dL_law_446 (by decide) ?_
  refine lv_iadd hx hb dL_law_447 ?_
  refine tvv (v := .int 1) (congrArg Value.int (by decide)) ?_
  refine va_sld hx hb hX hbl hbA hS (vi _ _ (by decide)) dL_law_448 ?_
  refine tvv (v := .int (xs 1)) (congrArg Value.int (congrArg xs (by decide))) ?_
  refine lv_aload_n hx hb dL_law_449 rfl (lv_at hl 3 rfl) ?_
  refine lv_iload_n hx hb dL_law_450 rfl (lv_at hl 0 rfl) ?_
  refine lv_iconst (v := 2) hx hb dL_law_451 (by decide) ?_
  refine lv_iadd hx hb dL_law_452 ?_
  refine tvv (v := .int 2) (congrArg Value.int (by decide)) ?_
  refine va_sld hx hb hX hbl hbA hS (vi _ _ (by decide)) dL_law_453 ?_
  refine tvv (v := .int (xs 2)) (congrArg Value.int (congrArg xs (by decide))) ?_
  refine lv_aload_n hx hb dL_law_454 rfl (lv_at hl 3 rfl) ?_
  refine lv_iload_n hx hb dL_law_455 rfl (lv_at hl 0 rfl) ?_
  refine lv_iconst (v := 3) hx hb dL_law_456 (by decide) ?_
  refine lv_iadd hx hb dL_law_457 ?_
  refine tvv (v := .int 3) (congrArg Value.int (by decide)) ?_
  refine va_sld hx hb hX hbl hbA hS (vi _ _ (by decide)) dL_law_458 ?_
  refine tvv (v := .int (xs 3)) (congrArg Value.int (congrArg xs (by decide))) ?_
  have hPc := hP.sub (ws' := [(q_1, .inr (7, [.ref q_3, .ref q_4, .ref q_5, .ref q_6, .ref q_7, .ref q_8, .ref q_9, .ref q_10, .ref q_11, .ref q_12, .int 0, .int (-1), .int (-1), .int 0])), (q_3, .inr (0, [.ref q_13, .ref q_14, .ref q_15, .ref q_16, .int 0])), (q_4, .inr (4, [.ref q_21, .ref q_22, .ref q_23, .ref q_3, .int 0])), (q_5, .inr (2, [.ref q_3, .ref q_4, .ref q_27, .ref q_28, .ref q_29, .int 0, .int 0, .int 0, .int 0, .int 0, .long 0, .long 0])), (q_27, .inl (c_30, 4, .inl (fun _ => 0))), (q_9, .inl (c_51, 21, .inr (.inr (.inr (.inr (fun _ => none))))))]) [0, 1, 2, 3, 4, 5] rfl
  have hDc := hD.sub (ws' := [(q_1, .inr (7, [.ref q_3, .ref q_4, .ref q_5, .ref q_6, .ref q_7, .ref q_8, .ref q_9, .ref q_10, .ref q_11, .ref q_12, .int 0, .int (-1), .int (-1), .int 0])), (q_3, .inr (0, [.ref q_13, .ref q_14, .ref q_15, .ref q_16, .int 0])), (q_4, .inr (4, [.ref q_21, .ref q_22, .ref q_23, .ref q_3, .int 0])), (q_5, .inr (2, [.ref q_3, .ref q_4, .ref q_27, .ref q_28, .ref q_29, .int 0, .int 0, .int 0, .int 0, .int 0, .long 0, .long 0])), (q_27, .inl (c_30, 4, .inl (fun _ => 0))), (q_9, .inl (c_51, 21, .inr (.inr (.inr (.inr (fun _ => none))))))]) [0, 1, 2, 3, 4, 5] (by decide) rfl
  have hKc := hK.sub (tys' := [(c_30, .int), (c_51, .object RX6)]) [0, 1] rfl
  have hFc := va_free (wc := [(q_1, .inr (7, [.ref q_3, .ref q_4, .ref q_5, .ref q_6, .ref q_7, .ref q_8, .ref q_9, .ref q_10, .ref q_11, .ref q_12, .int 0, .int (-1), .int (-1), .int 0])), (q_3, .inr (0, [.ref q_13, .ref q_14, .ref q_15, .ref q_16, .int 0])), (q_4, .inr (4, [.ref q_21, .ref q_22, .ref q_23, .ref q_3, .int 0])), (q_5, .inr (2, [.ref q_3, .ref q_4, .ref q_27, .ref q_28, .ref q_29, .int 0, .int 0, .int 0, .int 0, .int 0, .long 0, .long 0])), (q_27, .inl (c_30, 4, .inl (fun _ => 0))), (q_9, .inl (c_51, 21, .inr (.inr (.inr (.inr (fun _ => none))))))]) hD hS hA [0, 1, 2, 3, 4, 5] rfl
  refine va_calli (va_runV (As := [.int (xs 1), .int (xs 2), .int (xs 3)]) (rest := []) ⟨hx, hb, hml, hown, hts⟩ (c_x_folds l dC dI H.size q_1 (xs 1) (xs 2) (xs 3) q_3 q_4 q_5 q_27 q_9 q_6 q_7 q_8 q_10 q_11 q_12 q_13 q_14 q_15 q_16 q_21 q_22 q_23 q_3 q_28 q_29 c_30 c_51 ) (cwV 3 hts gL_law_X7_folds rfl rfl rfl (by decide +kernel) ⟨Nat.le_of_ble_eq_true rfl, Nat.le_of_ble_eq_true rfl⟩) (pre_V hPc hKc hDc hN (ci := 7) (q0 := 0) rfl rfl) rfl rfl hl.1 rfl (lv_room (Nat.le_of_ble_eq_true rfl)) dL_law_459 ⟨Nat.le_of_ble_eq_true rfl, Nat.le_of_ble_eq_true rfl⟩) hS (fun q _ h => hFc q h) hFc (fun r_501 u t H1 locs ht hvm hw hB hz1 hk1 hS => ?_)
  clear hPc hDc hKc
  have hw_502 := hw
  obtain ⟨hP, hD⟩ := va_join (wr := [(q_55, .inr (8, [.ref q_57, .ref q_58, .int 0, .ref q_59, .ref q_60, .ref q_61, .int 0, .ref q_62, .int 0, .int 0, .int 0, .ref q_63, .ref q_64, .int 0, .int (-1), .int (-1), .ref q_65, .ref q_66, .ref q_67, .ref q_68, .ref q_69, .ref q_70, .ref q_71])), (q_65, .inl (c_80, 4, .inl (fun _ => 0))), (q_61, .inl (c_76, 21, .inl (fun _ => 0))), (q_60, .inl (c_75, 134400, .inl (fun _ => 0)))]) (w1 := []) hP hD [0, 1, 2, 3, 4, 5] [6, 7, 8, 9] rfl rfl (by decide) (by decide) hk1 hFc nil_P nil_D
  generalize H1 = H at hP hS ⊢
  have hP : va_P (dC, dI) vwCl [(q_55, .inr (8, [.ref q_57, .ref q_58, .int 0, .ref q_59, .ref q_60, .ref q_61, .int 0, .ref q_62, .int 0, .int 0, .int 0, .ref q_63, .ref q_64, .int 0, .int (-1), .int (-1), .ref q_65, .ref q_66, .ref q_67, .ref q_68, .ref q_69, .ref q_70, .ref q_71])), (q_65, .inl (c_80, 4, .inl (fun _ => 0))), (q_61, .inl (c_76, 21, .inl (fun _ => 0))), (q_60, .inl (c_75, 134400, .inl (fun _ => 0)))] H := hP
  have hD : va_D A [(q_55, .inr (8, [.ref q_57, .ref q_58, .int 0, .ref q_59, .ref q_60, .ref q_61, .int 0, .ref q_62, .int 0, .int 0, .int 0, .ref q_63, .ref q_64, .int 0, .int (-1), .int (-1), .ref q_65, .ref q_66, .ref q_67, .ref q_68, .ref q_69, .ref q_70, .ref q_71])), (q_65, .inl (c_80, 4, .inl (fun _ => 0))), (q_61, .inl (c_76, 21, .inl (fun _ => 0))), (q_60, .inl (c_75, 134400, .inl (fun _ => 0)))] := hD
  refine W.widen (k := 53) (n := 153662) (Nat.le_of_ble_eq_true rfl) (Nat.le_of_ble_eq_true rfl) ?_
  refine lv_aload_n hx hb dL_law_462 rfl (lv_at hl 1 rfl) ?_
  refine lv_aload_n hx hb dL_law_463 rfl (lv_at hl 3 rfl) ?_
  refine lv_iload_n hx hb dL_law_464 rfl (lv_at hl 0 rfl) ?_
  refine lv_iconst (v := 1) hx hb dL_law_465 (by decide) ?_
  refine lv_iadd hx hb dL_law_466 ?_
  refine tvv (v := .int 1) (congrArg Value.int (by decide)) ?_
  refine va_sld hx hb hX hbl hbA hS (vi _ _ (by decide)) dL_law_467 ?_
  refine tvv (v := .int (xs 1)) (congrArg Value.int (congrArg xs (by decide))) ?_
  refine lv_aload_n hx hb dL_law_468 rfl (lv_at hl 3 rfl) ?_
  refine lv_iload_n hx hb dL_law_469 rfl (lv_at hl 0 rfl) ?_
  refine lv_iconst (v := 2) hx hb dL_law_470 (by decide) ?_
  refine lv_iadd hx hb dL_law_471 ?_
  refine tvv (v := .int 2) (congrArg Value.int (by decide)) ?_
  refine va_sld hx hb hX hbl hbA hS (vi _ _ (by decide)) dL_law_472 ?_
  refine tvv (v := .int (xs 2)) (congrArg Value.int (congrArg xs (by decide))) ?_
  refine lv_aload_n hx hb dL_law_473 rfl (lv_at hl 3 rfl) ?_
  refine lv_iload_n hx hb dL_law_474 rfl (lv_at hl 0 rfl) ?_
  refine lv_iconst (v := 3) hx hb dL_law_475 (by decide) ?_
  refine lv_iadd hx hb dL_law_476 ?_
  refine tvv (v := .int 3) (congrArg Value.int (by decide)) ?_
  refine va_sld hx hb hX hbl hbA hS (vi _ _ (by decide)) dL_law_477 ?_
  refine tvv (v := .int (xs 3)) (congrArg Value.int (congrArg xs (by decide))) ?_
  have hPc := hP.sub (ws' := [(q_55, .inr (8, [.ref q_57, .ref q_58, .int 0, .ref q_59, .ref q_60, .ref q_61, .int 0, .ref q_62, .int 0, .int 0, .int 0, .ref q_63, .ref q_64, .int 0, .int (-1), .int (-1), .ref q_65, .ref q_66, .ref q_67, .ref q_68, .ref q_69, .ref q_70, .ref q_71])), (q_65, .inl (c_80, 4, .inl (fun _ => 0))), (q_61, .inl (c_76, 21, .inl (fun _ => 0))), (q_60, .inl (c_75, 134400, .inl (fun _ => 0)))]) [0, 1, 2, 3] rfl
  have hDc := hD.sub (ws' := [(q_55, .inr (8, [.ref q_57, .ref q_58, .int 0, .ref q_59, .ref q_60, .ref q_61, .int 0, .ref q_62, .int 0, .int 0, .int 0, .ref q_63, .ref q_64, .int 0, .int (-1), .int (-1), .ref q_65, .ref q_66, .ref q_67, .ref q_68, .ref q_69, .ref q_70, .ref q_71])), (q_65, .inl (c_80, 4, .inl (fun _ => 0))), (q_61, .inl (c_76, 21, .inl (fun _ => 0))), (q_60, .inl (c_75, 134400, .inl (fun _ => 0)))]) [0, 1, 2, 3] (by decide) rfl
  have hKc := hK.sub (tys' := [(c_80, .int), (c_76, .int), (c_75, .int)]) [2, 3, 4] rfl
  have hFc := va_free (wc := [(q_55, .inr (8, [.ref q_57, .ref q_58, .int 0, .ref q_59, .ref q_60, .ref q_61, .int 0, .ref q_62, .int 0, .int 0, .int 0, .ref q_63, .ref q_64, .int 0, .int (-1), .int (-1), .ref q_65, .ref q_66, .ref q_67, .ref q_68, .ref q_69, .ref q_70, .ref q_71])), (q_65, .inl (c_80, 4, .inl (fun _ => 0))), (q_61, .inl (c_76, 21, .inl (fun _ => 0))), (q_60, .inl (c_75, 134400, .inl (fun _ => 0)))]) hD hS hA [0, 1, 2, 3] rfl
  refine va_calli (va_runV (As := [.int (xs 1), .int (xs 2), .int (xs 3)]) (rest := [.int r_501]) ⟨hx, hb, hml, hown, hts⟩ (c_m_folds l dC dI H.size q_55 (xs 1) (xs 2) (xs 3) q_65 q_61 q_60 q_57 q_58 q_59 q_62 q_63 q_64 q_66 q_67 q_68 q_69 q_70 q_71 c_80 c_76 c_75 ) (cwV 3 hts gL_law_X8_folds rfl rfl rfl (by decide +kernel) ⟨Nat.le_of_ble_eq_true rfl, Nat.le_of_ble_eq_true rfl⟩) (pre_V hPc hKc hDc hN (ci := 8) (q0 := 0) rfl rfl) rfl rfl hl.1 rfl (lv_room (Nat.le_of_ble_eq_true rfl)) dL_law_478 ⟨Nat.le_of_ble_eq_true rfl, Nat.le_of_ble_eq_true rfl⟩) hS (fun q _ h => hFc q h) hFc (fun r_503 u t H1 locs ht hvm hw hB hz1 hk1 hS => ?_)
  clear hPc hDc hKc
  have hw_504 := hw
  obtain ⟨hP, hD⟩ := va_join (wr := []) (w1 := []) hP hD [0, 1, 2, 3] [] rfl rfl (by decide) (by decide) hk1 hFc nil_P nil_D
  generalize H1 = H at hP hS ⊢
  have hP : va_P (dC, dI) vwCl [] H := hP
  have hD : va_D A [] := hD
  refine lv_icmp_eq (tgt := 922) hx hb dL_law_481 (by decide) (fun c_505 => ?_) (fun c_505 => ?_)
  · skip
    refine W.widen (k := 600000) (n := 7302250) (Nat.le_of_ble_eq_true rfl) (Nat.le_of_ble_eq_true rfl) ?_
    exact law_tail C0 hAi H locs ls q_1 q_55 hS hl
  · exact absurd (pe hw_502 hw_504) c_505

set_option maxHeartbeats 4000000 in
set_option maxRecDepth 100000 in
/-- the law at remove -/
theorem law_10 {p : Program} {l : Launch} {e : Env} {s : State} {m : MethodId} {below : List Frame} {meth : Method} {c : Code} {dC : Nat → ClassId} {dI : Nat → Nat → Nat} {b : Nat} {xs : Nat → Int32} {A : Nat → Prop} (C0 : lw_At p s m meth c b 6 xs) (hN : nw s) (hA : ∀ q : Nat, s.heap.size ≤ q → A q) (hAi : ∀ q : Nat, A q → s.heap.size ≤ q) (q_1 : Nat) (q_3 : Nat) (q_4 : Nat) (q_5 : Nat) (q_6 : Nat) (q_7 : Nat) (q_8 : Nat) (q_9 : Nat) (q_10 : Nat) (q_11 : Nat) (q_12 : Nat) (q_55 : Nat) (q_57 : Nat) (q_58 : Nat) (q_59 : Nat) (q_60 : Nat) (q_61 : Nat) (q_62 : Nat) (q_63 : Nat) (q_64 : Nat) (q_65 : Nat) (q_66 : Nat) (q_67 : Nat) (q_68 : Nat) (q_69 : Nat) (q_70 : Nat) (q_71 : Nat) (H : Heap) (locs : List Loc) (ls : Array Slot) (hK : va_K (dC, dI) vwCl [] s) (hP : va_P (dC, dI) vwCl [(q_1, .inr (7, [.ref q_3, .ref q_4, .ref q_5, .ref q_6, .ref q_7, .ref q_8, .ref q_9, .ref q_10, .ref q_11, .ref q_12, .int 0, .int (-1), .int (-1), .int 0])), (q_55, .inr (8, [.ref q_57, .ref q_58, .int 0, .ref q_59, .ref q_60, .ref q_61, .int 0, .ref q_62, .int 0, .int 0, .int 0, .ref q_63, .ref q_64, .int 0, .int (-1), .int (-1), .ref q_65, .ref q_66, .ref q_67, .ref q_68, .ref q_69, .ref q_70, .ref q_71]))] H) (hD : va_D A [(q_1, .inr (7, [.ref q_3, .ref q_4, .ref q_5, .ref q_6, .ref q_7, .ref q_8, .ref q_9, .ref q_10, .ref q_11, .ref q_12, .int 0, .int (-1), .int (-1), .int 0])), (q_55, .inr (8, [.ref q_57, .ref q_58, .int 0, .ref q_59, .ref q_60, .ref q_61, .int 0, .ref q_62, .int 0, .int 0, .int 0, .ref q_63, .ref q_64, .int 0, .int (-1), .int (-1), .ref q_65, .ref q_66, .ref q_67, .ref q_68, .ref q_69, .ref q_70, .ref q_71]))]) (hS : va_S A s.heap H locs) (hl : lv_has ls 4 [(3, .int 0), (2, .ref q_55), (1, .ref q_1), (0, .ref b)]) : W p l e room_1 s m #[Value.ref b] below meth c H locs 46 149056 (lw_Z below #[Value.ref b] s) (F0 m 486 ls []) := by
  obtain ⟨hx, hb, hr, hml, hown, hts0, hX, hbl, hlocks, hgv⟩ := id C0
  have hts : ∀ w ∈ wsL_law, w.before #[Value.ref b] s = true := fun w h => hts0 w (wsL_law_in w h)
  have hown : s.vm.findClass RL = some m.cls := hown
  have hb : c.code = cL_law := hb
  have hbA : ¬ A b := fun q => absurd (hAi b q) (Nat.not_le.mpr hbl)
  refine lv_aload_n hx hb dL_law_486 rfl (lv_at hl 2 rfl) ?_
  have hPc := hP.sub (ws' := [(q_1, .inr (7, [.ref q_3, .ref q_4, .ref q_5, .ref q_6, .ref q_7, .ref q_8, .ref q_9, .ref q_10, .ref q_11, .ref q_12, .int 0, .int (-1), .int (-1), .int 0]))]) [0] rfl
  have hDc := hD.sub (ws' := [(q_1, .inr (7, [.ref q_3, .ref q_4, .ref q_5, .ref q_6, .ref q_7, .ref q_8, .ref q_9, .ref q_10, .ref q_11, .ref q_12, .int 0, .int (-1), .int (-1), .int 0]))]) [0] (by decide) rfl
  have hKc := hK.sub (tys' := []) [] rfl
  have hFc := va_free (wc := [(q_1, .inr (7, [.ref q_3, .ref q_4, .ref q_5, .ref q_6, .ref q_7, .ref q_8, .ref q_9, .ref q_10, .ref q_11, .ref q_12, .int 0, .int (-1), .int (-1), .int 0]))]) hD hS hA [0] rfl
  refine va_calli (va_runV (As := []) (rest := []) ⟨hx, hb, hml, hown, hts⟩ (c_x_remove l dC dI H.size q_1 q_3 q_4 q_5 q_6 q_7 q_8 q_9 q_10 q_11 q_12 ) (cwV 0 hts gL_law_X7_remove rfl rfl rfl (by decide +kernel) ⟨Nat.le_of_ble_eq_true rfl, Nat.le_of_ble_eq_true rfl⟩) (pre_V hPc hKc hDc hN (ci := 7) (q0 := 0) rfl rfl) rfl rfl hl.1 rfl (lv_room (Nat.le_of_ble_eq_true rfl)) dL_law_487 ⟨Nat.le_of_ble_eq_true rfl, Nat.le_of_ble_eq_true rfl⟩) hS (fun q _ h => hFc q h) hFc (fun r_501 u t H1 locs ht hvm hw hB hz1 hk1 hS => ?_)
  clear hPc hDc hKc
  have hw_502 := hw
  obtain ⟨hP, hD⟩ := va_join (wr := [(q_55, .inr (8, [.ref q_57, .ref q_58, .int 0, .ref q_59, .ref q_60, .ref q_61, .int 0, .ref q_62, .int 0, .int 0, .int 0, .ref q_63, .ref q_64, .int 0, .int (-1), .int (-1), .ref q_65, .ref q_66, .ref q_67, .ref q_68, .ref q_69, .ref q_70, .ref q_71]))]) (w1 := []) hP hD [0] [1] rfl rfl (by decide) (by decide) hk1 hFc nil_P nil_D
  generalize H1 = H at hP hS ⊢
  have hP : va_P (dC, dI) vwCl [(q_55, .inr (8, [.ref q_57, .ref q_58, .int 0, .ref q_59, .ref q_60, .ref q_61, .int 0, .ref q_62, .int 0, .int 0, .int 0, .ref q_63, .ref q_64, .int 0, .int (-1), .int (-1), .ref q_65, .ref q_66, .ref q_67, .ref q_68, .ref q_69, .ref q_70, .ref q_71]))] H := hP
  have hD : va_D A [(q_55, .inr (8, [.ref q_57, .ref q_58, .int 0, .ref q_59, .ref q_60, .ref q_61, .int 0, .ref q_62, .int 0, .int 0, .int 0, .ref q_63, .ref q_64, .int 0, .int (-1), .int (-1), .ref q_65, .ref q_66, .ref q_67, .ref q_68, .ref q_69, .ref q_70, .ref q_71]))] := hD
  refine lv_aload_n hx hb dL_law_490 rfl (lv_at hl 1 rfl) ?_
  have hPc := hP.sub (ws' := [(q_55, .inr (8, [.ref q_57, .ref q_58, .int 0, .ref q_59, .ref q_60, .ref q_61, .int 0, .ref q_62, .int 0, .int 0, .int 0, .ref q_63, .ref q_64, .int 0, .int (-1), .int (-1), .ref q_65, .ref q_66, .ref q_67, .ref q_68, .ref q_69, .ref q_70, .ref q_71]))]) [0] rfl
  have hDc := hD.sub (ws' := [(q_55, .inr (8, [.ref q_57, .ref q_58, .int 0, .ref q_59, .ref q_60, .ref q_61, .int 0, .ref q_62, .int 0, .int 0, .int 0, .ref q_63, .ref q_64, .int 0, .int (-1), .int (-1), .ref q_65, .ref q_66, .ref q_67, .ref q_68, .ref q_69, .ref q_70, .ref q_71]))]) [0] (by decide) rfl
  have hKc := hK.sub (tys' := []) [] rfl
  have hFc := va_free (wc := [(q_55, .inr (8, [.ref q_57, .ref q_58, .int 0, .ref q_59, .ref q_60, .ref q_61, .int 0, .ref q_62, .int 0, .int 0, .int 0, .ref q_63, .ref q_64, .int 0, .int (-1), .int (-1), .ref q_65, .ref q_66, .ref q_67, .ref q_68, .ref q_69, .ref q_70, .ref q_71]))]) hD hS hA [0] rfl
  refine va_calli (va_runV (As := []) (rest := [.int r_501]) ⟨hx, hb, hml, hown, hts⟩ (c_m_remove l dC dI H.size q_55 q_57 q_58 q_59 q_60 q_61 q_62 q_63 q_64 q_65 q_66 q_67 q_68 q_69 q_70 q_71 ) (cwV 0 hts gL_law_X8_remove rfl rfl rfl (by decide +kernel) ⟨Nat.le_of_ble_eq_true rfl, Nat.le_of_ble_eq_true rfl⟩) (pre_V hPc hKc hDc hN (ci := 8) (q0 := 0) rfl rfl) rfl rfl hl.1 rfl (lv_room (Nat.le_of_ble_eq_true rfl)) dL_law_491 ⟨Nat.le_of_ble_eq_true rfl, Nat.le_of_ble_eq_true rfl⟩) hS (fun q _ h => hFc q h) hFc (fun r_503 u t H1 locs ht hvm hw hB hz1 hk1 hS => ?_)
  clear hPc hDc hKc
  have hw_504 := hw
  obtain ⟨hP, hD⟩ := va_join (wr := []) (w1 := []) hP hD [0] [] rfl rfl (by decide) (by decide) hk1 hFc nil_P nil_D
  generalize H1 = H at hP hS ⊢
  have hP : va_P (dC, dI) vwCl [] H := hP
  have hD : va_D A [] := hD
  refine lv_icmp_eq (tgt := 922) hx hb dL_law_494 (by decide) (fun c_505 => ?_) (fun c_505 => ?_)
  · skip
    refine W.widen (k := 600000) (n := 7302250) (Nat.le_of_ble_eq_true rfl) (Nat.le_of_ble_eq_true rfl) ?_
    exact law_tail C0 hAi H locs ls q_1 q_55 hS hl
  · exact absurd (hw_502.trans hw_504.symm) c_505
