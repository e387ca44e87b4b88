set_option maxHeartbeats 8000000 in
set_option maxRecDepth 100000 in
/-- THE LAW, from its entry -/
theorem whole_start {p : Program} {e : Env} {s : State} {m : MethodId} {below : List Frame} {meth : Method} {c : Code} (l : Launch) {b L : Nat} {xs : Nat → Int32} (hL : L ≤ 6) (C0 : lw_At p s m meth c b L xs) : W p l e room_1 s m #[Value.ref b] below meth c s.heap [] 0 0 (lw_Z below #[Value.ref b] s) (entryFrame m ([Value.ref b] : List Value).toArray 4) := by
  obtain ⟨A, hA, hAi⟩ : ∃ A : Nat → Prop, (∀ q : Nat, s.heap.size ≤ q → A q) ∧ (∀ q : Nat, A q → s.heap.size ≤ q) := ⟨fun q => s.heap.size ≤ q, fun _ h => h, fun _ h => h⟩
  obtain ⟨hx, hb, hr, hml, hown, hts0, hX, hbl, hlocks, hgv⟩ := id C0
  have hts : ∀ w ∈ wsL_law, w.before #[Value.ref b] s = true := fun w h => hts0 w (wsL_law_in w h)
  have hown : s.vm.findClass RL = some m.cls := hown
  have hb : c.code = cL_law := hb
  have hbA : ¬ A b := fun q => absurd (hAi b q) (Nat.not_le.mpr hbl)
  have hN : nw s := ⟨va_Nw.of rfl (hts0 (.methodLinkNest RX7 11 yX0_init "AskTree") (by decide +kernel)), va_Nw.of rfl (hts0 (.methodLinkNest RX7 253 yX6_init "AskTree") (by decide +kernel)), va_Nw.of rfl (hts0 (.methodLinkNest RX7 43 yX3_init "AskTree") (by decide +kernel)), va_Nw.of rfl (hts0 (.methodLinkNest RX1 114 yX7_clear "AskTree") (by decide +kernel)), va_Nw.of rfl (hts0 (.methodLinkNest RX1 124 yX7_firstGreatest "AskTree") (by decide +kernel)), va_Nw.of rfl (hts0 (.methodLinkNest RX2 61 yX7_firstGreatest "AskTree") (by decide +kernel)), va_Nw.of rfl (hts0 (.methodLinkNest RX4 48 yX7_clear "AskTree") (by decide +kernel)), va_AO.of (hts0 (.arrayOver (.object "AskTree$Tree")) (by decide +kernel))⟩
  have hi0 : ∀ w ∈ u_ws RX0 TX0 5, w ∈ wsL_law := inlX0
  obtain ⟨d0, i0, hKn0⟩ := u_known (C := RX0) (T := TX0) (N := 5) (n := 5) hts0 inX0 (hts0 (.instantiable RX0 5) (by decide +kernel))
  have hi1 : ∀ w ∈ u_ws RX1 TX1 12, w ∈ wsL_law := inlX1
  obtain ⟨d1, i1, hKn1⟩ := u_known (C := RX1) (T := TX1) (N := 12) (n := 12) hts0 inX1 (hts0 (.instantiable RX1 12) (by decide +kernel))
  have hi2 : ∀ w ∈ u_ws RX2 TX2 12, w ∈ wsL_law := inlX2
  obtain ⟨d2, i2, hKn2⟩ := u_known (C := RX2) (T := TX2) (N := 12) (n := 12) hts0 inX2 (hts0 (.instantiable RX2 12) (by decide +kernel))
  have hi3 : ∀ w ∈ u_ws RX3 TX3 5, w ∈ wsL_law := inlX3
  obtain ⟨d3, i3, hKn3⟩ := u_known (C := RX3) (T := TX3) (N := 5) (n := 5) hts0 inX3 (hts0 (.instantiable RX3 5) (by decide +kernel))
  have hi4 : ∀ w ∈ u_ws RX4 TX4 5, w ∈ wsL_law := inlX4
  obtain ⟨d4, i4, hKn4⟩ := u_known (C := RX4) (T := TX4) (N := 5) (n := 5) hts0 inX4 (hts0 (.instantiable RX4 5) (by decide +kernel))
  have hi5 : ∀ w ∈ u_ws RX5 TX5 7, w ∈ wsL_law := inlX5
  obtain ⟨d5, i5, hKn5⟩ := u_known (C := RX5) (T := TX5) (N := 7) (n := 7) hts0 inX5 (hts0 (.instantiable RX5 7) (by decide +kernel))
  have hi6 : ∀ w ∈ u_ws RX6 TX6 7, w ∈ wsL_law := inlX6
  obtain ⟨d6, i6, hKn6⟩ := u_known (C := RX6) (T := TX6) (N := 7) (n := 7) hts0 inX6 (hts0 (.instantiable RX6 7) (by decide +kernel))
  have hi7 : ∀ w ∈ u_ws RX7 TX7 14, w ∈ wsL_law := inlX7
  obtain ⟨d7, i7, hKn7⟩ := u_known (C := RX7) (T := TX7) (N := 14) (n := 14) hts0 inX7 (hts0 (.instantiable RX7 14) (by decide +kernel))
  have hi8 : ∀ w ∈ u_ws RX8 TX8 23, w ∈ wsL_law := inlX8
  obtain ⟨d8, i8, hKn8⟩ := u_known (C := RX8) (T := TX8) (N := 23) (n := 23) hts0 inX8 (hts0 (.instantiable RX8 23) (by decide +kernel))
  obtain ⟨dC, dI, hKc⟩ : ∃ (dC : Nat → ClassId) (dI : Nat → Nat → Nat), ∀ (k : Nat) (q : vw_C), vwCl[k]? = some q → u_Kn s q.1 q.2.1 q.2.2 (dC k) (dI k) := by
    refine ⟨fun k => match k with | 0 => d0 | 1 => d1 | 2 => d2 | 3 => d3 | 4 => d4 | 5 => d5 | 6 => d6 | 7 => d7 | _ => d8, fun k => match k with | 0 => i0 | 1 => i1 | 2 => i2 | 3 => i3 | 4 => i4 | 5 => i5 | 6 => i6 | 7 => i7 | _ => i8, ?_⟩
    intro k q hq
    match k, hq with
    | 0, hq => cases hq; exact hKn0
    | 1, hq => cases hq; exact hKn1
    | 2, hq => cases hq; exact hKn2
    | 3, hq => cases hq; exact hKn3
    | 4, hq => cases hq; exact hKn4
    | 5, hq => cases hq; exact hKn5
    | 6, hq => cases hq; exact hKn6
    | 7, hq => cases hq; exact hKn7
    | 8, hq => cases hq; exact hKn8
    | k + 9, hq => simp [vwCl] at hq
  have hS : va_S A s.heap s.heap [] := va_S.rf
  have hK : va_K (dC, dI) vwCl [] s := ⟨hKc, fun k q h => by simp at h⟩
  have hP : va_P (dC, dI) vwCl [] s.heap := nil_P
  have hD : va_D A [] := nil_D
  have hl := lv_entry ([.ref b]) (n := 4) (Nat.le_of_ble_eq_true rfl)
  rw [lg_entry_eq]
  generalize (lg_sl ([.ref b]) ++ List.replicate (4 - (lg_sl ([.ref b])).length) Slot.unset).toArray = ls at hl ⊢
  have hl : lv_has ls 4 [(0, .ref b)] := hl
  refine va_new (ci := 7) (fs := [.null, .null, .null, .null, .null, .null, .null, .null, .null, .null, .int 0, .int 0, .int 0, .int 0]) (C := RX7) (T := TX7) (N := 14) hx hb hts hi7 tyX7 tyX7_ok hown (hts (.classLink RL 7 RX7) (by decide +kernel)) (hts (.instantiable RX7 14) (by decide +kernel)) (hts (.initialized RX7) (by decide +kernel)) hK hP hD hS hA rfl (fun j hj => by rcases (show j = 0 ∨ j = 1 ∨ j = 2 ∨ j = 3 ∨ j = 4 ∨ j = 5 ∨ j = 6 ∨ j = 7 ∨ j = 8 ∨ j = 9 ∨ j = 10 ∨ j = 11 ∨ j = 12 ∨ j = 13 by omega) with rfl | rfl | rfl | rfl | rfl | rfl | rfl | rfl | rfl | rfl | rfl | rfl | rfl | rfl <;> rfl) (Nat.le_of_ble_eq_true rfl) (Nat.le_of_ble_eq_true rfl) dL_law_0 (fun q_1 H hP hD hS => ?_)
  have hP : va_P (dC, dI) vwCl [(q_1, .inr (7, [.null, .null, .null, .null, .null, .null, .null, .null, .null, .null, .int 0, .int 0, .int 0, .int 0]))] H := hP
  have hD : va_D A [(q_1, .inr (7, [.null, .null, .null, .null, .null, .null, .null, .null, .null, .null, .int 0, .int 0, .int 0, .int 0]))] := hD
  refine W.widen (k := 1) (n := 14) (Nat.le_of_ble_eq_true rfl) (Nat.le_of_ble_eq_true rfl) ?_
  refine lv_dup hx hb dL_law_3 rfl ?_
  have hPc := hP.sub (ws' := [(q_1, .inr (7, [.null, .null, .null, .null, .null, .null, .null, .null, .null, .null, .int 0, .int 0, .int 0, .int 0]))]) [0] rfl
  have hDc := hD.sub (ws' := [(q_1, .inr (7, [.null, .null, .null, .null, .null, .null, .null, .null, .null, .null, .int 0, .int 0, .int 0, .int 0]))]) [0] (by decide) rfl
  have hKc := hK.sub (tys' := []) [] rfl
  have hFc := va_free (wc := [(q_1, .inr (7, [.null, .null, .null, .null, .null, .null, .null, .null, .null, .null, .int 0, .int 0, .int 0, .int 0]))]) hD hS hA [0] rfl
  refine va_callv (va_runI (As := []) (rest := [.ref q_1]) ⟨hx, hb, hml, hown, hts⟩ (c_ask_init l dC dI H.size q_1 ) (cwI 0 hts gL_law_X7_init rfl rfl rfl (hts (.initialized RX7) (by decide +kernel)) (hts (.methodLink RL 9 yX7_init) (by decide +kernel)) (hts (.instanceMethod yX7_init) (by decide +kernel)) rfl (by decide +kernel) ⟨Nat.le_of_ble_eq_true rfl, Nat.le_of_ble_eq_true rfl⟩) (pre_S hPc hKc hDc hN) rfl rfl hl.1 rfl (lv_room (Nat.le_of_ble_eq_true rfl)) dL_law_4 ⟨Nat.le_of_ble_eq_true rfl, Nat.le_of_ble_eq_true rfl⟩) hS (fun q _ h => hFc q h) hFc (fun u t H1 locs ht hvm hw hB hz1 hk1 hS => ?_)
  clear hPc hDc hKc
  obtain ⟨q_3, q_4, q_5, q_6, q_7, q_8, q_9, q_10, q_11, q_12, q_13, q_14, q_15, q_16, c_17, c_18, c_19, c_20, q_21, q_22, q_23, c_24, c_25, c_26, q_27, q_28, q_29, c_30, c_31, c_32, q_33, q_34, c_35, c_36, q_37, c_38, q_39, q_40, q_41, q_42, q_43, q_44, c_45, c_46, c_47, c_48, c_49, c_50, c_51, c_52, c_53, c_54, rfl⟩ := hw
  obtain ⟨hP1, hK1, hD1⟩ := hB
  rw [ht] at hP1
  obtain ⟨hP, hD⟩ := va_join (wr := []) (w1 := [(q_1, .inr (7, [.ref q_3, .ref q_4, .ref q_5, .ref q_6, .ref q_7, .ref q_8, .ref q_9, .ref q_10, .ref q_11, .ref q_12, .int 0, .int (-1), .int (-1), .int 0])), (q_3, .inr (0, [.ref q_13, .ref q_14, .ref q_15, .ref q_16, .int 0])), (q_13, .inl (c_17, 8, .inl (fun _ => 0))), (q_14, .inl (c_18, 300, .inl (fun _ => 0))), (q_15, .inl (c_19, 2400, .inl (fun _ => 0))), (q_16, .inl (c_20, 2400, .inl (fun _ => 0))), (q_4, .inr (4, [.ref q_21, .ref q_22, .ref q_23, .ref q_3, .int 0])), (q_21, .inl (c_24, 2400, .inl (fun _ => 0))), (q_22, .inl (c_25, 300, .inl (fun _ => 0))), (q_23, .inl (c_26, 300, .inl (fun _ => 0))), (q_5, .inr (2, [.ref q_3, .ref q_4, .ref q_27, .ref q_28, .ref q_29, .int 0, .int 0, .int 0, .int 0, .int 0, .long 0, .long 0])), (q_27, .inl (c_30, 4, .inl (fun _ => 0))), (q_28, .inl (c_31, 4, .inl (fun _ => 0))), (q_29, .inl (c_32, 4, .inl (fun _ => 0))), (q_6, .inr (1, [.ref q_3, .ref q_4, .ref q_33, .ref q_34, .int 0, .int 0, .int 0, .int 0, .int 0, .int 0, .int 0, .int 0])), (q_33, .inl (c_35, 4, .inl (fun _ => 0))), (q_34, .inl (c_36, 4, .inl (fun _ => 0))), (q_7, .inr (3, [.ref q_37, .int 0, .int 0, .int 0, .int 1])), (q_37, .inl (c_38, 511, .inl (fun _ => 0))), (q_8, .inr (5, [.ref q_13, .ref q_39, .ref q_40, .ref q_41, .ref q_42, .ref q_43, .ref q_44])), (q_39, .inl (c_45, 8, .inl (fun _ => 0))), (q_40, .inl (c_46, 8, .inl (fun _ => 0))), (q_41, .inl (c_47, 8, .inl (fun _ => 0))), (q_42, .inl (c_48, 8, .inl (fun _ => 0))), (q_43, .inl (c_49, 64, .inl (fun _ => 0))), (q_44, .inl (c_50, 8, .inl (fun _ => 0))), (q_9, .inl (c_51, 21, .inr (.inr (.inr (.inr (fun _ => none)))))), (q_10, .inl (c_52, 8, .inl (fun _ => 0))), (q_11, .inl (c_53, 8, .inl (fun _ => 0))), (q_12, .inl (c_54, 4, .inl (fun _ => 0)))]) hP hD [0] [] rfl rfl (by decide) (by decide) hk1 hFc hP1 hD1
  have hK1 := va_K.moved hvm.symm hK1
  have hK := hK.app hK1
  generalize H1 = H at hP hS ⊢
  clear hP1 hD1 hFc hk1 hz1 ht hvm hK1
  have hP : va_P (dC, dI) vwCl [(q_1, .inr (7, [.ref q_3, .ref q_4, .ref q_5, .ref q_6, .ref q_7, .ref q_8, .ref q_9, .ref q_10, .ref q_11, .ref q_12, .int 0, .int (-1), .int (-1), .int 0])), (q_3, .inr (0, [.ref q_13, .ref q_14, .ref q_15, .ref q_16, .int 0])), (q_13, .inl (c_17, 8, .inl (fun _ => 0))), (q_14, .inl (c_18, 300, .inl (fun _ => 0))), (q_15, .inl (c_19, 2400, .inl (fun _ => 0))), (q_16, .inl (c_20, 2400, .inl (fun _ => 0))), (q_4, .inr (4, [.ref q_21, .ref q_22, .ref q_23, .ref q_3, .int 0])), (q_21, .inl (c_24, 2400, .inl (fun _ => 0))), (q_22, .inl (c_25, 300, .inl (fun _ => 0))), (q_23, .inl (c_26, 300, .inl (fun _ => 0))), (q_5, .inr (2, [.ref q_3, .ref q_4, .ref q_27, .ref q_28, .ref q_29, .int 0, .int 0, .int 0, .int 0, .int 0, .long 0, .long 0])), (q_27, .inl (c_30, 4, .inl (fun _ => 0))), (q_28, .inl (c_31, 4, .inl (fun _ => 0))), (q_29, .inl (c_32, 4, .inl (fun _ => 0))), (q_6, .inr (1, [.ref q_3, .ref q_4, .ref q_33, .ref q_34, .int 0, .int 0, .int 0, .int 0, .int 0, .int 0, .int 0, .int 0])), (q_33, .inl (c_35, 4, .inl (fun _ => 0))), (q_34, .inl (c_36, 4, .inl (fun _ => 0))), (q_7, .inr (3, [.ref q_37, .int 0, .int 0, .int 0, .int 1])), (q_37, .inl (c_38, 511, .inl (fun _ => 0))), (q_8, .inr (5, [.ref q_13, .ref q_39, .ref q_40, .ref q_41, .ref q_42, .ref q_43, .ref q_44])), (q_39, .inl (c_45, 8, .inl (fun _ => 0))), (q_40, .inl (c_46, 8, .inl (fun _ => 0))), (q_41, .inl (c_47, 8, .inl (fun _ => 0))), (q_42, .inl (c_48, 8, .inl (fun _ => 0))), (q_43, .inl (c_49, 64, .inl (fun _ => 0))), (q_44, .inl (c_50, 8, .inl (fun _ => 0))), (q_9, .inl (c_51, 21, .inr (.inr (.inr (.inr (fun _ => none)))))), (q_10, .inl (c_52, 8, .inl (fun _ => 0))), (q_11, .inl (c_53, 8, .inl (fun _ => 0))), (q_12, .inl (c_54, 4, .inl (fun _ => 0)))] H := hP
  have hD : va_D A [(q_1, .inr (7, [.ref q_3, .ref q_4, .ref q_5, .ref q_6, .ref q_7, .ref q_8, .ref q_9, .ref q_10, .ref q_11, .ref q_12, .int 0, .int (-1), .int (-1), .int 0])), (q_3, .inr (0, [.ref q_13, .ref q_14, .ref q_15, .ref q_16, .int 0])), (q_13, .inl (c_17, 8, .inl (fun _ => 0))), (q_14, .inl (c_18, 300, .inl (fun _ => 0))), (q_15, .inl (c_19, 2400, .inl (fun _ => 0))), (q_16, .inl (c_20, 2400, .inl (fun _ => 0))), (q_4, .inr (4, [.ref q_21, .ref q_22, .ref q_23, .ref q_3, .int 0])), (q_21, .inl (c_24, 2400, .inl (fun _ => 0))), (q_22, .inl (c_25, 300, .inl (fun _ => 0))), (q_23, .inl (c_26, 300, .inl (fun _ => 0))), (q_5, .inr (2, [.ref q_3, .ref q_4, .ref q_27, .ref q_28, .ref q_29, .int 0, .int 0, .int 0, .int 0, .int 0, .long 0, .long 0])), (q_27, .inl (c_30, 4, .inl (fun _ => 0))), (q_28, .inl (c_31, 4, .inl (fun _ => 0))), (q_29, .inl (c_32, 4, .inl (fun _ => 0))), (q_6, .inr (1, [.ref q_3, .ref q_4, .ref q_33, .ref q_34, .int 0, .int 0, .int 0, .int 0, .int 0, .int 0, .int 0, .int 0])), (q_33, .inl (c_35, 4, .inl (fun _ => 0))), (q_34, .inl (c_36, 4, .inl (fun _ => 0))), (q_7, .inr (3, [.ref q_37, .int 0, .int 0, .int 0, .int 1])), (q_37, .inl (c_38, 511, .inl (fun _ => 0))), (q_8, .inr (5, [.ref q_13, .ref q_39, .ref q_40, .ref q_41, .ref q_42, .ref q_43, .ref q_44])), (q_39, .inl (c_45, 8, .inl (fun _ => 0))), (q_40, .inl (c_46, 8, .inl (fun _ => 0))), (q_41, .inl (c_47, 8, .inl (fun _ => 0))), (q_42, .inl (c_48, 8, .inl (fun _ => 0))), (q_43, .inl (c_49, 64, .inl (fun _ => 0))), (q_44, .inl (c_50, 8, .inl (fun _ => 0))), (q_9, .inl (c_51, 21, .inr (.inr (.inr (.inr (fun _ => none)))))), (q_10, .inl (c_52, 8, .inl (fun _ => 0))), (q_11, .inl (c_53, 8, .inl (fun _ => 0))), (q_12, .inl (c_54, 4, .inl (fun _ => 0)))] := hD
  have hK : va_K (dC, dI) vwCl [(c_17, .int), (c_18, .int), (c_19, .int), (c_20, .int), (c_24, .int), (c_25, .int), (c_26, .int), (c_30, .int), (c_31, .int), (c_32, .int), (c_35, .int), (c_36, .int), (c_38, .int), (c_45, .int), (c_46, .int), (c_47, .int), (c_48, .int), (c_49, .int), (c_50, .boolean), (c_51, .object RX6), (c_52, .int), (c_53, .int), (c_54, .int)] s := hK
  refine W.widen (k := 30) (n := 8844) (Nat.le_of_ble_eq_true rfl) (Nat.le_of_ble_eq_true rfl) ?_
  refine lv_astore_n (lv' := [(1, .ref q_1), (0, .ref b)]) hx hb dL_law_7 rfl hl (by decide) rfl (fun ls hl => ?_)
  refine va_new (ci := 8) (fs := [.null, .null, .int 0, .null, .null, .null, .int 0, .null, .int 0, .int 0, .int 0, .null, .null, .int 0, .int 0, .int 0, .null, .null, .null, .null, .null, .null, .null]) (C := RX8) (T := TX8) (N := 23) hx hb hts hi8 tyX8 tyX8_ok hown (hts (.classLink RL 10 RX8) (by decide +kernel)) (hts (.instantiable RX8 23) (by decide +kernel)) (hts (.initialized RX8) (by decide +kernel)) hK hP hD hS hA rfl (fun j hj => by rcases (show j = 0 ∨ j = 1 ∨ j = 2 ∨ j = 3 ∨ j = 4 ∨ j = 5 ∨ j = 6 ∨ j = 7 ∨ j = 8 ∨ j = 9 ∨ j = 10 ∨ j = 11 ∨ j = 12 ∨ j = 13 ∨ j = 14 ∨ j = 15 ∨ j = 16 ∨ j = 17 ∨ j = 18 ∨ j = 19 ∨ j = 20 ∨ j = 21 ∨ j = 22 by omega) with rfl | rfl | rfl | rfl | rfl | rfl | rfl | rfl | rfl | rfl | rfl | rfl | rfl | rfl | rfl | rfl | rfl | rfl | rfl | rfl | rfl | rfl | rfl <;> rfl) (Nat.le_of_ble_eq_true rfl) (Nat.le_of_ble_eq_true rfl) dL_law_8 (fun q_55 H hP hD hS => ?_)
  have hP : va_P (dC, dI) vwCl [(q_1, .inr (7, [.ref q_3, .ref q_4, .ref q_5, .ref q_6, .ref q_7, .ref q_8, .ref q_9, .ref q_10, .ref q_11, .ref q_12, .int 0, .int (-1), .int (-1), .int 0])), (q_3, .inr (0, [.ref q_13, .ref q_14, .ref q_15, .ref q_16, .int 0])), (q_13, .inl (c_17, 8, .inl (fun _ => 0))), (q_14, .inl (c_18, 300, .inl (fun _ => 0))), (q_15, .inl (c_19, 2400, .inl (fun _ => 0))), (q_16, .inl (c_20, 2400, .inl (fun _ => 0))), (q_4, .inr (4, [.ref q_21, .ref q_22, .ref q_23, .ref q_3, .int 0])), (q_21, .inl (c_24, 2400, .inl (fun _ => 0))), (q_22, .inl (c_25, 300, .inl (fun _ => 0))), (q_23, .inl (c_26, 300, .inl (fun _ => 0))), (q_5, .inr (2, [.ref q_3, .ref q_4, .ref q_27, .ref q_28, .ref q_29, .int 0, .int 0, .int 0, .int 0, .int 0, .long 0, .long 0])), (q_27, .inl (c_30, 4, .inl (fun _ => 0))), (q_28, .inl (c_31, 4, .inl (fun _ => 0))), (q_29, .inl (c_32, 4, .inl (fun _ => 0))), (q_6, .inr (1, [.ref q_3, .ref q_4, .ref q_33, .ref q_34, .int 0, .int 0, .int 0, .int 0, .int 0, .int 0, .int 0, .int 0])), (q_33, .inl (c_35, 4, .inl (fun _ => 0))), (q_34, .inl (c_36, 4, .inl (fun _ => 0))), (q_7, .inr (3, [.ref q_37, .int 0, .int 0, .int 0, .int 1])), (q_37, .inl (c_38, 511, .inl (fun _ => 0))), (q_8, .inr (5, [.ref q_13, .ref q_39, .ref q_40, .ref q_41, .ref q_42, .ref q_43, .ref q_44])), (q_39, .inl (c_45, 8, .inl (fun _ => 0))), (q_40, .inl (c_46, 8, .inl (fun _ => 0))), (q_41, .inl (c_47, 8, .inl (fun _ => 0))), (q_42, .inl (c_48, 8, .inl (fun _ => 0))), (q_43, .inl (c_49, 64, .inl (fun _ => 0))), (q_44, .inl (c_50, 8, .inl (fun _ => 0))), (q_9, .inl (c_51, 21, .inr (.inr (.inr (.inr (fun _ => none)))))), (q_10, .inl (c_52, 8, .inl (fun _ => 0))), (q_11, .inl (c_53, 8, .inl (fun _ => 0))), (q_12, .inl (c_54, 4, .inl (fun _ => 0))), (q_55, .inr (8, [.null, .null, .int 0, .null, .null, .null, .int 0, .null, .int 0, .int 0, .int 0, .null, .null, .int 0, .int 0, .int 0, .null, .null, .null, .null, .null, .null, .null]))] H := hP
  have hD : va_D A [(q_1, .inr (7, [.ref q_3, .ref q_4, .ref q_5, .ref q_6, .ref q_7, .ref q_8, .ref q_9, .ref q_10, .ref q_11, .ref q_12, .int 0, .int (-1), .int (-1), .int 0])), (q_3, .inr (0, [.ref q_13, .ref q_14, .ref q_15, .ref q_16, .int 0])), (q_13, .inl (c_17, 8, .inl (fun _ => 0))), (q_14, .inl (c_18, 300, .inl (fun _ => 0))), (q_15, .inl (c_19, 2400, .inl (fun _ => 0))), (q_16, .inl (c_20, 2400, .inl (fun _ => 0))), (q_4, .inr (4, [.ref q_21, .ref q_22, .ref q_23, .ref q_3, .int 0])), (q_21, .inl (c_24, 2400, .inl (fun _ => 0))), (q_22, .inl (c_25, 300, .inl (fun _ => 0))), (q_23, .inl (c_26, 300, .inl (fun _ => 0))), (q_5, .inr (2, [.ref q_3, .ref q_4, .ref q_27, .ref q_28, .ref q_29, .int 0, .int 0, .int 0, .int 0, .int 0, .long 0, .long 0])), (q_27, .inl (c_30, 4, .inl (fun _ => 0))), (q_28, .inl (c_31, 4, .inl (fun _ => 0))), (q_29, .inl (c_32, 4, .inl (fun _ => 0))), (q_6, .inr (1, [.ref q_3, .ref q_4, .ref q_33, .ref q_34, .int 0, .int 0, .int 0, .int 0, .int 0, .int 0, .int 0, .int 0])), (q_33, .inl (c_35, 4, .inl (fun _ => 0))), (q_34, .inl (c_36, 4, .inl (fun _ => 0))), (q_7, .inr (3, [.ref q_37, .int 0, .int 0, .int 0, .int 1])), (q_37, .inl (c_38, 511, .inl (fun _ => 0))), (q_8, .inr (5, [.ref q_13, .ref q_39, .ref q_40, .ref q_41, .ref q_42, .ref q_43, .ref q_44])), (q_39, .inl (c_45, 8, .inl (fun _ => 0))), (q_40, .inl (c_46, 8, .inl (fun _ => 0))), (q_41, .inl (c_47, 8, .inl (fun _ => 0))), (q_42, .inl (c_48, 8, .inl (fun _ => 0))), (q_43, .inl (c_49, 64, .inl (fun _ => 0))), (q_44, .inl (c_50, 8, .inl (fun _ => 0))), (q_9, .inl (c_51, 21, .inr (.inr (.inr (.inr (fun _ => none)))))), (q_10, .inl (c_52, 8, .inl (fun _ => 0))), (q_11, .inl (c_53, 8, .inl (fun _ => 0))), (q_12, .inl (c_54, 4, .inl (fun _ => 0))), (q_55, .inr (8, [.null, .null, .int 0, .null, .null, .null, .int 0, .null, .int 0, .int 0, .int 0, .null, .null, .int 0, .int 0, .int 0, .null, .null, .null, .null, .null, .null, .null]))] := hD
  refine W.widen (k := 31) (n := 8867) (Nat.le_of_ble_eq_true rfl) (Nat.le_of_ble_eq_true rfl) ?_
  refine lv_dup hx hb dL_law_11 rfl ?_
  have hPc := hP.sub (ws' := [(q_55, .inr (8, [.null, .null, .int 0, .null, .null, .null, .int 0, .null, .int 0, .int 0, .int 0, .null, .null, .int 0, .int 0, .int 0, .null, .null, .null, .null, .null, .null, .null]))]) [30] rfl
  have hDc := hD.sub (ws' := [(q_55, .inr (8, [.null, .null, .int 0, .null, .null, .null, .int 0, .null, .int 0, .int 0, .int 0, .null, .null, .int 0, .int 0, .int 0, .null, .null, .null, .null, .null, .null, .null]))]) [30] (by decide) rfl
  have hKc := hK.sub (tys' := []) [] rfl
  have hFc := va_free (wc := [(q_55, .inr (8, [.null, .null, .int 0, .null, .null, .null, .int 0, .null, .int 0, .int 0, .int 0, .null, .null, .int 0, .int 0, .int 0, .null, .null, .null, .null, .null, .null, .null]))]) hD hS hA [30] rfl
  refine va_callv (va_runI (As := []) (rest := [.ref q_55]) ⟨hx, hb, hml, hown, hts⟩ (c_model_init l dC dI H.size q_55 ) (cwI 0 hts gL_law_X8_init rfl rfl rfl (hts (.initialized RX8) (by decide +kernel)) (hts (.methodLink RL 12 yX8_init) (by decide +kernel)) (hts (.instanceMethod yX8_init) (by decide +kernel)) rfl (by decide +kernel) ⟨Nat.le_of_ble_eq_true rfl, Nat.le_of_ble_eq_true rfl⟩) (pre_S hPc hKc hDc hN) rfl rfl hl.1 rfl (lv_room (Nat.le_of_ble_eq_true rfl)) dL_law_12 ⟨Nat.le_of_ble_eq_true rfl, Nat.le_of_ble_eq_true rfl⟩) hS (fun q _ h => hFc q h) hFc (fun u t H1 locs ht hvm hw hB hz1 hk1 hS => ?_)
  clear hPc hDc hKc
  obtain ⟨q_57, q_58, q_59, q_60, q_61, q_62, q_63, q_64, q_65, q_66, q_67, q_68, q_69, q_70, q_71, c_72, c_73, c_74, c_75, c_76, c_77, c_78, c_79, c_80, c_81, c_82, c_83, c_84, c_85, c_86, rfl⟩ := hw
  obtain ⟨hP1, hK1, hD1⟩ := hB
  rw [ht] at hP1
  obtain ⟨hP, hD⟩ := va_join (wr := [(q_1, .inr (7, [.ref q_3, .ref q_4, .ref q_5, .ref q_6, .ref q_7, .ref q_8, .ref q_9, .ref q_10, .ref q_11, .ref q_12, .int 0, .int (-1), .int (-1), .int 0])), (q_3, .inr (0, [.ref q_13, .ref q_14, .ref q_15, .ref q_16, .int 0])), (q_13, .inl (c_17, 8, .inl (fun _ => 0))), (q_14, .inl (c_18, 300, .inl (fun _ => 0))), (q_15, .inl (c_19, 2400, .inl (fun _ => 0))), (q_16, .inl (c_20, 2400, .inl (fun _ => 0))), (q_4, .inr (4, [.ref q_21, .ref q_22, .ref q_23, .ref q_3, .int 0])), (q_21, .inl (c_24, 2400, .inl (fun _ => 0))), (q_22, .inl (c_25, 300, .inl (fun _ => 0))), (q_23, .inl (c_26, 300, .inl (fun _ => 0))), (q_5, .inr (2, [.ref q_3, .ref q_4, .ref q_27, .ref q_28, .ref q_29, .int 0, .int 0, .int 0, .int 0, .int 0, .long 0, .long 0])), (q_27, .inl (c_30, 4, .inl (fun _ => 0))), (q_28, .inl (c_31, 4, .inl (fun _ => 0))), (q_29, .inl (c_32, 4, .inl (fun _ => 0))), (q_6, .inr (1, [.ref q_3, .ref q_4, .ref q_33, .ref q_34, .int 0, .int 0, .int 0, .int 0, .int 0, .int 0, .int 0, .int 0])), (q_33, .inl (c_35, 4, .inl (fun _ => 0))), (q_34, .inl (c_36, 4, .inl (fun _ => 0))), (q_7, .inr (3, [.ref q_37, .int 0, .int 0, .int 0, .int 1])), (q_37, .inl (c_38, 511, .inl (fun _ => 0))), (q_8, .inr (5, [.ref q_13, .ref q_39, .ref q_40, .ref q_41, .ref q_42, .ref q_43, .ref q_44])), (q_39, .inl (c_45, 8, .inl (fun _ => 0))), (q_40, .inl (c_46, 8, .inl (fun _ => 0))), (q_41, .inl (c_47, 8, .inl (fun _ => 0))), (q_42, .inl (c_48, 8, .inl (fun _ => 0))), (q_43, .inl (c_49, 64, .inl (fun _ => 0))), (q_44, .inl (c_50, 8, .inl (fun _ => 0))), (q_9, .inl (c_51, 21, .inr (.inr (.inr (.inr (fun _ => none)))))), (q_10, .inl (c_52, 8, .inl (fun _ => 0))), (q_11, .inl (c_53, 8, .inl (fun _ => 0))), (q_12, .inl (c_54, 4, .inl (fun _ => 0)))]) (w1 := [(q_55, .inr (8, [.ref q_57, .ref q_58, .int 0, .ref q_59, .ref q_60, .ref q_61, .int 0, .ref q_62, .int 0, .int 0, .int 0, .ref q_63, .ref q_64, .int 0, .int (-1), .int (-1), .ref q_65, .ref q_66, .ref q_67, .ref q_68, .ref q_69, .ref q_70, .ref q_71])), (q_57, .inl (c_72, 2400, .inl (fun _ => 0))), (q_58, .inl (c_73, 300, .inl (fun _ => 0))), (q_59, .inl (c_74, 8, .inl (fun _ => 0))), (q_60, .inl (c_75, 134400, .inl (fun _ => 0))), (q_61, .inl (c_76, 21, .inl (fun _ => 0))), (q_62, .inl (c_77, 3000, .inl (fun _ => 0))), (q_63, .inl (c_78, 8, .inl (fun _ => 0))), (q_64, .inl (c_79, 8, .inl (fun _ => 0))), (q_65, .inl (c_80, 4, .inl (fun _ => 0))), (q_66, .inl (c_81, 4, .inl (fun _ => 0))), (q_67, .inl (c_82, 20, .inl (fun _ => 0))), (q_68, .inl (c_83, 4, .inl (fun _ => 0))), (q_69, .inl (c_84, 4, .inl (fun _ => 0))), (q_70, .inl (c_85, 4, .inl (fun _ => 0))), (q_71, .inl (c_86, 4, .inl (fun _ => 0)))]) hP hD [30] [0, 1, 2, 3, 4, 5, 6, 7, 8, 9, 10, 11, 12, 13, 14, 15, 16, 17, 18, 19, 20, 21, 22, 23, 24, 25, 26, 27, 28, 29] rfl rfl (by decide) (by decide) hk1 hFc hP1 hD1
  have hK1 := va_K.moved hvm.symm hK1
  have hK := hK.app hK1
  generalize H1 = H at hP hS ⊢
  clear hP1 hD1 hFc hk1 hz1 ht hvm hK1
  have hP : va_P (dC, dI) vwCl [(q_1, .inr (7, [.ref q_3, .ref q_4, .ref q_5, .ref q_6, .ref q_7, .ref q_8, .ref q_9, .ref q_10, .ref q_11, .ref q_12, .int 0, .int (-1), .int (-1), .int 0])), (q_3, .inr (0, [.ref q_13, .ref q_14, .ref q_15, .ref q_16, .int 0])), (q_13, .inl (c_17, 8, .inl (fun _ => 0))), (q_14, .inl (c_18, 300, .inl (fun _ => 0))), (q_15, .inl (c_19, 2400, .inl (fun _ => 0))), (q_16, .inl (c_20, 2400, .inl (fun _ => 0))), (q_4, .inr (4, [.ref q_21, .ref q_22, .ref q_23, .ref q_3, .int 0])), (q_21, .inl (c_24, 2400, .inl (fun _ => 0))), (q_22, .inl (c_25, 300, .inl (fun _ => 0))), (q_23, .inl (c_26, 300, .inl (fun _ => 0))), (q_5, .inr (2, [.ref q_3, .ref q_4, .ref q_27, .ref q_28, .ref q_29, .int 0, .int 0, .int 0, .int 0, .int 0, .long 0, .long 0])), (q_27, .inl (c_30, 4, .inl (fun _ => 0))), (q_28, .inl (c_31, 4, .inl (fun _ => 0))), (q_29, .inl (c_32, 4, .inl (fun _ => 0))), (q_6, .inr (1, [.ref q_3, .ref q_4, .ref q_33, .ref q_34, .int 0, .int 0, .int 0, .int 0, .int 0, .int 0, .int 0, .int 0])), (q_33, .inl (c_35, 4, .inl (fun _ => 0))), (q_34, .inl (c_36, 4, .inl (fun _ => 0))), (q_7, .inr (3, [.ref q_37, .int 0, .int 0, .int 0, .int 1])), (q_37, .inl (c_38, 511, .inl (fun _ => 0))), (q_8, .inr (5, [.ref q_13, .ref q_39, .ref q_40, .ref q_41, .ref q_42, .ref q_43, .ref q_44])), (q_39, .inl (c_45, 8, .inl (fun _ => 0))), (q_40, .inl (c_46, 8, .inl (fun _ => 0))), (q_41, .inl (c_47, 8, .inl (fun _ => 0))), (q_42, .inl (c_48, 8, .inl (fun _ => 0))), (q_43, .inl (c_49, 64, .inl (fun _ => 0))), (q_44, .inl (c_50, 8, .inl (fun _ => 0))), (q_9, .inl (c_51, 21, .inr (.inr (.inr (.inr (fun _ => none)))))), (q_10, .inl (c_52, 8, .inl (fun _ => 0))), (q_11, .inl (c_53, 8, .inl (fun _ => 0))), (q_12, .inl (c_54, 4, .inl (fun _ => 0))), (q_55, .inr (8, [.ref q_57, .ref q_58, .int 0, .ref q_59, .ref q_60, .ref q_61, .int 0, .ref q_62, .int 0, .int 0, .int 0, .ref q_63, .ref q_64, .int 0, .int (-1), .int (-1), .ref q_65, .ref q_66, .ref q_67, .ref q_68, .ref q_69, .ref q_70, .ref q_71])), (q_57, .inl (c_72, 2400, .inl (fun _ => 0))), (q_58, .inl (c_73, 300, .inl (fun _ => 0))), (q_59, .inl (c_74, 8, .inl (fun _ => 0))), (q_60, .inl (c_75, 134400, .inl (fun _ => 0))), (q_61, .inl (c_76, 21, .inl (fun _ => 0))), (q_62, .inl (c_77, 3000, .inl (fun _ => 0))), (q_63, .inl (c_78, 8, .inl (fun _ => 0))), (q_64, .inl (c_79, 8, .inl (fun _ => 0))), (q_65, .inl (c_80, 4, .inl (fun _ => 0))), (q_66, .inl (c_81, 4, .inl (fun _ => 0))), (q_67, .inl (c_82, 20, .inl (fun _ => 0))), (q_68, .inl (c_83, 4, .inl (fun _ => 0))), (q_69, .inl (c_84, 4, .inl (fun _ => 0))), (q_70, .inl (c_85, 4, .inl (fun _ => 0))), (q_71, .inl (c_86, 4, .inl (fun _ => 0)))] H := hP
  have hD : va_D A [(q_1, .inr (7, [.ref q_3, .ref q_4, .ref q_5, .ref q_6, .ref q_7, .ref q_8, .ref q_9, .ref q_10, .ref q_11, .ref q_12, .int 0, .int (-1), .int (-1), .int 0])), (q_3, .inr (0, [.ref q_13, .ref q_14, .ref q_15, .ref q_16, .int 0])), (q_13, .inl (c_17, 8, .inl (fun _ => 0))), (q_14, .inl (c_18, 300, .inl (fun _ => 0))), (q_15, .inl (c_19, 2400, .inl (fun _ => 0))), (q_16, .inl (c_20, 2400, .inl (fun _ => 0))), (q_4, .inr (4, [.ref q_21, .ref q_22, .ref q_23, .ref q_3, .int 0])), (q_21, .inl (c_24, 2400, .inl (fun _ => 0))), (q_22, .inl (c_25, 300, .inl (fun _ => 0))), (q_23, .inl (c_26, 300, .inl (fun _ => 0))), (q_5, .inr (2, [.ref q_3, .ref q_4, .ref q_27, .ref q_28, .ref q_29, .int 0, .int 0, .int 0, .int 0, .int 0, .long 0, .long 0])), (q_27, .inl (c_30, 4, .inl (fun _ => 0))), (q_28, .inl (c_31, 4, .inl (fun _ => 0))), (q_29, .inl (c_32, 4, .inl (fun _ => 0))), (q_6, .inr (1, [.ref q_3, .ref q_4, .ref q_33, .ref q_34, .int 0, .int 0, .int 0, .int 0, .int 0, .int 0, .int 0, .int 0])), (q_33, .inl (c_35, 4, .inl (fun _ => 0))), (q_34, .inl (c_36, 4, .inl (fun _ => 0))), (q_7, .inr (3, [.ref q_37, .int 0, .int 0, .int 0, .int 1])), (q_37, .inl (c_38, 511, .inl (fun _ => 0))), (q_8, .inr (5, [.ref q_13, .ref q_39, .ref q_40, .ref q_41, .ref q_42, .ref q_43, .ref q_44])), (q_39, .inl (c_45, 8, .inl (fun _ => 0))), (q_40, .inl (c_46, 8, .inl (fun _ => 0))), (q_41, .inl (c_47, 8, .inl (fun _ => 0))), (q_42, .inl (c_48, 8, .inl (fun _ => 0))), (q_43, .inl (c_49, 64, .inl (fun _ => 0))), (q_44, .inl (c_50, 8, .inl (fun _ => 0))), (q_9, .inl (c_51, 21, .inr (.inr (.inr (.inr (fun _ => none)))))), (q_10, .inl (c_52, 8, .inl (fun _ => 0))), (q_11, .inl (c_53, 8, .inl (fun _ => 0))), (q_12, .inl (c_54, 4, .inl (fun _ => 0))), (q_55, .inr (8, [.ref q_57, .ref q_58, .int 0, .ref q_59, .ref q_60, .ref q_61, .int 0, .ref q_62, .int 0, .int 0, .int 0, .ref q_63, .ref q_64, .int 0, .int (-1), .int (-1), .ref q_65, .ref q_66, .ref q_67, .ref q_68, .ref q_69, .ref q_70, .ref q_71])), (q_57, .inl (c_72, 2400, .inl (fun _ => 0))), (q_58, .inl (c_73, 300, .inl (fun _ => 0))), (q_59, .inl (c_74, 8, .inl (fun _ => 0))), (q_60, .inl (c_75, 134400, .inl (fun _ => 0))), (q_61, .inl (c_76, 21, .inl (fun _ => 0))), (q_62, .inl (c_77, 3000, .inl (fun _ => 0))), (q_63, .inl (c_78, 8, .inl (fun _ => 0))), (q_64, .inl (c_79, 8, .inl (fun _ => 0))), (q_65, .inl (c_80, 4, .inl (fun _ => 0))), (q_66, .inl (c_81, 4, .inl (fun _ => 0))), (q_67, .inl (c_82, 20, .inl (fun _ => 0))), (q_68, .inl (c_83, 4, .inl (fun _ => 0))), (q_69, .inl (c_84, 4, .inl (fun _ => 0))), (q_70, .inl (c_85, 4, .inl (fun _ => 0))), (q_71, .inl (c_86, 4, .inl (fun _ => 0)))] := hD
  have hK : va_K (dC, dI) vwCl [(c_17, .int), (c_18, .int), (c_19, .int), (c_20, .int), (c_24, .int), (c_25, .int), (c_26, .int), (c_30, .int), (c_31, .int), (c_32, .int), (c_35, .int), (c_36, .int), (c_38, .int), (c_45, .int), (c_46, .int), (c_47, .int), (c_48, .int), (c_49, .int), (c_50, .boolean), (c_51, .object RX6), (c_52, .int), (c_53, .int), (c_54, .int), (c_72, .int), (c_73, .int), (c_74, .boolean), (c_75, .int), (c_76, .int), (c_77, .boolean), (c_78, .int), (c_79, .int), (c_80, .int), (c_81, .int), (c_82, .int), (c_83, .int), (c_84, .int), (c_85, .int), (c_86, .int)] s := hK
  refine W.widen (k := 46) (n := 149056) (Nat.le_of_ble_eq_true rfl) (Nat.le_of_ble_eq_true rfl) ?_
  refine lv_astore_n (lv' := [(2, .ref q_55), (1, .ref q_1), (0, .ref b)]) hx hb dL_law_15 rfl hl (by decide) rfl (fun ls hl => ?_)
  refine lv_iconst (v := 0) hx hb dL_law_16 (by decide) ?_
  refine lv_istore_n (lv' := [(3, .int 0), (2, .ref q_55), (1, .ref q_1), (0, .ref b)]) hx hb dL_law_17 rfl hl (by decide) rfl (fun ls hl => ?_)
  rcases (show L = 6 ∨ L = 0 ∨ L = 1 ∨ L = 2 ∨ L = 3 ∨ L = 4 ∨ L = 5 by omega) with rfl | rfl | rfl | rfl | rfl | rfl | rfl
  · skip
    refine lv_iload_n hx hb dL_law_18 rfl (lv_at hl 0 rfl) ?_
    refine lv_aload_n hx hb dL_law_19 rfl (lv_at hl 3 rfl) ?_
    refine va_slen hx hb hX hbl hbA hS dL_law_20 ?_
    refine lv_bipush (v := 6) hx hb dL_law_21 (by decide) ?_
    refine lv_isub hx hb dL_law_23 ?_
    refine lv_icmp_gt (tgt := 928) hx hb dL_law_24 (by decide) (fun c_1 => ?_) (fun c_1 => ?_)
    · exact absurd c_1 (by decide)
    · skip
      refine lv_aload_n hx hb dL_law_27 rfl (lv_at hl 3 rfl) ?_
      refine lv_iload_n hx hb dL_law_28 rfl (lv_at hl 0 rfl) ?_
      refine va_sld hx hb hX hbl hbA hS (vi _ _ (by decide)) dL_law_29 ?_
      refine lv_bipush (v := 31) hx hb dL_law_30 (by decide) ?_
      refine lv_iand hx hb dL_law_32 ?_
      obtain ⟨j, hj, ej⟩ := pk_andE (xs (Int32.toNatClampNeg 0)) (m := 31) 5 (by decide)
      refine tvv (congrArg Value.int ej) ?_
      rcases (show j = 0 ∨ j = 1 ∨ j = 2 ∨ j = 3 ∨ j = 4 ∨ j = 5 ∨ j = 6 ∨ j = 7 ∨ j = 8 ∨ j = 9 ∨ j = 10 ∨ j = 11 ∨ j = 12 ∨ j = 13 ∨ j = 14 ∨ j = 15 ∨ j = 16 ∨ j = 17 ∨ j = 18 ∨ j = 19 ∨ j = 20 ∨ j = 21 ∨ 22 ≤ j by omega) with rfl | rfl | rfl | rfl | rfl | rfl | rfl | rfl | rfl | rfl | rfl | rfl | rfl | rfl | rfl | rfl | rfl | rfl | rfl | rfl | rfl | rfl | hj2
      · refine lv_tableIn (off := 103) (tgt := 136) hx hb dL_law_33 (by decide) (by decide) (by decide) (by decide) ?_
        exact law_0 C0 hN hA hAi q_1 q_3 q_4 q_5 q_6 q_7 q_8 q_9 q_10 q_11 q_12 q_13 q_14 q_15 q_16 c_17 q_55 q_57 q_58 q_59 q_60 q_61 q_62 q_63 q_64 q_65 q_66 q_67 q_68 q_69 q_70 q_71 c_74 H locs ls (hK.sub [0, 25] rfl) (hP.sub [0, 1, 2, 30, 33] rfl) (hD.sub [0, 1, 2, 30, 33] (by decide) rfl) hS (lv_sub hl [0, 1, 2, 3] rfl)
      · refine lv_tableIn (off := 136) (tgt := 169) hx hb dL_law_33 (by decide) (by decide) (by decide) (by decide) ?_
        exact law_1 C0 hN hA hAi q_1 q_3 q_4 q_5 q_6 q_7 q_8 q_9 q_10 q_11 q_12 q_13 q_14 q_15 q_16 c_52 c_18 c_19 c_20 q_55 q_57 q_58 q_59 q_60 q_61 q_62 q_63 q_64 q_65 q_66 q_67 q_68 q_69 q_70 q_71 c_78 c_72 c_73 H locs ls (hK.sub [20, 1, 2, 3, 29, 23, 24] rfl) (hP.sub [0, 1, 27, 3, 4, 5, 30, 37, 31, 32] rfl) (hD.sub [0, 1, 27, 3, 4, 5, 30, 37, 31, 32] (by decide) rfl) hS (lv_sub hl [0, 1, 2, 3] rfl)
      · refine lv_tableIn (off := 199) (tgt := 232) hx hb dL_law_33 (by decide) (by decide) (by decide) (by decide) ?_
        exact law_2 C0 hN hA hAi q_1 q_3 q_4 q_5 q_6 q_7 q_8 q_9 q_10 q_11 q_12 q_13 q_14 q_15 q_16 q_55 q_57 q_58 q_59 q_60 q_61 q_62 q_63 q_64 q_65 q_66 q_67 q_68 q_69 q_70 q_71 H locs ls (hK.sub [] rfl) (hP.sub [0, 1, 30] rfl) (hD.sub [0, 1, 30] (by decide) rfl) hS (lv_sub hl [0, 1, 2, 3] rfl)
      · refine lv_tableIn (off := 222) (tgt := 255) hx hb dL_law_33 (by decide) (by decide) (by decide) (by decide) ?_
        exact law_3 C0 hN hA hAi q_1 q_3 q_4 q_5 q_6 q_7 q_8 q_9 q_10 q_11 q_12 q_13 q_14 q_15 q_16 q_55 q_57 q_58 q_59 q_60 q_61 q_62 q_63 q_64 q_65 q_66 q_67 q_68 q_69 q_70 q_71 H locs ls (hK.sub [] rfl) (hP.sub [0, 1, 30] rfl) (hD.sub [0, 1, 30] (by decide) rfl) hS (lv_sub hl [0, 1, 2, 3] rfl)
      · refine lv_tableIn (off := 255) (tgt := 288) hx hb dL_law_33 (by decide) (by decide) (by decide) (by decide) ?_
        exact law_4 C0 hN hA hAi q_1 q_3 q_4 q_5 q_6 q_7 q_8 q_9 q_10 q_11 q_12 q_13 q_14 q_15 q_16 q_55 q_57 q_58 q_59 q_60 q_61 q_62 q_63 q_64 q_65 q_66 q_67 q_68 q_69 q_70 q_71 H locs ls (hK.sub [] rfl) (hP.sub [0, 1, 30] rfl) (hD.sub [0, 1, 30] (by decide) rfl) hS (lv_sub hl [0, 1, 2, 3] rfl)
      · refine lv_tableIn (off := 278) (tgt := 311) hx hb dL_law_33 (by decide) (by decide) (by decide) (by decide) ?_
        exact law_5 C0 hN hA hAi q_1 q_3 q_4 q_5 q_6 q_7 q_8 q_9 q_10 q_11 q_12 q_13 q_14 q_15 q_16 q_21 q_22 q_23 c_20 c_24 q_27 q_28 q_29 c_30 c_51 q_55 q_57 q_58 q_59 q_60 q_61 q_62 q_63 q_64 q_65 q_66 q_67 q_68 q_69 q_70 q_71 c_80 c_76 c_75 H locs ls (hK.sub [3, 4, 7, 19, 31, 27, 26] rfl) (hP.sub [0, 1, 6, 5, 7, 10, 11, 26, 30, 39, 35, 34] rfl) (hD.sub [0, 1, 6, 5, 7, 10, 11, 26, 30, 39, 35, 34] (by decide) rfl) hS (lv_sub hl [0, 1, 2, 3] rfl)
      · refine lv_tableIn (off := 311) (tgt := 344) hx hb dL_law_33 (by decide) (by decide) (by decide) (by decide) ?_
        exact law_6 C0 hN hA hAi q_1 q_3 q_4 q_5 q_6 q_7 q_8 q_9 q_10 q_11 q_12 q_13 q_14 q_15 q_16 q_21 q_22 q_23 c_20 c_24 q_33 q_34 c_35 c_51 q_55 q_57 q_58 q_59 q_60 q_61 q_62 q_63 q_64 q_65 q_66 q_67 q_68 q_69 q_70 q_71 c_80 c_76 c_75 c_83 c_84 c_85 c_86 H locs ls (hK.sub [3, 4, 10, 19, 31, 27, 26, 34, 35, 36, 37] rfl) (hP.sub [0, 1, 6, 5, 7, 14, 15, 26, 30, 39, 35, 34, 42, 43, 44, 45] rfl) (hD.sub [0, 1, 6, 5, 7, 14, 15, 26, 30, 39, 35, 34, 42, 43, 44, 45] (by decide) rfl) hS (lv_sub hl [0, 1, 2, 3] rfl)
      · refine lv_tableIn (off := 334) (tgt := 367) hx hb dL_law_33 (by decide) (by decide) (by decide) (by decide) ?_
        exact law_7 C0 hN hA hAi q_1 q_3 q_4 q_5 q_6 q_7 q_8 q_9 q_10 q_11 q_12 q_55 q_57 q_58 q_59 q_60 q_61 q_62 q_63 q_64 q_65 q_66 q_67 q_68 q_69 q_70 q_71 H locs ls (hK.sub [] rfl) (hP.sub [0, 30] rfl) (hD.sub [0, 30] (by decide) rfl) hS (lv_sub hl [0, 1, 2, 3] rfl)
      · refine lv_tableIn (off := 377) (tgt := 410) hx hb dL_law_33 (by decide) (by decide) (by decide) (by decide) ?_
        exact law_8 C0 hN hA hAi q_1 q_3 q_4 q_5 q_6 q_7 q_8 q_9 q_10 q_11 q_12 q_55 q_57 q_58 q_59 q_60 q_61 q_62 q_63 q_64 q_65 q_66 q_67 q_68 q_69 q_70 q_71 H locs ls (hK.sub [] rfl) (hP.sub [0, 30] rfl) (hD.sub [0, 30] (by decide) rfl) hS (lv_sub hl [0, 1, 2, 3] rfl)
      · refine lv_tableIn (off := 410) (tgt := 443) hx hb dL_law_33 (by decide) (by decide) (by decide) (by decide) ?_
        exact law_9 C0 hN hA hAi q_1 q_3 q_4 q_5 q_6 q_7 q_8 q_9 q_10 q_11 q_12 q_13 q_14 q_15 q_16 q_21 q_22 q_23 q_27 q_28 q_29 c_30 c_51 q_55 q_57 q_58 q_59 q_60 q_61 q_62 q_63 q_64 q_65 q_66 q_67 q_68 q_69 q_70 q_71 c_80 c_76 c_75 H locs ls (hK.sub [7, 19, 31, 27, 26] rfl) (hP.sub [0, 1, 6, 10, 11, 26, 30, 39, 35, 34] rfl) (hD.sub [0, 1, 6, 10, 11, 26, 30, 39, 35, 34] (by decide) rfl) hS (lv_sub hl [0, 1, 2, 3] rfl)
      · refine lv_tableIn (off := 453) (tgt := 486) hx hb dL_law_33 (by decide) (by decide) (by decide) (by decide) ?_
        exact law_10 C0 hN hA hAi q_1 q_3 q_4 q_5 q_6 q_7 q_8 q_9 q_10 q_11 q_12 q_55 q_57 q_58 q_59 q_60 q_61 q_62 q_63 q_64 q_65 q_66 q_67 q_68 q_69 q_70 q_71 H locs ls (hK.sub [] rfl) (hP.sub [0, 30] rfl) (hD.sub [0, 30] (by decide) rfl) hS (lv_sub hl [0, 1, 2, 3] rfl)
      · refine lv_tableIn (off := 466) (tgt := 499) hx hb dL_law_33 (by decide) (by decide) (by decide) (by decide) ?_
        exact law_11 C0 hN hA hAi q_1 q_3 q_4 q_5 q_6 q_7 q_8 q_9 q_10 q_11 q_12 q_55 q_57 q_58 q_59 q_60 q_61 q_62 q_63 q_64 q_65 q_66 q_67 q_68 q_69 q_70 q_71 H locs ls (hK.sub [] rfl) (hP.sub [0, 30] rfl) (hD.sub [0, 30] (by decide) rfl) hS (lv_sub hl [0, 1, 2, 3] rfl)
      · refine lv_tableIn (off := 499) (tgt := 532) hx hb dL_law_33 (by decide) (by decide) (by decide) (by decide) ?_
        exact law_12 C0 hN hA hAi q_1 q_3 q_4 q_5 q_6 q_7 q_8 q_9 q_10 q_11 q_12 q_55 q_57 q_58 q_59 q_60 q_61 q_62 q_63 q_64 q_65 q_66 q_67 q_68 q_69 q_70 q_71 H locs ls (hK.sub [] rfl) (hP.sub [0, 30] rfl) (hD.sub [0, 30] (by decide) rfl) hS (lv_sub hl [0, 1, 2, 3] rfl)
      · refine lv_tableIn (off := 542) (tgt := 575) hx hb dL_law_33 (by decide) (by decide) (by decide) (by decide) ?_
        exact law_13 C0 hN hA hAi q_1 q_3 q_4 q_5 q_6 q_7 q_8 q_9 q_10 q_11 q_12 q_55 q_57 q_58 q_59 q_60 q_61 q_62 q_63 q_64 q_65 q_66 q_67 q_68 q_69 q_70 q_71 H locs ls (hK.sub [] rfl) (hP.sub [0, 30] rfl) (hD.sub [0, 30] (by decide) rfl) hS (lv_sub hl [0, 1, 2, 3] rfl)
      · refine lv_tableIn (off := 585) (tgt := 618) hx hb dL_law_33 (by decide) (by decide) (by decide) (by decide) ?_
        exact law_14 C0 hN hA hAi q_1 q_3 q_4 q_5 q_6 q_7 q_8 q_9 q_10 q_11 q_12 q_55 q_57 q_58 q_59 q_60 q_61 q_62 q_63 q_64 q_65 q_66 q_67 q_68 q_69 q_70 q_71 H locs ls (hK.sub [] rfl) (hP.sub [0, 30] rfl) (hD.sub [0, 30] (by decide) rfl) hS (lv_sub hl [0, 1, 2, 3] rfl)
      · refine lv_tableIn (off := 648) (tgt := 681) hx hb dL_law_33 (by decide) (by decide) (by decide) (by decide) ?_
        exact law_15 C0 hN hA hAi q_1 q_3 q_4 q_5 q_6 q_7 q_8 q_9 q_10 q_11 q_12 q_55 q_57 q_58 q_59 q_60 q_61 q_62 q_63 q_64 q_65 q_66 q_67 q_68 q_69 q_70 q_71 H locs ls (hK.sub [] rfl) (hP.sub [0, 30] rfl) (hD.sub [0, 30] (by decide) rfl) hS (lv_sub hl [0, 1, 2, 3] rfl)
      · refine lv_tableIn (off := 661) (tgt := 694) hx hb dL_law_33 (by decide) (by decide) (by decide) (by decide) ?_
        exact law_16 C0 hN hA hAi q_1 q_3 q_4 q_5 q_6 q_7 q_8 q_9 q_10 q_11 q_12 q_55 q_57 q_58 q_59 q_60 q_61 q_62 q_63 q_64 q_65 q_66 q_67 q_68 q_69 q_70 q_71 H locs ls (hK.sub [] rfl) (hP.sub [0, 30] rfl) (hD.sub [0, 30] (by decide) rfl) hS (lv_sub hl [0, 1, 2, 3] rfl)
      · refine lv_tableIn (off := 714) (tgt := 747) hx hb dL_law_33 (by decide) (by decide) (by decide) (by decide) ?_
        exact law_17 C0 hN hA hAi q_1 q_3 q_4 q_5 q_6 q_7 q_8 q_9 q_10 q_11 q_12 q_55 q_57 q_58 q_59 q_60 q_61 q_62 q_63 q_64 q_65 q_66 q_67 q_68 q_69 q_70 q_71 H locs ls (hK.sub [] rfl) (hP.sub [0, 30] rfl) (hD.sub [0, 30] (by decide) rfl) hS (lv_sub hl [0, 1, 2, 3] rfl)
      · refine lv_tableIn (off := 727) (tgt := 760) hx hb dL_law_33 (by decide) (by decide) (by decide) (by decide) ?_
        exact law_18 C0 hN hA hAi q_1 q_3 q_4 q_5 q_6 q_7 q_8 q_9 q_10 q_11 q_12 q_55 q_57 q_58 q_59 q_60 q_61 q_62 q_63 q_64 q_65 q_66 q_67 q_68 q_69 q_70 q_71 H locs ls (hK.sub [] rfl) (hP.sub [0, 30] rfl) (hD.sub [0, 30] (by decide) rfl) hS (lv_sub hl [0, 1, 2, 3] rfl)
      · refine lv_tableIn (off := 780) (tgt := 813) hx hb dL_law_33 (by decide) (by decide) (by decide) (by decide) ?_
        exact law_19 C0 hN hA hAi q_1 q_3 q_4 q_5 q_6 q_7 q_8 q_9 q_10 q_11 q_12 q_55 q_57 q_58 q_59 q_60 q_61 q_62 q_63 q_64 q_65 q_66 q_67 q_68 q_69 q_70 q_71 H locs ls (hK.sub [] rfl) (hP.sub [0, 30] rfl) (hD.sub [0, 30] (by decide) rfl) hS (lv_sub hl [0, 1, 2, 3] rfl)
      · refine lv_tableIn (off := 843) (tgt := 876) hx hb dL_law_33 (by decide) (by decide) (by decide) (by decide) ?_
        exact law_20 C0 hN hA hAi q_1 q_3 q_4 q_5 q_6 q_7 q_8 q_9 q_10 q_11 q_12 q_55 q_57 q_58 q_59 q_60 q_61 q_62 q_63 q_64 q_65 q_66 q_67 q_68 q_69 q_70 q_71 H locs ls (hK.sub [] rfl) (hP.sub [0, 30] rfl) (hD.sub [0, 30] (by decide) rfl) hS (lv_sub hl [0, 1, 2, 3] rfl)
      · refine lv_tableIn (off := 866) (tgt := 899) hx hb dL_law_33 (by decide) (by decide) (by decide) (by decide) ?_
        exact law_21 C0 hN hA hAi q_1 q_3 q_4 q_5 q_6 q_7 q_8 q_9 q_10 q_11 q_12 q_13 q_14 q_15 q_16 q_55 q_57 q_58 q_59 q_60 q_61 q_62 q_63 q_64 q_65 q_66 q_67 q_68 q_69 q_70 q_71 H locs ls (hK.sub [] rfl) (hP.sub [0, 1, 30] rfl) (hD.sub [0, 1, 30] (by decide) rfl) hS (lv_sub hl [0, 1, 2, 3] rfl)
      · refine lv_tableOut (tgt := 922) hx hb dL_law_33 (Or.inr (by rw [nI_toInt (by omega)]; omega)) (by decide) ?_
        refine W.widen (k := 600000) (n := 7302250) (Nat.le_of_ble_eq_true rfl) (Nat.le_of_ble_eq_true rfl) ?_
        exact law_tail C0 hAi H locs ls q_1 q_55 hS (lv_sub hl [0, 1, 2, 3] rfl)
  · skip
    refine lv_iload_n hx hb dL_law_18 rfl (lv_at hl 0 rfl) ?_
    refine lv_aload_n hx hb dL_law_19 rfl (lv_at hl 3 rfl) ?_
    refine va_slen hx hb hX hbl hbA hS dL_law_20 ?_
    refine lv_bipush (v := 6) hx hb dL_law_21 (by decide) ?_
    refine lv_isub hx hb dL_law_23 ?_
    refine lv_icmp_gt (tgt := 928) hx hb dL_law_24 (by decide) (fun c_1 => ?_) (fun c_1 => ?_)
    · skip
      refine W.widen (k := 600000) (n := 7302250) (Nat.le_of_ble_eq_true rfl) (Nat.le_of_ble_eq_true rfl) ?_
      exact law_end C0 hAi H locs ls hS
    · exact absurd c_1 (by decide)
  · skip
    refine lv_iload_n hx hb dL_law_18 rfl (lv_at hl 0 rfl) ?_
    refine lv_aload_n hx hb dL_law_19 rfl (lv_at hl 3 rfl) ?_
    refine va_slen hx hb hX hbl hbA hS dL_law_20 ?_
    refine lv_bipush (v := 6) hx hb dL_law_21 (by decide) ?_
    refine lv_isub hx hb dL_law_23 ?_
    refine lv_icmp_gt (tgt := 928) hx hb dL_law_24 (by decide) (fun c_1 => ?_) (fun c_1 => ?_)
    · skip
      refine W.widen (k := 600000) (n := 7302250) (Nat.le_of_ble_eq_true rfl) (Nat.le_of_ble_eq_true rfl) ?_
      exact law_end C0 hAi H locs ls hS
    · exact absurd c_1 (by decide)
  · skip
    refine lv_iload_n hx hb dL_law_18 rfl (lv_at hl 0 rfl) ?_
    refine lv_aload_n hx hb dL_law_19 rfl (lv_at hl 3 rfl) ?_
    refine va_slen hx hb hX hbl hbA hS dL_law_20 ?_
    refine lv_bipush (v := 6) hx hb dL_law_21 (by decide) ?_
    refine lv_isub hx hb dL_law_23 ?_
    refine lv_icmp_gt (tgt := 928) hx hb dL_law_24 (by decide) (fun c_1 => ?_) (fun c_1 => ?_)
    · skip
      refine W.widen (k := 600000) (n := 7302250) (Nat.le_of_ble_eq_true rfl) (Nat.le_of_ble_eq_true rfl) ?_
      exact law_end C0 hAi H locs ls hS
    · exact absurd c_1 (by decide)
  · skip
    refine lv_iload_n hx hb dL_law_18 rfl (lv_at hl 0 rfl) ?_
    refine lv_aload_n hx hb dL_law_19 rfl (lv_at hl 3 rfl) ?_
    refine va_slen hx hb hX hbl hbA hS dL_law_20 ?_
    refine lv_bipush (v := 6) hx hb dL_law_21 (by decide) ?_
    refine lv_isub hx hb dL_law_23 ?_
    refine lv_icmp_gt (tgt := 928) hx hb dL_law_24 (by decide) (fun c_1 => ?_) (fun c_1 => ?_)
    · skip
      refine W.widen (k := 600000) (n := 7302250) (Nat.le_of_ble_eq_true rfl) (Nat.le_of_ble_eq_true rfl) ?_
      exact law_end C0 hAi H locs ls hS
    · exact absurd c_1 (by decide)
  · skip
    refine lv_iload_n hx hb dL_law_18 rfl (lv_at hl 0 rfl) ?_
    refine lv_aload_n hx hb dL_law_19 rfl (lv_at hl 3 rfl) ?_
    refine va_slen hx hb hX hbl hbA hS dL_law_20 ?_
    refine lv_bipush (v := 6) hx hb dL_law_21 (by decide) ?_
    refine lv_isub hx hb dL_law_23 ?_
    refine lv_icmp_gt (tgt := 928) hx hb dL_law_24 (by decide) (fun c_1 => ?_) (fun c_1 => ?_)
    · skip
      refine W.widen (k := 600000) (n := 7302250) (Nat.le_of_ble_eq_true rfl) (Nat.le_of_ble_eq_true rfl) ?_
      exact law_end C0 hAi H locs ls hS
    · exact absurd c_1 (by decide)
  · skip
    refine lv_iload_n hx hb dL_law_18 rfl (lv_at hl 0 rfl) ?_
    refine lv_aload_n hx hb dL_law_19 rfl (lv_at hl 3 rfl) ?_
    refine va_slen hx hb hX hbl hbA hS dL_law_20 ?_
    refine lv_bipush (v := 6) hx hb dL_law_21 (by decide) ?_
    refine lv_isub hx hb dL_law_23 ?_
    refine lv_icmp_gt (tgt := 928) hx hb dL_law_24 (by decide) (fun c_1 => ?_) (fun c_1 => ?_)
    · skip
      refine W.widen (k := 600000) (n := 7302250) (Nat.le_of_ble_eq_true rfl) (Nat.le_of_ble_eq_true rfl) ?_
      exact law_end C0 hAi H locs ls hS
    · exact absurd c_1 (by decide)
