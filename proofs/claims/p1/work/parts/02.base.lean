/-! what the contracts are said in: a start (pw), an end (qw), the links of nest mates and the array of trees (nw) -/
abbrev vu : Type := va_W × List (ClassId × FieldType)
abbrev vg : Type := (Nat → ClassId) × (Nat → Nat → Nat)
def nw (U : State) : Prop :=
  va_Nw (.methodLinkNest RX7 11 yX0_init "AskTree") U ∧ va_Nw (.methodLinkNest RX7 253 yX6_init "AskTree") U ∧ va_Nw (.methodLinkNest RX7 43 yX3_init "AskTree") U ∧
  va_Nw (.methodLinkNest RX1 114 yX7_clear "AskTree") U ∧ va_Nw (.methodLinkNest RX1 124 yX7_firstGreatest "AskTree") U ∧ va_Nw (.methodLinkNest RX2 61 yX7_firstGreatest "AskTree") U ∧
  va_Nw (.methodLinkNest RX4 48 yX7_clear "AskTree") U ∧ va_AO "AskTree$Tree" U
theorem nw_same {u U : State} (h : u.vm = U.vm) (q : nw u) : nw U := by
  obtain ⟨h1, h2, h3, h4, h5, h6, h7, h8⟩ := q
  exact ⟨va_Nw.same rfl h h1, va_Nw.same rfl h h2, va_Nw.same rfl h h3, va_Nw.same rfl h h4, va_Nw.same rfl h h5, va_Nw.same rfl h h6, va_Nw.same rfl h h7, va_AO.moved (by rw [h]; exact Vm.Alike.refl U.vm) h8⟩
theorem nw_warm {s U : State} (hW : s.WarmedH U.vm) (q : nw s) : nw U := by
  obtain ⟨h1, h2, h3, h4, h5, h6, h7, h8⟩ := q
  exact ⟨va_Nw.warmM hW h1, va_Nw.warmM hW h2, va_Nw.warmM hW h3, va_Nw.warmM hW h4, va_Nw.warmM hW h5, va_Nw.warmM hW h6, va_Nw.warmM hW h7, va_AO.moved hW.alike h8⟩
abbrev pw (D : vg) (tys : List (ClassId × FieldType)) (ws : va_W) (sz : Nat) (U : State) : Prop := U.heap.size = sz ∧ va_P D vwCl ws U.heap ∧ va_K D vwCl tys U ∧ va_D (fun _ => True) ws ∧ nw U
abbrev qw (D : vg) (tys : List (ClassId × FieldType)) (A : Nat → Prop) (ws : va_W) (t : State) : Prop := va_P D vwCl ws t.heap ∧ va_K D vwCl tys t ∧ va_D A ws
theorem pre_S {s : State} {H : Heap} {D : vg} {tys : List (ClassId × FieldType)} {ws : va_W} {A : Nat → Prop} {av : List Value} (hP : va_P D vwCl ws H) (hK : va_K D vwCl tys s) (hD : va_D A ws) (hN : nw s) : PreS s H (va_Pc av (pw D tys ws H.size)) av :=
  ⟨fun a U g mk q => by obtain ⟨q0, q1, qP, qK, qD, qN⟩ := q; exact ⟨q0, q1, qP, va_K.moved (u := U) (U := U.calling g mk a) (Vm.Alike.refl U.vm) qK, qD, nw_same (u := U) (U := U.calling g mk a) rfl qN⟩, fun U hU hW => ⟨rfl, by rw [hU], by rw [hU]; exact hP, va_K.moved hW.alike hK, hD.weaken (fun _ _ _ _ => trivial), nw_warm hW hN⟩⟩
theorem pre_V {s : State} {H : Heap} {D : vg} {tys : List (ClassId × FieldType)} {ws : va_W} {A : Nat → Prop} {b ci q0 : Nat} {q : vw_C} {fs : List Value} {As : List Value} (hP : va_P D vwCl ws H) (hK : va_K D vwCl tys s) (hD : va_D A ws) (hN : nw s) (hc : vwCl[ci]? = some q) (he : ws[q0]? = some (b, .inr (ci, fs))) : PreV s H q.1 b (va_Pc (.ref b :: As) (pw D tys ws H.size)) As :=
  ⟨(pre_S (av := .ref b :: As) hP hK hD hN).1, va_recv hK hP hc he, (pre_S (av := .ref b :: As) hP hK hD hN).2⟩
theorem tvv {p : Program} {l : Launch} {e : Env} {R : Room} {s : State} {m : MethodId} {args : Array Value} {below : List Frame} {meth : Method} {c : Code} {H : Heap} {locs : List Loc} {cells slots : Nat} {Q : State → Prop} {pc : Nat} {ls : Array Slot} {rest : List Value} {a v : Value} (h : a = v) (k : W p l e R s m args below meth c H locs cells slots Q (F0 m pc ls (v :: rest))) : W p l e R s m args below meth c H locs cells slots Q (F0 m pc ls (a :: rest)) := h ▸ k
theorem vi (i : Int32) (n : Nat) (h : ¬ (i < 0 ∨ n ≤ i.toNatClampNeg)) : vp_in i n := h
theorem ci (f : Nat → Int32) {i : Int32} {k : Nat} {v : Int32} (hi : i.toNatClampNeg = k) (h : f k = v) : Value.int (f i.toNatClampNeg) = .int v := by rw [hi, h]
theorem cq (f : Nat → Option Nat) {i : Int32} {k : Nat} {v : Option Nat} (hi : i.toNatClampNeg = k) (h : f k = v) : va_rf (f i.toNatClampNeg) = va_rf v := by rw [hi, h]
theorem up_s {f : Nat → Int32} {i : Int32} {k : Nat} {x : Int32} (hi : i.toNatClampNeg = k) : upd f i.toNatClampNeg x k = x := by rw [hi]; simp [upd]
theorem up_n {f : Nat → Int32} {i : Int32} {k j : Nat} {x v : Int32} (hi : i.toNatClampNeg = k) (hj : j ≠ k) (h : f j = v) : upd f i.toNatClampNeg x j = v := by rw [hi, ← h]; simp [upd, hj]
theorem uq_s {f : Nat → Option Nat} {i : Int32} {k : Nat} {x : Option Nat} (hi : i.toNatClampNeg = k) : va_up f i.toNatClampNeg x k = x := by rw [hi]; simp [va_up]
theorem nil_P {D : vg} {H : Heap} : va_P D vwCl [] H := fun k q h => by simp at h
theorem nil_D {A : Nat → Prop} : va_D A [] := ⟨fun i j p q h => by simp at h, fun k q h => by simp at h⟩
theorem ln_0 : (0 : Int32).toInt = 0 := by decide
theorem ln_1 : (1 : Int32).toInt = 1 := by decide
theorem ln_2 : (2 : Int32).toInt = 2 := by decide
theorem ln_3 : (3 : Int32).toInt = 3 := by decide
theorem ln_4 : (4 : Int32).toInt = 4 := by decide
theorem ln_6 : (6 : Int32).toInt = 6 := by decide
theorem ln_8 : (8 : Int32).toInt = 8 := by decide
theorem ln_10 : (10 : Int32).toInt = 10 := by decide
theorem ln_50 : (50 : Int32).toInt = 50 := by decide
theorem ln_100 : (100 : Int32).toInt = 100 := by decide
theorem ln_300 : (300 : Int32).toInt = 300 := by decide
theorem ln_1000 : (1000 : Int32).toInt = 1000 := by decide
theorem ln_m1000 : (-1000 : Int32).toInt = -1000 := by decide
theorem ln_m32768 : (-32768 : Int32).toInt = -32768 := by decide
theorem ln_m1 : (-1 : Int32).toInt = -1 := by decide
theorem ln_m2 : (-2 : Int32).toInt = -2 := by decide
theorem ln_m40000 : (-40000 : Int32).toInt = -40000 := by decide
theorem ln_20 : (20 : Int32).toInt = 20 := by decide
theorem fo_zero {x k : Int32} (h : k.toInt ≤ x.toInt + ((0 : Nat) : Int)) : ¬ x < k := by
  simp only [Int32.lt_iff_toInt_lt]; omega
theorem fo_a {k : Int32} (h : ¬ k < 2) : (1 : Int32) ≤ k := by
  simp only [Int32.lt_iff_toInt_lt, Int32.le_iff_toInt_le, ln_1, ln_2] at *; omega
theorem fo_b {k : Int32} (h : ¬ 10 < k) : k.toInt ≤ (1 : Int32).toInt + ((10 : Nat) : Int) := by
  simp only [Int32.lt_iff_toInt_lt, Int32.le_iff_toInt_le, ln_1, ln_10] at *; omega
theorem fo_s {x k : Int32} (h1 : 0 ≤ x) (h2 : x < k) (h3 : ¬ 10 < k) : (x + 1).toInt = x.toInt + 1 := by
  simp only [Int32.lt_iff_toInt_lt, Int32.le_iff_toInt_le, ln_0, ln_10] at *
  rw [Int32.toInt_add, ln_1, Int.bmod_eq_of_le (by omega) (by omega)]
theorem fo_1 {x k : Int32} (h1 : 0 ≤ x) (h2 : x < k) (h3 : ¬ 10 < k) : 0 ≤ x + 1 := by
  have h := fo_s h1 h2 h3
  simp only [Int32.lt_iff_toInt_lt, Int32.le_iff_toInt_le, ln_0, ln_10] at *; omega
theorem fo_2 {x k : Int32} (h1 : 0 ≤ x) (h2 : x < k) (h3 : ¬ 10 < k) : x + 1 ≤ k := by
  have h := fo_s h1 h2 h3
  simp only [Int32.lt_iff_toInt_lt, Int32.le_iff_toInt_le, ln_0, ln_10] at *; omega
theorem fo_3 {x k : Int32} {n : Nat} (h1 : 0 ≤ x) (h2 : x < k) (h3 : ¬ 10 < k) (h4 : k.toInt ≤ x.toInt + ((n + 1 : Nat) : Int)) : k.toInt ≤ (x + 1).toInt + (n : Int) := by
  have h := fo_s h1 h2 h3
  rw [h]; omega
theorem lk_out {x : Int32} (h0 : ¬ x = 0) (h1 : ¬ x = 1) : Op.lookupswitch.offset [(0, 27), (1, 35)] 40 x.toInt = 40 := (lv_osw h0 rfl).trans ((lv_osw h1 rfl).trans rfl)
/-! the eight marks of a call, as they are told -/
def tm (a b c d : Int32) (k : Nat) : Int32 := match k with
  | 0 => a >>> (16 &&& 31)
  | 1 => a.toInt16.toInt32
  | 2 => b >>> (16 &&& 31)
  | 3 => b.toInt16.toInt32
  | 4 => c >>> (16 &&& 31)
  | 5 => c.toInt16.toInt32
  | 6 => d >>> (16 &&& 31)
  | _ => d.toInt16.toInt32
def ok (x : Int32) : Prop := (¬ x < -1000 ∧ ¬ 1000 < x) ∨ x = -32768
def tk (a b c d : Int32) (k : Nat) : Prop := ∀ j, j < k → ok (tm a b c d j)
def tok (a b c d : Int32) : Prop := tk a b c d 8
theorem tk_0 (a b c d : Int32) : tk a b c d 0 := fun j h => absurd h (Nat.not_lt_zero j)
theorem tk_s {a b c d : Int32} {k : Nat} (h : tk a b c d k) (h2 : ok (tm a b c d k)) : tk a b c d (k + 1) := fun j hj => by
  rcases Nat.lt_succ_iff_lt_or_eq.mp hj with q | q
  · exact h j q
  · rw [q]; exact h2
theorem tk_n {a b c d : Int32} {k : Nat} (h : ¬ tk a b c d k) : ¬ tk a b c d (k + 1) := fun g => h (fun j hj => g j (Nat.lt_succ_of_lt hj))
theorem tk_b {a b c d : Int32} {k : Nat} (h : ¬ ok (tm a b c d k)) : ¬ tk a b c d (k + 1) := fun g => h (g k (Nat.lt_succ_self k))
theorem tk_t {a b c d : Int32} {k : Nat} (h : ¬ ok (tm a b c d k)) (hk : k < 8) : ¬ tok a b c d := fun g => h (g k hk)
theorem ok_n {x : Int32} (h1 : ¬ x < -1000) (h2 : ¬ 1000 < x) : ok x := Or.inl ⟨h1, h2⟩
theorem ok_g {x : Int32} (h : x = -32768) : ok x := Or.inr h
theorem no_l {x : Int32} (h : x < -1000) (h2 : ¬ x = -32768) : ¬ ok x := fun g => g.elim (fun q => q.1 h) h2
theorem no_h {x : Int32} (h : 1000 < x) (h2 : ¬ x = -32768) : ¬ ok x := fun g => g.elim (fun q => q.2 h) h2
theorem sx_n (n : Nat) : Int.bmod ((n * 65536 % 4294967296 : Nat) : Int) 4294967296 / 65536 = Int.bmod (n : Int) 65536 := by
  have e1 : n * 65536 % 4294967296 = (n % 65536) * 65536 := Nat.mul_mod_mul_right 65536 n 65536
  have hr : n % 65536 < 65536 := Nat.mod_lt _ (by decide)
  have e2 : Int.bmod (n : Int) 65536 = Int.bmod ((n % 65536 : Nat) : Int) 65536 := by rw [Int.natCast_emod]; exact (Int.emod_bmod (n : Int) 65536).symm
  rw [e1, e2]
  generalize n % 65536 = r at hr
  have a1 : ((r * 65536 : Nat) : Int) % ((4294967296 : Nat) : Int) = (r : Int) * 65536 := by rw [Int.natCast_mul]; exact Int.emod_eq_of_lt (by omega) (by omega)
  have a2 : (r : Int) % ((65536 : Nat) : Int) = (r : Int) := Int.emod_eq_of_lt (by omega) (by omega)
  rw [Int.bmod_def, Int.bmod_def, a1, a2]
  rcases Nat.lt_or_ge r 32768 with h | h
  · rw [if_pos (by omega), if_pos (by omega)]
    exact Int.mul_ediv_cancel _ (by decide)
  · rw [if_neg (by omega), if_neg (by omega)]
    have e3 : (r : Int) * 65536 - ((4294967296 : Nat) : Int) = ((r : Int) - 65536) * 65536 := by omega
    rw [e3]
    exact Int.mul_ediv_cancel _ (by decide)
theorem sx (x : Int32) : (x <<< (16 &&& 31)) >>> (16 &&& 31) = x.toInt16.toInt32 := by
  apply Int32.toInt_inj.mp
  have e16 : (16 &&& 31 : Int32) = 16 := by decide
  rw [e16, pk_shr (x <<< 16) 16 16 (by decide), Int16.toInt_toInt32, Int32.toInt_toInt16]
  have h1 : (x <<< (16 : Int32)).toBitVec.toNat = x.toBitVec.toNat * 2 ^ 16 % 2 ^ 32 := pk_shl x 16 16 (by decide)
  have h2 : (x <<< (16 : Int32)).toInt = (x <<< (16 : Int32)).toBitVec.toInt := rfl
  have h3 : x.toInt = x.toBitVec.toInt := rfl
  have hlt := x.toBitVec.isLt
  have h4 : Int.bmod x.toBitVec.toInt (2 ^ 16) = Int.bmod (x.toBitVec.toNat : Int) 65536 := by
    rw [BitVec.toInt_eq_toNat_bmod]
    exact Int.bmod_bmod_of_dvd (by decide)
  rw [h2, h3, h4, BitVec.toInt_eq_toNat_bmod, h1, Int.shiftRight_eq_div_pow]
  exact sx_n x.toBitVec.toNat
theorem no_H {x : Int32} (h : 1000 < x) : ¬ ok x := no_h h (fun q => by
  rw [q] at h; exact absurd h (by decide))
theorem na_I (n : Nat) : ∀ cA : ClassId, vp_cell cA (n, .inl (fun _ => 0)) = arrV cA n (fun _ => defaultValue .int) := fun _ => rfl
theorem na_Z (n : Nat) : ∀ cA : ClassId, vp_cell cA (n, .inl (fun _ => 0)) = arrV cA n (fun _ => defaultValue .boolean) := fun _ => rfl
