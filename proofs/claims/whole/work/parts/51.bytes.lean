/-! ImageFile$Bytes: c bytes, B their values 0 .. 255, in a row of n places -/
def By (h : px_H) (b lim n c : Nat) (B : Nat → Nat) : Prop :=
  h b = some (.inr (0, [.int (nI lim), .ref (b + 2), .int (nI c)])) ∧ b % 64 = 0 ∧ c ≤ n ∧ n ≤ lim ∧ lim ≤ 16384 ∧ ∃ f : Nat → Int32, h (b + 2) = some (.inl (px_tB, n, .inl f)) ∧ (∀ j, j < n → -128 ≤ (f j).toInt ∧ (f j).toInt ≤ 127) ∧ ∀ j, j < c → (B j : Int) = (f j).toInt % 256
/-- byte k, or -1 -/
def byAt (c : Nat) (B : Nat → Nat) (k : Int32) : Int32 := if 0 ≤ k.toInt ∧ k.toInt < c then nI (B k.toInt.toNat) else -1
theorem By.lt {h : px_H} {b lim n c : Nat} {B : Nat → Nat} (H : By h b lim n c B) {j : Nat} (hj : j < c) : B j < 256 := by
  obtain ⟨-, -, -, -, -, f, -, -, h3⟩ := H
  have := h3 j hj
  omega
set_option maxRecDepth 100000 in
set_option maxHeartbeats 4000000 in
theorem t_Bytes_at (l : Launch) {h : px_H} {b lim n c : Nat} {B : Nat → Nat} {k : Int32} (H : By h b lim n c B) : px_rd l 37 [.ref b, .int k] h (.int (byAt c B k)) := by
  obtain ⟨hb, hb0, hcn, hnl, hl, f, hr, hf, hB⟩ := H
  refine px_Ct.of (by decide) (Nat.le_of_ble_eq_true rfl) (px_wp_ok (sp := []) 60 _ _ _ _ _ ?_)
  simp only [px_ev_nil, px_ev_i, px_ev_l, px_ev_n, px_ev_r, px_wp, px_step, px_tg, px_i1, px_i2, px_l1, px_l2, px_il, px_a1, px_ia, px_iia, px_lki, px_lkl, px_lka, px_lk, px_sto, px_ins, px_del, px_popn, px_inv, px_cat, px_obj, px_arr, px_arq, px_rfv, px_rok, px_tB, px_tI, px_tZ, px_tG, px_tS, px_S, lv_args, Value.category, List.contains_cons, List.contains_nil, List.getElem?_cons_zero, List.getElem?_cons_succ, List.set_cons_zero, List.set_cons_succ, List.length_cons, List.length_nil, List.map_cons, List.map_nil, List.sum_cons, List.sum_nil, List.cons_append, List.nil_append, Option.toList_some, Option.toList_none, px_hold, Fin.isValue, Fin.val_zero, Fin.val_one, Fin.val_two, Nat.reduceBEq, Nat.reduceAdd, Nat.reduceLT, Nat.reduceLeDiff, Nat.reduceEqDiff, Nat.reduceMod, Int.reduceNeg, Int.reduceAdd, Int.reduceLE, Int.reduceLT, Int.reduceToNat, Int.cast_ofNat_Int, Int.ofNat_eq_natCast, Bool.or_self, Bool.or_false, Bool.false_or, Bool.and_false, Bool.and_self, Bool.false_and, Bool.true_and, Bool.false_eq_true, Bool.true_eq_false, ↓reduceIte, reduceCtorEq, true_and, and_true, false_and, and_false, false_or, or_false, true_or, or_true, ne_eq, not_false_eq_true, not_true_eq_false, px_f0, px_f1, px_f2, px_f3, kc_L0, kc_L1, if_true, if_false, px_10, true_implies, false_implies, implies_true, on_37, mL_37, rt_37, dp_37, lc_37, nr_37, yn_37, rc_0, e37_0, e37_1, e37_4, e37_5, e37_6, fd_0_19, e37_9, e37_12, kc_m1, e37_13, e37_16, e37_17, fd_0_15, e37_20, e37_21, e37_22, kc_255, e37_25, e37_26, hb, hr]
  have hc := i_n (n := c) (by omega)
  refine ⟨fun h1 => ?_, fun h1 => ⟨fun h2 => ⟨?_, ?_⟩, fun h2 => ?_⟩⟩
  · rw [i_lt] at h1
    have h1 : k.toInt < 0 := h1
    simp only [byAt]
    rw [if_neg (by omega)]
  · simp only [vp_in, i_lt, i_cl] at h1 h2 ⊢
    have h1 : ¬ k.toInt < 0 := h1
    intro q
    rcases q with q | q
    · exact h1 q
    · omega
  · rw [i_lt] at h1 h2
    have h1 : ¬ k.toInt < 0 := h1
    simp only [byAt]
    rw [if_pos (by omega)]
    simp only [and_true, Option.some.injEq, Value.int.injEq, i_eq, i_and255, i_cl]
    have h3 := hB k.toInt.toNat (by omega)
    rw [i_n (by omega)]
    omega
  · rw [i_lt] at h1 h2
    have h1 : ¬ k.toInt < 0 := h1
    simp only [byAt]
    rw [if_neg (by omega)]
set_option maxRecDepth 100000 in
set_option maxHeartbeats 4000000 in
/-- Arrays.copyOf of a byte row to another length: the copy stands under the key t -/
theorem t_copyOf (l : Launch) {h : px_H} {k n m t : Nat} {f : Nat → Int32} (hk : h k = some (.inl (px_tB, n, .inl f))) (hf : ∀ j, j < n → -128 ≤ (f j).toInt ∧ (f j).toInt ≤ 127) (hn : n ≤ 16384) (hm : m ≤ 16384) (hne : n < m) (htS : px_S ≤ t) (ht : h t = none) :
    px_Ct l 20 [.ref k, .int (nI m)] h (fun r h' mc ms => r = some (.ref t) ∧ h' = px_up h t (.inl (px_tB, m, .inl (va_cpy f (fun _ => 0) 0 0 n))) ∧ mc = 1 ∧ ms = m) := by
  have hkt : k ≠ t := fun e => by rw [e, ht] at hk; cases hk
  have e1 : (nI m).toNatClampNeg = m := nI_clamp (by omega)
  have e2 : (nI n).toNatClampNeg = n := nI_clamp (by omega)
  have h1 := i_n (n := m) (by omega)
  have h2 := i_n (n := n) (by omega)
  have hS : 448 ≤ t := htS
  have e3 : (if nI m < nI n then nI m else nI n) = nI n := by rw [if_neg (by rw [i_lt]; omega)]
  refine px_Ct.of (by decide) (Nat.le_of_ble_eq_true rfl) (px_wp_ok (sp := [15]) 60 _ _ _ _ _ ?_)
  simp only [px_ev_nil, px_ev_i, px_ev_l, px_ev_n, px_ev_r, px_wp, px_step, px_tg, px_i1, px_i2, px_l1, px_l2, px_il, px_a1, px_ia, px_iia, px_lki, px_lkl, px_lka, px_lk, px_sto, px_ins, px_del, px_popn, px_inv, px_cat, px_obj, px_arr, px_arq, px_rfv, px_rok, px_tB, px_tI, px_tZ, px_tG, px_tS, px_S, lv_args, Value.category, List.contains_cons, List.contains_nil, List.getElem?_cons_zero, List.getElem?_cons_succ, List.set_cons_zero, List.set_cons_succ, List.length_cons, List.length_nil, List.map_cons, List.map_nil, List.sum_cons, List.sum_nil, List.cons_append, List.nil_append, Option.toList_some, Option.toList_none, px_hold, Fin.isValue, Fin.val_zero, Fin.val_one, Fin.val_two, Nat.reduceBEq, Nat.reduceAdd, Nat.reduceLT, Nat.reduceLeDiff, Nat.reduceEqDiff, Nat.reduceMod, Int.reduceNeg, Int.reduceAdd, Int.reduceLE, Int.reduceLT, Int.reduceToNat, Int.cast_ofNat_Int, Int.ofNat_eq_natCast, Bool.or_self, Bool.or_false, Bool.false_or, Bool.and_false, Bool.and_self, Bool.false_and, Bool.true_and, Bool.false_eq_true, Bool.true_eq_false, ↓reduceIte, reduceCtorEq, true_and, and_true, false_and, and_false, false_or, or_false, true_or, or_true, ne_eq, not_false_eq_true, not_true_eq_false, px_f0, px_f1, px_f2, px_f3, kc_L0, kc_L1, if_true, if_false, px_10, true_implies, false_implies, implies_true, on_20, mL_20, rt_20, dp_20, lc_20, nr_20, yn_20, rc_9, e20_0, e20_1, e20_2, e20_3, e20_6, e20_7, mt_9_310, e20_10, e20_13, e20_14, e20_15, e20_17, e20_18, e20_19, kc_0, e20_20, e20_21, e20_22, e20_23, e20_24, e20_25, mt_9_304, e20_28, mt_9_150, e20_31, e20_32, hk]
  refine ⟨fun _ => ?_, fun q => ?_⟩
  · refine px_newB e20_15 (by rw [i_lt]; show ¬ (nI m).toInt < 0; omega) (by omega) htS ht (px_wp_ok (sp := []) 60 _ _ _ _ _ ?_)
    simp only [px_ev_nil, px_ev_i, px_ev_l, px_ev_n, px_ev_r, px_wp, px_step, px_tg, px_i1, px_i2, px_l1, px_l2, px_il, px_a1, px_ia, px_iia, px_lki, px_lkl, px_lka, px_lk, px_sto, px_ins, px_del, px_popn, px_inv, px_cat, px_obj, px_arr, px_arq, px_rfv, px_rok, px_tB, px_tI, px_tZ, px_tG, px_tS, px_S, lv_args, Value.category, List.contains_cons, List.contains_nil, List.getElem?_cons_zero, List.getElem?_cons_succ, List.set_cons_zero, List.set_cons_succ, List.length_cons, List.length_nil, List.map_cons, List.map_nil, List.sum_cons, List.sum_nil, List.cons_append, List.nil_append, Option.toList_some, Option.toList_none, px_hold, Fin.isValue, Fin.val_zero, Fin.val_one, Fin.val_two, Nat.reduceBEq, Nat.reduceAdd, Nat.reduceLT, Nat.reduceLeDiff, Nat.reduceEqDiff, Nat.reduceMod, Int.reduceNeg, Int.reduceAdd, Int.reduceLE, Int.reduceLT, Int.reduceToNat, Int.cast_ofNat_Int, Int.ofNat_eq_natCast, Bool.or_self, Bool.or_false, Bool.false_or, Bool.and_false, Bool.and_self, Bool.false_and, Bool.true_and, Bool.false_eq_true, Bool.true_eq_false, ↓reduceIte, reduceCtorEq, true_and, and_true, false_and, and_false, false_or, or_false, true_or, or_true, ne_eq, not_false_eq_true, not_true_eq_false, px_f0, px_f1, px_f2, px_f3, kc_L0, kc_L1, if_true, if_false, px_10, true_implies, false_implies, implies_true, on_20, mL_20, rt_20, dp_20, lc_20, nr_20, yn_20, rc_9, e20_0, e20_1, e20_2, e20_3, e20_6, e20_7, mt_9_310, e20_10, e20_13, e20_14, e20_15, e20_17, e20_18, e20_19, kc_0, e20_20, e20_21, e20_22, e20_23, e20_24, e20_25, mt_9_304, e20_28, mt_9_150, e20_31, e20_32, px_up_self, px_up_ne hkt, hk, e1, show Int32.ofNat n = nI n from rfl, e3, e2]
    refine ⟨?_, ?_, ?_, ?_, ?_, ?_, ?_⟩
    · decide
    · decide
    · rw [i_lt]; show ¬ (nI n).toInt < 0; omega
    · show (0 : Int32).toInt.toNat + n ≤ n; simp
    · show (0 : Int32).toInt.toNat + n ≤ m; simp; omega
    · intro j hj
      show fits .byte (.int (f ((0 : Int32).toInt.toNat + j))) = true
      have := hf j hj
      simp only [Int32.toInt_zero, Int.toNat_zero, Nat.zero_add]
      exact i_fits this.1 this.2
    · rw [px_up_up]
      exact ⟨rfl, Nat.zero_add m⟩
  · exfalso
    have q' : nI m = nI n := q
    rw [i_eq] at q'
    omega

/-- the number of two bytes at k, or -1 -/
def byU2 (c : Nat) (B : Nat → Nat) (k : Int32) : Int32 := if 0 ≤ k.toInt ∧ k.toInt + 2 ≤ c then nI (B k.toInt.toNat + 256 * B (k.toInt.toNat + 1)) else -1
def byU4 (c : Nat) (B : Nat → Nat) (k : Int32) : Int64 := if 0 ≤ k.toInt ∧ k.toInt + 4 ≤ c then lN (B k.toInt.toNat + 256 * B (k.toInt.toNat + 1) + 65536 * B (k.toInt.toNat + 2) + 16777216 * B (k.toInt.toNat + 3)) else -1
theorem byAt_in {c : Nat} {B : Nat → Nat} {k : Int32} (h1 : 0 ≤ k.toInt) (h2 : k.toInt < c) : byAt c B k = nI (B k.toInt.toNat) := if_pos ⟨h1, h2⟩
theorem n_or8 {a b : Nat} (ha : a < 256) (hb : b < 256) : nI a ||| nI b <<< ((8 : Int32) &&& 31) = nI (a + 256 * b) := by
  rw [pk_shlN (n := b) _ 8 (by decide) (by omega)]
  apply Int32.toBitVec_inj.mp
  apply BitVec.eq_of_toNat_eq
  show ((nI a).toBitVec ||| (nI (b * 2 ^ 8)).toBitVec).toNat = _
  rw [BitVec.toNat_or, pk_tn (by omega), pk_tn (by omega), pk_tn (by omega), Nat.or_comm, ← Nat.shiftLeft_eq, ← Nat.shiftLeft_add_eq_or_of_lt (by omega), Nat.shiftLeft_eq]
  omega
set_option maxRecDepth 100000 in
set_option maxHeartbeats 4000000 in
theorem t_Bytes_u2 (l : Launch) {h : px_H} {b lim n c : Nat} {B : Nat → Nat} {k : Int32} (H : By h b lim n c B) : px_rd l 75 [.ref b, .int k] h (.int (byU2 c B k)) := by
  have H0 := H
  obtain ⟨hb, hb0, hcn, hnl, hl, f, hr, hf, hB⟩ := H
  have hc := i_n (n := c) (by omega)
  have h2 : (nI c - 2).toInt = (c : Int) - 2 := by rw [i_sub] <;> rw [hc] <;> simp <;> omega
  refine px_Ct.of (by decide) (Nat.le_of_ble_eq_true rfl) (px_wp_ok (sp := []) 60 _ _ _ _ _ ?_)
  simp only [px_ev_nil, px_ev_i, px_ev_l, px_ev_n, px_ev_r, px_wp, px_step, px_tg, px_i1, px_i2, px_l1, px_l2, px_il, px_a1, px_ia, px_iia, px_lki, px_lkl, px_lka, px_lk, px_sto, px_ins, px_del, px_popn, px_inv, px_cat, px_obj, px_arr, px_arq, px_rfv, px_rok, px_tB, px_tI, px_tZ, px_tG, px_tS, px_S, lv_args, Value.category, List.contains_cons, List.contains_nil, List.getElem?_cons_zero, List.getElem?_cons_succ, List.set_cons_zero, List.set_cons_succ, List.length_cons, List.length_nil, List.map_cons, List.map_nil, List.sum_cons, List.sum_nil, List.cons_append, List.nil_append, Option.toList_some, Option.toList_none, px_hold, Fin.isValue, Fin.val_zero, Fin.val_one, Fin.val_two, Nat.reduceBEq, Nat.reduceAdd, Nat.reduceLT, Nat.reduceLeDiff, Nat.reduceEqDiff, Nat.reduceMod, Int.reduceNeg, Int.reduceAdd, Int.reduceLE, Int.reduceLT, Int.reduceToNat, Int.cast_ofNat_Int, Int.ofNat_eq_natCast, Bool.or_self, Bool.or_false, Bool.false_or, Bool.and_false, Bool.and_self, Bool.false_and, Bool.true_and, Bool.false_eq_true, Bool.true_eq_false, ↓reduceIte, reduceCtorEq, true_and, and_true, false_and, and_false, false_or, or_false, true_or, or_true, ne_eq, not_false_eq_true, not_true_eq_false, px_f0, px_f1, px_f2, px_f3, kc_L0, kc_L1, if_true, if_false, px_10, true_implies, false_implies, implies_true, on_75, mL_75, rt_75, dp_75, lc_75, nr_75, yn_75, rc_0, e75_0, e75_1, e75_4, e75_5, e75_6, fd_0_19, e75_9, kc_2, e75_10, e75_11, e75_14, kc_m1, e75_15, e75_18, e75_19, e75_20, mt_0_22, kw_37, np_37, on_37, nr_37, fc_75_37, e75_23, e75_24, e75_25, kc_1, e75_26, e75_27, e75_30, kc_8, e75_32, e75_33, e75_34, hb]
  refine ⟨fun h1 => ?_, fun h1 => ⟨fun h3 => ?_, fun h3 => ?_⟩⟩
  · rw [i_lt] at h1
    have h1 : k.toInt < 0 := h1
    rw [byU2, if_neg (by omega)]
  · rw [i_lt] at h1
    rw [i_le, h2] at h3
    have h1 : ¬ k.toInt < 0 := h1
    have h4 : (k + 1).toInt = k.toInt + 1 := by rw [i_add] <;> simp <;> omega
    refine px_rd.use (t_Bytes_at l H0) (px_wp_ok (sp := []) 60 _ _ _ _ _ ?_)
    simp only [px_ev_nil, px_ev_i, px_ev_l, px_ev_n, px_ev_r, px_wp, px_step, px_tg, px_i1, px_i2, px_l1, px_l2, px_il, px_a1, px_ia, px_iia, px_lki, px_lkl, px_lka, px_lk, px_sto, px_ins, px_del, px_popn, px_inv, px_cat, px_obj, px_arr, px_arq, px_rfv, px_rok, px_tB, px_tI, px_tZ, px_tG, px_tS, px_S, lv_args, Value.category, List.contains_cons, List.contains_nil, List.getElem?_cons_zero, List.getElem?_cons_succ, List.set_cons_zero, List.set_cons_succ, List.length_cons, List.length_nil, List.map_cons, List.map_nil, List.sum_cons, List.sum_nil, List.cons_append, List.nil_append, Option.toList_some, Option.toList_none, px_hold, Fin.isValue, Fin.val_zero, Fin.val_one, Fin.val_two, Nat.reduceBEq, Nat.reduceAdd, Nat.reduceLT, Nat.reduceLeDiff, Nat.reduceEqDiff, Nat.reduceMod, Int.reduceNeg, Int.reduceAdd, Int.reduceLE, Int.reduceLT, Int.reduceToNat, Int.cast_ofNat_Int, Int.ofNat_eq_natCast, Bool.or_self, Bool.or_false, Bool.false_or, Bool.and_false, Bool.and_self, Bool.false_and, Bool.true_and, Bool.false_eq_true, Bool.true_eq_false, ↓reduceIte, reduceCtorEq, true_and, and_true, false_and, and_false, false_or, or_false, true_or, or_true, ne_eq, not_false_eq_true, not_true_eq_false, px_f0, px_f1, px_f2, px_f3, kc_L0, kc_L1, if_true, if_false, px_10, true_implies, false_implies, implies_true, on_75, mL_75, rt_75, dp_75, lc_75, nr_75, yn_75, rc_0, e75_0, e75_1, e75_4, e75_5, e75_6, fd_0_19, e75_9, kc_2, e75_10, e75_11, e75_14, kc_m1, e75_15, e75_18, e75_19, e75_20, mt_0_22, kw_37, np_37, on_37, nr_37, fc_75_37, e75_23, e75_24, e75_25, kc_1, e75_26, e75_27, e75_30, kc_8, e75_32, e75_33, e75_34, hb]
    refine px_rd.use (t_Bytes_at l H0) (px_wp_ok (sp := []) 60 _ _ _ _ _ ?_)
    simp only [px_ev_nil, px_ev_i, px_ev_l, px_ev_n, px_ev_r, px_wp, px_step, px_tg, px_i1, px_i2, px_l1, px_l2, px_il, px_a1, px_ia, px_iia, px_lki, px_lkl, px_lka, px_lk, px_sto, px_ins, px_del, px_popn, px_inv, px_cat, px_obj, px_arr, px_arq, px_rfv, px_rok, px_tB, px_tI, px_tZ, px_tG, px_tS, px_S, lv_args, Value.category, List.contains_cons, List.contains_nil, List.getElem?_cons_zero, List.getElem?_cons_succ, List.set_cons_zero, List.set_cons_succ, List.length_cons, List.length_nil, List.map_cons, List.map_nil, List.sum_cons, List.sum_nil, List.cons_append, List.nil_append, Option.toList_some, Option.toList_none, px_hold, Fin.isValue, Fin.val_zero, Fin.val_one, Fin.val_two, Nat.reduceBEq, Nat.reduceAdd, Nat.reduceLT, Nat.reduceLeDiff, Nat.reduceEqDiff, Nat.reduceMod, Int.reduceNeg, Int.reduceAdd, Int.reduceLE, Int.reduceLT, Int.reduceToNat, Int.cast_ofNat_Int, Int.ofNat_eq_natCast, Bool.or_self, Bool.or_false, Bool.false_or, Bool.and_false, Bool.and_self, Bool.false_and, Bool.true_and, Bool.false_eq_true, Bool.true_eq_false, ↓reduceIte, reduceCtorEq, true_and, and_true, false_and, and_false, false_or, or_false, true_or, or_true, ne_eq, not_false_eq_true, not_true_eq_false, px_f0, px_f1, px_f2, px_f3, kc_L0, kc_L1, if_true, if_false, px_10, true_implies, false_implies, implies_true, on_75, mL_75, rt_75, dp_75, lc_75, nr_75, yn_75, rc_0, e75_0, e75_1, e75_4, e75_5, e75_6, fd_0_19, e75_9, kc_2, e75_10, e75_11, e75_14, kc_m1, e75_15, e75_18, e75_19, e75_20, mt_0_22, kw_37, np_37, on_37, nr_37, fc_75_37, e75_23, e75_24, e75_25, kc_1, e75_26, e75_27, e75_30, kc_8, e75_32, e75_33, e75_34, hb]
    rw [byAt_in (by omega) (by omega), byAt_in (by omega) (by omega), byU2, if_pos (by omega), h4, n_or8 (H0.lt (by omega)) (H0.lt (by omega)), show (k.toInt + 1).toNat = k.toInt.toNat + 1 by omega]
  · rw [i_lt] at h1
    rw [i_le, h2] at h3
    rw [byU2, if_neg (by omega)]

set_option maxRecDepth 100000 in
set_option maxHeartbeats 4000000 in
theorem t_Bytes_u4 (l : Launch) {h : px_H} {b lim n c : Nat} {B : Nat → Nat} {k : Int32} (H : By h b lim n c B) : px_rd l 78 [.ref b, .int k] h (.long (byU4 c B k)) := by
  have H0 := H
  obtain ⟨hb, hb0, hcn, hnl, hl, f, hr, hf, hB⟩ := H
  have hc := i_n (n := c) (by omega)
  have h2 : (nI c - 4).toInt = (c : Int) - 4 := by rw [i_sub] <;> rw [hc] <;> simp <;> omega
  refine px_Ct.of (by decide) (Nat.le_of_ble_eq_true rfl) (px_wp_ok (sp := []) 60 _ _ _ _ _ ?_)
  simp only [px_ev_nil, px_ev_i, px_ev_l, px_ev_n, px_ev_r, px_wp, px_step, px_tg, px_i1, px_i2, px_l1, px_l2, px_il, px_a1, px_ia, px_iia, px_lki, px_lkl, px_lka, px_lk, px_sto, px_ins, px_del, px_popn, px_inv, px_cat, px_obj, px_arr, px_arq, px_rfv, px_rok, px_tB, px_tI, px_tZ, px_tG, px_tS, px_S, lv_args, Value.category, List.contains_cons, List.contains_nil, List.getElem?_cons_zero, List.getElem?_cons_succ, List.set_cons_zero, List.set_cons_succ, List.length_cons, List.length_nil, List.map_cons, List.map_nil, List.sum_cons, List.sum_nil, List.cons_append, List.nil_append, Option.toList_some, Option.toList_none, px_hold, Fin.isValue, Fin.val_zero, Fin.val_one, Fin.val_two, Nat.reduceBEq, Nat.reduceAdd, Nat.reduceLT, Nat.reduceLeDiff, Nat.reduceEqDiff, Nat.reduceMod, Int.reduceNeg, Int.reduceAdd, Int.reduceLE, Int.reduceLT, Int.reduceToNat, Int.cast_ofNat_Int, Int.ofNat_eq_natCast, Bool.or_self, Bool.or_false, Bool.false_or, Bool.and_false, Bool.and_self, Bool.false_and, Bool.true_and, Bool.false_eq_true, Bool.true_eq_false, ↓reduceIte, reduceCtorEq, true_and, and_true, false_and, and_false, false_or, or_false, true_or, or_true, ne_eq, not_false_eq_true, not_true_eq_false, px_f0, px_f1, px_f2, px_f3, kc_L0, kc_L1, if_true, if_false, px_10, true_implies, false_implies, implies_true, on_78, mL_78, rt_78, dp_78, lc_78, nr_78, yn_78, rc_0, e78_0, e78_1, e78_4, e78_5, e78_6, fd_0_19, e78_9, kc_4, e78_10, e78_11, e78_14, l2_0_26, e78_17, e78_18, e78_19, e78_20, mt_0_22, kw_37, np_37, on_37, nr_37, fc_78_37, e78_23, e78_24, e78_25, kc_1, e78_26, e78_27, e78_30, kc_8, e78_32, e78_33, e78_34, e78_35, e78_36, kc_2, e78_37, e78_38, e78_41, kc_16, e78_43, e78_44, e78_45, e78_46, e78_47, e78_48, kc_3, e78_49, e78_50, e78_53, e78_54, kc_24, e78_56, e78_57, e78_58, hb]
  refine ⟨fun h1 => ?_, fun h1 => ⟨fun h3 => ?_, fun h3 => ?_⟩⟩
  · simp only [i_lt, i_le, i_eq, i_cl, vp_in, kt_m6, kt_m4, kt_m1, kt_0, kt_1, kt_2, kt_3, kt_4, kt_5, kt_6, kt_7, kt_8, kt_9, kt_10, kt_11, kt_12, kt_13, kt_14, kt_15, kt_16, kt_17, kt_18, kt_19, kt_20, kt_21, kt_22, kt_23, kt_24, kt_25, kt_26, kt_27, kt_28, kt_29, kt_30, kt_31, kt_32, kt_36, kt_40, kt_42, kt_44, kt_46, kt_52, kt_56, kt_69, kt_70, kt_76, kt_77, kt_97, kt_107, kt_114, kt_115, kt_127, kt_243, kt_255, kt_256, kt_2048, kt_4094, kt_4095, kt_4096, kt_12288, kt_16384, kt_24576] at h1
    rw [byU4, if_neg (by omega)]
  · simp only [i_lt, i_le, i_eq, i_cl, vp_in, kt_m6, kt_m4, kt_m1, kt_0, kt_1, kt_2, kt_3, kt_4, kt_5, kt_6, kt_7, kt_8, kt_9, kt_10, kt_11, kt_12, kt_13, kt_14, kt_15, kt_16, kt_17, kt_18, kt_19, kt_20, kt_21, kt_22, kt_23, kt_24, kt_25, kt_26, kt_27, kt_28, kt_29, kt_30, kt_31, kt_32, kt_36, kt_40, kt_42, kt_44, kt_46, kt_52, kt_56, kt_69, kt_70, kt_76, kt_77, kt_97, kt_107, kt_114, kt_115, kt_127, kt_243, kt_255, kt_256, kt_2048, kt_4094, kt_4095, kt_4096, kt_12288, kt_16384, kt_24576] at h1
    rw [i_le, h2] at h3
    have h4 : (k + 1).toInt = k.toInt + 1 := by rw [i_add] <;> simp <;> omega
    have h5 : (k + 2).toInt = k.toInt + 2 := by rw [i_add] <;> simp <;> omega
    have h6 : (k + 3).toInt = k.toInt + 3 := by rw [i_add] <;> simp <;> omega
    refine px_rd.use (t_Bytes_at l H0) (px_wp_ok (sp := []) 60 _ _ _ _ _ ?_)
    simp only [px_ev_nil, px_ev_i, px_ev_l, px_ev_n, px_ev_r, px_wp, px_step, px_tg, px_i1, px_i2, px_l1, px_l2, px_il, px_a1, px_ia, px_iia, px_lki, px_lkl, px_lka, px_lk, px_sto, px_ins, px_del, px_popn, px_inv, px_cat, px_obj, px_arr, px_arq, px_rfv, px_rok, px_tB, px_tI, px_tZ, px_tG, px_tS, px_S, lv_args, Value.category, List.contains_cons, List.contains_nil, List.getElem?_cons_zero, List.getElem?_cons_succ, List.set_cons_zero, List.set_cons_succ, List.length_cons, List.length_nil, List.map_cons, List.map_nil, List.sum_cons, List.sum_nil, List.cons_append, List.nil_append, Option.toList_some, Option.toList_none, px_hold, Fin.isValue, Fin.val_zero, Fin.val_one, Fin.val_two, Nat.reduceBEq, Nat.reduceAdd, Nat.reduceLT, Nat.reduceLeDiff, Nat.reduceEqDiff, Nat.reduceMod, Int.reduceNeg, Int.reduceAdd, Int.reduceLE, Int.reduceLT, Int.reduceToNat, Int.cast_ofNat_Int, Int.ofNat_eq_natCast, Bool.or_self, Bool.or_false, Bool.false_or, Bool.and_false, Bool.and_self, Bool.false_and, Bool.true_and, Bool.false_eq_true, Bool.true_eq_false, ↓reduceIte, reduceCtorEq, true_and, and_true, false_and, and_false, false_or, or_false, true_or, or_true, ne_eq, not_false_eq_true, not_true_eq_false, px_f0, px_f1, px_f2, px_f3, kc_L0, kc_L1, if_true, if_false, px_10, true_implies, false_implies, implies_true, on_78, mL_78, rt_78, dp_78, lc_78, nr_78, yn_78, rc_0, e78_0, e78_1, e78_4, e78_5, e78_6, fd_0_19, e78_9, kc_4, e78_10, e78_11, e78_14, l2_0_26, e78_17, e78_18, e78_19, e78_20, mt_0_22, kw_37, np_37, on_37, nr_37, fc_78_37, e78_23, e78_24, e78_25, kc_1, e78_26, e78_27, e78_30, kc_8, e78_32, e78_33, e78_34, e78_35, e78_36, kc_2, e78_37, e78_38, e78_41, kc_16, e78_43, e78_44, e78_45, e78_46, e78_47, e78_48, kc_3, e78_49, e78_50, e78_53, e78_54, kc_24, e78_56, e78_57, e78_58, hb]
    refine px_rd.use (t_Bytes_at l H0) (px_wp_ok (sp := []) 60 _ _ _ _ _ ?_)
    simp only [px_ev_nil, px_ev_i, px_ev_l, px_ev_n, px_ev_r, px_wp, px_step, px_tg, px_i1, px_i2, px_l1, px_l2, px_il, px_a1, px_ia, px_iia, px_lki, px_lkl, px_lka, px_lk, px_sto, px_ins, px_del, px_popn, px_inv, px_cat, px_obj, px_arr, px_arq, px_rfv, px_rok, px_tB, px_tI, px_tZ, px_tG, px_tS, px_S, lv_args, Value.category, List.contains_cons, List.contains_nil, List.getElem?_cons_zero, List.getElem?_cons_succ, List.set_cons_zero, List.set_cons_succ, List.length_cons, List.length_nil, List.map_cons, List.map_nil, List.sum_cons, List.sum_nil, List.cons_append, List.nil_append, Option.toList_some, Option.toList_none, px_hold, Fin.isValue, Fin.val_zero, Fin.val_one, Fin.val_two, Nat.reduceBEq, Nat.reduceAdd, Nat.reduceLT, Nat.reduceLeDiff, Nat.reduceEqDiff, Nat.reduceMod, Int.reduceNeg, Int.reduceAdd, Int.reduceLE, Int.reduceLT, Int.reduceToNat, Int.cast_ofNat_Int, Int.ofNat_eq_natCast, Bool.or_self, Bool.or_false, Bool.false_or, Bool.and_false, Bool.and_self, Bool.false_and, Bool.true_and, Bool.false_eq_true, Bool.true_eq_false, ↓reduceIte, reduceCtorEq, true_and, and_true, false_and, and_false, false_or, or_false, true_or, or_true, ne_eq, not_false_eq_true, not_true_eq_false, px_f0, px_f1, px_f2, px_f3, kc_L0, kc_L1, if_true, if_false, px_10, true_implies, false_implies, implies_true, on_78, mL_78, rt_78, dp_78, lc_78, nr_78, yn_78, rc_0, e78_0, e78_1, e78_4, e78_5, e78_6, fd_0_19, e78_9, kc_4, e78_10, e78_11, e78_14, l2_0_26, e78_17, e78_18, e78_19, e78_20, mt_0_22, kw_37, np_37, on_37, nr_37, fc_78_37, e78_23, e78_24, e78_25, kc_1, e78_26, e78_27, e78_30, kc_8, e78_32, e78_33, e78_34, e78_35, e78_36, kc_2, e78_37, e78_38, e78_41, kc_16, e78_43, e78_44, e78_45, e78_46, e78_47, e78_48, kc_3, e78_49, e78_50, e78_53, e78_54, kc_24, e78_56, e78_57, e78_58, hb]
    refine px_rd.use (t_Bytes_at l H0) (px_wp_ok (sp := []) 60 _ _ _ _ _ ?_)
    simp only [px_ev_nil, px_ev_i, px_ev_l, px_ev_n, px_ev_r, px_wp, px_step, px_tg, px_i1, px_i2, px_l1, px_l2, px_il, px_a1, px_ia, px_iia, px_lki, px_lkl, px_lka, px_lk, px_sto, px_ins, px_del, px_popn, px_inv, px_cat, px_obj, px_arr, px_arq, px_rfv, px_rok, px_tB, px_tI, px_tZ, px_tG, px_tS, px_S, lv_args, Value.category, List.contains_cons, List.contains_nil, List.getElem?_cons_zero, List.getElem?_cons_succ, List.set_cons_zero, List.set_cons_succ, List.length_cons, List.length_nil, List.map_cons, List.map_nil, List.sum_cons, List.sum_nil, List.cons_append, List.nil_append, Option.toList_some, Option.toList_none, px_hold, Fin.isValue, Fin.val_zero, Fin.val_one, Fin.val_two, Nat.reduceBEq, Nat.reduceAdd, Nat.reduceLT, Nat.reduceLeDiff, Nat.reduceEqDiff, Nat.reduceMod, Int.reduceNeg, Int.reduceAdd, Int.reduceLE, Int.reduceLT, Int.reduceToNat, Int.cast_ofNat_Int, Int.ofNat_eq_natCast, Bool.or_self, Bool.or_false, Bool.false_or, Bool.and_false, Bool.and_self, Bool.false_and, Bool.true_and, Bool.false_eq_true, Bool.true_eq_false, ↓reduceIte, reduceCtorEq, true_and, and_true, false_and, and_false, false_or, or_false, true_or, or_true, ne_eq, not_false_eq_true, not_true_eq_false, px_f0, px_f1, px_f2, px_f3, kc_L0, kc_L1, if_true, if_false, px_10, true_implies, false_implies, implies_true, on_78, mL_78, rt_78, dp_78, lc_78, nr_78, yn_78, rc_0, e78_0, e78_1, e78_4, e78_5, e78_6, fd_0_19, e78_9, kc_4, e78_10, e78_11, e78_14, l2_0_26, e78_17, e78_18, e78_19, e78_20, mt_0_22, kw_37, np_37, on_37, nr_37, fc_78_37, e78_23, e78_24, e78_25, kc_1, e78_26, e78_27, e78_30, kc_8, e78_32, e78_33, e78_34, e78_35, e78_36, kc_2, e78_37, e78_38, e78_41, kc_16, e78_43, e78_44, e78_45, e78_46, e78_47, e78_48, kc_3, e78_49, e78_50, e78_53, e78_54, kc_24, e78_56, e78_57, e78_58, hb]
    refine px_rd.use (t_Bytes_at l H0) (px_wp_ok (sp := []) 60 _ _ _ _ _ ?_)
    simp only [px_ev_nil, px_ev_i, px_ev_l, px_ev_n, px_ev_r, px_wp, px_step, px_tg, px_i1, px_i2, px_l1, px_l2, px_il, px_a1, px_ia, px_iia, px_lki, px_lkl, px_lka, px_lk, px_sto, px_ins, px_del, px_popn, px_inv, px_cat, px_obj, px_arr, px_arq, px_rfv, px_rok, px_tB, px_tI, px_tZ, px_tG, px_tS, px_S, lv_args, Value.category, List.contains_cons, List.contains_nil, List.getElem?_cons_zero, List.getElem?_cons_succ, List.set_cons_zero, List.set_cons_succ, List.length_cons, List.length_nil, List.map_cons, List.map_nil, List.sum_cons, List.sum_nil, List.cons_append, List.nil_append, Option.toList_some, Option.toList_none, px_hold, Fin.isValue, Fin.val_zero, Fin.val_one, Fin.val_two, Nat.reduceBEq, Nat.reduceAdd, Nat.reduceLT, Nat.reduceLeDiff, Nat.reduceEqDiff, Nat.reduceMod, Int.reduceNeg, Int.reduceAdd, Int.reduceLE, Int.reduceLT, Int.reduceToNat, Int.cast_ofNat_Int, Int.ofNat_eq_natCast, Bool.or_self, Bool.or_false, Bool.false_or, Bool.and_false, Bool.and_self, Bool.false_and, Bool.true_and, Bool.false_eq_true, Bool.true_eq_false, ↓reduceIte, reduceCtorEq, true_and, and_true, false_and, and_false, false_or, or_false, true_or, or_true, ne_eq, not_false_eq_true, not_true_eq_false, px_f0, px_f1, px_f2, px_f3, kc_L0, kc_L1, if_true, if_false, px_10, true_implies, false_implies, implies_true, on_78, mL_78, rt_78, dp_78, lc_78, nr_78, yn_78, rc_0, e78_0, e78_1, e78_4, e78_5, e78_6, fd_0_19, e78_9, kc_4, e78_10, e78_11, e78_14, l2_0_26, e78_17, e78_18, e78_19, e78_20, mt_0_22, kw_37, np_37, on_37, nr_37, fc_78_37, e78_23, e78_24, e78_25, kc_1, e78_26, e78_27, e78_30, kc_8, e78_32, e78_33, e78_34, e78_35, e78_36, kc_2, e78_37, e78_38, e78_41, kc_16, e78_43, e78_44, e78_45, e78_46, e78_47, e78_48, kc_3, e78_49, e78_50, e78_53, e78_54, kc_24, e78_56, e78_57, e78_58, hb]
    have b0 : B k.toInt.toNat < 256 := H0.lt (by omega)
    have b1 : B (k.toInt.toNat + 1) < 256 := H0.lt (by omega)
    have b2 : B (k.toInt.toNat + 2) < 256 := H0.lt (by omega)
    have b3 : B (k.toInt.toNat + 3) < 256 := H0.lt (by omega)
    rw [byAt_in (k := k) (by omega) (by omega), byAt_in (k := k + 1) (by omega) (by omega), byAt_in (k := k + 2) (by omega) (by omega), byAt_in (k := k + 3) (by omega) (by omega), h4, h5, h6, show (k.toInt + 1).toNat = k.toInt.toNat + 1 by omega, show (k.toInt + 2).toNat = k.toInt.toNat + 2 by omega, show (k.toInt + 3).toNat = k.toInt.toNat + 3 by omega]
    rw [n_or8 b0 b1, n_orS (k := 16) _ (by decide) (by omega) (by omega) (by omega), nI_l (by omega), nI_l (by omega), l_orS (k := 24) _ (by decide) (by omega) (by omega), byU4, if_pos (by omega)]
  · simp only [i_lt, i_le, i_eq, i_cl, vp_in, kt_m6, kt_m4, kt_m1, kt_0, kt_1, kt_2, kt_3, kt_4, kt_5, kt_6, kt_7, kt_8, kt_9, kt_10, kt_11, kt_12, kt_13, kt_14, kt_15, kt_16, kt_17, kt_18, kt_19, kt_20, kt_21, kt_22, kt_23, kt_24, kt_25, kt_26, kt_27, kt_28, kt_29, kt_30, kt_31, kt_32, kt_36, kt_40, kt_42, kt_44, kt_46, kt_52, kt_56, kt_69, kt_70, kt_76, kt_77, kt_97, kt_107, kt_114, kt_115, kt_127, kt_243, kt_255, kt_256, kt_2048, kt_4094, kt_4095, kt_4096, kt_12288, kt_16384, kt_24576] at h1
    rw [i_le, h2] at h3
    rw [byU4, if_neg (by omega)]
def bset (B : Nat → Nat) (k v : Nat) : Nat → Nat := fun j => if j = k then v else B j
set_option maxRecDepth 100000 in
set_option maxHeartbeats 4000000 in
theorem t_Bytes_change (l : Launch) {h : px_H} {b lim n c : Nat} {B : Nat → Nat} {k v : Int32} (H : By h b lim n c B) : px_Ct l 69 [.ref b, .int k, .int v] h (fun r h' mc ms => r = none ∧ By h' b lim n c (if 0 ≤ k.toInt ∧ k.toInt < c then bset B k.toInt.toNat (v.toInt % 256).toNat else B) ∧ px_fr (fun j => j = b + 2) h h' ∧ mc = 0 ∧ ms = 0) := by
  have H0 := H
  obtain ⟨hb, hb0, hcn, hnl, hl, f, hr, hf, hB⟩ := H
  have hc := i_n (n := c) (by omega)
  refine px_Ct.of (by decide) (Nat.le_of_ble_eq_true rfl) (px_wp_ok (sp := []) 60 _ _ _ _ _ ?_)
  simp only [px_ev_nil, px_ev_i, px_ev_l, px_ev_n, px_ev_r, px_wp, px_step, px_tg, px_i1, px_i2, px_l1, px_l2, px_il, px_a1, px_ia, px_iia, px_lki, px_lkl, px_lka, px_lk, px_sto, px_ins, px_del, px_popn, px_inv, px_cat, px_obj, px_arr, px_arq, px_rfv, px_rok, px_tB, px_tI, px_tZ, px_tG, px_tS, px_S, lv_args, Value.category, List.contains_cons, List.contains_nil, List.getElem?_cons_zero, List.getElem?_cons_succ, List.set_cons_zero, List.set_cons_succ, List.length_cons, List.length_nil, List.map_cons, List.map_nil, List.sum_cons, List.sum_nil, List.cons_append, List.nil_append, Option.toList_some, Option.toList_none, px_hold, Fin.isValue, Fin.val_zero, Fin.val_one, Fin.val_two, Nat.reduceBEq, Nat.reduceAdd, Nat.reduceLT, Nat.reduceLeDiff, Nat.reduceEqDiff, Nat.reduceMod, Int.reduceNeg, Int.reduceAdd, Int.reduceLE, Int.reduceLT, Int.reduceToNat, Int.cast_ofNat_Int, Int.ofNat_eq_natCast, Bool.or_self, Bool.or_false, Bool.false_or, Bool.and_false, Bool.and_self, Bool.false_and, Bool.true_and, Bool.false_eq_true, Bool.true_eq_false, ↓reduceIte, reduceCtorEq, true_and, and_true, false_and, and_false, false_or, or_false, true_or, or_true, ne_eq, not_false_eq_true, not_true_eq_false, px_f0, px_f1, px_f2, px_f3, kc_L0, kc_L1, if_true, if_false, px_10, true_implies, false_implies, implies_true, on_69, mL_69, rt_69, dp_69, lc_69, nr_69, yn_69, rc_0, e69_0, e69_1, e69_4, e69_5, e69_6, fd_0_19, e69_9, e69_12, e69_13, fd_0_15, e69_16, e69_17, e69_18, e69_19, e69_20, hb, hr]
  refine ⟨fun h1 => ?_, fun h1 => ⟨fun h2 => ?_, fun h2 => ⟨?_, ?_⟩⟩⟩
  · simp only [i_lt, i_le, i_eq, i_cl, vp_in, kt_m6, kt_m4, kt_m1, kt_0, kt_1, kt_2, kt_3, kt_4, kt_5, kt_6, kt_7, kt_8, kt_9, kt_10, kt_11, kt_12, kt_13, kt_14, kt_15, kt_16, kt_17, kt_18, kt_19, kt_20, kt_21, kt_22, kt_23, kt_24, kt_25, kt_26, kt_27, kt_28, kt_29, kt_30, kt_31, kt_32, kt_36, kt_40, kt_42, kt_44, kt_46, kt_52, kt_56, kt_69, kt_70, kt_76, kt_77, kt_97, kt_107, kt_114, kt_115, kt_127, kt_243, kt_255, kt_256, kt_2048, kt_4094, kt_4095, kt_4096, kt_12288, kt_16384, kt_24576] at h1
    rw [if_neg (by omega)]
    exact ⟨H0, px_fr.rf⟩
  · simp only [i_lt, i_le, i_eq, i_cl, vp_in, kt_m6, kt_m4, kt_m1, kt_0, kt_1, kt_2, kt_3, kt_4, kt_5, kt_6, kt_7, kt_8, kt_9, kt_10, kt_11, kt_12, kt_13, kt_14, kt_15, kt_16, kt_17, kt_18, kt_19, kt_20, kt_21, kt_22, kt_23, kt_24, kt_25, kt_26, kt_27, kt_28, kt_29, kt_30, kt_31, kt_32, kt_36, kt_40, kt_42, kt_44, kt_46, kt_52, kt_56, kt_69, kt_70, kt_76, kt_77, kt_97, kt_107, kt_114, kt_115, kt_127, kt_243, kt_255, kt_256, kt_2048, kt_4094, kt_4095, kt_4096, kt_12288, kt_16384, kt_24576] at h1 h2
    rw [if_neg (by omega)]
    exact ⟨H0, px_fr.rf⟩
  · simp only [i_lt, i_le, i_eq, i_cl, vp_in, kt_m6, kt_m4, kt_m1, kt_0, kt_1, kt_2, kt_3, kt_4, kt_5, kt_6, kt_7, kt_8, kt_9, kt_10, kt_11, kt_12, kt_13, kt_14, kt_15, kt_16, kt_17, kt_18, kt_19, kt_20, kt_21, kt_22, kt_23, kt_24, kt_25, kt_26, kt_27, kt_28, kt_29, kt_30, kt_31, kt_32, kt_36, kt_40, kt_42, kt_44, kt_46, kt_52, kt_56, kt_69, kt_70, kt_76, kt_77, kt_97, kt_107, kt_114, kt_115, kt_127, kt_243, kt_255, kt_256, kt_2048, kt_4094, kt_4095, kt_4096, kt_12288, kt_16384, kt_24576] at h1 h2 ⊢
    omega
  · simp only [i_lt, i_le, i_eq, i_cl, vp_in, kt_m6, kt_m4, kt_m1, kt_0, kt_1, kt_2, kt_3, kt_4, kt_5, kt_6, kt_7, kt_8, kt_9, kt_10, kt_11, kt_12, kt_13, kt_14, kt_15, kt_16, kt_17, kt_18, kt_19, kt_20, kt_21, kt_22, kt_23, kt_24, kt_25, kt_26, kt_27, kt_28, kt_29, kt_30, kt_31, kt_32, kt_36, kt_40, kt_42, kt_44, kt_46, kt_52, kt_56, kt_69, kt_70, kt_76, kt_77, kt_97, kt_107, kt_114, kt_115, kt_127, kt_243, kt_255, kt_256, kt_2048, kt_4094, kt_4095, kt_4096, kt_12288, kt_16384, kt_24576] at h1 h2
    rw [if_pos (by omega)]
    refine ⟨⟨by rw [px_up_ne (by omega)]; exact hb, hb0, hcn, hnl, hl, _, px_up_self, fun j hj => ?_, fun j hj => ?_⟩, px_fr.rf.up rfl⟩
    · by_cases e : j = k.toNatClampNeg
      · subst e; rw [pk_us, i_nb]; exact i_nb_rg _
      · rw [pk_un e]; exact hf j hj
    · by_cases e : j = k.toInt.toNat
      · subst e
        rw [i_cl, pk_us, i_nb, i_nb_mod, i_nb_mod]
        simp only [bset, if_true]
        omega
      · rw [i_cl, pk_un e, bset, if_neg e]; exact hB j hj
set_option maxRecDepth 100000 in
set_option maxHeartbeats 4000000 in
theorem t_Bytes_shorten (l : Launch) {h : px_H} {b lim n c : Nat} {B : Nat → Nat} {k : Int32} (H : By h b lim n c B) : px_Ct l 9 [.ref b, .int k] h (fun r h' mc ms => r = some (.int (if 0 ≤ k.toInt ∧ k.toInt ≤ c then 1 else 0)) ∧ By h' b lim n (if 0 ≤ k.toInt ∧ k.toInt ≤ c then k.toInt.toNat else c) B ∧ px_fr (fun j => j = b) h h' ∧ mc = 0 ∧ ms = 0) := by
  have H0 := H
  obtain ⟨hb, hb0, hcn, hnl, hl, f, hr, hf, hB⟩ := H
  have hc := i_n (n := c) (by omega)
  refine px_Ct.of (by decide) (Nat.le_of_ble_eq_true rfl) (px_wp_ok (sp := []) 60 _ _ _ _ _ ?_)
  simp only [px_ev_nil, px_ev_i, px_ev_l, px_ev_n, px_ev_r, px_wp, px_step, px_tg, px_i1, px_i2, px_l1, px_l2, px_il, px_a1, px_ia, px_iia, px_lki, px_lkl, px_lka, px_lk, px_sto, px_ins, px_del, px_popn, px_inv, px_cat, px_obj, px_arr, px_arq, px_rfv, px_rok, px_tB, px_tI, px_tZ, px_tG, px_tS, px_S, lv_args, Value.category, List.contains_cons, List.contains_nil, List.getElem?_cons_zero, List.getElem?_cons_succ, List.set_cons_zero, List.set_cons_succ, List.length_cons, List.length_nil, List.map_cons, List.map_nil, List.sum_cons, List.sum_nil, List.cons_append, List.nil_append, Option.toList_some, Option.toList_none, px_hold, Fin.isValue, Fin.val_zero, Fin.val_one, Fin.val_two, Nat.reduceBEq, Nat.reduceAdd, Nat.reduceLT, Nat.reduceLeDiff, Nat.reduceEqDiff, Nat.reduceMod, Int.reduceNeg, Int.reduceAdd, Int.reduceLE, Int.reduceLT, Int.reduceToNat, Int.cast_ofNat_Int, Int.ofNat_eq_natCast, Bool.or_self, Bool.or_false, Bool.false_or, Bool.and_false, Bool.and_self, Bool.false_and, Bool.true_and, Bool.false_eq_true, Bool.true_eq_false, ↓reduceIte, reduceCtorEq, true_and, and_true, false_and, and_false, false_or, or_false, true_or, or_true, ne_eq, not_false_eq_true, not_true_eq_false, px_f0, px_f1, px_f2, px_f3, kc_L0, kc_L1, if_true, if_false, px_10, true_implies, false_implies, implies_true, on_9, mL_9, rt_9, dp_9, lc_9, nr_9, yn_9, rc_0, e9_0, e9_1, e9_4, e9_5, e9_6, fd_0_19, e9_9, e9_12, kc_0, e9_13, e9_14, e9_15, e9_16, fin_0_2, ft_0_2, e9_19, kc_1, e9_20, hb, px_fit_int]
  refine ⟨fun h1 => ?_, fun h1 => ⟨fun h2 => ?_, fun h2 => ?_⟩⟩
  · simp only [i_lt, i_le, i_eq, i_cl, vp_in, kt_m6, kt_m4, kt_m1, kt_0, kt_1, kt_2, kt_3, kt_4, kt_5, kt_6, kt_7, kt_8, kt_9, kt_10, kt_11, kt_12, kt_13, kt_14, kt_15, kt_16, kt_17, kt_18, kt_19, kt_20, kt_21, kt_22, kt_23, kt_24, kt_25, kt_26, kt_27, kt_28, kt_29, kt_30, kt_31, kt_32, kt_36, kt_40, kt_42, kt_44, kt_46, kt_52, kt_56, kt_69, kt_70, kt_76, kt_77, kt_97, kt_107, kt_114, kt_115, kt_127, kt_243, kt_255, kt_256, kt_2048, kt_4094, kt_4095, kt_4096, kt_12288, kt_16384, kt_24576] at h1
    rw [if_neg (by omega), if_neg (by omega)]
    exact ⟨rfl, H0, px_fr.rf⟩
  · simp only [i_lt, i_le, i_eq, i_cl, vp_in, kt_m6, kt_m4, kt_m1, kt_0, kt_1, kt_2, kt_3, kt_4, kt_5, kt_6, kt_7, kt_8, kt_9, kt_10, kt_11, kt_12, kt_13, kt_14, kt_15, kt_16, kt_17, kt_18, kt_19, kt_20, kt_21, kt_22, kt_23, kt_24, kt_25, kt_26, kt_27, kt_28, kt_29, kt_30, kt_31, kt_32, kt_36, kt_40, kt_42, kt_44, kt_46, kt_52, kt_56, kt_69, kt_70, kt_76, kt_77, kt_97, kt_107, kt_114, kt_115, kt_127, kt_243, kt_255, kt_256, kt_2048, kt_4094, kt_4095, kt_4096, kt_12288, kt_16384, kt_24576] at h1 h2
    rw [if_pos (by omega), if_pos (by omega)]
    have e : nI k.toInt.toNat = k := by rw [i_eq, i_n] <;> omega
    refine ⟨rfl, ⟨by rw [px_up_self, e], hb0, by omega, hnl, hl, f, by rw [px_up_ne (by omega)]; exact hr, hf, fun j hj => hB j (by omega)⟩, px_fr.rf.up rfl⟩
  · simp only [i_lt, i_le, i_eq, i_cl, vp_in, kt_m6, kt_m4, kt_m1, kt_0, kt_1, kt_2, kt_3, kt_4, kt_5, kt_6, kt_7, kt_8, kt_9, kt_10, kt_11, kt_12, kt_13, kt_14, kt_15, kt_16, kt_17, kt_18, kt_19, kt_20, kt_21, kt_22, kt_23, kt_24, kt_25, kt_26, kt_27, kt_28, kt_29, kt_30, kt_31, kt_32, kt_36, kt_40, kt_42, kt_44, kt_46, kt_52, kt_56, kt_69, kt_70, kt_76, kt_77, kt_97, kt_107, kt_114, kt_115, kt_127, kt_243, kt_255, kt_256, kt_2048, kt_4094, kt_4095, kt_4096, kt_12288, kt_16384, kt_24576] at h1 h2
    rw [if_neg (by omega), if_neg (by omega)]
    exact ⟨rfl, H0, px_fr.rf⟩
