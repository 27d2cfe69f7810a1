/-! ImageFile$Bytes: addByte, addU2, addU4, addZerosTo, addPart, becomeLike -/
def ByAdd (h : px_H) (b lim n c : Nat) (B : Nat → Nat) (k : Nat) (v : Nat → Nat) : px_K := fun r h' mc ms => r = none ∧ px_fr (fun j => j = b ∨ j = b + 2) h h' ∧ ∃ n', n ≤ n' ∧ By h' b lim n' (c + k) (bapp B c v) ∧ mc + phi lim n ≤ phi lim n' ∧ ms + phi lim n ≤ phi lim n'
set_option maxRecDepth 100000 in
set_option maxHeartbeats 4000000 in
theorem t_Bytes_addByte (l : Launch) {h : px_H} {b lim n c : Nat} {B : Nat → Nat} {v : Int32} (H : By h b lim n c B) (hb9 : b < 90000) (ht : px_top h) (hroom : c + 1 ≤ lim) : px_Ct l 46 [.ref b, .int v] h (ByAdd h b lim n c B 1 (nby v)) := by
  refine px_Ct.of (by decide) (Nat.le_of_ble_eq_true rfl) (px_wp_ok (sp := []) 60 _ _ _ _ _ ?_)
  simp only [px_ev_nil, px_ev_i, px_ev_l, px_ev_n, px_ev_r, px_wp, px_step, px_tg, px_i1, px_i2, px_l1, px_l2, px_il, px_a1, px_ia, px_iia, px_lki, px_lkl, px_lka, px_lk, px_sto, px_ins, px_del, px_popn, px_inv, px_cat, px_obj, px_arr, px_arq, px_rfv, px_rok, px_tB, px_tI, px_tZ, px_tG, px_tS, px_S, lv_args, Value.category, List.contains_cons, List.contains_nil, List.getElem?_cons_zero, List.getElem?_cons_succ, List.set_cons_zero, List.set_cons_succ, List.length_cons, List.length_nil, List.map_cons, List.map_nil, List.sum_cons, List.sum_nil, List.cons_append, List.nil_append, Option.toList_some, Option.toList_none, px_hold, Fin.isValue, Fin.val_zero, Fin.val_one, Fin.val_two, Nat.reduceBEq, Nat.reduceAdd, Nat.reduceLT, Nat.reduceLeDiff, Nat.reduceEqDiff, Nat.reduceMod, Int.reduceNeg, Int.reduceAdd, Int.reduceLE, Int.reduceLT, Int.reduceToNat, Int.cast_ofNat_Int, Int.ofNat_eq_natCast, Bool.or_self, Bool.or_false, Bool.false_or, Bool.and_false, Bool.and_self, Bool.false_and, Bool.true_and, Bool.false_eq_true, Bool.true_eq_false, ↓reduceIte, reduceCtorEq, true_and, and_true, false_and, and_false, false_or, or_false, true_or, or_true, ne_eq, not_false_eq_true, not_true_eq_false, px_f0, px_f1, px_f2, px_f3, kc_L0, kc_L1, if_true, if_false, px_10, true_implies, false_implies, implies_true, on_46, mL_46, rt_46, dp_46, lc_46, nr_46, yn_46, rc_0, e46_0, e46_1, e46_2, kc_1, e46_3, mt_0_32, kw_47, np_47, on_47, nr_47, fc_46_47, e46_6, H.1, H.2.1]
  refine px_Ct.use (t_Bytes_addNumber l (k := 1) H hb9 ht (by omega) hroom) ?_
  rintro r1 h1 mc1 ms1 ⟨rfl, g⟩
  refine px_wp_ok (sp := []) 20 _ _ _ _ _ ?_
  simp only [px_ev_nil, px_ev_i, px_ev_l, px_ev_n, px_ev_r, px_wp, px_step, px_tg, px_i1, px_i2, px_l1, px_l2, px_il, px_a1, px_ia, px_iia, px_lki, px_lkl, px_lka, px_lk, px_sto, px_ins, px_del, px_popn, px_inv, px_cat, px_obj, px_arr, px_arq, px_rfv, px_rok, px_tB, px_tI, px_tZ, px_tG, px_tS, px_S, lv_args, Value.category, List.contains_cons, List.contains_nil, List.getElem?_cons_zero, List.getElem?_cons_succ, List.set_cons_zero, List.set_cons_succ, List.length_cons, List.length_nil, List.map_cons, List.map_nil, List.sum_cons, List.sum_nil, List.cons_append, List.nil_append, Option.toList_some, Option.toList_none, px_hold, Fin.isValue, Fin.val_zero, Fin.val_one, Fin.val_two, Nat.reduceBEq, Nat.reduceAdd, Nat.reduceLT, Nat.reduceLeDiff, Nat.reduceEqDiff, Nat.reduceMod, Int.reduceNeg, Int.reduceAdd, Int.reduceLE, Int.reduceLT, Int.reduceToNat, Int.cast_ofNat_Int, Int.ofNat_eq_natCast, Bool.or_self, Bool.or_false, Bool.false_or, Bool.and_false, Bool.and_self, Bool.false_and, Bool.true_and, Bool.false_eq_true, Bool.true_eq_false, ↓reduceIte, reduceCtorEq, true_and, and_true, false_and, and_false, false_or, or_false, true_or, or_true, ne_eq, not_false_eq_true, not_true_eq_false, px_f0, px_f1, px_f2, px_f3, kc_L0, kc_L1, if_true, if_false, px_10, true_implies, false_implies, implies_true, on_46, mL_46, rt_46, dp_46, lc_46, nr_46, yn_46, rc_0, e46_0, e46_1, e46_2, kc_1, e46_3, mt_0_32, kw_47, np_47, on_47, nr_47, fc_46_47, e46_6, Nat.add_zero, ByAdd]
  exact g
set_option maxRecDepth 100000 in
set_option maxHeartbeats 4000000 in
theorem t_Bytes_addU2 (l : Launch) {h : px_H} {b lim n c : Nat} {B : Nat → Nat} {v : Int32} (H : By h b lim n c B) (hb9 : b < 90000) (ht : px_top h) (hroom : c + 2 ≤ lim) : px_Ct l 48 [.ref b, .int v] h (ByAdd h b lim n c B 2 (nby v)) := by
  refine px_Ct.of (by decide) (Nat.le_of_ble_eq_true rfl) (px_wp_ok (sp := []) 60 _ _ _ _ _ ?_)
  simp only [px_ev_nil, px_ev_i, px_ev_l, px_ev_n, px_ev_r, px_wp, px_step, px_tg, px_i1, px_i2, px_l1, px_l2, px_il, px_a1, px_ia, px_iia, px_lki, px_lkl, px_lka, px_lk, px_sto, px_ins, px_del, px_popn, px_inv, px_cat, px_obj, px_arr, px_arq, px_rfv, px_rok, px_tB, px_tI, px_tZ, px_tG, px_tS, px_S, lv_args, Value.category, List.contains_cons, List.contains_nil, List.getElem?_cons_zero, List.getElem?_cons_succ, List.set_cons_zero, List.set_cons_succ, List.length_cons, List.length_nil, List.map_cons, List.map_nil, List.sum_cons, List.sum_nil, List.cons_append, List.nil_append, Option.toList_some, Option.toList_none, px_hold, Fin.isValue, Fin.val_zero, Fin.val_one, Fin.val_two, Nat.reduceBEq, Nat.reduceAdd, Nat.reduceLT, Nat.reduceLeDiff, Nat.reduceEqDiff, Nat.reduceMod, Int.reduceNeg, Int.reduceAdd, Int.reduceLE, Int.reduceLT, Int.reduceToNat, Int.cast_ofNat_Int, Int.ofNat_eq_natCast, Bool.or_self, Bool.or_false, Bool.false_or, Bool.and_false, Bool.and_self, Bool.false_and, Bool.true_and, Bool.false_eq_true, Bool.true_eq_false, ↓reduceIte, reduceCtorEq, true_and, and_true, false_and, and_false, false_or, or_false, true_or, or_true, ne_eq, not_false_eq_true, not_true_eq_false, px_f0, px_f1, px_f2, px_f3, kc_L0, kc_L1, if_true, if_false, px_10, true_implies, false_implies, implies_true, on_48, mL_48, rt_48, dp_48, lc_48, nr_48, yn_48, rc_0, e48_0, e48_1, e48_2, kc_2, e48_3, mt_0_32, kw_47, np_47, on_47, nr_47, fc_48_47, e48_6, H.1, H.2.1]
  refine px_Ct.use (t_Bytes_addNumber l (k := 2) H hb9 ht (by omega) hroom) ?_
  rintro r1 h1 mc1 ms1 ⟨rfl, g⟩
  refine px_wp_ok (sp := []) 20 _ _ _ _ _ ?_
  simp only [px_ev_nil, px_ev_i, px_ev_l, px_ev_n, px_ev_r, px_wp, px_step, px_tg, px_i1, px_i2, px_l1, px_l2, px_il, px_a1, px_ia, px_iia, px_lki, px_lkl, px_lka, px_lk, px_sto, px_ins, px_del, px_popn, px_inv, px_cat, px_obj, px_arr, px_arq, px_rfv, px_rok, px_tB, px_tI, px_tZ, px_tG, px_tS, px_S, lv_args, Value.category, List.contains_cons, List.contains_nil, List.getElem?_cons_zero, List.getElem?_cons_succ, List.set_cons_zero, List.set_cons_succ, List.length_cons, List.length_nil, List.map_cons, List.map_nil, List.sum_cons, List.sum_nil, List.cons_append, List.nil_append, Option.toList_some, Option.toList_none, px_hold, Fin.isValue, Fin.val_zero, Fin.val_one, Fin.val_two, Nat.reduceBEq, Nat.reduceAdd, Nat.reduceLT, Nat.reduceLeDiff, Nat.reduceEqDiff, Nat.reduceMod, Int.reduceNeg, Int.reduceAdd, Int.reduceLE, Int.reduceLT, Int.reduceToNat, Int.cast_ofNat_Int, Int.ofNat_eq_natCast, Bool.or_self, Bool.or_false, Bool.false_or, Bool.and_false, Bool.and_self, Bool.false_and, Bool.true_and, Bool.false_eq_true, Bool.true_eq_false, ↓reduceIte, reduceCtorEq, true_and, and_true, false_and, and_false, false_or, or_false, true_or, or_true, ne_eq, not_false_eq_true, not_true_eq_false, px_f0, px_f1, px_f2, px_f3, kc_L0, kc_L1, if_true, if_false, px_10, true_implies, false_implies, implies_true, on_48, mL_48, rt_48, dp_48, lc_48, nr_48, yn_48, rc_0, e48_0, e48_1, e48_2, kc_2, e48_3, mt_0_32, kw_47, np_47, on_47, nr_47, fc_48_47, e48_6, Nat.add_zero, ByAdd]
  exact g
set_option maxRecDepth 100000 in
set_option maxHeartbeats 4000000 in
theorem t_Bytes_addU4 (l : Launch) {h : px_H} {b lim n c : Nat} {B : Nat → Nat} {v : Int32} (H : By h b lim n c B) (hb9 : b < 90000) (ht : px_top h) (hroom : c + 4 ≤ lim) : px_Ct l 49 [.ref b, .int v] h (ByAdd h b lim n c B 4 (nby v)) := by
  refine px_Ct.of (by decide) (Nat.le_of_ble_eq_true rfl) (px_wp_ok (sp := []) 60 _ _ _ _ _ ?_)
  simp only [px_ev_nil, px_ev_i, px_ev_l, px_ev_n, px_ev_r, px_wp, px_step, px_tg, px_i1, px_i2, px_l1, px_l2, px_il, px_a1, px_ia, px_iia, px_lki, px_lkl, px_lka, px_lk, px_sto, px_ins, px_del, px_popn, px_inv, px_cat, px_obj, px_arr, px_arq, px_rfv, px_rok, px_tB, px_tI, px_tZ, px_tG, px_tS, px_S, lv_args, Value.category, List.contains_cons, List.contains_nil, List.getElem?_cons_zero, List.getElem?_cons_succ, List.set_cons_zero, List.set_cons_succ, List.length_cons, List.length_nil, List.map_cons, List.map_nil, List.sum_cons, List.sum_nil, List.cons_append, List.nil_append, Option.toList_some, Option.toList_none, px_hold, Fin.isValue, Fin.val_zero, Fin.val_one, Fin.val_two, Nat.reduceBEq, Nat.reduceAdd, Nat.reduceLT, Nat.reduceLeDiff, Nat.reduceEqDiff, Nat.reduceMod, Int.reduceNeg, Int.reduceAdd, Int.reduceLE, Int.reduceLT, Int.reduceToNat, Int.cast_ofNat_Int, Int.ofNat_eq_natCast, Bool.or_self, Bool.or_false, Bool.false_or, Bool.and_false, Bool.and_self, Bool.false_and, Bool.true_and, Bool.false_eq_true, Bool.true_eq_false, ↓reduceIte, reduceCtorEq, true_and, and_true, false_and, and_false, false_or, or_false, true_or, or_true, ne_eq, not_false_eq_true, not_true_eq_false, px_f0, px_f1, px_f2, px_f3, kc_L0, kc_L1, if_true, if_false, px_10, true_implies, false_implies, implies_true, on_49, mL_49, rt_49, dp_49, lc_49, nr_49, yn_49, rc_0, e49_0, e49_1, e49_2, kc_4, e49_3, mt_0_32, kw_47, np_47, on_47, nr_47, fc_49_47, e49_6, H.1, H.2.1]
  refine px_Ct.use (t_Bytes_addNumber l (k := 4) H hb9 ht (by omega) hroom) ?_
  rintro r1 h1 mc1 ms1 ⟨rfl, g⟩
  refine px_wp_ok (sp := []) 20 _ _ _ _ _ ?_
  simp only [px_ev_nil, px_ev_i, px_ev_l, px_ev_n, px_ev_r, px_wp, px_step, px_tg, px_i1, px_i2, px_l1, px_l2, px_il, px_a1, px_ia, px_iia, px_lki, px_lkl, px_lka, px_lk, px_sto, px_ins, px_del, px_popn, px_inv, px_cat, px_obj, px_arr, px_arq, px_rfv, px_rok, px_tB, px_tI, px_tZ, px_tG, px_tS, px_S, lv_args, Value.category, List.contains_cons, List.contains_nil, List.getElem?_cons_zero, List.getElem?_cons_succ, List.set_cons_zero, List.set_cons_succ, List.length_cons, List.length_nil, List.map_cons, List.map_nil, List.sum_cons, List.sum_nil, List.cons_append, List.nil_append, Option.toList_some, Option.toList_none, px_hold, Fin.isValue, Fin.val_zero, Fin.val_one, Fin.val_two, Nat.reduceBEq, Nat.reduceAdd, Nat.reduceLT, Nat.reduceLeDiff, Nat.reduceEqDiff, Nat.reduceMod, Int.reduceNeg, Int.reduceAdd, Int.reduceLE, Int.reduceLT, Int.reduceToNat, Int.cast_ofNat_Int, Int.ofNat_eq_natCast, Bool.or_self, Bool.or_false, Bool.false_or, Bool.and_false, Bool.and_self, Bool.false_and, Bool.true_and, Bool.false_eq_true, Bool.true_eq_false, ↓reduceIte, reduceCtorEq, true_and, and_true, false_and, and_false, false_or, or_false, true_or, or_true, ne_eq, not_false_eq_true, not_true_eq_false, px_f0, px_f1, px_f2, px_f3, kc_L0, kc_L1, if_true, if_false, px_10, true_implies, false_implies, implies_true, on_49, mL_49, rt_49, dp_49, lc_49, nr_49, yn_49, rc_0, e49_0, e49_1, e49_2, kc_4, e49_3, mt_0_32, kw_47, np_47, on_47, nr_47, fc_49_47, e49_6, Nat.add_zero, ByAdd]
  exact g
set_option maxRecDepth 100000 in
set_option maxHeartbeats 4000000 in
theorem lp_addZerosTo (l : Launch) {b lim n c E : Nat} {K : px_K} (hb0 : b % 64 = 0) (hEn : E ≤ n) (hn : n ≤ 16384) : ∀ (d i : Nat) (h : px_H) (f : Nat → Int32), i + d = E → h b = some (.inr (0, [.int (nI lim), .ref (b + 2), .int (nI c)])) → h (b + 2) = some (.inl (px_tB, n, .inl f)) →
    (∀ f' : Nat → Int32, (∀ j, f' j = if i ≤ j ∧ j < E then 0 else f j) → K none (px_up (px_up h (b + 2) (.inl (px_tB, n, .inl f'))) b (.inr (0, [.int (nI lim), .ref (b + 2), .int (nI E)]))) 0 0) →
    px_P l 52 26 [(0, .ref b), (1, .int (nI E)), (2, .int (nI i))] [] h K := by
  intro d
  induction d with
  | zero =>
    intro i h f hi hb hr hK
    have hik : i = E := by omega
    subst hik
    refine px_go_ok (sp := [26]) 60 ?_
    simp only [px_go, px_ev_nil, px_ev_i, px_ev_l, px_ev_n, px_ev_r, px_wp, px_step, px_tg, px_i1, px_i2, px_l1, px_l2, px_il, px_a1, px_ia, px_iia, px_lki, px_lkl, px_lka, px_lk, px_sto, px_ins, px_del, px_popn, px_inv, px_cat, px_obj, px_arr, px_arq, px_rfv, px_rok, px_tB, px_tI, px_tZ, px_tG, px_tS, px_S, lv_args, Value.category, List.contains_cons, List.contains_nil, List.getElem?_cons_zero, List.getElem?_cons_succ, List.set_cons_zero, List.set_cons_succ, List.length_cons, List.length_nil, List.map_cons, List.map_nil, List.sum_cons, List.sum_nil, List.cons_append, List.nil_append, Option.toList_some, Option.toList_none, px_hold, Fin.isValue, Fin.val_zero, Fin.val_one, Fin.val_two, Nat.reduceBEq, Nat.reduceAdd, Nat.reduceLT, Nat.reduceLeDiff, Nat.reduceEqDiff, Nat.reduceMod, Int.reduceNeg, Int.reduceAdd, Int.reduceLE, Int.reduceLT, Int.reduceToNat, Int.cast_ofNat_Int, Int.ofNat_eq_natCast, Bool.or_self, Bool.or_false, Bool.false_or, Bool.and_false, Bool.and_self, Bool.false_and, Bool.true_and, Bool.false_eq_true, Bool.true_eq_false, ↓reduceIte, reduceCtorEq, true_and, and_true, false_and, and_false, false_or, or_false, true_or, or_true, ne_eq, not_false_eq_true, not_true_eq_false, px_f0, px_f1, px_f2, px_f3, kc_L0, kc_L1, if_true, if_false, px_10, true_implies, false_implies, implies_true, on_52, mL_52, rt_52, dp_52, lc_52, nr_52, yn_52, rc_0, e52_0, e52_1, e52_2, fd_0_19, e52_5, e52_8, e52_9, e52_10, e52_11, e52_14, e52_15, mt_0_28, kw_19, np_19, on_19, nr_19, fc_52_19, e52_18, e52_21, e52_22, e52_25, e52_26, e52_27, e52_28, e52_31, e52_32, fd_0_15, e52_35, e52_36, kc_0, e52_37, e52_38, kc_1, e52_41, e52_44, e52_45, e52_46, fin_0_2, ft_0_2, e52_49, hb, hr, px_fit_int]
    refine ⟨fun _ => ?_, fun q => absurd (i_le.mpr (Int.le_refl _)) q⟩
    have h1 := hK f (fun j => by rw [if_neg (by omega)])
    rw [px_up_id hr] at h1
    exact h1
  | succ d ih =>
    intro i h f hi hb hr hK
    have h1 := i_n (n := i) (by omega)
    have h2 := i_n (n := E) (by omega)
    refine px_go_ok (sp := [26]) 60 ?_
    simp only [px_go, px_ev_nil, px_ev_i, px_ev_l, px_ev_n, px_ev_r, px_wp, px_step, px_tg, px_i1, px_i2, px_l1, px_l2, px_il, px_a1, px_ia, px_iia, px_lki, px_lkl, px_lka, px_lk, px_sto, px_ins, px_del, px_popn, px_inv, px_cat, px_obj, px_arr, px_arq, px_rfv, px_rok, px_tB, px_tI, px_tZ, px_tG, px_tS, px_S, lv_args, Value.category, List.contains_cons, List.contains_nil, List.getElem?_cons_zero, List.getElem?_cons_succ, List.set_cons_zero, List.set_cons_succ, List.length_cons, List.length_nil, List.map_cons, List.map_nil, List.sum_cons, List.sum_nil, List.cons_append, List.nil_append, Option.toList_some, Option.toList_none, px_hold, Fin.isValue, Fin.val_zero, Fin.val_one, Fin.val_two, Nat.reduceBEq, Nat.reduceAdd, Nat.reduceLT, Nat.reduceLeDiff, Nat.reduceEqDiff, Nat.reduceMod, Int.reduceNeg, Int.reduceAdd, Int.reduceLE, Int.reduceLT, Int.reduceToNat, Int.cast_ofNat_Int, Int.ofNat_eq_natCast, Bool.or_self, Bool.or_false, Bool.false_or, Bool.and_false, Bool.and_self, Bool.false_and, Bool.true_and, Bool.false_eq_true, Bool.true_eq_false, ↓reduceIte, reduceCtorEq, true_and, and_true, false_and, and_false, false_or, or_false, true_or, or_true, ne_eq, not_false_eq_true, not_true_eq_false, px_f0, px_f1, px_f2, px_f3, kc_L0, kc_L1, if_true, if_false, px_10, true_implies, false_implies, implies_true, on_52, mL_52, rt_52, dp_52, lc_52, nr_52, yn_52, rc_0, e52_0, e52_1, e52_2, fd_0_19, e52_5, e52_8, e52_9, e52_10, e52_11, e52_14, e52_15, mt_0_28, kw_19, np_19, on_19, nr_19, fc_52_19, e52_18, e52_21, e52_22, e52_25, e52_26, e52_27, e52_28, e52_31, e52_32, fd_0_15, e52_35, e52_36, kc_0, e52_37, e52_38, kc_1, e52_41, e52_44, e52_45, e52_46, fin_0_2, ft_0_2, e52_49, hb, hr, nI_1]
    refine ⟨fun q => ?_, fun _ => ⟨?_, ?_⟩⟩
    · rw [i_le] at q
      omega
    · exact pk_in i n (by omega)
    · rw [nI_clamp (show i < 2 ^ 31 by omega)]
      refine ih (i + 1) _ _ (by omega) (by rw [px_up_ne (by omega)]; exact hb) px_up_self fun f' hf' => ?_
      rw [px_up_up]
      refine hK f' fun j => ?_
      rw [hf' j]
      by_cases e1 : j = i
      · subst e1
        rw [if_neg (by omega), if_pos (by omega), pk_us]
        rfl
      · by_cases e2 : i + 1 ≤ j ∧ j < E
        · rw [if_pos e2, if_pos (by omega)]
        · rw [if_neg e2, if_neg (by omega), pk_un e1]
set_option maxRecDepth 100000 in
set_option maxHeartbeats 4000000 in
theorem t_Bytes_addZerosTo (l : Launch) {h : px_H} {b lim n c E : Nat} {B : Nat → Nat} (H : By h b lim n c B) (hb9 : b < 90000) (ht : px_top h) (hcE : c ≤ E) (hroom : E ≤ lim) : px_Ct l 52 [.ref b, .int (nI E)] h (ByAdd h b lim n c B (E - c) (fun _ => 0)) := by
  have H0 := H
  obtain ⟨hb, hb0, hcn, hnl, hl, f, hr, hf, hB⟩ := H
  have ec := i_n (n := c) (by omega)
  have eE := i_n (n := E) (by omega)
  have es : nI E - nI c = nI (E - c) := pk_sub hcE
  have es2 := i_n (n := E - c) (by omega)
  refine px_Ct.of (by decide) (Nat.le_of_ble_eq_true rfl) (px_wp_ok (sp := []) 60 _ _ _ _ _ ?_)
  simp only [px_ev_nil, px_ev_i, px_ev_l, px_ev_n, px_ev_r, px_wp, px_step, px_tg, px_i1, px_i2, px_l1, px_l2, px_il, px_a1, px_ia, px_iia, px_lki, px_lkl, px_lka, px_lk, px_sto, px_ins, px_del, px_popn, px_inv, px_cat, px_obj, px_arr, px_arq, px_rfv, px_rok, px_tB, px_tI, px_tZ, px_tG, px_tS, px_S, lv_args, Value.category, List.contains_cons, List.contains_nil, List.getElem?_cons_zero, List.getElem?_cons_succ, List.set_cons_zero, List.set_cons_succ, List.length_cons, List.length_nil, List.map_cons, List.map_nil, List.sum_cons, List.sum_nil, List.cons_append, List.nil_append, Option.toList_some, Option.toList_none, px_hold, Fin.isValue, Fin.val_zero, Fin.val_one, Fin.val_two, Nat.reduceBEq, Nat.reduceAdd, Nat.reduceLT, Nat.reduceLeDiff, Nat.reduceEqDiff, Nat.reduceMod, Int.reduceNeg, Int.reduceAdd, Int.reduceLE, Int.reduceLT, Int.reduceToNat, Int.cast_ofNat_Int, Int.ofNat_eq_natCast, Bool.or_self, Bool.or_false, Bool.false_or, Bool.and_false, Bool.and_self, Bool.false_and, Bool.true_and, Bool.false_eq_true, Bool.true_eq_false, ↓reduceIte, reduceCtorEq, true_and, and_true, false_and, and_false, false_or, or_false, true_or, or_true, ne_eq, not_false_eq_true, not_true_eq_false, px_f0, px_f1, px_f2, px_f3, kc_L0, kc_L1, if_true, if_false, px_10, true_implies, false_implies, implies_true, on_52, mL_52, rt_52, dp_52, lc_52, nr_52, yn_52, rc_0, e52_0, e52_1, e52_2, fd_0_19, e52_5, e52_8, e52_9, e52_10, e52_11, e52_14, e52_15, mt_0_28, kw_19, np_19, on_19, nr_19, fc_52_19, e52_18, e52_21, e52_22, e52_25, e52_26, e52_27, e52_28, e52_31, e52_32, fd_0_15, e52_35, e52_36, kc_0, e52_37, e52_38, kc_1, e52_41, e52_44, e52_45, e52_46, fin_0_2, ft_0_2, e52_49, hb, hb0, es]
  refine ⟨fun q => ?_, fun _ => ?_⟩
  · rw [i_lt] at q
    omega
  · refine px_Ct.use (t_Bytes_makeRoom l H0 hb9 ht) ?_
    intro r1 h1' mc1 ms1 hh
    obtain ⟨hr1, hfr1, n1, hn1, H1, hw1, hc1, hs1⟩ := hh
    subst hr1
    rw [if_pos (by omega)]
    obtain ⟨g1, g2, g3, g4, g5, f1, g6, g7, g8⟩ := H1
    refine px_wp_ok (sp := [26]) 20 _ _ _ _ _ ?_
    simp only [px_ev_nil, px_ev_i, px_ev_l, px_ev_n, px_ev_r, px_wp, px_step, px_tg, px_i1, px_i2, px_l1, px_l2, px_il, px_a1, px_ia, px_iia, px_lki, px_lkl, px_lka, px_lk, px_sto, px_ins, px_del, px_popn, px_inv, px_cat, px_obj, px_arr, px_arq, px_rfv, px_rok, px_tB, px_tI, px_tZ, px_tG, px_tS, px_S, lv_args, Value.category, List.contains_cons, List.contains_nil, List.getElem?_cons_zero, List.getElem?_cons_succ, List.set_cons_zero, List.set_cons_succ, List.length_cons, List.length_nil, List.map_cons, List.map_nil, List.sum_cons, List.sum_nil, List.cons_append, List.nil_append, Option.toList_some, Option.toList_none, px_hold, Fin.isValue, Fin.val_zero, Fin.val_one, Fin.val_two, Nat.reduceBEq, Nat.reduceAdd, Nat.reduceLT, Nat.reduceLeDiff, Nat.reduceEqDiff, Nat.reduceMod, Int.reduceNeg, Int.reduceAdd, Int.reduceLE, Int.reduceLT, Int.reduceToNat, Int.cast_ofNat_Int, Int.ofNat_eq_natCast, Bool.or_self, Bool.or_false, Bool.false_or, Bool.and_false, Bool.and_self, Bool.false_and, Bool.true_and, Bool.false_eq_true, Bool.true_eq_false, ↓reduceIte, reduceCtorEq, true_and, and_true, false_and, and_false, false_or, or_false, true_or, or_true, ne_eq, not_false_eq_true, not_true_eq_false, px_f0, px_f1, px_f2, px_f3, kc_L0, kc_L1, if_true, if_false, px_10, true_implies, false_implies, implies_true, on_52, mL_52, rt_52, dp_52, lc_52, nr_52, yn_52, rc_0, e52_0, e52_1, e52_2, fd_0_19, e52_5, e52_8, e52_9, e52_10, e52_11, e52_14, e52_15, mt_0_28, kw_19, np_19, on_19, nr_19, fc_52_19, e52_18, e52_21, e52_22, e52_25, e52_26, e52_27, e52_28, e52_31, e52_32, fd_0_15, e52_35, e52_36, kc_0, e52_37, e52_38, kc_1, e52_41, e52_44, e52_45, e52_46, fin_0_2, ft_0_2, e52_49, g1]
    refine lp_addZerosTo l (n := n1) hb0 (by omega) (by omega) (E - c) c h1' f1 (by omega) g1 g6 fun f' hf' => ?_
    refine ⟨rfl, ((hfr1.mono (fun j hj => Or.inr hj)).up (Or.inr rfl)).up (Or.inl rfl), n1, hn1, ⟨by rw [px_up_self, show c + (E - c) = E by omega], hb0, by omega, g4, g5, f', by rw [px_up_ne (by omega), px_up_self], fun j hj => ?_, fun j hj => ?_⟩, by omega, by omega⟩
    · rw [hf' j]
      split
      · decide
      · exact g7 j hj
    · rw [hf' j]
      by_cases ej : j < c
      · rw [if_neg (by omega), bapp, if_pos ej]
        exact g8 j ej
      · rw [if_pos (by omega), bapp, if_neg ej]
        rfl
set_option maxRecDepth 100000 in
set_option maxHeartbeats 4000000 in
theorem t_Bytes_addPart (l : Launch) {h : px_H} {b lim n c b2 lim2 n2 c2 p k : Nat} {B B2 : Nat → Nat} (H : By h b lim n c B) (H2 : By h b2 lim2 n2 c2 B2) (hne : b ≠ b2) (hb9 : b < 90000) (ht : px_top h) (hp : p + k ≤ c2) (hroom : c + k ≤ lim) : px_Ct l 57 [.ref b, .ref b2, .int (nI p), .int (nI k)] h (ByAdd h b lim n c B k (fun j => B2 (p + j))) := by
  have H0 := H
  obtain ⟨hb, hb0, hcn, hnl, hl, f, hr, hf, hB⟩ := H
  obtain ⟨kb, kb0, kcn, knl, kl, f2, kr, kf, kB⟩ := H2
  have ec := i_n (n := c) (by omega)
  have ep := i_n (n := p) (by omega)
  have ek := i_n (n := k) (by omega)
  have ec2 := i_n (n := c2) (by omega)
  have es : (nI c2 - nI k).toInt = (c2 : Int) - k := by rw [i_sub] <;> omega
  refine px_Ct.of (by decide) (Nat.le_of_ble_eq_true rfl) (px_wp_ok (sp := []) 60 _ _ _ _ _ ?_)
  simp only [px_ev_nil, px_ev_i, px_ev_l, px_ev_n, px_ev_r, px_wp, px_step, px_tg, px_i1, px_i2, px_l1, px_l2, px_il, px_a1, px_ia, px_iia, px_lki, px_lkl, px_lka, px_lk, px_sto, px_ins, px_del, px_popn, px_inv, px_cat, px_obj, px_arr, px_arq, px_rfv, px_rok, px_tB, px_tI, px_tZ, px_tG, px_tS, px_S, lv_args, Value.category, List.contains_cons, List.contains_nil, List.getElem?_cons_zero, List.getElem?_cons_succ, List.set_cons_zero, List.set_cons_succ, List.length_cons, List.length_nil, List.map_cons, List.map_nil, List.sum_cons, List.sum_nil, List.cons_append, List.nil_append, Option.toList_some, Option.toList_none, px_hold, Fin.isValue, Fin.val_zero, Fin.val_one, Fin.val_two, Nat.reduceBEq, Nat.reduceAdd, Nat.reduceLT, Nat.reduceLeDiff, Nat.reduceEqDiff, Nat.reduceMod, Int.reduceNeg, Int.reduceAdd, Int.reduceLE, Int.reduceLT, Int.reduceToNat, Int.cast_ofNat_Int, Int.ofNat_eq_natCast, Bool.or_self, Bool.or_false, Bool.false_or, Bool.and_false, Bool.and_self, Bool.false_and, Bool.true_and, Bool.false_eq_true, Bool.true_eq_false, ↓reduceIte, reduceCtorEq, true_and, and_true, false_and, and_false, false_or, or_false, true_or, or_true, ne_eq, not_false_eq_true, not_true_eq_false, px_f0, px_f1, px_f2, px_f3, kc_L0, kc_L1, if_true, if_false, px_10, true_implies, false_implies, implies_true, on_57, mL_57, rt_57, dp_57, lc_57, nr_57, yn_57, rc_0, e57_0, e57_1, e57_4, e57_5, e57_8, e57_9, e57_10, fd_0_19, e57_13, e57_14, e57_15, e57_18, e57_19, e57_20, mt_0_28, kw_19, np_19, on_19, nr_19, fc_57_19, e57_23, e57_26, e57_27, fd_0_15, e57_30, e57_31, e57_32, e57_35, e57_36, e57_39, e57_40, mt_0_36, e57_43, e57_44, e57_45, e57_48, e57_49, e57_50, fin_0_2, ft_0_2, e57_53, hb, hb0, kb, kb0]
  refine ⟨fun q => ?_, fun _ => ⟨fun q => ?_, fun _ => ⟨fun q => ?_, fun _ => ?_⟩⟩⟩
  · simp only [i_lt, i_le, i_eq, i_cl, vp_in, kt_m6, kt_m4, kt_m1, kt_0, kt_1, kt_2, kt_3, kt_4, kt_5, kt_6, kt_7, kt_8, kt_9, kt_10, kt_11, kt_12, kt_13, kt_14, kt_15, kt_16, kt_17, kt_18, kt_19, kt_20, kt_21, kt_22, kt_23, kt_24, kt_25, kt_26, kt_27, kt_28, kt_29, kt_30, kt_31, kt_32, kt_36, kt_40, kt_42, kt_44, kt_46, kt_52, kt_56, kt_69, kt_70, kt_76, kt_77, kt_97, kt_107, kt_114, kt_115, kt_127, kt_243, kt_255, kt_256, kt_2048, kt_4094, kt_4095, kt_4096, kt_12288, kt_16384, kt_24576] at q; omega
  · simp only [i_lt, i_le, i_eq, i_cl, vp_in, kt_m6, kt_m4, kt_m1, kt_0, kt_1, kt_2, kt_3, kt_4, kt_5, kt_6, kt_7, kt_8, kt_9, kt_10, kt_11, kt_12, kt_13, kt_14, kt_15, kt_16, kt_17, kt_18, kt_19, kt_20, kt_21, kt_22, kt_23, kt_24, kt_25, kt_26, kt_27, kt_28, kt_29, kt_30, kt_31, kt_32, kt_36, kt_40, kt_42, kt_44, kt_46, kt_52, kt_56, kt_69, kt_70, kt_76, kt_77, kt_97, kt_107, kt_114, kt_115, kt_127, kt_243, kt_255, kt_256, kt_2048, kt_4094, kt_4095, kt_4096, kt_12288, kt_16384, kt_24576] at q; omega
  · rw [i_lt, es] at q; omega
  · refine px_Ct.use (t_Bytes_makeRoom l H0 hb9 ht) ?_
    intro r1 h1' mc1 ms1 hh
    obtain ⟨hr1, hfr1, n1, hn1, H1, hw1, hc1, hs1⟩ := hh
    subst hr1
    rw [if_pos (by omega)]
    obtain ⟨g1, g2, g3, g4, g5, f1, g6, g7, g8⟩ := H1
    have q1 : h1' b2 = h b2 := hfr1 b2 (by omega)
    have q2 : h1' (b2 + 2) = h (b2 + 2) := hfr1 (b2 + 2) (by omega)
    have e1 : ∀ (z : px_C), px_up h1' (b + 2) z b = h1' b := fun z => px_up_ne (by omega)
    refine px_wp_ok (sp := []) 40 _ _ _ _ _ ?_
    simp only [px_ev_nil, px_ev_i, px_ev_l, px_ev_n, px_ev_r, px_wp, px_step, px_tg, px_i1, px_i2, px_l1, px_l2, px_il, px_a1, px_ia, px_iia, px_lki, px_lkl, px_lka, px_lk, px_sto, px_ins, px_del, px_popn, px_inv, px_cat, px_obj, px_arr, px_arq, px_rfv, px_rok, px_tB, px_tI, px_tZ, px_tG, px_tS, px_S, lv_args, Value.category, List.contains_cons, List.contains_nil, List.getElem?_cons_zero, List.getElem?_cons_succ, List.set_cons_zero, List.set_cons_succ, List.length_cons, List.length_nil, List.map_cons, List.map_nil, List.sum_cons, List.sum_nil, List.cons_append, List.nil_append, Option.toList_some, Option.toList_none, px_hold, Fin.isValue, Fin.val_zero, Fin.val_one, Fin.val_two, Nat.reduceBEq, Nat.reduceAdd, Nat.reduceLT, Nat.reduceLeDiff, Nat.reduceEqDiff, Nat.reduceMod, Int.reduceNeg, Int.reduceAdd, Int.reduceLE, Int.reduceLT, Int.reduceToNat, Int.cast_ofNat_Int, Int.ofNat_eq_natCast, Bool.or_self, Bool.or_false, Bool.false_or, Bool.and_false, Bool.and_self, Bool.false_and, Bool.true_and, Bool.false_eq_true, Bool.true_eq_false, ↓reduceIte, reduceCtorEq, true_and, and_true, false_and, and_false, false_or, or_false, true_or, or_true, ne_eq, not_false_eq_true, not_true_eq_false, px_f0, px_f1, px_f2, px_f3, kc_L0, kc_L1, if_true, if_false, px_10, true_implies, false_implies, implies_true, on_57, mL_57, rt_57, dp_57, lc_57, nr_57, yn_57, rc_0, e57_0, e57_1, e57_4, e57_5, e57_8, e57_9, e57_10, fd_0_19, e57_13, e57_14, e57_15, e57_18, e57_19, e57_20, mt_0_28, kw_19, np_19, on_19, nr_19, fc_57_19, e57_23, e57_26, e57_27, fd_0_15, e57_30, e57_31, e57_32, e57_35, e57_36, e57_39, e57_40, mt_0_36, e57_43, e57_44, e57_45, e57_48, e57_49, e57_50, fin_0_2, ft_0_2, e57_53, g1, g6, q1, q2, kb, kr, e1, px_fit_int, nI_add, nI_clamp (show p < 2 ^ 31 by omega), nI_clamp (show c < 2 ^ 31 by omega), nI_clamp (show k < 2 ^ 31 by omega)]
    refine ⟨?_, ?_, ?_, by omega, by omega, fun j hj => i_fits (kf _ (by omega)).1 (kf _ (by omega)).2, rfl, ((hfr1.mono (fun j hj => Or.inr hj)).up (Or.inr rfl)).up (Or.inl rfl), n1, hn1, ⟨px_up_self, hb0, by omega, g4, g5, _, by rw [px_up_ne (by omega), px_up_self]; rfl, fun j hj => ?_, fun j hj => ?_⟩, by omega, by omega⟩
    · rw [i_lt]; show ¬ (nI p).toInt < 0; omega
    · rw [i_lt]; show ¬ (nI c).toInt < 0; omega
    · rw [i_lt]; show ¬ (nI k).toInt < 0; omega
    · by_cases ej : c ≤ j ∧ j < c + k
      · rw [pk_cpy_in ej.1 ej.2]
        exact kf _ (by omega)
      · rw [pk_cpy_out (by omega)]
        exact g7 j hj
    · by_cases ej : j < c
      · rw [pk_cpy_out (by omega), bapp, if_pos ej]
        exact g8 j ej
      · rw [pk_cpy_in (by omega) (by omega), bapp, if_neg ej]
        exact kB _ (by omega)
set_option maxRecDepth 100000 in
set_option maxHeartbeats 4000000 in
theorem t_Bytes_becomeLike (l : Launch) {h : px_H} {b lim n c b2 lim2 n2 c2 : Nat} {B B2 : Nat → Nat} (H : By h b lim n c B) (H2 : By h b2 lim2 n2 c2 B2) (hne : b ≠ b2) (hb9 : b < 90000) (ht : px_top h) (hroom : c2 ≤ lim) : px_Ct l 97 [.ref b, .ref b2] h (fun r h' mc ms => r = none ∧ px_fr (fun j => j = b ∨ j = b + 2) h h' ∧ ∃ n', n ≤ n' ∧ By h' b lim n' c2 B2 ∧ mc + phi lim n ≤ phi lim n' ∧ ms + phi lim n ≤ phi lim n') := by
  obtain ⟨hb, hb0, hcn, hnl, hl, f, hr, hf, hB⟩ := H
  have K2 := H2
  obtain ⟨kb, kb0, kcn, knl, kl, f2, kr, kf, kB⟩ := K2
  have e1 : ∀ (z : px_C), px_up h b z b2 = h b2 := fun z => px_up_ne (by omega)
  refine px_Ct.of (by decide) (Nat.le_of_ble_eq_true rfl) (px_wp_ok (sp := []) 60 _ _ _ _ _ ?_)
  simp only [px_ev_nil, px_ev_i, px_ev_l, px_ev_n, px_ev_r, px_wp, px_step, px_tg, px_i1, px_i2, px_l1, px_l2, px_il, px_a1, px_ia, px_iia, px_lki, px_lkl, px_lka, px_lk, px_sto, px_ins, px_del, px_popn, px_inv, px_cat, px_obj, px_arr, px_arq, px_rfv, px_rok, px_tB, px_tI, px_tZ, px_tG, px_tS, px_S, lv_args, Value.category, List.contains_cons, List.contains_nil, List.getElem?_cons_zero, List.getElem?_cons_succ, List.set_cons_zero, List.set_cons_succ, List.length_cons, List.length_nil, List.map_cons, List.map_nil, List.sum_cons, List.sum_nil, List.cons_append, List.nil_append, Option.toList_some, Option.toList_none, px_hold, Fin.isValue, Fin.val_zero, Fin.val_one, Fin.val_two, Nat.reduceBEq, Nat.reduceAdd, Nat.reduceLT, Nat.reduceLeDiff, Nat.reduceEqDiff, Nat.reduceMod, Int.reduceNeg, Int.reduceAdd, Int.reduceLE, Int.reduceLT, Int.reduceToNat, Int.cast_ofNat_Int, Int.ofNat_eq_natCast, Bool.or_self, Bool.or_false, Bool.false_or, Bool.and_false, Bool.and_self, Bool.false_and, Bool.true_and, Bool.false_eq_true, Bool.true_eq_false, ↓reduceIte, reduceCtorEq, true_and, and_true, false_and, and_false, false_or, or_false, true_or, or_true, ne_eq, not_false_eq_true, not_true_eq_false, px_f0, px_f1, px_f2, px_f3, kc_L0, kc_L1, if_true, if_false, px_10, true_implies, false_implies, implies_true, on_97, mL_97, rt_97, dp_97, lc_97, nr_97, yn_97, rc_0, e97_0, e97_1, kc_0, e97_2, fd_0_19, fin_0_2, ft_0_2, e97_5, e97_6, e97_7, e97_8, e97_9, e97_12, mt_0_42, kw_57, np_57, on_57, nr_57, fc_97_57, e97_15, hb, hb0, e1, kb, kb0, px_fit_int, px_up_self]
  have H1 : By (px_up h b (.inr (0, [.int (nI lim), .ref (b + 2), .int 0]))) b lim n 0 B2 := ⟨px_up_self, hb0, by omega, hnl, hl, f, by rw [px_up_ne (by omega)]; exact hr, hf, fun j hj => by omega⟩
  have H3 : By (px_up h b (.inr (0, [.int (nI lim), .ref (b + 2), .int 0]))) b2 lim2 n2 c2 B2 := ⟨by rw [e1]; exact kb, kb0, kcn, knl, kl, f2, by rw [px_up_ne (by omega)]; exact kr, kf, kB⟩
  refine px_Ct.use (t_Bytes_addPart l (p := 0) (k := c2) H1 H3 hne hb9 (ht.up (by omega)) (by omega) (by omega)) ?_
  rintro r1 h1 mc1 ms1 ⟨rfl, g1, n1, g2, g3, g4, g5⟩
  refine px_wp_ok (sp := []) 20 _ _ _ _ _ ?_
  simp only [px_ev_nil, px_ev_i, px_ev_l, px_ev_n, px_ev_r, px_wp, px_step, px_tg, px_i1, px_i2, px_l1, px_l2, px_il, px_a1, px_ia, px_iia, px_lki, px_lkl, px_lka, px_lk, px_sto, px_ins, px_del, px_popn, px_inv, px_cat, px_obj, px_arr, px_arq, px_rfv, px_rok, px_tB, px_tI, px_tZ, px_tG, px_tS, px_S, lv_args, Value.category, List.contains_cons, List.contains_nil, List.getElem?_cons_zero, List.getElem?_cons_succ, List.set_cons_zero, List.set_cons_succ, List.length_cons, List.length_nil, List.map_cons, List.map_nil, List.sum_cons, List.sum_nil, List.cons_append, List.nil_append, Option.toList_some, Option.toList_none, px_hold, Fin.isValue, Fin.val_zero, Fin.val_one, Fin.val_two, Nat.reduceBEq, Nat.reduceAdd, Nat.reduceLT, Nat.reduceLeDiff, Nat.reduceEqDiff, Nat.reduceMod, Int.reduceNeg, Int.reduceAdd, Int.reduceLE, Int.reduceLT, Int.reduceToNat, Int.cast_ofNat_Int, Int.ofNat_eq_natCast, Bool.or_self, Bool.or_false, Bool.false_or, Bool.and_false, Bool.and_self, Bool.false_and, Bool.true_and, Bool.false_eq_true, Bool.true_eq_false, ↓reduceIte, reduceCtorEq, true_and, and_true, false_and, and_false, false_or, or_false, true_or, or_true, ne_eq, not_false_eq_true, not_true_eq_false, px_f0, px_f1, px_f2, px_f3, kc_L0, kc_L1, if_true, if_false, px_10, true_implies, false_implies, implies_true, on_97, mL_97, rt_97, dp_97, lc_97, nr_97, yn_97, rc_0, e97_0, e97_1, kc_0, e97_2, fd_0_19, fin_0_2, ft_0_2, e97_5, e97_6, e97_7, e97_8, e97_9, e97_12, mt_0_42, kw_57, np_57, on_57, nr_57, fc_97_57, e97_15, Nat.add_zero]
  refine ⟨(px_fr.rf.up (Or.inl rfl)).tr g1, n1, g2, ?_, g4, g5⟩
  obtain ⟨a1, a2, a3, a4, a5, f3, a6, a7, a8⟩ := g3
  refine ⟨by rw [a1]; simp, a2, by omega, a4, a5, f3, a6, a7, fun j hj => ?_⟩
  have := a8 j (by omega)
  simpa [bapp] using this
