/-! ImageFile$Bytes: what makes room -/
set_option maxRecDepth 100000 in
set_option maxHeartbeats 4000000 in
theorem t_Bytes_init (l : Launch) {h : px_H} {b lim : Nat} (hb : h b = some (.inr (0, [.int 0, .null, .int 0]))) (hb0 : b % 64 = 0) (hbS : px_S ≤ b) (hr : h (b + 2) = none) (hl : lim ≤ 16384) : px_Ct l 3 [.ref b, .int (nI lim)] h (fun r h' mc ms => r = none ∧ By h' b lim 0 0 (fun _ => 0) ∧ px_fr (fun j => j = b ∨ j = b + 2) h h' ∧ mc = 1 ∧ ms = 0) := by
  refine px_Ct.of (by decide) (Nat.le_of_ble_eq_true rfl) (px_wp_ok (sp := [11]) 60 _ _ _ _ _ ?_)
  simp only [px_ev_nil, px_ev_i, px_ev_l, px_ev_n, px_ev_r, px_wp, px_step, px_tg, px_i1, px_i2, px_l1, px_l2, px_il, px_a1, px_ia, px_iia, px_lki, px_lkl, px_lka, px_lk, px_sto, px_ins, px_del, px_popn, px_inv, px_cat, px_obj, px_arr, px_arq, px_rfv, px_rok, px_tB, px_tI, px_tZ, px_tG, px_tS, px_S, lv_args, Value.category, List.contains_cons, List.contains_nil, List.getElem?_cons_zero, List.getElem?_cons_succ, List.set_cons_zero, List.set_cons_succ, List.length_cons, List.length_nil, List.map_cons, List.map_nil, List.sum_cons, List.sum_nil, List.cons_append, List.nil_append, Option.toList_some, Option.toList_none, px_hold, Fin.isValue, Fin.val_zero, Fin.val_one, Fin.val_two, Nat.reduceBEq, Nat.reduceAdd, Nat.reduceLT, Nat.reduceLeDiff, Nat.reduceEqDiff, Nat.reduceMod, Int.reduceNeg, Int.reduceAdd, Int.reduceLE, Int.reduceLT, Int.reduceToNat, Int.cast_ofNat_Int, Int.ofNat_eq_natCast, Bool.or_self, Bool.or_false, Bool.false_or, Bool.and_false, Bool.and_self, Bool.false_and, Bool.true_and, Bool.false_eq_true, Bool.true_eq_false, ↓reduceIte, reduceCtorEq, true_and, and_true, false_and, and_false, false_or, or_false, true_or, or_true, ne_eq, not_false_eq_true, not_true_eq_false, px_f0, px_f1, px_f2, px_f3, kc_L0, kc_L1, if_true, if_false, px_10, true_implies, false_implies, implies_true, on_3, mL_3, rt_3, dp_3, lc_3, nr_3, yn_3, rc_0, e3_0, e3_1, mt_0_3, e3_4, e3_5, e3_6, fd_0_9, fin_0_0, ft_0_0, e3_9, e3_10, kc_0, e3_11, e3_13, fd_0_15, fin_0_1, ft_0_1, e3_16, hb, px_fit_int]
  refine px_newB e3_11 (by decide) (by decide) (q := b + 2) (by omega) (by rw [px_up_ne (by omega)]; exact hr) (px_wp_ok (sp := []) 60 _ _ _ _ _ ?_)
  have e1 : ∀ (g : px_H) (c : px_C), px_up g (b + 2) c b = g b := fun g c => px_up_ne (by omega)
  simp only [px_ev_nil, px_ev_i, px_ev_l, px_ev_n, px_ev_r, px_wp, px_step, px_tg, px_i1, px_i2, px_l1, px_l2, px_il, px_a1, px_ia, px_iia, px_lki, px_lkl, px_lka, px_lk, px_sto, px_ins, px_del, px_popn, px_inv, px_cat, px_obj, px_arr, px_arq, px_rfv, px_rok, px_tB, px_tI, px_tZ, px_tG, px_tS, px_S, lv_args, Value.category, List.contains_cons, List.contains_nil, List.getElem?_cons_zero, List.getElem?_cons_succ, List.set_cons_zero, List.set_cons_succ, List.length_cons, List.length_nil, List.map_cons, List.map_nil, List.sum_cons, List.sum_nil, List.cons_append, List.nil_append, Option.toList_some, Option.toList_none, px_hold, Fin.isValue, Fin.val_zero, Fin.val_one, Fin.val_two, Nat.reduceBEq, Nat.reduceAdd, Nat.reduceLT, Nat.reduceLeDiff, Nat.reduceEqDiff, Nat.reduceMod, Int.reduceNeg, Int.reduceAdd, Int.reduceLE, Int.reduceLT, Int.reduceToNat, Int.cast_ofNat_Int, Int.ofNat_eq_natCast, Bool.or_self, Bool.or_false, Bool.false_or, Bool.and_false, Bool.and_self, Bool.false_and, Bool.true_and, Bool.false_eq_true, Bool.true_eq_false, ↓reduceIte, reduceCtorEq, true_and, and_true, false_and, and_false, false_or, or_false, true_or, or_true, ne_eq, not_false_eq_true, not_true_eq_false, px_f0, px_f1, px_f2, px_f3, kc_L0, kc_L1, if_true, if_false, px_10, true_implies, false_implies, implies_true, on_3, mL_3, rt_3, dp_3, lc_3, nr_3, yn_3, rc_0, e3_0, e3_1, mt_0_3, e3_4, e3_5, e3_6, fd_0_9, fin_0_0, ft_0_0, e3_9, e3_10, kc_0, e3_11, e3_13, fd_0_15, fin_0_1, ft_0_1, e3_16, e1, px_up_self, px_fit_a]
  refine ⟨⟨?_, hb0, by omega, by omega, hl, fun _ => 0, ?_, fun j hj => by omega, fun j hj => by omega⟩, ?_, rfl⟩
  · rw [px_up_self]; rfl
  · rw [px_up_ne (by omega), px_up_self]; rfl
  · exact ((px_fr.rf.up (Or.inl rfl)).up (Or.inr rfl)).up (Or.inl rfl)
/-! Bytes.makeRoom -/
set_option maxRecDepth 100000 in
set_option maxHeartbeats 4000000 in
theorem t_Bytes_makeRoom (l : Launch) {h : px_H} {b lim n c : Nat} {B : Nat → Nat} {w : Int32} (H : By h b lim n c B) (hb9 : b < 90000) (ht : px_top h) : px_Ct l 19 [.ref b, .int w] h (fun r h' mc ms => r = some (.int (if 0 ≤ w.toInt ∧ w.toInt + c ≤ lim then 1 else 0)) ∧ px_fr (fun j => j = b + 2) h h' ∧ ∃ n', n ≤ n' ∧ By h' b lim n' c B ∧ (0 ≤ w.toInt ∧ w.toInt + c ≤ lim → w.toInt + c ≤ n') ∧ mc + phi lim n ≤ phi lim n' ∧ ms + phi lim n ≤ phi lim n') := by
  have H0 := H
  obtain ⟨hb, hb0, hcn, hnl, hl, f, hr, hf, hB⟩ := H
  have hc := i_n (n := c) (by omega)
  have hlim := i_n (n := lim) (by omega)
  have hn := i_n (n := n) (by omega)
  have h2 : (nI lim - nI c).toInt = (lim : Int) - c := by rw [i_sub] <;> omega
  refine px_Ct.of (by decide) (Nat.le_of_ble_eq_true rfl) (px_wp_ok (sp := [61]) 80 _ _ _ _ _ ?_)
  simp only [px_ev_nil, px_ev_i, px_ev_l, px_ev_n, px_ev_r, px_wp, px_step, px_tg, px_i1, px_i2, px_l1, px_l2, px_il, px_a1, px_ia, px_iia, px_lki, px_lkl, px_lka, px_lk, px_sto, px_ins, px_del, px_popn, px_inv, px_cat, px_obj, px_arr, px_arq, px_rfv, px_rok, px_tB, px_tI, px_tZ, px_tG, px_tS, px_S, lv_args, Value.category, List.contains_cons, List.contains_nil, List.getElem?_cons_zero, List.getElem?_cons_succ, List.set_cons_zero, List.set_cons_succ, List.length_cons, List.length_nil, List.map_cons, List.map_nil, List.sum_cons, List.sum_nil, List.cons_append, List.nil_append, Option.toList_some, Option.toList_none, px_hold, Fin.isValue, Fin.val_zero, Fin.val_one, Fin.val_two, Nat.reduceBEq, Nat.reduceAdd, Nat.reduceLT, Nat.reduceLeDiff, Nat.reduceEqDiff, Nat.reduceMod, Int.reduceNeg, Int.reduceAdd, Int.reduceLE, Int.reduceLT, Int.reduceToNat, Int.cast_ofNat_Int, Int.ofNat_eq_natCast, Bool.or_self, Bool.or_false, Bool.false_or, Bool.and_false, Bool.and_self, Bool.false_and, Bool.true_and, Bool.false_eq_true, Bool.true_eq_false, ↓reduceIte, reduceCtorEq, true_and, and_true, false_and, and_false, false_or, or_false, true_or, or_true, ne_eq, not_false_eq_true, not_true_eq_false, px_f0, px_f1, px_f2, px_f3, kc_L0, kc_L1, if_true, if_false, px_10, true_implies, false_implies, implies_true, on_19, mL_19, rt_19, dp_19, lc_19, nr_19, yn_19, rc_0, e19_0, e19_1, e19_4, e19_5, e19_6, fd_0_9, e19_9, e19_10, fd_0_19, e19_13, e19_14, e19_17, kc_0, e19_18, e19_19, e19_20, e19_23, e19_24, e19_25, e19_26, e19_27, e19_28, fd_0_15, e19_31, e19_32, e19_35, e19_36, e19_37, e19_40, e19_41, e19_44, e19_45, kc_2, e19_46, e19_47, e19_50, e19_51, e19_52, mt_0_46, e19_55, mt_0_52, e19_58, mt_0_55, kw_20, np_20, on_20, nr_20, fc_19_20, rc_9, e19_61, fin_0_1, ft_0_1, e19_64, kc_1, e19_65, hb, hr]
  refine ⟨fun h1 => ?_, fun h1 => ⟨fun h3 => ?_, fun h3 => ?_⟩⟩
  · simp only [i_lt, i_le, i_eq, i_cl, vp_in, kt_m6, kt_m4, kt_m1, kt_0, kt_1, kt_2, kt_3, kt_4, kt_5, kt_6, kt_7, kt_8, kt_9, kt_10, kt_11, kt_12, kt_13, kt_14, kt_15, kt_16, kt_17, kt_18, kt_19, kt_20, kt_21, kt_22, kt_23, kt_24, kt_25, kt_26, kt_27, kt_28, kt_29, kt_30, kt_31, kt_32, kt_36, kt_40, kt_42, kt_44, kt_46, kt_52, kt_56, kt_69, kt_70, kt_76, kt_77, kt_97, kt_107, kt_114, kt_115, kt_127, kt_243, kt_255, kt_256, kt_2048, kt_4094, kt_4095, kt_4096, kt_12288, kt_16384, kt_24576] at h1
    rw [if_neg (by omega)]
    exact ⟨rfl, px_fr.rf, n, Nat.le_refl _, H0, fun q => by omega, by omega, by omega⟩
  · simp only [i_lt, i_le, i_eq, i_cl, vp_in, kt_m6, kt_m4, kt_m1, kt_0, kt_1, kt_2, kt_3, kt_4, kt_5, kt_6, kt_7, kt_8, kt_9, kt_10, kt_11, kt_12, kt_13, kt_14, kt_15, kt_16, kt_17, kt_18, kt_19, kt_20, kt_21, kt_22, kt_23, kt_24, kt_25, kt_26, kt_27, kt_28, kt_29, kt_30, kt_31, kt_32, kt_36, kt_40, kt_42, kt_44, kt_46, kt_52, kt_56, kt_69, kt_70, kt_76, kt_77, kt_97, kt_107, kt_114, kt_115, kt_127, kt_243, kt_255, kt_256, kt_2048, kt_4094, kt_4095, kt_4096, kt_12288, kt_16384, kt_24576] at h1
    rw [i_le, h2] at h3
    have h4 : (nI c + w).toInt = c + w.toInt := by rw [i_add] <;> omega
    rw [if_pos (by omega)]
    refine ⟨fun h5 => ?_, fun h5 => ?_⟩
    · rw [i_le, h4, show (Int32.ofNat n).toInt = n from hn] at h5
      exact ⟨rfl, px_fr.rf, n, Nat.le_refl _, H0, fun q => by omega, by omega, by omega⟩
    · rw [i_le, h4, show (Int32.ofNat n).toInt = n from hn] at h5
      have h6 : ((2 : Int32) * Int32.ofNat n).toInt = 2 * n := by
        rw [i_mul] <;> rw [show (Int32.ofNat n).toInt = n from hn, kt_2] <;> omega
      have hM : ∃ q : Nat, (if (if nI c + w < 2 * Int32.ofNat n then 2 * Int32.ofNat n else nI c + w) < nI lim then (if nI c + w < 2 * Int32.ofNat n then 2 * Int32.ofNat n else nI c + w) else nI lim) = nI q ∧ q ≤ lim ∧ (c : Int) + w.toInt ≤ q ∧ (2 * n ≤ q ∨ q = lim) := by
        by_cases hA : nI c + w < 2 * Int32.ofNat n
        · rw [if_pos hA]
          rw [i_lt, h4, h6] at hA
          by_cases hC : 2 * Int32.ofNat n < nI lim
          · rw [if_pos hC]
            rw [i_lt, h6, hlim] at hC
            exact ⟨2 * n, by rw [i_eq, h6, i_n (by omega)]; omega, by omega, by omega, Or.inl (Nat.le_refl _)⟩
          · rw [if_neg hC]
            exact ⟨lim, rfl, Nat.le_refl _, by omega, Or.inr rfl⟩
        · rw [if_neg hA]
          rw [i_lt, h4, h6] at hA
          by_cases hC : nI c + w < nI lim
          · rw [if_pos hC]
            rw [i_lt, h4, hlim] at hC
            exact ⟨(c + w.toInt).toNat, by rw [i_eq, h4, i_n (by omega)]; omega, by omega, by omega, Or.inl (by omega)⟩
          · rw [if_neg hC]
            exact ⟨lim, rfl, Nat.le_refl _, by omega, Or.inr rfl⟩
      obtain ⟨m, hm, hm1, hm2, hm3⟩ := hM
      simp only [hm]
      have hnm : n < m := by omega
      have hfree : h 128001 = none := ht _ (by omega)
      refine px_Ct.use (t_copyOf l (t := 128001) hr hf (by omega) (by omega) hnm (by decide) hfree) ?_
      rintro _ _ _ ms1 ⟨rfl, rfl, rfl, hms⟩
      have e1 : ∀ cc, px_up h 128001 cc b = h b := fun cc => px_up_ne (by omega)
      have e2 : ∀ cc, px_up h 128001 cc (b + 2) = h (b + 2) := fun cc => px_up_ne (by omega)
      refine px_putmove (ci := 0) (f := 1) (t := 128001) (b := b) (n := m) (n0 := n) (f0 := f) e19_61 (by rw [on_19]; exact fd_0_15) rfl rfl (by rw [e1]; exact hb) rfl (show px_fit (px_ft 0 1) (.ref 128001) from px_fit_a _ _) (by rw [show b + 1 + 1 = b + 2 by omega, e2]; exact hr) px_up_self (by decide) (by rw [px_up_ne (by decide)]; exact ht _ (by decide)) (by simp only [px_ev_nil]) (by simp only [List.map_cons, List.map_nil, px_ev_r, px_ev_i, px_ev_nil, hb0, and_self]) (px_wp_ok (sp := []) 20 _ _ _ _ _ ?_)
      have e3 : px_rm (px_up (px_up h 128001 (.inl (px_tB, m, .inl (va_cpy f (fun _ => 0) 0 0 n)))) (b + 1 + 1) (.inl (px_tB, m, .inl (va_cpy f (fun _ => 0) 0 0 n)))) 128001 = px_up h (b + 2) (.inl (px_tB, m, .inl (va_cpy f (fun _ => 0) 0 0 n))) := by
        funext j
        by_cases e : j = 128001
        · subst e; rw [px_rm_self, px_up_ne (by omega), hfree]
        · rw [px_rm_ne e]
          by_cases e4 : j = b + 2
          · subst e4; rw [px_up_self, px_up_self]
          · rw [px_up_ne (by omega), px_up_ne e, px_up_ne e4]
      rw [e3]
      simp only [px_ev_nil, px_ev_i, px_ev_l, px_ev_n, px_ev_r, px_wp, px_step, px_tg, px_i1, px_i2, px_l1, px_l2, px_il, px_a1, px_ia, px_iia, px_lki, px_lkl, px_lka, px_lk, px_sto, px_ins, px_del, px_popn, px_inv, px_cat, px_obj, px_arr, px_arq, px_rfv, px_rok, px_tB, px_tI, px_tZ, px_tG, px_tS, px_S, lv_args, Value.category, List.contains_cons, List.contains_nil, List.getElem?_cons_zero, List.getElem?_cons_succ, List.set_cons_zero, List.set_cons_succ, List.length_cons, List.length_nil, List.map_cons, List.map_nil, List.sum_cons, List.sum_nil, List.cons_append, List.nil_append, Option.toList_some, Option.toList_none, px_hold, Fin.isValue, Fin.val_zero, Fin.val_one, Fin.val_two, Nat.reduceBEq, Nat.reduceAdd, Nat.reduceLT, Nat.reduceLeDiff, Nat.reduceEqDiff, Nat.reduceMod, Int.reduceNeg, Int.reduceAdd, Int.reduceLE, Int.reduceLT, Int.reduceToNat, Int.cast_ofNat_Int, Int.ofNat_eq_natCast, Bool.or_self, Bool.or_false, Bool.false_or, Bool.and_false, Bool.and_self, Bool.false_and, Bool.true_and, Bool.false_eq_true, Bool.true_eq_false, ↓reduceIte, reduceCtorEq, true_and, and_true, false_and, and_false, false_or, or_false, true_or, or_true, ne_eq, not_false_eq_true, not_true_eq_false, px_f0, px_f1, px_f2, px_f3, kc_L0, kc_L1, if_true, if_false, px_10, true_implies, false_implies, implies_true, on_19, mL_19, rt_19, dp_19, lc_19, nr_19, yn_19, rc_0, e19_0, e19_1, e19_4, e19_5, e19_6, fd_0_9, e19_9, e19_10, fd_0_19, e19_13, e19_14, e19_17, kc_0, e19_18, e19_19, e19_20, e19_23, e19_24, e19_25, e19_26, e19_27, e19_28, fd_0_15, e19_31, e19_32, e19_35, e19_36, e19_37, e19_40, e19_41, e19_44, e19_45, kc_2, e19_46, e19_47, e19_50, e19_51, e19_52, mt_0_46, e19_55, mt_0_52, e19_58, mt_0_55, kw_20, np_20, on_20, nr_20, fc_19_20, rc_9, e19_61, fin_0_1, ft_0_1, e19_64, kc_1, e19_65]
      refine ⟨px_fr.rf.up rfl, m, by omega, ⟨by rw [px_up_ne (by omega)]; exact hb, hb0, by omega, hm1, hl, _, px_up_self, fun j hj => ?_, fun j hj => ?_⟩, fun _ => by omega, ?_, ?_⟩
      · by_cases e : j < n
        · rw [pk_cpy_in (by omega) (by omega)]
          have := hf j e
          simpa using this
        · rw [pk_cpy_out (by omega)]
          decide
      · rw [pk_cpy_in (by omega) (by omega)]
        have := hB j hj
        simpa using this
      · unfold phi; split <;> split <;> omega
      · unfold phi; split <;> split <;> omega
  · simp only [i_lt, i_le, i_eq, i_cl, vp_in, kt_m6, kt_m4, kt_m1, kt_0, kt_1, kt_2, kt_3, kt_4, kt_5, kt_6, kt_7, kt_8, kt_9, kt_10, kt_11, kt_12, kt_13, kt_14, kt_15, kt_16, kt_17, kt_18, kt_19, kt_20, kt_21, kt_22, kt_23, kt_24, kt_25, kt_26, kt_27, kt_28, kt_29, kt_30, kt_31, kt_32, kt_36, kt_40, kt_42, kt_44, kt_46, kt_52, kt_56, kt_69, kt_70, kt_76, kt_77, kt_97, kt_107, kt_114, kt_115, kt_127, kt_243, kt_255, kt_256, kt_2048, kt_4094, kt_4095, kt_4096, kt_12288, kt_16384, kt_24576] at h1
    rw [i_le, h2] at h3
    rw [if_neg (by omega)]
    exact ⟨rfl, px_fr.rf, n, Nat.le_refl _, H0, fun q => by omega, by omega, by omega⟩
