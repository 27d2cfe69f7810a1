/-! ImageFileModel: counts, the sum -/
set_option maxRecDepth 100000 in
set_option maxHeartbeats 4000000 in
theorem lp_mmarks (l : Launch) {h : px_H} {ft fa fm fc fb fk fe fp ff fr fg : Nat → Int32} {fd pl tb rw sm : Int32} (M : Mr h ft fa fm fc fb fk fe fp ff fr fg fd pl tb rw sm) {i : Nat} {I : Im} (P : mPic ft fa fm fc fb fk fe fp i I) (V : imV I) (hi : i < 2) : ∀ (d k : Nat), k + d = 2048 → px_P l 174 4 [(0, .ref 2560), (1, .int (nI i)), (2, .int (nI (cntB (imK I) k))), (3, .int (nI k))] [] h (rdRK h (.int (nI (cntB (imK I) 2048)))) := by
  intro d
  induction d with
  | zero =>
    intro k hk
    have e : k = 2048 := by omega
    subst e
    refine px_go_ok (sp := [4]) 60 ?_
    simp only [px_go, px_ev_nil, px_ev_i, px_ev_l, px_ev_n, px_ev_r, px_wp, px_step, px_tg, px_i1, px_i2, px_l1, px_l2, px_il, px_a1, px_ia, px_iia, px_lki, px_lkl, px_lka, px_lk, px_sto, px_ins, px_del, px_popn, px_inv, px_cat, px_obj, px_arr, px_arq, px_rfv, px_rok, px_tB, px_tI, px_tZ, px_tG, px_tS, px_S, lv_args, Value.category, List.contains_cons, List.contains_nil, List.getElem?_cons_zero, List.getElem?_cons_succ, List.set_cons_zero, List.set_cons_succ, List.length_cons, List.length_nil, List.map_cons, List.map_nil, List.sum_cons, List.sum_nil, List.cons_append, List.nil_append, Option.toList_some, Option.toList_none, px_hold, Fin.isValue, Fin.val_zero, Fin.val_one, Fin.val_two, Nat.reduceBEq, Nat.reduceAdd, Nat.reduceLT, Nat.reduceLeDiff, Nat.reduceEqDiff, Nat.reduceMod, Int.reduceNeg, Int.reduceAdd, Int.reduceLE, Int.reduceLT, Int.reduceToNat, Int.cast_ofNat_Int, Int.ofNat_eq_natCast, Bool.or_self, Bool.or_false, Bool.false_or, Bool.and_false, Bool.and_self, Bool.false_and, Bool.true_and, Bool.false_eq_true, Bool.true_eq_false, ↓reduceIte, reduceCtorEq, true_and, and_true, false_and, and_false, false_or, or_false, true_or, or_true, ne_eq, not_false_eq_true, not_true_eq_false, px_f0, px_f1, px_f2, px_f3, kc_L0, kc_L1, if_true, if_false, px_10, true_implies, false_implies, implies_true, on_174, mL_174, rt_174, dp_174, lc_174, nr_174, yn_174, rc_8, e174_0, kc_0, e174_1, e174_2, e174_3, e174_4, e174_5, kc_2048, e174_8, e174_11, e174_12, e174_13, fd_8_26, e174_16, e174_19, e174_20, e174_21, e174_22, e174_23, e174_24, e174_27, kc_1, e174_28, e174_31, e174_32, e174_33, e174_34, e174_37, e174_40, e174_41, M.o, M.k]
    exact ⟨fun _ => rdRK.rf, fun q => absurd (by decide) q⟩
  | succ d ih =>
    intro k hk
    have pk := P.2.2.1 k (by omega)
    have esk : (nI (2048 * i + k)).toNatClampNeg = 2048 * i + k := nI_clamp (by omega)
    have hink : vp_in (nI (2048 * i + k)) 4096 := pk_in (2048 * i + k) 4096 (by omega)
    refine px_go_ok (sp := [4]) 60 ?_
    simp only [px_go, px_ev_nil, px_ev_i, px_ev_l, px_ev_n, px_ev_r, px_wp, px_step, px_tg, px_i1, px_i2, px_l1, px_l2, px_il, px_a1, px_ia, px_iia, px_lki, px_lkl, px_lka, px_lk, px_sto, px_ins, px_del, px_popn, px_inv, px_cat, px_obj, px_arr, px_arq, px_rfv, px_rok, px_tB, px_tI, px_tZ, px_tG, px_tS, px_S, lv_args, Value.category, List.contains_cons, List.contains_nil, List.getElem?_cons_zero, List.getElem?_cons_succ, List.set_cons_zero, List.set_cons_succ, List.length_cons, List.length_nil, List.map_cons, List.map_nil, List.sum_cons, List.sum_nil, List.cons_append, List.nil_append, Option.toList_some, Option.toList_none, px_hold, Fin.isValue, Fin.val_zero, Fin.val_one, Fin.val_two, Nat.reduceBEq, Nat.reduceAdd, Nat.reduceLT, Nat.reduceLeDiff, Nat.reduceEqDiff, Nat.reduceMod, Int.reduceNeg, Int.reduceAdd, Int.reduceLE, Int.reduceLT, Int.reduceToNat, Int.cast_ofNat_Int, Int.ofNat_eq_natCast, Bool.or_self, Bool.or_false, Bool.false_or, Bool.and_false, Bool.and_self, Bool.false_and, Bool.true_and, Bool.false_eq_true, Bool.true_eq_false, ↓reduceIte, reduceCtorEq, true_and, and_true, false_and, and_false, false_or, or_false, true_or, or_true, ne_eq, not_false_eq_true, not_true_eq_false, px_f0, px_f1, px_f2, px_f3, kc_L0, kc_L1, if_true, if_false, px_10, true_implies, false_implies, implies_true, on_174, mL_174, rt_174, dp_174, lc_174, nr_174, yn_174, rc_8, e174_0, kc_0, e174_1, e174_2, e174_3, e174_4, e174_5, kc_2048, e174_8, e174_11, e174_12, e174_13, fd_8_26, e174_16, e174_19, e174_20, e174_21, e174_22, e174_23, e174_24, e174_27, kc_1, e174_28, e174_31, e174_32, e174_33, e174_34, e174_37, e174_40, e174_41, M.o, M.k, n_2048, nI_add, esk, hink, pk, nI_1]
    refine ek_if (nI_leI (a := 2048) (b := k) (by omega) (by omega)) (fun q => absurd q (by omega)) fun _ => ?_
    refine ek_if bI_0 (fun q => ?_) fun q => ?_
    · have e : nI (cntB (imK I) k) + 0 = nI (cntB (imK I) (k + 1)) := by
        rw [cntB, q, Int32.add_zero]; rfl
      rw [e]
      exact ih (k + 1) (by omega)
    · have q : imK I k = true := by simpa using q
      have e : cntB (imK I) k + 1 = cntB (imK I) (k + 1) := by
        rw [cntB, q]; rfl
      rw [e]
      exact ih (k + 1) (by omega)
set_option maxRecDepth 100000 in
set_option maxHeartbeats 4000000 in
theorem m_marksIn (l : Launch) {h : px_H} {ft fa fm fc fb fk fe fp ff fr fg : Nat → Int32} {fd pl tb rw sm : Int32} (M : Mr h ft fa fm fc fb fk fe fp ff fr fg fd pl tb rw sm) {i : Nat} {I : Im} (P : mPic ft fa fm fc fb fk fe fp i I) (V : imV I) (hi : i < 2) : px_rd l 174 [.ref 2560, .int (nI i)] h (.int (nI (cntB (imK I) 2048))) := by
  show px_Ct _ _ _ _ (rdRK h (.int (nI (cntB (imK I) 2048))))
  refine px_Ct.of (by decide) (Nat.le_of_ble_eq_true rfl) (px_wp_ok (sp := [4]) 60 _ _ _ _ _ ?_)
  simp only [px_ev_nil, px_ev_i, px_ev_l, px_ev_n, px_ev_r, px_wp, px_step, px_tg, px_i1, px_i2, px_l1, px_l2, px_il, px_a1, px_ia, px_iia, px_lki, px_lkl, px_lka, px_lk, px_sto, px_ins, px_del, px_popn, px_inv, px_cat, px_obj, px_arr, px_arq, px_rfv, px_rok, px_tB, px_tI, px_tZ, px_tG, px_tS, px_S, lv_args, Value.category, List.contains_cons, List.contains_nil, List.getElem?_cons_zero, List.getElem?_cons_succ, List.set_cons_zero, List.set_cons_succ, List.length_cons, List.length_nil, List.map_cons, List.map_nil, List.sum_cons, List.sum_nil, List.cons_append, List.nil_append, Option.toList_some, Option.toList_none, px_hold, Fin.isValue, Fin.val_zero, Fin.val_one, Fin.val_two, Nat.reduceBEq, Nat.reduceAdd, Nat.reduceLT, Nat.reduceLeDiff, Nat.reduceEqDiff, Nat.reduceMod, Int.reduceNeg, Int.reduceAdd, Int.reduceLE, Int.reduceLT, Int.reduceToNat, Int.cast_ofNat_Int, Int.ofNat_eq_natCast, Bool.or_self, Bool.or_false, Bool.false_or, Bool.and_false, Bool.and_self, Bool.false_and, Bool.true_and, Bool.false_eq_true, Bool.true_eq_false, ↓reduceIte, reduceCtorEq, true_and, and_true, false_and, and_false, false_or, or_false, true_or, or_true, ne_eq, not_false_eq_true, not_true_eq_false, px_f0, px_f1, px_f2, px_f3, kc_L0, kc_L1, if_true, if_false, px_10, true_implies, false_implies, implies_true, on_174, mL_174, rt_174, dp_174, lc_174, nr_174, yn_174, rc_8, e174_0, kc_0, e174_1, e174_2, e174_3, e174_4, e174_5, kc_2048, e174_8, e174_11, e174_12, e174_13, fd_8_26, e174_16, e174_19, e174_20, e174_21, e174_22, e174_23, e174_24, e174_27, kc_1, e174_28, e174_31, e174_32, e174_33, e174_34, e174_37, e174_40, e174_41]
  exact lp_mmarks l M P V hi 2048 0 rfl
/-- marks lie in TEXT -/
def imMk (I : Im) : Prop := ∀ k, k < 2048 → imK I k = true → imT I 0 = true ∧ 2 * k < imC I 0
set_option maxRecDepth 100000 in
set_option maxHeartbeats 4000000 in
theorem lp_mshorts (l : Launch) {h : px_H} {ft fa fm fc fb fk fe fp ff fr fg : Nat → Int32} {fd pl tb rw sm : Int32} (M : Mr h ft fa fm fc fb fk fe fp ff fr fg fd pl tb rw sm) {i : Nat} {I : Im} (P : mPic ft fa fm fc fb fk fe fp i I) (V : imV I) (hi : i < 2) (hm : imMk I) : ∀ (d k : Nat), k + d = 2048 → px_P l 137 4 [(0, .ref 2560), (1, .int (nI i)), (2, .int (nI (cntB (shK I) k))), (3, .int (nI k))] [] h (rdRK h (.int (nI (cntB (shK I) 2048)))) := by
  intro d
  induction d with
  | zero =>
    intro k hk
    have e : k = 2048 := by omega
    subst e
    refine px_go_ok (sp := [4]) 60 ?_
    simp only [px_go, px_ev_nil, px_ev_i, px_ev_l, px_ev_n, px_ev_r, px_wp, px_step, px_tg, px_i1, px_i2, px_l1, px_l2, px_il, px_a1, px_ia, px_iia, px_lki, px_lkl, px_lka, px_lk, px_sto, px_ins, px_del, px_popn, px_inv, px_cat, px_obj, px_arr, px_arq, px_rfv, px_rok, px_tB, px_tI, px_tZ, px_tG, px_tS, px_S, lv_args, Value.category, List.contains_cons, List.contains_nil, List.getElem?_cons_zero, List.getElem?_cons_succ, List.set_cons_zero, List.set_cons_succ, List.length_cons, List.length_nil, List.map_cons, List.map_nil, List.sum_cons, List.sum_nil, List.cons_append, List.nil_append, Option.toList_some, Option.toList_none, px_hold, Fin.isValue, Fin.val_zero, Fin.val_one, Fin.val_two, Nat.reduceBEq, Nat.reduceAdd, Nat.reduceLT, Nat.reduceLeDiff, Nat.reduceEqDiff, Nat.reduceMod, Int.reduceNeg, Int.reduceAdd, Int.reduceLE, Int.reduceLT, Int.reduceToNat, Int.cast_ofNat_Int, Int.ofNat_eq_natCast, Bool.or_self, Bool.or_false, Bool.false_or, Bool.and_false, Bool.and_self, Bool.false_and, Bool.true_and, Bool.false_eq_true, Bool.true_eq_false, ↓reduceIte, reduceCtorEq, true_and, and_true, false_and, and_false, false_or, or_false, true_or, or_true, ne_eq, not_false_eq_true, not_true_eq_false, px_f0, px_f1, px_f2, px_f3, kc_L0, kc_L1, if_true, if_false, px_10, true_implies, false_implies, implies_true, on_137, mL_137, rt_137, dp_137, lc_137, nr_137, yn_137, rc_8, e137_0, kc_0, e137_1, e137_2, e137_3, e137_4, e137_5, kc_2048, e137_8, e137_11, e137_12, e137_13, fd_8_26, e137_16, e137_19, e137_20, e137_21, e137_22, e137_23, e137_24, e137_27, e137_28, e137_29, e137_30, mt_8_71, kw_130, np_130, on_130, nr_130, fc_137_130, e137_33, kc_2, e137_34, e137_37, kc_1, e137_38, e137_41, e137_42, e137_43, e137_44, e137_47, e137_50, e137_51, M.o, M.k]
    exact ⟨fun _ => rdRK.rf, fun q => absurd (by decide) q⟩
  | succ d ih =>
    intro k hk
    have pk := P.2.2.1 k (by omega)
    have esk : (nI (2048 * i + k)).toNatClampNeg = 2048 * i + k := nI_clamp (by omega)
    have hink : vp_in (nI (2048 * i + k)) 4096 := pk_in (2048 * i + k) 4096 (by omega)
    have hl := ilen24 I ((2 * k : Nat) : Int)
    have no : shK I k = false → nI (cntB (shK I) k) + 0 = nI (cntB (shK I) (k + 1)) := by
      intro q
      rw [cntB, q, Int32.add_zero]; rfl
    refine px_go_ok (sp := [4]) 60 ?_
    simp only [px_go, px_ev_nil, px_ev_i, px_ev_l, px_ev_n, px_ev_r, px_wp, px_step, px_tg, px_i1, px_i2, px_l1, px_l2, px_il, px_a1, px_ia, px_iia, px_lki, px_lkl, px_lka, px_lk, px_sto, px_ins, px_del, px_popn, px_inv, px_cat, px_obj, px_arr, px_arq, px_rfv, px_rok, px_tB, px_tI, px_tZ, px_tG, px_tS, px_S, lv_args, Value.category, List.contains_cons, List.contains_nil, List.getElem?_cons_zero, List.getElem?_cons_succ, List.set_cons_zero, List.set_cons_succ, List.length_cons, List.length_nil, List.map_cons, List.map_nil, List.sum_cons, List.sum_nil, List.cons_append, List.nil_append, Option.toList_some, Option.toList_none, px_hold, Fin.isValue, Fin.val_zero, Fin.val_one, Fin.val_two, Nat.reduceBEq, Nat.reduceAdd, Nat.reduceLT, Nat.reduceLeDiff, Nat.reduceEqDiff, Nat.reduceMod, Int.reduceNeg, Int.reduceAdd, Int.reduceLE, Int.reduceLT, Int.reduceToNat, Int.cast_ofNat_Int, Int.ofNat_eq_natCast, Bool.or_self, Bool.or_false, Bool.false_or, Bool.and_false, Bool.and_self, Bool.false_and, Bool.true_and, Bool.false_eq_true, Bool.true_eq_false, ↓reduceIte, reduceCtorEq, true_and, and_true, false_and, and_false, false_or, or_false, true_or, or_true, ne_eq, not_false_eq_true, not_true_eq_false, px_f0, px_f1, px_f2, px_f3, kc_L0, kc_L1, if_true, if_false, px_10, true_implies, false_implies, implies_true, on_137, mL_137, rt_137, dp_137, lc_137, nr_137, yn_137, rc_8, e137_0, kc_0, e137_1, e137_2, e137_3, e137_4, e137_5, kc_2048, e137_8, e137_11, e137_12, e137_13, fd_8_26, e137_16, e137_19, e137_20, e137_21, e137_22, e137_23, e137_24, e137_27, e137_28, e137_29, e137_30, mt_8_71, kw_130, np_130, on_130, nr_130, fc_137_130, e137_33, kc_2, e137_34, e137_37, kc_1, e137_38, e137_41, e137_42, e137_43, e137_44, e137_47, e137_50, e137_51, M.o, M.k, n_2048, nI_add, esk, hink, pk, nI_1]
    refine ek_if (nI_leI (a := 2048) (b := k) (by omega) (by omega)) (fun q => absurd q (by omega)) fun _ => ?_
    refine ek_if bI_0 (fun q => ?_) fun q => ?_
    · rw [no (by unfold shK; rw [q]; rfl)]
      exact ih (k + 1) (by omega)
    · have q : imK I k = true := by simpa using q
      obtain ⟨h1, h2⟩ := hm k (by omega) q
      refine px_rd.use (m_sizeOfMark l M P V hi h1 h2) (px_wp_ok (sp := [4]) 60 _ _ _ _ _ ?_)
      simp only [px_ev_nil, px_ev_i, px_ev_l, px_ev_n, px_ev_r, px_wp, px_step, px_tg, px_i1, px_i2, px_l1, px_l2, px_il, px_a1, px_ia, px_iia, px_lki, px_lkl, px_lka, px_lk, px_sto, px_ins, px_del, px_popn, px_inv, px_cat, px_obj, px_arr, px_arq, px_rfv, px_rok, px_tB, px_tI, px_tZ, px_tG, px_tS, px_S, lv_args, Value.category, List.contains_cons, List.contains_nil, List.getElem?_cons_zero, List.getElem?_cons_succ, List.set_cons_zero, List.set_cons_succ, List.length_cons, List.length_nil, List.map_cons, List.map_nil, List.sum_cons, List.sum_nil, List.cons_append, List.nil_append, Option.toList_some, Option.toList_none, px_hold, Fin.isValue, Fin.val_zero, Fin.val_one, Fin.val_two, Nat.reduceBEq, Nat.reduceAdd, Nat.reduceLT, Nat.reduceLeDiff, Nat.reduceEqDiff, Nat.reduceMod, Int.reduceNeg, Int.reduceAdd, Int.reduceLE, Int.reduceLT, Int.reduceToNat, Int.cast_ofNat_Int, Int.ofNat_eq_natCast, Bool.or_self, Bool.or_false, Bool.false_or, Bool.and_false, Bool.and_self, Bool.false_and, Bool.true_and, Bool.false_eq_true, Bool.true_eq_false, ↓reduceIte, reduceCtorEq, true_and, and_true, false_and, and_false, false_or, or_false, true_or, or_true, ne_eq, not_false_eq_true, not_true_eq_false, px_f0, px_f1, px_f2, px_f3, kc_L0, kc_L1, if_true, if_false, px_10, true_implies, false_implies, implies_true, on_137, mL_137, rt_137, dp_137, lc_137, nr_137, yn_137, rc_8, e137_0, kc_0, e137_1, e137_2, e137_3, e137_4, e137_5, kc_2048, e137_8, e137_11, e137_12, e137_13, fd_8_26, e137_16, e137_19, e137_20, e137_21, e137_22, e137_23, e137_24, e137_27, e137_28, e137_29, e137_30, mt_8_71, kw_130, np_130, on_130, nr_130, fc_137_130, e137_33, kc_2, e137_34, e137_37, kc_1, e137_38, e137_41, e137_42, e137_43, e137_44, e137_47, e137_50, e137_51, nI_1]
      refine ek_ifn (nI_eq (a := ilen I ((2 * k : Nat) : Int)) (b := 2) (by omega) (by omega)) (fun w => ?_) fun w => ?_
      · rw [no (by unfold shK; rw [decide_eq_false w, Bool.and_false])]
        exact ih (k + 1) (by omega)
      · have e : cntB (shK I) k + 1 = cntB (shK I) (k + 1) := by
          rw [cntB, shK, q, decide_eq_true w]; rfl
        rw [e]
        exact ih (k + 1) (by omega)
set_option maxRecDepth 100000 in
set_option maxHeartbeats 4000000 in
theorem m_shortsIn (l : Launch) {h : px_H} {ft fa fm fc fb fk fe fp ff fr fg : Nat → Int32} {fd pl tb rw sm : Int32} (M : Mr h ft fa fm fc fb fk fe fp ff fr fg fd pl tb rw sm) {i : Nat} {I : Im} (P : mPic ft fa fm fc fb fk fe fp i I) (V : imV I) (hi : i < 2) (hm : imMk I) : px_rd l 137 [.ref 2560, .int (nI i)] h (.int (nI (cntB (shK I) 2048))) := by
  show px_Ct _ _ _ _ (rdRK h (.int (nI (cntB (shK I) 2048))))
  refine px_Ct.of (by decide) (Nat.le_of_ble_eq_true rfl) (px_wp_ok (sp := [4]) 60 _ _ _ _ _ ?_)
  simp only [px_ev_nil, px_ev_i, px_ev_l, px_ev_n, px_ev_r, px_wp, px_step, px_tg, px_i1, px_i2, px_l1, px_l2, px_il, px_a1, px_ia, px_iia, px_lki, px_lkl, px_lka, px_lk, px_sto, px_ins, px_del, px_popn, px_inv, px_cat, px_obj, px_arr, px_arq, px_rfv, px_rok, px_tB, px_tI, px_tZ, px_tG, px_tS, px_S, lv_args, Value.category, List.contains_cons, List.contains_nil, List.getElem?_cons_zero, List.getElem?_cons_succ, List.set_cons_zero, List.set_cons_succ, List.length_cons, List.length_nil, List.map_cons, List.map_nil, List.sum_cons, List.sum_nil, List.cons_append, List.nil_append, Option.toList_some, Option.toList_none, px_hold, Fin.isValue, Fin.val_zero, Fin.val_one, Fin.val_two, Nat.reduceBEq, Nat.reduceAdd, Nat.reduceLT, Nat.reduceLeDiff, Nat.reduceEqDiff, Nat.reduceMod, Int.reduceNeg, Int.reduceAdd, Int.reduceLE, Int.reduceLT, Int.reduceToNat, Int.cast_ofNat_Int, Int.ofNat_eq_natCast, Bool.or_self, Bool.or_false, Bool.false_or, Bool.and_false, Bool.and_self, Bool.false_and, Bool.true_and, Bool.false_eq_true, Bool.true_eq_false, ↓reduceIte, reduceCtorEq, true_and, and_true, false_and, and_false, false_or, or_false, true_or, or_true, ne_eq, not_false_eq_true, not_true_eq_false, px_f0, px_f1, px_f2, px_f3, kc_L0, kc_L1, if_true, if_false, px_10, true_implies, false_implies, implies_true, on_137, mL_137, rt_137, dp_137, lc_137, nr_137, yn_137, rc_8, e137_0, kc_0, e137_1, e137_2, e137_3, e137_4, e137_5, kc_2048, e137_8, e137_11, e137_12, e137_13, fd_8_26, e137_16, e137_19, e137_20, e137_21, e137_22, e137_23, e137_24, e137_27, e137_28, e137_29, e137_30, mt_8_71, kw_130, np_130, on_130, nr_130, fc_137_130, e137_33, kc_2, e137_34, e137_37, kc_1, e137_38, e137_41, e137_42, e137_43, e137_44, e137_47, e137_50, e137_51]
  exact lp_mshorts l M P V hi hm 2048 0 rfl
theorem ne16 : ((16 : Int32) = 0) = False := by decide
set_option maxRecDepth 100000 in
set_option maxHeartbeats 4000000 in
theorem m_markBytes (l : Launch) {h : px_H} {ft fa fm fc fb fk fe fp ff fr fg : Nat → Int32} {fd pl tb rw sm : Int32} (M : Mr h ft fa fm fc fb fk fe fp ff fr fg fd pl tb rw sm) {i : Nat} {I : Im} (P : mPic ft fa fm fc fb fk fe fp i I) (V : imV I) (hi : i < 2) : px_rd l 134 [.ref 2560, .int (nI i)] h (.int (nI ((imC I 0 + 15) / 16))) := by
  have p1 := P.1 0 (by omega)
  rw [Nat.add_zero] at p1
  have es : (nI (3 * i)).toNatClampNeg = 3 * i := nI_clamp (by omega)
  have hin : vp_in (nI (3 * i)) 6 := pk_in (3 * i) 6 (by omega)
  have hc := (V.1 0 (by omega)).1
  show px_Ct _ _ _ _ (rdRK h (.int (nI ((imC I 0 + 15) / 16))))
  refine px_Ct.of (by decide) (Nat.le_of_ble_eq_true rfl) (px_wp_ok (sp := []) 60 _ _ _ _ _ ?_)
  cases e1 : imT I 0 with
  | false =>
    rw [e1] at p1
    have hz := (V.1 0 (by omega)).2.2.2.2 e1
    simp only [px_ev_nil, px_ev_i, px_ev_l, px_ev_n, px_ev_r, px_wp, px_step, px_tg, px_i1, px_i2, px_l1, px_l2, px_il, px_a1, px_ia, px_iia, px_lki, px_lkl, px_lka, px_lk, px_sto, px_ins, px_del, px_popn, px_inv, px_cat, px_obj, px_arr, px_arq, px_rfv, px_rok, px_tB, px_tI, px_tZ, px_tG, px_tS, px_S, lv_args, Value.category, List.contains_cons, List.contains_nil, List.getElem?_cons_zero, List.getElem?_cons_succ, List.set_cons_zero, List.set_cons_succ, List.length_cons, List.length_nil, List.map_cons, List.map_nil, List.sum_cons, List.sum_nil, List.cons_append, List.nil_append, Option.toList_some, Option.toList_none, px_hold, Fin.isValue, Fin.val_zero, Fin.val_one, Fin.val_two, Nat.reduceBEq, Nat.reduceAdd, Nat.reduceLT, Nat.reduceLeDiff, Nat.reduceEqDiff, Nat.reduceMod, Int.reduceNeg, Int.reduceAdd, Int.reduceLE, Int.reduceLT, Int.reduceToNat, Int.cast_ofNat_Int, Int.ofNat_eq_natCast, Bool.or_self, Bool.or_false, Bool.false_or, Bool.and_false, Bool.and_self, Bool.false_and, Bool.true_and, Bool.false_eq_true, Bool.true_eq_false, ↓reduceIte, reduceCtorEq, true_and, and_true, false_and, and_false, false_or, or_false, true_or, or_true, ne_eq, not_false_eq_true, not_true_eq_false, px_f0, px_f1, px_f2, px_f3, kc_L0, kc_L1, if_true, if_false, px_10, true_implies, false_implies, implies_true, on_134, mL_134, rt_134, dp_134, lc_134, nr_134, yn_134, rc_8, e134_0, e134_1, fd_8_7, e134_4, kc_3, e134_5, e134_6, e134_7, e134_8, e134_11, e134_12, fd_8_20, e134_15, e134_16, e134_17, e134_18, e134_19, kc_15, e134_21, e134_22, kc_16, e134_24, e134_25, e134_28, kc_0, e134_29, M.o, M.t, n_3, hin, es, p1, bI_f]
    exact rdRK.is (by rw [hz.2.2]; rfl)
  | true =>
    rw [e1] at p1
    obtain ⟨-, -, q3, -⟩ := P.2.1 0 (by omega) e1
    rw [Nat.add_zero] at q3
    have e15 : nI (imC I 0) + 15 = nI (imC I 0 + 15) := nI_add _ 15
    have e16 : nI (imC I 0 + 15) / 16 = nI ((imC I 0 + 15) / 16) := pk_div (d := 16) (by omega) (by omega) (by omega)
    simp only [px_ev_nil, px_ev_i, px_ev_l, px_ev_n, px_ev_r, px_wp, px_step, px_tg, px_i1, px_i2, px_l1, px_l2, px_il, px_a1, px_ia, px_iia, px_lki, px_lkl, px_lka, px_lk, px_sto, px_ins, px_del, px_popn, px_inv, px_cat, px_obj, px_arr, px_arq, px_rfv, px_rok, px_tB, px_tI, px_tZ, px_tG, px_tS, px_S, lv_args, Value.category, List.contains_cons, List.contains_nil, List.getElem?_cons_zero, List.getElem?_cons_succ, List.set_cons_zero, List.set_cons_succ, List.length_cons, List.length_nil, List.map_cons, List.map_nil, List.sum_cons, List.sum_nil, List.cons_append, List.nil_append, Option.toList_some, Option.toList_none, px_hold, Fin.isValue, Fin.val_zero, Fin.val_one, Fin.val_two, Nat.reduceBEq, Nat.reduceAdd, Nat.reduceLT, Nat.reduceLeDiff, Nat.reduceEqDiff, Nat.reduceMod, Int.reduceNeg, Int.reduceAdd, Int.reduceLE, Int.reduceLT, Int.reduceToNat, Int.cast_ofNat_Int, Int.ofNat_eq_natCast, Bool.or_self, Bool.or_false, Bool.false_or, Bool.and_false, Bool.and_self, Bool.false_and, Bool.true_and, Bool.false_eq_true, Bool.true_eq_false, ↓reduceIte, reduceCtorEq, true_and, and_true, false_and, and_false, false_or, or_false, true_or, or_true, ne_eq, not_false_eq_true, not_true_eq_false, px_f0, px_f1, px_f2, px_f3, kc_L0, kc_L1, if_true, if_false, px_10, true_implies, false_implies, implies_true, on_134, mL_134, rt_134, dp_134, lc_134, nr_134, yn_134, rc_8, e134_0, e134_1, fd_8_7, e134_4, kc_3, e134_5, e134_6, e134_7, e134_8, e134_11, e134_12, fd_8_20, e134_15, e134_16, e134_17, e134_18, e134_19, kc_15, e134_21, e134_22, kc_16, e134_24, e134_25, e134_28, kc_0, e134_29, M.o, M.t, M.c, n_3, hin, es, p1, q3, bI_t, ne16, e15, e16]
    exact rdRK.rf
def mbp (mk : Nat → Bool) (b n : Nat) : Nat := match n with
  | 0 => 0
  | n + 1 => mbp mk b n + 2 ^ n * b1N (mk (8 * b + n))
theorem mbp_8 (mk : Nat → Bool) (b : Nat) : mbp mk b 8 = mbyte mk b := by
  unfold mbyte
  simp only [mbp, Nat.add_zero, Nat.reducePow]
  omega
theorem sh1 : ∀ k, k < 8 → (1 : Int32) <<< (nI k &&& 31) = nI (2 ^ k) := by decide
set_option maxRecDepth 100000 in
set_option maxHeartbeats 4000000 in
theorem lp_mbyte (l : Launch) {h : px_H} {ft fa fm fc fb fk fe fp ff fr fg : Nat → Int32} {fd pl tb rw sm : Int32} (M : Mr h ft fa fm fc fb fk fe fp ff fr fg fd pl tb rw sm) {i : Nat} {I : Im} (P : mPic ft fa fm fc fb fk fe fp i I) (V : imV I) (hi : i < 2) {b : Nat} (hb : b < 256) : ∀ (d k : Nat), k + d = 8 → px_P l 143 5 [(0, .ref 2560), (1, .int (nI i)), (2, .int (nI b)), (3, .int (nI (mbp (imK I) b k))), (4, .int (nI k))] [] h (rdRK h (.int (nI (mbp (imK I) b 8)))) := by
  intro d
  induction d with
  | zero =>
    intro k hk
    have e : k = 8 := by omega
    subst e
    refine px_go_ok (sp := [5]) 60 ?_
    simp only [px_go, px_ev_nil, px_ev_i, px_ev_l, px_ev_n, px_ev_r, px_wp, px_step, px_tg, px_i1, px_i2, px_l1, px_l2, px_il, px_a1, px_ia, px_iia, px_lki, px_lkl, px_lka, px_lk, px_sto, px_ins, px_del, px_popn, px_inv, px_cat, px_obj, px_arr, px_arq, px_rfv, px_rok, px_tB, px_tI, px_tZ, px_tG, px_tS, px_S, lv_args, Value.category, List.contains_cons, List.contains_nil, List.getElem?_cons_zero, List.getElem?_cons_succ, List.set_cons_zero, List.set_cons_succ, List.length_cons, List.length_nil, List.map_cons, List.map_nil, List.sum_cons, List.sum_nil, List.cons_append, List.nil_append, Option.toList_some, Option.toList_none, px_hold, Fin.isValue, Fin.val_zero, Fin.val_one, Fin.val_two, Nat.reduceBEq, Nat.reduceAdd, Nat.reduceLT, Nat.reduceLeDiff, Nat.reduceEqDiff, Nat.reduceMod, Int.reduceNeg, Int.reduceAdd, Int.reduceLE, Int.reduceLT, Int.reduceToNat, Int.cast_ofNat_Int, Int.ofNat_eq_natCast, Bool.or_self, Bool.or_false, Bool.false_or, Bool.and_false, Bool.and_self, Bool.false_and, Bool.true_and, Bool.false_eq_true, Bool.true_eq_false, ↓reduceIte, reduceCtorEq, true_and, and_true, false_and, and_false, false_or, or_false, true_or, or_true, ne_eq, not_false_eq_true, not_true_eq_false, px_f0, px_f1, px_f2, px_f3, kc_L0, kc_L1, if_true, if_false, px_10, true_implies, false_implies, implies_true, on_143, mL_143, rt_143, dp_143, lc_143, nr_143, yn_143, rc_8, e143_0, kc_0, e143_1, e143_2, e143_3, e143_5, e143_7, kc_8, e143_9, e143_12, e143_13, e143_14, fd_8_26, e143_17, kc_2048, e143_20, e143_21, e143_22, e143_24, e143_25, e143_26, e143_27, e143_29, e143_30, e143_31, e143_34, kc_1, e143_35, e143_37, e143_38, e143_41, e143_42, e143_43, e143_44, e143_47, e143_50, e143_51, M.o, M.k]
    exact ⟨fun _ => rdRK.rf, fun q => absurd (by decide) q⟩
  | succ d ih =>
    intro k hk
    have e8 : (8 : Int32) * nI b = nI (8 * b) := pk_mul 8 b
    have pk := P.2.2.1 (8 * b + k) (by omega)
    rw [← Nat.add_assoc] at pk
    have esk : (nI (2048 * i + 8 * b + k)).toNatClampNeg = 2048 * i + 8 * b + k := nI_clamp (by omega)
    have hink : vp_in (nI (2048 * i + 8 * b + k)) 4096 := pk_in (2048 * i + 8 * b + k) 4096 (by omega)
    refine px_go_ok (sp := [5]) 60 ?_
    simp only [px_go, px_ev_nil, px_ev_i, px_ev_l, px_ev_n, px_ev_r, px_wp, px_step, px_tg, px_i1, px_i2, px_l1, px_l2, px_il, px_a1, px_ia, px_iia, px_lki, px_lkl, px_lka, px_lk, px_sto, px_ins, px_del, px_popn, px_inv, px_cat, px_obj, px_arr, px_arq, px_rfv, px_rok, px_tB, px_tI, px_tZ, px_tG, px_tS, px_S, lv_args, Value.category, List.contains_cons, List.contains_nil, List.getElem?_cons_zero, List.getElem?_cons_succ, List.set_cons_zero, List.set_cons_succ, List.length_cons, List.length_nil, List.map_cons, List.map_nil, List.sum_cons, List.sum_nil, List.cons_append, List.nil_append, Option.toList_some, Option.toList_none, px_hold, Fin.isValue, Fin.val_zero, Fin.val_one, Fin.val_two, Nat.reduceBEq, Nat.reduceAdd, Nat.reduceLT, Nat.reduceLeDiff, Nat.reduceEqDiff, Nat.reduceMod, Int.reduceNeg, Int.reduceAdd, Int.reduceLE, Int.reduceLT, Int.reduceToNat, Int.cast_ofNat_Int, Int.ofNat_eq_natCast, Bool.or_self, Bool.or_false, Bool.false_or, Bool.and_false, Bool.and_self, Bool.false_and, Bool.true_and, Bool.false_eq_true, Bool.true_eq_false, ↓reduceIte, reduceCtorEq, true_and, and_true, false_and, and_false, false_or, or_false, true_or, or_true, ne_eq, not_false_eq_true, not_true_eq_false, px_f0, px_f1, px_f2, px_f3, kc_L0, kc_L1, if_true, if_false, px_10, true_implies, false_implies, implies_true, on_143, mL_143, rt_143, dp_143, lc_143, nr_143, yn_143, rc_8, e143_0, kc_0, e143_1, e143_2, e143_3, e143_5, e143_7, kc_8, e143_9, e143_12, e143_13, e143_14, fd_8_26, e143_17, kc_2048, e143_20, e143_21, e143_22, e143_24, e143_25, e143_26, e143_27, e143_29, e143_30, e143_31, e143_34, kc_1, e143_35, e143_37, e143_38, e143_41, e143_42, e143_43, e143_44, e143_47, e143_50, e143_51, M.o, M.k, n_2048, e8, nI_add, esk, hink, pk, nI_1, sh1 k (by omega)]
    refine ek_if (nI_leI (a := 8) (b := k) (by omega) (by omega)) (fun q => absurd q (by omega)) fun _ => ?_
    refine ek_if bI_0 (fun q => ?_) fun q => ?_
    · have e : nI (mbp (imK I) b k) + 0 = nI (mbp (imK I) b (k + 1)) := by
        rw [mbp, q, Int32.add_zero]; rfl
      rw [e]
      exact ih (k + 1) (by omega)
    · have q : imK I (8 * b + k) = true := by simpa using q
      have e : mbp (imK I) b k + 2 ^ k = mbp (imK I) b (k + 1) := by
        rw [mbp, q]
        show _ = _ + 2 ^ k * 1
        rw [Nat.mul_one]
      rw [e]
      exact ih (k + 1) (by omega)
set_option maxRecDepth 100000 in
set_option maxHeartbeats 4000000 in
theorem m_markByte (l : Launch) {h : px_H} {ft fa fm fc fb fk fe fp ff fr fg : Nat → Int32} {fd pl tb rw sm : Int32} (M : Mr h ft fa fm fc fb fk fe fp ff fr fg fd pl tb rw sm) {i : Nat} {I : Im} (P : mPic ft fa fm fc fb fk fe fp i I) (V : imV I) (hi : i < 2) {b : Nat} (hb : b < 256) : px_rd l 143 [.ref 2560, .int (nI i), .int (nI b)] h (.int (nI (mbyte (imK I) b))) := by
  show px_Ct _ _ _ _ (rdRK h (.int (nI (mbyte (imK I) b))))
  rw [← mbp_8]
  refine px_Ct.of (by decide) (Nat.le_of_ble_eq_true rfl) (px_wp_ok (sp := [5]) 60 _ _ _ _ _ ?_)
  simp only [px_ev_nil, px_ev_i, px_ev_l, px_ev_n, px_ev_r, px_wp, px_step, px_tg, px_i1, px_i2, px_l1, px_l2, px_il, px_a1, px_ia, px_iia, px_lki, px_lkl, px_lka, px_lk, px_sto, px_ins, px_del, px_popn, px_inv, px_cat, px_obj, px_arr, px_arq, px_rfv, px_rok, px_tB, px_tI, px_tZ, px_tG, px_tS, px_S, lv_args, Value.category, List.contains_cons, List.contains_nil, List.getElem?_cons_zero, List.getElem?_cons_succ, List.set_cons_zero, List.set_cons_succ, List.length_cons, List.length_nil, List.map_cons, List.map_nil, List.sum_cons, List.sum_nil, List.cons_append, List.nil_append, Option.toList_some, Option.toList_none, px_hold, Fin.isValue, Fin.val_zero, Fin.val_one, Fin.val_two, Nat.reduceBEq, Nat.reduceAdd, Nat.reduceLT, Nat.reduceLeDiff, Nat.reduceEqDiff, Nat.reduceMod, Int.reduceNeg, Int.reduceAdd, Int.reduceLE, Int.reduceLT, Int.reduceToNat, Int.cast_ofNat_Int, Int.ofNat_eq_natCast, Bool.or_self, Bool.or_false, Bool.false_or, Bool.and_false, Bool.and_self, Bool.false_and, Bool.true_and, Bool.false_eq_true, Bool.true_eq_false, ↓reduceIte, reduceCtorEq, true_and, and_true, false_and, and_false, false_or, or_false, true_or, or_true, ne_eq, not_false_eq_true, not_true_eq_false, px_f0, px_f1, px_f2, px_f3, kc_L0, kc_L1, if_true, if_false, px_10, true_implies, false_implies, implies_true, on_143, mL_143, rt_143, dp_143, lc_143, nr_143, yn_143, rc_8, e143_0, kc_0, e143_1, e143_2, e143_3, e143_5, e143_7, kc_8, e143_9, e143_12, e143_13, e143_14, fd_8_26, e143_17, kc_2048, e143_20, e143_21, e143_22, e143_24, e143_25, e143_26, e143_27, e143_29, e143_30, e143_31, e143_34, kc_1, e143_35, e143_37, e143_38, e143_41, e143_42, e143_43, e143_44, e143_47, e143_50, e143_51]
  exact lp_mbyte l M P V hi hb 8 0 rfl
/-! the sum -/
def smH (h : px_H) (fd pl tb rw sm : Int32) : px_H := px_up h 2560 (.inr (6, [.ref 2624, .ref 2688, .ref 2752, .ref 2816, .ref 2880, .ref 2944, .ref 3008, .ref 3072, .ref 3136, .int fd, .int pl, .int tb, .int rw, .ref 3200, .ref 3264, .int sm]))
theorem smH_up {h : px_H} {fd pl tb rw s s' : Int32} : px_up (smH h fd pl tb rw s) 2560 (.inr (6, [.ref 2624, .ref 2688, .ref 2752, .ref 2816, .ref 2880, .ref 2944, .ref 3008, .ref 3072, .ref 3136, .int fd, .int pl, .int tb, .int rw, .ref 3200, .ref 3264, .int s'])) = smH h fd pl tb rw s' := px_up_up
theorem Mr.sm {h : px_H} {ft fa fm fc fb fk fe fp ff fr fg : Nat → Int32} {fd pl tb rw sm : Int32} (M : Mr h ft fa fm fc fb fk fe fp ff fr fg fd pl tb rw sm) (s : Int32) : Mr (smH h fd pl tb rw s) ft fa fm fc fb fk fe fp ff fr fg fd pl tb rw s := M.uo
theorem smH_id {h : px_H} {ft fa fm fc fb fk fe fp ff fr fg : Nat → Int32} {fd pl tb rw sm : Int32} (M : Mr h ft fa fm fc fb fk fe fp ff fr fg fd pl tb rw sm) : smH h fd pl tb rw sm = h := px_up_id M.o
theorem bv_half {d : Nat} (hd : d < 4294967296) : (BitVec.ofNat 32 d) >>> 1 = BitVec.ofNat 32 (d / 2) := by
  apply BitVec.eq_of_toNat_eq
  rw [BitVec.toNat_ushiftRight, BitVec.toNat_ofNat, BitVec.toNat_ofNat, Nat.shiftRight_eq_div_pow]
  omega
theorem cstep (X : BitVec 32) {d : Nat} (hd : d < 4294967296) : (X ^^^ BitVec.ofNat 32 d) >>> 1 ^^^ (if X.getLsbD 0 = true then P32 else 0#32) = cr1 X ^^^ BitVec.ofNat 32 (d / 2) := by
  unfold cr1
  rw [BitVec.ushiftRight_xor_distrib, bv_half hd, BitVec.xor_assoc, BitVec.xor_comm (BitVec.ofNat 32 (d / 2)), ← BitVec.xor_assoc]
theorem i_ush1 (z : BitVec 32) : ((iB z).toUInt32 >>> (Int32.toUInt32 1 &&& Int32.toUInt32 31)).toInt32 = iB (z >>> 1) := by
  apply Int32.toBitVec_inj.mp
  apply BitVec.eq_of_toNat_eq
  rw [pk_ushr (iB z) 1 1 (by decide)]
  show z.toNat / 2 ^ 1 = (z >>> 1).toNat
  rw [BitVec.toNat_ushiftRight, Nat.shiftRight_eq_div_pow]
theorem i_lsb (z : BitVec 32) : (iB z &&& 1 = 1) ↔ z.getLsbD 0 = true := by
  rw [pk_and (iB z) (m := 1) 1 (by decide)]
  have h2 : (iB z).toBitVec.toNat % 2 ^ 1 = z.toNat % 2 := rfl
  rw [h2, show (1 : Int32) = nI 1 from rfl, nI_eq (by omega) (by omega), BitVec.getLsbD, Nat.testBit_zero]
  simp
set_option maxRecDepth 100000 in
set_option maxHeartbeats 4000000 in
theorem lp_maddB (l : Launch) {h : px_H} {ft fa fm fc fb fk fe fp ff fr fg : Nat → Int32} {fd pl tb rw sm : Int32} (M : Mr h ft fa fm fc fb fk fe fp ff fr fg fd pl tb rw sm) {r : BitVec 32} {b : Nat} (hb : b < 256) {K : px_K} (hK : K none (smH h fd pl tb rw (iB (cby r b))) 0 0) : ∀ (d k : Nat) (L1 : px_L), (L1 = [] ∨ ∃ x, L1 = [(3, .int x)]) → k + d = 8 → px_P l 142 2 ([(0, .ref 2560), (1, .int (nI b)), (2, .int (nI k))] ++ L1) [] (smH h fd pl tb rw (iB (crN k (r ^^^ BitVec.ofNat 32 b) ^^^ BitVec.ofNat 32 (b / 2 ^ k)))) K := by
  intro d
  induction d with
  | zero =>
    intro k L1 hL hk
    have e : k = 8 := by omega
    subst e
    refine px_P.weak (fun q hq => List.mem_append_left L1 hq) ?_
    refine px_go_ok (sp := [2]) 60 ?_
    simp only [px_go, px_ev_nil, px_ev_i, px_ev_l, px_ev_n, px_ev_r, px_wp, px_step, px_tg, px_i1, px_i2, px_l1, px_l2, px_il, px_a1, px_ia, px_iia, px_lki, px_lkl, px_lka, px_lk, px_sto, px_ins, px_del, px_popn, px_inv, px_cat, px_obj, px_arr, px_arq, px_rfv, px_rok, px_tB, px_tI, px_tZ, px_tG, px_tS, px_S, lv_args, Value.category, List.contains_cons, List.contains_nil, List.getElem?_cons_zero, List.getElem?_cons_succ, List.set_cons_zero, List.set_cons_succ, List.length_cons, List.length_nil, List.map_cons, List.map_nil, List.sum_cons, List.sum_nil, List.cons_append, List.nil_append, Option.toList_some, Option.toList_none, px_hold, Fin.isValue, Fin.val_zero, Fin.val_one, Fin.val_two, Nat.reduceBEq, Nat.reduceAdd, Nat.reduceLT, Nat.reduceLeDiff, Nat.reduceEqDiff, Nat.reduceMod, Int.reduceNeg, Int.reduceAdd, Int.reduceLE, Int.reduceLT, Int.reduceToNat, Int.cast_ofNat_Int, Int.ofNat_eq_natCast, Bool.or_self, Bool.or_false, Bool.false_or, Bool.and_false, Bool.and_self, Bool.false_and, Bool.true_and, Bool.false_eq_true, Bool.true_eq_false, ↓reduceIte, reduceCtorEq, true_and, and_true, false_and, and_false, false_or, or_false, true_or, or_true, ne_eq, not_false_eq_true, not_true_eq_false, px_f0, px_f1, px_f2, px_f3, kc_L0, kc_L1, if_true, if_false, px_10, true_implies, false_implies, implies_true, on_142, mL_142, rt_142, dp_142, lc_142, nr_142, yn_142, rc_8, e142_0, kc_0, e142_1, e142_2, e142_3, kc_8, e142_5, e142_8, e142_9, fd_8_88, e142_12, e142_13, e142_14, e142_15, e142_16, kc_1, e142_17, e142_18, e142_19, e142_20, e142_21, e142_24, e142_25, e142_26, fin_6_15, ft_6_15, e142_29, e142_30, e142_31, e142_34, e142_35, e142_36, e142_39, ld_8_91, e142_41, e142_42, e142_45, e142_48, e142_51, (M.sm _).o]
    refine ⟨fun _ => ?_, fun q => absurd (by decide) q⟩
    rw [show b / 2 ^ 8 = 0 by omega, show BitVec.ofNat 32 0 = 0#32 from rfl, BitVec.xor_zero]
    exact hK
  | succ d ih =>
    intro k L1 hL hk
    have h1 : b / 2 ^ k ≤ b := Nat.div_le_self _ _
    have esh := n_shr (b := b) (k := k) (by omega) (by omega)
    have e2 : b / 2 ^ (k + 1) = b / 2 ^ k / 2 := by rw [Nat.pow_succ, Nat.div_div_eq_div_mul]
    generalize hX : crN k (r ^^^ BitVec.ofNat 32 b) = X
    have hX1 : crN (k + 1) (r ^^^ BitVec.ofNat 32 b) = cr1 X := by rw [← hX]; rfl
    have ih := fun L1 hL => ih (k + 1) L1 hL (by omega)
    rw [hX1, e2] at ih
    generalize hd : b / 2 ^ k = q at ih esh h1
    have ex : iB (X ^^^ BitVec.ofNat 32 q) ^^^ nI q = iB X := by
      show iB ((X ^^^ BitVec.ofNat 32 q) ^^^ BitVec.ofNat 32 q) = iB X
      rw [BitVec.xor_assoc, BitVec.xor_self, BitVec.xor_zero]
    have cs := cstep X (d := q) (by omega)
    refine px_P.weak (fun q hq => List.mem_append_left L1 hq) ?_
    refine px_go_ok (sp := [2]) 60 ?_
    simp only [px_go, px_ev_nil, px_ev_i, px_ev_l, px_ev_n, px_ev_r, px_wp, px_step, px_tg, px_i1, px_i2, px_l1, px_l2, px_il, px_a1, px_ia, px_iia, px_lki, px_lkl, px_lka, px_lk, px_sto, px_ins, px_del, px_popn, px_inv, px_cat, px_obj, px_arr, px_arq, px_rfv, px_rok, px_tB, px_tI, px_tZ, px_tG, px_tS, px_S, lv_args, Value.category, List.contains_cons, List.contains_nil, List.getElem?_cons_zero, List.getElem?_cons_succ, List.set_cons_zero, List.set_cons_succ, List.length_cons, List.length_nil, List.map_cons, List.map_nil, List.sum_cons, List.sum_nil, List.cons_append, List.nil_append, Option.toList_some, Option.toList_none, px_hold, Fin.isValue, Fin.val_zero, Fin.val_one, Fin.val_two, Nat.reduceBEq, Nat.reduceAdd, Nat.reduceLT, Nat.reduceLeDiff, Nat.reduceEqDiff, Nat.reduceMod, Int.reduceNeg, Int.reduceAdd, Int.reduceLE, Int.reduceLT, Int.reduceToNat, Int.cast_ofNat_Int, Int.ofNat_eq_natCast, Bool.or_self, Bool.or_false, Bool.false_or, Bool.and_false, Bool.and_self, Bool.false_and, Bool.true_and, Bool.false_eq_true, Bool.true_eq_false, ↓reduceIte, reduceCtorEq, true_and, and_true, false_and, and_false, false_or, or_false, true_or, or_true, ne_eq, not_false_eq_true, not_true_eq_false, px_f0, px_f1, px_f2, px_f3, kc_L0, kc_L1, if_true, if_false, px_10, true_implies, false_implies, implies_true, on_142, mL_142, rt_142, dp_142, lc_142, nr_142, yn_142, rc_8, e142_0, kc_0, e142_1, e142_2, e142_3, kc_8, e142_5, e142_8, e142_9, fd_8_88, e142_12, e142_13, e142_14, e142_15, e142_16, kc_1, e142_17, e142_18, e142_19, e142_20, e142_21, e142_24, e142_25, e142_26, fin_6_15, ft_6_15, e142_29, e142_30, e142_31, e142_34, e142_35, e142_36, e142_39, ld_8_91, e142_41, e142_42, e142_45, e142_48, e142_51, (M.sm _).o, px_up_self, esh, ex, i_ush1, px_fit_int, nI_1, smH_up]
    refine ek_if (nI_leI (a := 8) (b := k) (by omega) (by omega)) (fun z => absurd z (by omega)) fun _ => ?_
    refine ek_ifn (i_lsb X) (fun z => ?_) fun z => ?_
    · rw [if_neg z, BitVec.xor_zero] at cs
      rw [cs]
      exact ih [(3, .int (iB X &&& 1))] (Or.inr ⟨_, rfl⟩)
    · rw [if_pos z] at cs
      have e4 : iB ((X ^^^ BitVec.ofNat 32 q) >>> 1) ^^^ (-306674912) = iB (cr1 X ^^^ BitVec.ofNat 32 (q / 2)) := by
        rw [← cs]; rfl
      rw [e4]
      exact ih [(3, .int (iB X &&& 1))] (Or.inr ⟨_, rfl⟩)
def smK (h : px_H) (fd pl tb rw s : Int32) : px_K := fun r h' mc ms => r = none ∧ h' = smH h fd pl tb rw s ∧ mc = 0 ∧ ms = 0
set_option maxRecDepth 100000 in
set_option maxHeartbeats 4000000 in
theorem m_addByte (l : Launch) {h : px_H} {ft fa fm fc fb fk fe fp ff fr fg : Nat → Int32} {fd pl tb rw sm : Int32} (M : Mr h ft fa fm fc fb fk fe fp ff fr fg fd pl tb rw sm) {r : BitVec 32} {b : Nat} (hb : b < 256) : px_Ct l 142 [.ref 2560, .int (nI b)] (smH h fd pl tb rw (iB r)) (smK h fd pl tb rw (iB (cby r b))) := by
  refine px_Ct.of (by decide) (Nat.le_of_ble_eq_true rfl) (px_wp_ok (sp := [2]) 60 _ _ _ _ _ ?_)
  simp only [px_ev_nil, px_ev_i, px_ev_l, px_ev_n, px_ev_r, px_wp, px_step, px_tg, px_i1, px_i2, px_l1, px_l2, px_il, px_a1, px_ia, px_iia, px_lki, px_lkl, px_lka, px_lk, px_sto, px_ins, px_del, px_popn, px_inv, px_cat, px_obj, px_arr, px_arq, px_rfv, px_rok, px_tB, px_tI, px_tZ, px_tG, px_tS, px_S, lv_args, Value.category, List.contains_cons, List.contains_nil, List.getElem?_cons_zero, List.getElem?_cons_succ, List.set_cons_zero, List.set_cons_succ, List.length_cons, List.length_nil, List.map_cons, List.map_nil, List.sum_cons, List.sum_nil, List.cons_append, List.nil_append, Option.toList_some, Option.toList_none, px_hold, Fin.isValue, Fin.val_zero, Fin.val_one, Fin.val_two, Nat.reduceBEq, Nat.reduceAdd, Nat.reduceLT, Nat.reduceLeDiff, Nat.reduceEqDiff, Nat.reduceMod, Int.reduceNeg, Int.reduceAdd, Int.reduceLE, Int.reduceLT, Int.reduceToNat, Int.cast_ofNat_Int, Int.ofNat_eq_natCast, Bool.or_self, Bool.or_false, Bool.false_or, Bool.and_false, Bool.and_self, Bool.false_and, Bool.true_and, Bool.false_eq_true, Bool.true_eq_false, ↓reduceIte, reduceCtorEq, true_and, and_true, false_and, and_false, false_or, or_false, true_or, or_true, ne_eq, not_false_eq_true, not_true_eq_false, px_f0, px_f1, px_f2, px_f3, kc_L0, kc_L1, if_true, if_false, px_10, true_implies, false_implies, implies_true, on_142, mL_142, rt_142, dp_142, lc_142, nr_142, yn_142, rc_8, e142_0, kc_0, e142_1, e142_2, e142_3, kc_8, e142_5, e142_8, e142_9, fd_8_88, e142_12, e142_13, e142_14, e142_15, e142_16, kc_1, e142_17, e142_18, e142_19, e142_20, e142_21, e142_24, e142_25, e142_26, fin_6_15, ft_6_15, e142_29, e142_30, e142_31, e142_34, e142_35, e142_36, e142_39, ld_8_91, e142_41, e142_42, e142_45, e142_48, e142_51]
  have := lp_maddB l M hb (r := r) (K := smK h fd pl tb rw (iB (cby r b))) ⟨rfl, rfl, rfl, rfl⟩ 8 0 [] (Or.inl rfl) rfl
  rw [show crN 0 (r ^^^ BitVec.ofNat 32 b) = r ^^^ BitVec.ofNat 32 b from rfl, Nat.pow_zero, Nat.div_one, BitVec.xor_assoc, BitVec.xor_self, BitVec.xor_zero] at this
  exact this
theorem sh8s : ∀ k, k < 4 → (((8 : Int32) * nI k &&& 31).toBitVec.smod 32).toNat = 8 * k := by decide
theorem i_nby (v : Int32) {k : Nat} (hk : k < 4) : (v >>> ((8 : Int32) * nI k &&& 31)) &&& 255 = nI (nby v k) := by
  apply Int32.toBitVec_inj.mp
  apply BitVec.eq_of_toNat_eq
  show ((v.toBitVec.sshiftRight (((8 : Int32) * nI k &&& 31).toBitVec.smod 32).toNat) &&& 255#32).toNat = _
  rw [sh8s k hk, BitVec.toNat_and]
  have h255 : (255#32).toNat = 2 ^ 8 - 1 := rfl
  rw [h255, Nat.and_two_pow_sub_one_eq_mod, pk_tn (by unfold nby; omega)]
  unfold nby
  apply Nat.eq_of_testBit_eq
  intro i
  rw [Nat.testBit_mod_two_pow, show (256 : Nat) = 2 ^ 8 from rfl, Nat.testBit_mod_two_pow, Nat.testBit_div_two_pow]
  by_cases hi : i < 8
  · rw [decide_eq_true hi, Bool.true_and, Bool.true_and]
    show (BitVec.sshiftRight v.toBitVec (8 * k)).getLsbD i = v.toBitVec.getLsbD (i + 8 * k)
    rw [BitVec.getLsbD_sshiftRight]
    rw [Nat.add_comm (8 * k) i, if_pos (by omega), decide_eq_false (by omega)]
    rfl
  · rw [decide_eq_false hi, Bool.false_and, Bool.false_and]
theorem nby_lt (v : Int32) (k : Nat) : nby v k < 256 := by unfold nby; omega
set_option maxRecDepth 100000 in
set_option maxHeartbeats 4000000 in
theorem lp_maddN (l : Launch) {h : px_H} {ft fa fm fc fb fk fe fp ff fr fg : Nat → Int32} {fd pl tb rw sm : Int32} (M : Mr h ft fa fm fc fb fk fe fp ff fr fg fd pl tb rw sm) {r : BitVec 32} {v : Int32} {K : px_K} (hK : K none (smH h fd pl tb rw (iB (cnum r v))) 0 0) : ∀ (d k : Nat), k + d = 4 → px_P l 141 2 [(0, .ref 2560), (1, .int v), (2, .int (nI k))] [] (smH h fd pl tb rw (iB (cfold r k (nby v)))) K := by
  intro d
  induction d with
  | zero =>
    intro k hk
    have e : k = 4 := by omega
    subst e
    refine px_go_ok (sp := [2]) 60 ?_
    simp only [px_go, px_ev_nil, px_ev_i, px_ev_l, px_ev_n, px_ev_r, px_wp, px_step, px_tg, px_i1, px_i2, px_l1, px_l2, px_il, px_a1, px_ia, px_iia, px_lki, px_lkl, px_lka, px_lk, px_sto, px_ins, px_del, px_popn, px_inv, px_cat, px_obj, px_arr, px_arq, px_rfv, px_rok, px_tB, px_tI, px_tZ, px_tG, px_tS, px_S, lv_args, Value.category, List.contains_cons, List.contains_nil, List.getElem?_cons_zero, List.getElem?_cons_succ, List.set_cons_zero, List.set_cons_succ, List.length_cons, List.length_nil, List.map_cons, List.map_nil, List.sum_cons, List.sum_nil, List.cons_append, List.nil_append, Option.toList_some, Option.toList_none, px_hold, Fin.isValue, Fin.val_zero, Fin.val_one, Fin.val_two, Nat.reduceBEq, Nat.reduceAdd, Nat.reduceLT, Nat.reduceLeDiff, Nat.reduceEqDiff, Nat.reduceMod, Int.reduceNeg, Int.reduceAdd, Int.reduceLE, Int.reduceLT, Int.reduceToNat, Int.cast_ofNat_Int, Int.ofNat_eq_natCast, Bool.or_self, Bool.or_false, Bool.false_or, Bool.and_false, Bool.and_self, Bool.false_and, Bool.true_and, Bool.false_eq_true, Bool.true_eq_false, ↓reduceIte, reduceCtorEq, true_and, and_true, false_and, and_false, false_or, or_false, true_or, or_true, ne_eq, not_false_eq_true, not_true_eq_false, px_f0, px_f1, px_f2, px_f3, kc_L0, kc_L1, if_true, if_false, px_10, true_implies, false_implies, implies_true, on_141, mL_141, rt_141, dp_141, lc_141, nr_141, yn_141, rc_8, e141_0, kc_0, e141_1, e141_2, e141_3, kc_4, e141_4, e141_7, e141_8, e141_9, kc_8, e141_11, e141_12, e141_13, e141_14, kc_255, e141_17, e141_18, mt_8_92, kw_142, np_142, on_142, nr_142, fc_141_142, e141_21, kc_1, e141_24, e141_27, (M.sm _).o]
    exact ⟨fun _ => hK, fun q => absurd (by decide) q⟩
  | succ d ih =>
    intro k hk
    refine px_go_ok (sp := [2]) 60 ?_
    simp only [px_go, px_ev_nil, px_ev_i, px_ev_l, px_ev_n, px_ev_r, px_wp, px_step, px_tg, px_i1, px_i2, px_l1, px_l2, px_il, px_a1, px_ia, px_iia, px_lki, px_lkl, px_lka, px_lk, px_sto, px_ins, px_del, px_popn, px_inv, px_cat, px_obj, px_arr, px_arq, px_rfv, px_rok, px_tB, px_tI, px_tZ, px_tG, px_tS, px_S, lv_args, Value.category, List.contains_cons, List.contains_nil, List.getElem?_cons_zero, List.getElem?_cons_succ, List.set_cons_zero, List.set_cons_succ, List.length_cons, List.length_nil, List.map_cons, List.map_nil, List.sum_cons, List.sum_nil, List.cons_append, List.nil_append, Option.toList_some, Option.toList_none, px_hold, Fin.isValue, Fin.val_zero, Fin.val_one, Fin.val_two, Nat.reduceBEq, Nat.reduceAdd, Nat.reduceLT, Nat.reduceLeDiff, Nat.reduceEqDiff, Nat.reduceMod, Int.reduceNeg, Int.reduceAdd, Int.reduceLE, Int.reduceLT, Int.reduceToNat, Int.cast_ofNat_Int, Int.ofNat_eq_natCast, Bool.or_self, Bool.or_false, Bool.false_or, Bool.and_false, Bool.and_self, Bool.false_and, Bool.true_and, Bool.false_eq_true, Bool.true_eq_false, ↓reduceIte, reduceCtorEq, true_and, and_true, false_and, and_false, false_or, or_false, true_or, or_true, ne_eq, not_false_eq_true, not_true_eq_false, px_f0, px_f1, px_f2, px_f3, kc_L0, kc_L1, if_true, if_false, px_10, true_implies, false_implies, implies_true, on_141, mL_141, rt_141, dp_141, lc_141, nr_141, yn_141, rc_8, e141_0, kc_0, e141_1, e141_2, e141_3, kc_4, e141_4, e141_7, e141_8, e141_9, kc_8, e141_11, e141_12, e141_13, e141_14, kc_255, e141_17, e141_18, mt_8_92, kw_142, np_142, on_142, nr_142, fc_141_142, e141_21, kc_1, e141_24, e141_27, (M.sm _).o, i_nby v (show k < 4 by omega)]
    refine ek_if (nI_leI (a := 4) (b := k) (by omega) (by omega)) (fun z => absurd z (by omega)) fun _ => ?_
    refine px_Ct.use (m_addByte l M (nby_lt v k)) ?_
    rintro _ _ _ _ ⟨rfl, rfl, rfl, rfl⟩
    simp only [Nat.zero_add]
    refine px_wp_ok (sp := [2]) 60 _ _ _ _ _ ?_
    simp only [px_ev_nil, px_ev_i, px_ev_l, px_ev_n, px_ev_r, px_wp, px_step, px_tg, px_i1, px_i2, px_l1, px_l2, px_il, px_a1, px_ia, px_iia, px_lki, px_lkl, px_lka, px_lk, px_sto, px_ins, px_del, px_popn, px_inv, px_cat, px_obj, px_arr, px_arq, px_rfv, px_rok, px_tB, px_tI, px_tZ, px_tG, px_tS, px_S, lv_args, Value.category, List.contains_cons, List.contains_nil, List.getElem?_cons_zero, List.getElem?_cons_succ, List.set_cons_zero, List.set_cons_succ, List.length_cons, List.length_nil, List.map_cons, List.map_nil, List.sum_cons, List.sum_nil, List.cons_append, List.nil_append, Option.toList_some, Option.toList_none, px_hold, Fin.isValue, Fin.val_zero, Fin.val_one, Fin.val_two, Nat.reduceBEq, Nat.reduceAdd, Nat.reduceLT, Nat.reduceLeDiff, Nat.reduceEqDiff, Nat.reduceMod, Int.reduceNeg, Int.reduceAdd, Int.reduceLE, Int.reduceLT, Int.reduceToNat, Int.cast_ofNat_Int, Int.ofNat_eq_natCast, Bool.or_self, Bool.or_false, Bool.false_or, Bool.and_false, Bool.and_self, Bool.false_and, Bool.true_and, Bool.false_eq_true, Bool.true_eq_false, ↓reduceIte, reduceCtorEq, true_and, and_true, false_and, and_false, false_or, or_false, true_or, or_true, ne_eq, not_false_eq_true, not_true_eq_false, px_f0, px_f1, px_f2, px_f3, kc_L0, kc_L1, if_true, if_false, px_10, true_implies, false_implies, implies_true, on_141, mL_141, rt_141, dp_141, lc_141, nr_141, yn_141, rc_8, e141_0, kc_0, e141_1, e141_2, e141_3, kc_4, e141_4, e141_7, e141_8, e141_9, kc_8, e141_11, e141_12, e141_13, e141_14, kc_255, e141_17, e141_18, mt_8_92, kw_142, np_142, on_142, nr_142, fc_141_142, e141_21, kc_1, e141_24, e141_27, nI_1]
    exact ih (k + 1) (by omega)
set_option maxRecDepth 100000 in
set_option maxHeartbeats 4000000 in
theorem m_addNumber (l : Launch) {h : px_H} {ft fa fm fc fb fk fe fp ff fr fg : Nat → Int32} {fd pl tb rw sm : Int32} (M : Mr h ft fa fm fc fb fk fe fp ff fr fg fd pl tb rw sm) {r : BitVec 32} {v : Int32} : px_Ct l 141 [.ref 2560, .int v] (smH h fd pl tb rw (iB r)) (smK h fd pl tb rw (iB (cnum r v))) := by
  refine px_Ct.of (by decide) (Nat.le_of_ble_eq_true rfl) (px_wp_ok (sp := [2]) 60 _ _ _ _ _ ?_)
  simp only [px_ev_nil, px_ev_i, px_ev_l, px_ev_n, px_ev_r, px_wp, px_step, px_tg, px_i1, px_i2, px_l1, px_l2, px_il, px_a1, px_ia, px_iia, px_lki, px_lkl, px_lka, px_lk, px_sto, px_ins, px_del, px_popn, px_inv, px_cat, px_obj, px_arr, px_arq, px_rfv, px_rok, px_tB, px_tI, px_tZ, px_tG, px_tS, px_S, lv_args, Value.category, List.contains_cons, List.contains_nil, List.getElem?_cons_zero, List.getElem?_cons_succ, List.set_cons_zero, List.set_cons_succ, List.length_cons, List.length_nil, List.map_cons, List.map_nil, List.sum_cons, List.sum_nil, List.cons_append, List.nil_append, Option.toList_some, Option.toList_none, px_hold, Fin.isValue, Fin.val_zero, Fin.val_one, Fin.val_two, Nat.reduceBEq, Nat.reduceAdd, Nat.reduceLT, Nat.reduceLeDiff, Nat.reduceEqDiff, Nat.reduceMod, Int.reduceNeg, Int.reduceAdd, Int.reduceLE, Int.reduceLT, Int.reduceToNat, Int.cast_ofNat_Int, Int.ofNat_eq_natCast, Bool.or_self, Bool.or_false, Bool.false_or, Bool.and_false, Bool.and_self, Bool.false_and, Bool.true_and, Bool.false_eq_true, Bool.true_eq_false, ↓reduceIte, reduceCtorEq, true_and, and_true, false_and, and_false, false_or, or_false, true_or, or_true, ne_eq, not_false_eq_true, not_true_eq_false, px_f0, px_f1, px_f2, px_f3, kc_L0, kc_L1, if_true, if_false, px_10, true_implies, false_implies, implies_true, on_141, mL_141, rt_141, dp_141, lc_141, nr_141, yn_141, rc_8, e141_0, kc_0, e141_1, e141_2, e141_3, kc_4, e141_4, e141_7, e141_8, e141_9, kc_8, e141_11, e141_12, e141_13, e141_14, kc_255, e141_17, e141_18, mt_8_92, kw_142, np_142, on_142, nr_142, fc_141_142, e141_21, kc_1, e141_24, e141_27]
  exact lp_maddN l M (K := smK h fd pl tb rw (iB (cnum r v))) ⟨rfl, rfl, rfl, rfl⟩ 4 0 rfl
