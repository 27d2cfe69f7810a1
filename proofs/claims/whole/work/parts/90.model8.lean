/-! ImageFileModel: what is seen -/
theorem in12 : vp_in 1 2 := pk_in 1 2 (by omega)
theorem cl1 : (1 : Int32).toNatClampNeg = 1 := rfl
set_option maxRecDepth 100000 in
set_option maxHeartbeats 4000000 in
theorem m_rightsOf (l : Launch) {h : px_H} {s : Nat} (hs : s < 3) : px_rd l 138 [.int (nI s)] h (.int (nI (prm s))) := by
  show px_Ct _ _ _ _ (rdRK h (.int (nI (prm s))))
  refine px_Ct.of (by decide) (Nat.le_of_ble_eq_true rfl) (px_wp_ok (sp := []) 60 _ _ _ _ _ ?_)
  simp only [px_ev_nil, px_ev_i, px_ev_l, px_ev_n, px_ev_r, px_wp, px_step, px_tg, px_i1, px_i2, px_l1, px_l2, px_il, px_a1, px_ia, px_iia, px_lki, px_lkl, px_lka, px_lk, px_sto, px_ins, px_del, px_popn, px_inv, px_cat, px_obj, px_arr, px_arq, px_rfv, px_rok, px_tB, px_tI, px_tZ, px_tG, px_tS, px_S, lv_args, Value.category, List.contains_cons, List.contains_nil, List.getElem?_cons_zero, List.getElem?_cons_succ, List.set_cons_zero, List.set_cons_succ, List.length_cons, List.length_nil, List.map_cons, List.map_nil, List.sum_cons, List.sum_nil, List.cons_append, List.nil_append, Option.toList_some, Option.toList_none, px_hold, Fin.isValue, Fin.val_zero, Fin.val_one, Fin.val_two, Nat.reduceBEq, Nat.reduceAdd, Nat.reduceLT, Nat.reduceLeDiff, Nat.reduceEqDiff, Nat.reduceMod, Int.reduceNeg, Int.reduceAdd, Int.reduceLE, Int.reduceLT, Int.reduceToNat, Int.cast_ofNat_Int, Int.ofNat_eq_natCast, Bool.or_self, Bool.or_false, Bool.false_or, Bool.and_false, Bool.and_self, Bool.false_and, Bool.true_and, Bool.false_eq_true, Bool.true_eq_false, ↓reduceIte, reduceCtorEq, true_and, and_true, false_and, and_false, false_or, or_false, true_or, or_true, ne_eq, not_false_eq_true, not_true_eq_false, px_f0, px_f1, px_f2, px_f3, kc_L0, kc_L1, if_true, if_false, px_10, true_implies, false_implies, implies_true, on_138, mL_138, rt_138, dp_138, lc_138, nr_138, yn_138, rc_8, e138_0, e138_1, e138_4, kc_5, e138_5, e138_8, e138_9, kc_1, e138_10, e138_13, kc_4, e138_14, e138_17, kc_6, e138_19]
  unfold prm
  refine ek_ifn (nI_eq (a := s) (b := 0) (by omega) (by omega)) (fun w => ?_) fun w => ?_
  · rw [if_neg w]
    refine ek_ifn (nI_eq (a := s) (b := 1) (by omega) (by omega)) (fun w => ?_) fun w => ?_
    · rw [if_neg w]
      exact rdRK.rf
    · rw [if_pos w]
      exact rdRK.rf
  · rw [if_pos w]
    exact rdRK.rf
set_option maxRecDepth 100000 in
set_option maxHeartbeats 4000000 in
theorem m_byteInX (l : Launch) {h : px_H} {I J : Im} {c : Nat} {B : Nat → Nat} {pl a : Int32} (X : Mdw h I J c B pl) (VJ : imV J) : px_rd l 175 [.ref 2560, .int a] h (.int (memI J a)) := by
  obtain ⟨ft, fa, fm, fc, fb, fk, fe, fp, ff, fr, fg, tb, rw, sm, M, P0, P1, hF, hO⟩ := X
  exact m_byteIn l M P1 VJ
set_option maxRecDepth 100000 in
set_option maxHeartbeats 4000000 in
theorem m_rights (l : Launch) {h : px_H} {I J : Im} {c : Nat} {B : Nat → Nat} {pl a : Int32} (X : Mdw h I J c B pl) (VJ : imV J) : px_rd l 178 [.ref 2560, .int a] h (.int (riV J a)) := by
  obtain ⟨ft, fa, fm, fc, fb, fk, fe, fp, ff, fr, fg, tb, rw, sm, M, P0, P1, hF, hO⟩ := X
  show px_Ct _ _ _ _ (rdRK h (.int (riV J a)))
  unfold riV
  refine px_Ct.of (by decide) (Nat.le_of_ble_eq_true rfl) (px_wp_ok (sp := []) 60 _ _ _ _ _ ?_)
  simp only [px_ev_nil, px_ev_i, px_ev_l, px_ev_n, px_ev_r, px_wp, px_step, px_tg, px_i1, px_i2, px_l1, px_l2, px_il, px_a1, px_ia, px_iia, px_lki, px_lkl, px_lka, px_lk, px_sto, px_ins, px_del, px_popn, px_inv, px_cat, px_obj, px_arr, px_arq, px_rfv, px_rok, px_tB, px_tI, px_tZ, px_tG, px_tS, px_S, lv_args, Value.category, List.contains_cons, List.contains_nil, List.getElem?_cons_zero, List.getElem?_cons_succ, List.set_cons_zero, List.set_cons_succ, List.length_cons, List.length_nil, List.map_cons, List.map_nil, List.sum_cons, List.sum_nil, List.cons_append, List.nil_append, Option.toList_some, Option.toList_none, px_hold, Fin.isValue, Fin.val_zero, Fin.val_one, Fin.val_two, Nat.reduceBEq, Nat.reduceAdd, Nat.reduceLT, Nat.reduceLeDiff, Nat.reduceEqDiff, Nat.reduceMod, Int.reduceNeg, Int.reduceAdd, Int.reduceLE, Int.reduceLT, Int.reduceToNat, Int.cast_ofNat_Int, Int.ofNat_eq_natCast, Bool.or_self, Bool.or_false, Bool.false_or, Bool.and_false, Bool.and_self, Bool.false_and, Bool.true_and, Bool.false_eq_true, Bool.true_eq_false, ↓reduceIte, reduceCtorEq, true_and, and_true, false_and, and_false, false_or, or_false, true_or, or_true, ne_eq, not_false_eq_true, not_true_eq_false, px_f0, px_f1, px_f2, px_f3, kc_L0, kc_L1, if_true, if_false, px_10, true_implies, false_implies, implies_true, on_178, mL_178, rt_178, dp_178, lc_178, nr_178, yn_178, rc_8, e178_0, e178_1, e178_2, mt_8_227, kw_176, np_176, on_176, nr_176, fc_178_176, e178_5, e178_6, e178_7, kc_m1, e178_8, e178_11, kc_0, e178_12, e178_15, e178_16, kc_3, e178_17, e178_18, mt_8_126, kw_138, np_138, on_138, nr_138, fc_178_138, e178_21, M.o]
  refine px_rd.use (m_segmentAt l M P1 VJ) (px_wp_ok (sp := []) 60 _ _ _ _ _ ?_)
  cases e : srch (inS J a) 3 0 with
  | none =>
    simp only [px_ev_nil, px_ev_i, px_ev_l, px_ev_n, px_ev_r, px_wp, px_step, px_tg, px_i1, px_i2, px_l1, px_l2, px_il, px_a1, px_ia, px_iia, px_lki, px_lkl, px_lka, px_lk, px_sto, px_ins, px_del, px_popn, px_inv, px_cat, px_obj, px_arr, px_arq, px_rfv, px_rok, px_tB, px_tI, px_tZ, px_tG, px_tS, px_S, lv_args, Value.category, List.contains_cons, List.contains_nil, List.getElem?_cons_zero, List.getElem?_cons_succ, List.set_cons_zero, List.set_cons_succ, List.length_cons, List.length_nil, List.map_cons, List.map_nil, List.sum_cons, List.sum_nil, List.cons_append, List.nil_append, Option.toList_some, Option.toList_none, px_hold, Fin.isValue, Fin.val_zero, Fin.val_one, Fin.val_two, Nat.reduceBEq, Nat.reduceAdd, Nat.reduceLT, Nat.reduceLeDiff, Nat.reduceEqDiff, Nat.reduceMod, Int.reduceNeg, Int.reduceAdd, Int.reduceLE, Int.reduceLT, Int.reduceToNat, Int.cast_ofNat_Int, Int.ofNat_eq_natCast, Bool.or_self, Bool.or_false, Bool.false_or, Bool.and_false, Bool.and_self, Bool.false_and, Bool.true_and, Bool.false_eq_true, Bool.true_eq_false, ↓reduceIte, reduceCtorEq, true_and, and_true, false_and, and_false, false_or, or_false, true_or, or_true, ne_eq, not_false_eq_true, not_true_eq_false, px_f0, px_f1, px_f2, px_f3, kc_L0, kc_L1, if_true, if_false, px_10, true_implies, false_implies, implies_true, on_178, mL_178, rt_178, dp_178, lc_178, nr_178, yn_178, rc_8, e178_0, e178_1, e178_2, mt_8_227, kw_176, np_176, on_176, nr_176, fc_178_176, e178_5, e178_6, e178_7, kc_m1, e178_8, e178_11, kc_0, e178_12, e178_15, e178_16, kc_3, e178_17, e178_18, mt_8_126, kw_138, np_138, on_138, nr_138, fc_178_138, e178_21, oI_nn]
    exact rdRK.rf
  | some s =>
    obtain ⟨-, hs, -⟩ := srch_lt e
    have esub : nI (3 * 1 + s) - 3 = nI s := by
      rw [show (3 : Int32) = nI 3 from rfl, pk_sub (by omega)]
      congr 1
      omega
    simp only [px_ev_nil, px_ev_i, px_ev_l, px_ev_n, px_ev_r, px_wp, px_step, px_tg, px_i1, px_i2, px_l1, px_l2, px_il, px_a1, px_ia, px_iia, px_lki, px_lkl, px_lka, px_lk, px_sto, px_ins, px_del, px_popn, px_inv, px_cat, px_obj, px_arr, px_arq, px_rfv, px_rok, px_tB, px_tI, px_tZ, px_tG, px_tS, px_S, lv_args, Value.category, List.contains_cons, List.contains_nil, List.getElem?_cons_zero, List.getElem?_cons_succ, List.set_cons_zero, List.set_cons_succ, List.length_cons, List.length_nil, List.map_cons, List.map_nil, List.sum_cons, List.sum_nil, List.cons_append, List.nil_append, Option.toList_some, Option.toList_none, px_hold, Fin.isValue, Fin.val_zero, Fin.val_one, Fin.val_two, Nat.reduceBEq, Nat.reduceAdd, Nat.reduceLT, Nat.reduceLeDiff, Nat.reduceEqDiff, Nat.reduceMod, Int.reduceNeg, Int.reduceAdd, Int.reduceLE, Int.reduceLT, Int.reduceToNat, Int.cast_ofNat_Int, Int.ofNat_eq_natCast, Bool.or_self, Bool.or_false, Bool.false_or, Bool.and_false, Bool.and_self, Bool.false_and, Bool.true_and, Bool.false_eq_true, Bool.true_eq_false, ↓reduceIte, reduceCtorEq, true_and, and_true, false_and, and_false, false_or, or_false, true_or, or_true, ne_eq, not_false_eq_true, not_true_eq_false, px_f0, px_f1, px_f2, px_f3, kc_L0, kc_L1, if_true, if_false, px_10, true_implies, false_implies, implies_true, on_178, mL_178, rt_178, dp_178, lc_178, nr_178, yn_178, rc_8, e178_0, e178_1, e178_2, mt_8_227, kw_176, np_176, on_176, nr_176, fc_178_176, e178_5, e178_6, e178_7, kc_m1, e178_8, e178_11, kc_0, e178_12, e178_15, e178_16, kc_3, e178_17, e178_18, mt_8_126, kw_138, np_138, on_138, nr_138, fc_178_138, e178_21, oI_s, esub]
    refine ⟨fun _ => ?_, fun q => absurd q (n_m1 (by omega))⟩
    refine px_rd.use (m_rightsOf l (by omega)) (px_wp_ok (sp := []) 60 _ _ _ _ _ ?_)
    simp only [px_ev_nil, px_ev_i, px_ev_l, px_ev_n, px_ev_r, px_wp, px_step, px_tg, px_i1, px_i2, px_l1, px_l2, px_il, px_a1, px_ia, px_iia, px_lki, px_lkl, px_lka, px_lk, px_sto, px_ins, px_del, px_popn, px_inv, px_cat, px_obj, px_arr, px_arq, px_rfv, px_rok, px_tB, px_tI, px_tZ, px_tG, px_tS, px_S, lv_args, Value.category, List.contains_cons, List.contains_nil, List.getElem?_cons_zero, List.getElem?_cons_succ, List.set_cons_zero, List.set_cons_succ, List.length_cons, List.length_nil, List.map_cons, List.map_nil, List.sum_cons, List.sum_nil, List.cons_append, List.nil_append, Option.toList_some, Option.toList_none, px_hold, Fin.isValue, Fin.val_zero, Fin.val_one, Fin.val_two, Nat.reduceBEq, Nat.reduceAdd, Nat.reduceLT, Nat.reduceLeDiff, Nat.reduceEqDiff, Nat.reduceMod, Int.reduceNeg, Int.reduceAdd, Int.reduceLE, Int.reduceLT, Int.reduceToNat, Int.cast_ofNat_Int, Int.ofNat_eq_natCast, Bool.or_self, Bool.or_false, Bool.false_or, Bool.and_false, Bool.and_self, Bool.false_and, Bool.true_and, Bool.false_eq_true, Bool.true_eq_false, ↓reduceIte, reduceCtorEq, true_and, and_true, false_and, and_false, false_or, or_false, true_or, or_true, ne_eq, not_false_eq_true, not_true_eq_false, px_f0, px_f1, px_f2, px_f3, kc_L0, kc_L1, if_true, if_false, px_10, true_implies, false_implies, implies_true, on_178, mL_178, rt_178, dp_178, lc_178, nr_178, yn_178, rc_8, e178_0, e178_1, e178_2, mt_8_227, kw_176, np_176, on_176, nr_176, fc_178_176, e178_5, e178_6, e178_7, kc_m1, e178_8, e178_11, kc_0, e178_12, e178_15, e178_16, kc_3, e178_17, e178_18, mt_8_126, kw_138, np_138, on_138, nr_138, fc_178_138, e178_21]
    exact rdRK.rf
theorem in36 : vp_in 3 6 := pk_in 3 6 (by omega)
theorem cl3 : (3 : Int32).toNatClampNeg = 3 := rfl
set_option maxRecDepth 100000 in
set_option maxHeartbeats 4000000 in
theorem m_marked (l : Launch) {h : px_H} {I J : Im} {c : Nat} {B : Nat → Nat} {pl a : Int32} (X : Mdw h I J c B pl) (VJ : imV J) (hm : imMk J) : px_rd l 179 [.ref 2560, .int a] h (.int (mdV J a)) := by
  obtain ⟨ft, fa, fm, fc, fb, fk, fe, fp, ff, fr, fg, tb, rw, sm, M, P0, P1, hF, hO⟩ := X
  show px_Ct _ _ _ _ (rdRK h (.int (mdV J a)))
  unfold mdV
  refine px_Ct.of (by decide) (Nat.le_of_ble_eq_true rfl) (px_wp_ok (sp := []) 60 _ _ _ _ _ ?_)
  simp only [px_ev_nil, px_ev_i, px_ev_l, px_ev_n, px_ev_r, px_wp, px_step, px_tg, px_i1, px_i2, px_l1, px_l2, px_il, px_a1, px_ia, px_iia, px_lki, px_lkl, px_lka, px_lk, px_sto, px_ins, px_del, px_popn, px_inv, px_cat, px_obj, px_arr, px_arq, px_rfv, px_rok, px_tB, px_tI, px_tZ, px_tG, px_tS, px_S, lv_args, Value.category, List.contains_cons, List.contains_nil, List.getElem?_cons_zero, List.getElem?_cons_succ, List.set_cons_zero, List.set_cons_succ, List.length_cons, List.length_nil, List.map_cons, List.map_nil, List.sum_cons, List.sum_nil, List.cons_append, List.nil_append, Option.toList_some, Option.toList_none, px_hold, Fin.isValue, Fin.val_zero, Fin.val_one, Fin.val_two, Nat.reduceBEq, Nat.reduceAdd, Nat.reduceLT, Nat.reduceLeDiff, Nat.reduceEqDiff, Nat.reduceMod, Int.reduceNeg, Int.reduceAdd, Int.reduceLE, Int.reduceLT, Int.reduceToNat, Int.cast_ofNat_Int, Int.ofNat_eq_natCast, Bool.or_self, Bool.or_false, Bool.false_or, Bool.and_false, Bool.and_self, Bool.false_and, Bool.true_and, Bool.false_eq_true, Bool.true_eq_false, ↓reduceIte, reduceCtorEq, true_and, and_true, false_and, and_false, false_or, or_false, true_or, or_true, ne_eq, not_false_eq_true, not_true_eq_false, px_f0, px_f1, px_f2, px_f3, kc_L0, kc_L1, if_true, if_false, px_10, true_implies, false_implies, implies_true, on_179, mL_179, rt_179, dp_179, lc_179, nr_179, yn_179, rc_8, e179_0, e179_1, kc_1, e179_2, e179_3, mt_8_85, kw_132, np_132, on_132, nr_132, fc_179_132, e179_6, e179_9, e179_10, e179_11, e179_12, e179_13, fd_8_13, e179_16, kc_3, e179_17, e179_18, e179_19, kc_2, e179_20, e179_21, mt_8_71, kw_130, np_130, on_130, nr_130, fc_179_130, e179_24, e179_27, kc_0, e179_28, M.o]
  refine px_rd.use (m_isMarkAt l M P1 VJ (by omega)) (px_wp_ok (sp := [9]) 60 _ _ _ _ _ ?_)
  simp only [px_ev_nil, px_ev_i, px_ev_l, px_ev_n, px_ev_r, px_wp, px_step, px_tg, px_i1, px_i2, px_l1, px_l2, px_il, px_a1, px_ia, px_iia, px_lki, px_lkl, px_lka, px_lk, px_sto, px_ins, px_del, px_popn, px_inv, px_cat, px_obj, px_arr, px_arq, px_rfv, px_rok, px_tB, px_tI, px_tZ, px_tG, px_tS, px_S, lv_args, Value.category, List.contains_cons, List.contains_nil, List.getElem?_cons_zero, List.getElem?_cons_succ, List.set_cons_zero, List.set_cons_succ, List.length_cons, List.length_nil, List.map_cons, List.map_nil, List.sum_cons, List.sum_nil, List.cons_append, List.nil_append, Option.toList_some, Option.toList_none, px_hold, Fin.isValue, Fin.val_zero, Fin.val_one, Fin.val_two, Nat.reduceBEq, Nat.reduceAdd, Nat.reduceLT, Nat.reduceLeDiff, Nat.reduceEqDiff, Nat.reduceMod, Int.reduceNeg, Int.reduceAdd, Int.reduceLE, Int.reduceLT, Int.reduceToNat, Int.cast_ofNat_Int, Int.ofNat_eq_natCast, Bool.or_self, Bool.or_false, Bool.false_or, Bool.and_false, Bool.and_self, Bool.false_and, Bool.true_and, Bool.false_eq_true, Bool.true_eq_false, ↓reduceIte, reduceCtorEq, true_and, and_true, false_and, and_false, false_or, or_false, true_or, or_true, ne_eq, not_false_eq_true, not_true_eq_false, px_f0, px_f1, px_f2, px_f3, kc_L0, kc_L1, if_true, if_false, px_10, true_implies, false_implies, implies_true, on_179, mL_179, rt_179, dp_179, lc_179, nr_179, yn_179, rc_8, e179_0, e179_1, kc_1, e179_2, e179_3, mt_8_85, kw_132, np_132, on_132, nr_132, fc_179_132, e179_6, e179_9, e179_10, e179_11, e179_12, e179_13, fd_8_13, e179_16, kc_3, e179_17, e179_18, e179_19, kc_2, e179_20, e179_21, mt_8_71, kw_130, np_130, on_130, nr_130, fc_179_130, e179_24, e179_27, kc_0, e179_28]
  refine ek_if bI_0 (fun q => ?_) fun q => ?_
  · rw [if_neg (by rw [q]; decide)]
    exact rdRK.rf
  have q : hmk J (offI J a) = true := by simpa using q
  rw [if_pos q]
  unfold hmk okm at q
  obtain ⟨q1, q2⟩ := Bool.and_eq_true_iff.mp q
  have q1 := of_decide_eq_true q1
  generalize ho : offI J a = w at q1 q2
  unfold offI at ho
  by_cases z : imT J 0 = true ∧ (imA J 0 : Int) ≤ a.toInt
  · rw [if_pos z] at ho
    have ha := i_hi a
    obtain ⟨n, hn, rfl⟩ : ∃ n, n < 2147483648 ∧ a = nI n := ⟨a.toInt.toNat, by omega, (i_of (by omega)).symm⟩
    have en := i_n hn
    rw [en] at ho z
    obtain ⟨m, rfl⟩ : ∃ m : Nat, w = ((2 * m : Nat) : Int) := ⟨w.toNat / 2, by omega⟩
    have e2 : ((2 * m : Nat) : Int).toNat / 2 = m := by omega
    rw [e2] at q2
    obtain ⟨h1, h2⟩ := hm m (by omega) q2
    obtain ⟨p1, -⟩ := P1.2.1 0 (by omega) h1
    have p1 : fa 3 = nI (imA J 0) := p1
    have hA := (VJ.1 0 (by omega)).2.1
    have esub : nI n - nI (imA J 0) = nI (2 * m) := by rw [pk_sub (by omega)]; congr 1; omega
    have ediv : nI (2 * m) / 2 = nI m := by
      rw [show (2 : Int32) = nI 2 from rfl, pk_div (by omega) (by omega) (by omega), show 2 * m / 2 = m by omega]
    refine px_go_ok (sp := []) 60 ?_
    simp only [px_go, px_ev_nil, px_ev_i, px_ev_l, px_ev_n, px_ev_r, px_wp, px_step, px_tg, px_i1, px_i2, px_l1, px_l2, px_il, px_a1, px_ia, px_iia, px_lki, px_lkl, px_lka, px_lk, px_sto, px_ins, px_del, px_popn, px_inv, px_cat, px_obj, px_arr, px_arq, px_rfv, px_rok, px_tB, px_tI, px_tZ, px_tG, px_tS, px_S, lv_args, Value.category, List.contains_cons, List.contains_nil, List.getElem?_cons_zero, List.getElem?_cons_succ, List.set_cons_zero, List.set_cons_succ, List.length_cons, List.length_nil, List.map_cons, List.map_nil, List.sum_cons, List.sum_nil, List.cons_append, List.nil_append, Option.toList_some, Option.toList_none, px_hold, Fin.isValue, Fin.val_zero, Fin.val_one, Fin.val_two, Nat.reduceBEq, Nat.reduceAdd, Nat.reduceLT, Nat.reduceLeDiff, Nat.reduceEqDiff, Nat.reduceMod, Int.reduceNeg, Int.reduceAdd, Int.reduceLE, Int.reduceLT, Int.reduceToNat, Int.cast_ofNat_Int, Int.ofNat_eq_natCast, Bool.or_self, Bool.or_false, Bool.false_or, Bool.and_false, Bool.and_self, Bool.false_and, Bool.true_and, Bool.false_eq_true, Bool.true_eq_false, ↓reduceIte, reduceCtorEq, true_and, and_true, false_and, and_false, false_or, or_false, true_or, or_true, ne_eq, not_false_eq_true, not_true_eq_false, px_f0, px_f1, px_f2, px_f3, kc_L0, kc_L1, if_true, if_false, px_10, true_implies, false_implies, implies_true, on_179, mL_179, rt_179, dp_179, lc_179, nr_179, yn_179, rc_8, e179_0, e179_1, kc_1, e179_2, e179_3, mt_8_85, kw_132, np_132, on_132, nr_132, fc_179_132, e179_6, e179_9, e179_10, e179_11, e179_12, e179_13, fd_8_13, e179_16, kc_3, e179_17, e179_18, e179_19, kc_2, e179_20, e179_21, mt_8_71, kw_130, np_130, on_130, nr_130, fc_179_130, e179_24, e179_27, kc_0, e179_28, M.o, M.a, in36, cl3, p1, esub, ne2, ediv]
    refine px_rd.use (m_sizeOfMark l M P1 VJ (by omega) h1 h2) (px_wp_ok (sp := []) 60 _ _ _ _ _ ?_)
    simp only [px_ev_nil, px_ev_i, px_ev_l, px_ev_n, px_ev_r, px_wp, px_step, px_tg, px_i1, px_i2, px_l1, px_l2, px_il, px_a1, px_ia, px_iia, px_lki, px_lkl, px_lka, px_lk, px_sto, px_ins, px_del, px_popn, px_inv, px_cat, px_obj, px_arr, px_arq, px_rfv, px_rok, px_tB, px_tI, px_tZ, px_tG, px_tS, px_S, lv_args, Value.category, List.contains_cons, List.contains_nil, List.getElem?_cons_zero, List.getElem?_cons_succ, List.set_cons_zero, List.set_cons_succ, List.length_cons, List.length_nil, List.map_cons, List.map_nil, List.sum_cons, List.sum_nil, List.cons_append, List.nil_append, Option.toList_some, Option.toList_none, px_hold, Fin.isValue, Fin.val_zero, Fin.val_one, Fin.val_two, Nat.reduceBEq, Nat.reduceAdd, Nat.reduceLT, Nat.reduceLeDiff, Nat.reduceEqDiff, Nat.reduceMod, Int.reduceNeg, Int.reduceAdd, Int.reduceLE, Int.reduceLT, Int.reduceToNat, Int.cast_ofNat_Int, Int.ofNat_eq_natCast, Bool.or_self, Bool.or_false, Bool.false_or, Bool.and_false, Bool.and_self, Bool.false_and, Bool.true_and, Bool.false_eq_true, Bool.true_eq_false, ↓reduceIte, reduceCtorEq, true_and, and_true, false_and, and_false, false_or, or_false, true_or, or_true, ne_eq, not_false_eq_true, not_true_eq_false, px_f0, px_f1, px_f2, px_f3, kc_L0, kc_L1, if_true, if_false, px_10, true_implies, false_implies, implies_true, on_179, mL_179, rt_179, dp_179, lc_179, nr_179, yn_179, rc_8, e179_0, e179_1, kc_1, e179_2, e179_3, mt_8_85, kw_132, np_132, on_132, nr_132, fc_179_132, e179_6, e179_9, e179_10, e179_11, e179_12, e179_13, fd_8_13, e179_16, kc_3, e179_17, e179_18, e179_19, kc_2, e179_20, e179_21, mt_8_71, kw_130, np_130, on_130, nr_130, fc_179_130, e179_24, e179_27, kc_0, e179_28]
    exact rdRK.rf
  · rw [if_neg z] at ho
    omega
/-! the last mark below -/
theorem srcd_ev {I : Im} : ∀ n, n ≤ 4096 → srcd (fun o => hmk I (o : Nat)) n = (srcd (imK I) ((n + 1) / 2)).map (fun k => 2 * k)
  | 0, _ => rfl
  | n + 1, hn => by
    have ih := srcd_ev (I := I) n (by omega)
    rw [srcd]
    by_cases e : n % 2 = 0
    · obtain ⟨m, rfl⟩ : ∃ m, n = 2 * m := ⟨n / 2, by omega⟩
      have h1 : hmk I ((2 * m : Nat) : Int) = imK I m := hmk_even (by omega)
      rw [show (2 * m + 1 + 1) / 2 = m + 1 by omega, srcd]
      by_cases z : imK I m = true
      · rw [if_pos z]
        have z2 : hmk I ((2 * m : Nat) : Int) = true := by rw [h1]; exact z
        rw [if_pos z2]
        rfl
      · rw [if_neg z]
        have z2 : ¬ hmk I ((2 * m : Nat) : Int) = true := by rw [h1]; exact z
        rw [if_neg z2, ih, show (2 * m + 1) / 2 = m by omega]
    · have z2 : ¬ hmk I ((n : Nat) : Int) = true := by
        unfold hmk okm
        rw [decide_eq_false (by omega), Bool.false_and]
        decide
      rw [if_neg z2, ih, show (n + 1 + 1) / 2 = (n + 1) / 2 by omega]
theorem srcd_cut {p q : Nat → Bool} {m : Nat} : ∀ n, (∀ k, k < n → q k = (p k && decide (k < m))) → m ≤ n → srcd q n = srcd p m
  | 0, _, hm => by rw [show m = 0 by omega]; rfl
  | n + 1, h, hm => by
    by_cases e : m = n + 1
    · subst e
      have : ∀ n', n' ≤ n + 1 → srcd q n' = srcd p n' := by
        intro n' hn'
        induction n' with
        | zero => rfl
        | succ k ih =>
          rw [srcd, srcd, ih (by omega), h k (by omega), decide_eq_true (by omega), Bool.and_true]
      exact this _ (Nat.le_refl _)
    · rw [srcd, h n (by omega), decide_eq_false (by omega), Bool.and_false, if_neg (by decide)]
      exact srcd_cut n (fun k hk => h k (by omega)) (by omega)
def mbQ (J : Im) (a : Int32) (k : Nat) : Bool := imK J k && decide (((imA J 0 + 2 * k : Nat) : Int) ≤ a.toInt)
set_option maxRecDepth 100000 in
set_option maxHeartbeats 4000000 in
theorem lp_mbelow (l : Launch) {h : px_H} {ft fa fm fc fb fk fe fp ff fr fg : Nat → Int32} {fd pl tb rw sm : Int32} (M : Mr h ft fa fm fc fb fk fe fp ff fr fg fd pl tb rw sm) {J : Im} (P : mPic ft fa fm fc fb fk fe fp 1 J) (V : imV J) {a : Int32} (ht : imT J 0 = true) : ∀ (d k : Nat), k + d = 2048 → px_P l 180 4 [(0, .ref 2560), (1, .int a), (2, .int (oI (srcd (mbQ J a) k) (fun k => imA J 0 + 2 * k))), (3, .int (nI k))] [] h (rdRK h (.int (oI (srcd (mbQ J a) 2048) (fun k => imA J 0 + 2 * k)))) := by
  have p1 := P.1 0 (by omega)
  have p1 : ft 3 = bI (imT J 0) := p1
  rw [ht] at p1
  obtain ⟨q1, -⟩ := P.2.1 0 (by omega) ht
  have q1 : fa 3 = nI (imA J 0) := q1
  have hA := (V.1 0 (by omega)).2.1
  intro d
  induction d with
  | zero =>
    intro k hk
    have e : k = 2048 := by omega
    subst e
    refine px_go_ok (sp := [4]) 60 ?_
    simp only [px_go, px_ev_nil, px_ev_i, px_ev_l, px_ev_n, px_ev_r, px_wp, px_step, px_tg, px_i1, px_i2, px_l1, px_l2, px_il, px_a1, px_ia, px_iia, px_lki, px_lkl, px_lka, px_lk, px_sto, px_ins, px_del, px_popn, px_inv, px_cat, px_obj, px_arr, px_arq, px_rfv, px_rok, px_tB, px_tI, px_tZ, px_tG, px_tS, px_S, lv_args, Value.category, List.contains_cons, List.contains_nil, List.getElem?_cons_zero, List.getElem?_cons_succ, List.set_cons_zero, List.set_cons_succ, List.length_cons, List.length_nil, List.map_cons, List.map_nil, List.sum_cons, List.sum_nil, List.cons_append, List.nil_append, Option.toList_some, Option.toList_none, px_hold, Fin.isValue, Fin.val_zero, Fin.val_one, Fin.val_two, Nat.reduceBEq, Nat.reduceAdd, Nat.reduceLT, Nat.reduceLeDiff, Nat.reduceEqDiff, Nat.reduceMod, Int.reduceNeg, Int.reduceAdd, Int.reduceLE, Int.reduceLT, Int.reduceToNat, Int.cast_ofNat_Int, Int.ofNat_eq_natCast, Bool.or_self, Bool.or_false, Bool.false_or, Bool.and_false, Bool.and_self, Bool.false_and, Bool.true_and, Bool.false_eq_true, Bool.true_eq_false, ↓reduceIte, reduceCtorEq, true_and, and_true, false_and, and_false, false_or, or_false, true_or, or_true, ne_eq, not_false_eq_true, not_true_eq_false, px_f0, px_f1, px_f2, px_f3, kc_L0, kc_L1, if_true, if_false, px_10, true_implies, false_implies, implies_true, on_180, mL_180, rt_180, dp_180, lc_180, nr_180, yn_180, rc_8, e180_0, kc_m1, e180_1, e180_2, kc_0, e180_3, e180_4, e180_5, kc_2048, e180_8, e180_11, e180_12, fd_8_7, e180_15, kc_3, e180_16, e180_17, e180_20, e180_21, fd_8_26, e180_24, e180_27, e180_28, e180_29, e180_30, e180_33, e180_34, fd_8_13, e180_37, e180_38, e180_39, kc_2, e180_40, e180_41, e180_42, e180_43, e180_44, e180_47, e180_48, e180_51, e180_52, e180_53, e180_54, e180_55, e180_56, e180_57, e180_58, kc_1, e180_61, e180_64, e180_65, M.o, M.t, M.k, in36, cl3]
    exact ⟨fun _ => rdRK.rf, fun q => absurd (by decide) q⟩
  | succ d ih =>
    intro k hk
    have e2 : (2048 : Int32) + nI k = nI (2048 * 1 + k) := nI_add 2048 k
    have pk := P.2.2.1 k (by omega)
    have esk : (nI (2048 * 1 + k)).toNatClampNeg = 2048 * 1 + k := nI_clamp (by omega)
    have hink : vp_in (nI (2048 * 1 + k)) 4096 := pk_in (2048 * 1 + k) 4096 (by omega)
    have ex := i_n (n := imA J 0 + 2 * k) (by omega)
    refine px_go_ok (sp := [4]) 60 ?_
    simp only [px_go, px_ev_nil, px_ev_i, px_ev_l, px_ev_n, px_ev_r, px_wp, px_step, px_tg, px_i1, px_i2, px_l1, px_l2, px_il, px_a1, px_ia, px_iia, px_lki, px_lkl, px_lka, px_lk, px_sto, px_ins, px_del, px_popn, px_inv, px_cat, px_obj, px_arr, px_arq, px_rfv, px_rok, px_tB, px_tI, px_tZ, px_tG, px_tS, px_S, lv_args, Value.category, List.contains_cons, List.contains_nil, List.getElem?_cons_zero, List.getElem?_cons_succ, List.set_cons_zero, List.set_cons_succ, List.length_cons, List.length_nil, List.map_cons, List.map_nil, List.sum_cons, List.sum_nil, List.cons_append, List.nil_append, Option.toList_some, Option.toList_none, px_hold, Fin.isValue, Fin.val_zero, Fin.val_one, Fin.val_two, Nat.reduceBEq, Nat.reduceAdd, Nat.reduceLT, Nat.reduceLeDiff, Nat.reduceEqDiff, Nat.reduceMod, Int.reduceNeg, Int.reduceAdd, Int.reduceLE, Int.reduceLT, Int.reduceToNat, Int.cast_ofNat_Int, Int.ofNat_eq_natCast, Bool.or_self, Bool.or_false, Bool.false_or, Bool.and_false, Bool.and_self, Bool.false_and, Bool.true_and, Bool.false_eq_true, Bool.true_eq_false, ↓reduceIte, reduceCtorEq, true_and, and_true, false_and, and_false, false_or, or_false, true_or, or_true, ne_eq, not_false_eq_true, not_true_eq_false, px_f0, px_f1, px_f2, px_f3, kc_L0, kc_L1, if_true, if_false, px_10, true_implies, false_implies, implies_true, on_180, mL_180, rt_180, dp_180, lc_180, nr_180, yn_180, rc_8, e180_0, kc_m1, e180_1, e180_2, kc_0, e180_3, e180_4, e180_5, kc_2048, e180_8, e180_11, e180_12, fd_8_7, e180_15, kc_3, e180_16, e180_17, e180_20, e180_21, fd_8_26, e180_24, e180_27, e180_28, e180_29, e180_30, e180_33, e180_34, fd_8_13, e180_37, e180_38, e180_39, kc_2, e180_40, e180_41, e180_42, e180_43, e180_44, e180_47, e180_48, e180_51, e180_52, e180_53, e180_54, e180_55, e180_56, e180_57, e180_58, kc_1, e180_61, e180_64, e180_65, M.o, M.t, M.k, M.a, in36, cl3, p1, bI_t, q1, e2, esk, hink, pk, n_2, nI_add, nI_1]
    refine ek_if (nI_leI (a := 2048) (b := k) (by omega) (by omega)) (fun q => absurd q (by omega)) fun _ => ?_
    have no : mbQ J a k = false → srcd (mbQ J a) (k + 1) = srcd (mbQ J a) k := by
      intro z
      rw [srcd, z, if_neg (by decide)]
    refine ek_if bI_0 (fun w => ?_) fun w => ?_
    · rw [← no (by unfold mbQ; rw [w]; rfl)]
      exact ih (k + 1) (by omega)
    have w : imK J k = true := by simpa using w
    refine ek_if (i_lt (a := a) (b := nI (imA J 0 + 2 * k))) (fun z => ?_) fun z => ?_
    · rw [ex] at z
      rw [← no (by unfold mbQ; rw [decide_eq_false (by omega), Bool.and_false])]
      exact ih (k + 1) (by omega)
    · rw [ex] at z
      have y : srcd (mbQ J a) (k + 1) = some k := by
        rw [srcd, if_pos (by unfold mbQ; rw [w, decide_eq_true (by omega)]; rfl)]
      have := ih (k + 1) (by omega)
      rw [y] at this
      exact this
set_option maxRecDepth 100000 in
set_option maxHeartbeats 4000000 in
theorem m_markBelow (l : Launch) {h : px_H} {I J : Im} {c : Nat} {B : Nat → Nat} {pl a : Int32} (X : Mdw h I J c B pl) (VJ : imV J) : px_rd l 180 [.ref 2560, .int a] h (.int (lastM J a)) := by
  obtain ⟨ft, fa, fm, fc, fb, fk, fe, fp, ff, fr, fg, tb, rw, sm, M, P0, P1, hF, hO⟩ := X
  have p1 := P1.1 0 (by omega)
  have p1 : ft 3 = bI (imT J 0) := p1
  have hA := (VJ.1 0 (by omega)).2.1
  show px_Ct _ _ _ _ (rdRK h (.int (lastM J a)))
  refine px_Ct.of (by decide) (Nat.le_of_ble_eq_true rfl) (px_wp_ok (sp := [4]) 60 _ _ _ _ _ ?_)
  simp only [px_ev_nil, px_ev_i, px_ev_l, px_ev_n, px_ev_r, px_wp, px_step, px_tg, px_i1, px_i2, px_l1, px_l2, px_il, px_a1, px_ia, px_iia, px_lki, px_lkl, px_lka, px_lk, px_sto, px_ins, px_del, px_popn, px_inv, px_cat, px_obj, px_arr, px_arq, px_rfv, px_rok, px_tB, px_tI, px_tZ, px_tG, px_tS, px_S, lv_args, Value.category, List.contains_cons, List.contains_nil, List.getElem?_cons_zero, List.getElem?_cons_succ, List.set_cons_zero, List.set_cons_succ, List.length_cons, List.length_nil, List.map_cons, List.map_nil, List.sum_cons, List.sum_nil, List.cons_append, List.nil_append, Option.toList_some, Option.toList_none, px_hold, Fin.isValue, Fin.val_zero, Fin.val_one, Fin.val_two, Nat.reduceBEq, Nat.reduceAdd, Nat.reduceLT, Nat.reduceLeDiff, Nat.reduceEqDiff, Nat.reduceMod, Int.reduceNeg, Int.reduceAdd, Int.reduceLE, Int.reduceLT, Int.reduceToNat, Int.cast_ofNat_Int, Int.ofNat_eq_natCast, Bool.or_self, Bool.or_false, Bool.false_or, Bool.and_false, Bool.and_self, Bool.false_and, Bool.true_and, Bool.false_eq_true, Bool.true_eq_false, ↓reduceIte, reduceCtorEq, true_and, and_true, false_and, and_false, false_or, or_false, true_or, or_true, ne_eq, not_false_eq_true, not_true_eq_false, px_f0, px_f1, px_f2, px_f3, kc_L0, kc_L1, if_true, if_false, px_10, true_implies, false_implies, implies_true, on_180, mL_180, rt_180, dp_180, lc_180, nr_180, yn_180, rc_8, e180_0, kc_m1, e180_1, e180_2, kc_0, e180_3, e180_4, e180_5, kc_2048, e180_8, e180_11, e180_12, fd_8_7, e180_15, kc_3, e180_16, e180_17, e180_20, e180_21, fd_8_26, e180_24, e180_27, e180_28, e180_29, e180_30, e180_33, e180_34, fd_8_13, e180_37, e180_38, e180_39, kc_2, e180_40, e180_41, e180_42, e180_43, e180_44, e180_47, e180_48, e180_51, e180_52, e180_53, e180_54, e180_55, e180_56, e180_57, e180_58, kc_1, e180_61, e180_64, e180_65]
  cases e1 : imT J 0 with
  | false =>
    rw [e1] at p1
    refine px_go_ok (sp := [4]) 60 ?_
    simp only [px_go, px_ev_nil, px_ev_i, px_ev_l, px_ev_n, px_ev_r, px_wp, px_step, px_tg, px_i1, px_i2, px_l1, px_l2, px_il, px_a1, px_ia, px_iia, px_lki, px_lkl, px_lka, px_lk, px_sto, px_ins, px_del, px_popn, px_inv, px_cat, px_obj, px_arr, px_arq, px_rfv, px_rok, px_tB, px_tI, px_tZ, px_tG, px_tS, px_S, lv_args, Value.category, List.contains_cons, List.contains_nil, List.getElem?_cons_zero, List.getElem?_cons_succ, List.set_cons_zero, List.set_cons_succ, List.length_cons, List.length_nil, List.map_cons, List.map_nil, List.sum_cons, List.sum_nil, List.cons_append, List.nil_append, Option.toList_some, Option.toList_none, px_hold, Fin.isValue, Fin.val_zero, Fin.val_one, Fin.val_two, Nat.reduceBEq, Nat.reduceAdd, Nat.reduceLT, Nat.reduceLeDiff, Nat.reduceEqDiff, Nat.reduceMod, Int.reduceNeg, Int.reduceAdd, Int.reduceLE, Int.reduceLT, Int.reduceToNat, Int.cast_ofNat_Int, Int.ofNat_eq_natCast, Bool.or_self, Bool.or_false, Bool.false_or, Bool.and_false, Bool.and_self, Bool.false_and, Bool.true_and, Bool.false_eq_true, Bool.true_eq_false, ↓reduceIte, reduceCtorEq, true_and, and_true, false_and, and_false, false_or, or_false, true_or, or_true, ne_eq, not_false_eq_true, not_true_eq_false, px_f0, px_f1, px_f2, px_f3, kc_L0, kc_L1, if_true, if_false, px_10, true_implies, false_implies, implies_true, on_180, mL_180, rt_180, dp_180, lc_180, nr_180, yn_180, rc_8, e180_0, kc_m1, e180_1, e180_2, kc_0, e180_3, e180_4, e180_5, kc_2048, e180_8, e180_11, e180_12, fd_8_7, e180_15, kc_3, e180_16, e180_17, e180_20, e180_21, fd_8_26, e180_24, e180_27, e180_28, e180_29, e180_30, e180_33, e180_34, fd_8_13, e180_37, e180_38, e180_39, kc_2, e180_40, e180_41, e180_42, e180_43, e180_44, e180_47, e180_48, e180_51, e180_52, e180_53, e180_54, e180_55, e180_56, e180_57, e180_58, kc_1, e180_61, e180_64, e180_65, M.o, M.t, in36, cl3, p1, bI_f]
    have eo : offI J a = -1 := by unfold offI; rw [if_neg (fun z => by rw [e1] at z; cases z.1)]
    have el : lastM J a = -1 := by unfold lastM; rw [eo]; rfl
    rw [el]
    refine ⟨fun q => absurd q (by decide), fun _ => rdRK.rf⟩
  | true =>
    have main := lp_mbelow l M P1 VJ (a := a) e1 2048 0 rfl
    have e : lastM J a = oI (srcd (mbQ J a) 2048) (fun k => imA J 0 + 2 * k) := by
      unfold lastM offI
      by_cases z : (imA J 0 : Int) ≤ a.toInt
      · rw [if_pos ⟨e1, z⟩]
        have hi := i_hi a
        rw [srcd_ev _ (by omega), srcd_cut (p := imK J) (m := ((min (a.toInt - imA J 0) 4095 + 1).toNat + 1) / 2) 2048 (fun k hk => ?_) (by omega)]
        · cases srcd (imK J) (((min (a.toInt - imA J 0) 4095 + 1).toNat + 1) / 2) <;> rfl
        · unfold mbQ
          congr 1
          apply decide_eq_decide.mpr
          omega
      · rw [if_neg (fun y => z y.2)]
        have : srcd (mbQ J a) 2048 = none := by
          have := srcd_cut (p := fun _ => false) (q := mbQ J a) (m := 0) 2048 (fun k hk => by unfold mbQ; rw [decide_eq_false (by omega), Bool.and_false]; rfl) (by omega)
          rw [this]
          rfl
        rw [this]
        rfl
    rw [e]
    exact main
set_option maxRecDepth 100000 in
set_option maxHeartbeats 4000000 in
theorem m_about (l : Launch) {h : px_H} {I J : Im} {c : Nat} {B : Nat → Nat} {pl s w : Int32} (X : Mdw h I J c B pl) (VJ : imV J) : px_rd l 172 [.ref 2560, .int s, .int w] h (.int (abV J s w)) := by
  obtain ⟨ft, fa, fm, fc, fb, fk, fe, fp, ff, fr, fg, tb, rw, sm, M, P0, P1, hF, hO⟩ := X
  show px_Ct _ _ _ _ (rdRK h (.int (abV J s w)))
  unfold abV
  refine px_Ct.of (by decide) (Nat.le_of_ble_eq_true rfl) (px_wp_ok (sp := []) 60 _ _ _ _ _ ?_)
  simp only [px_ev_nil, px_ev_i, px_ev_l, px_ev_n, px_ev_r, px_wp, px_step, px_tg, px_i1, px_i2, px_l1, px_l2, px_il, px_a1, px_ia, px_iia, px_lki, px_lkl, px_lka, px_lk, px_sto, px_ins, px_del, px_popn, px_inv, px_cat, px_obj, px_arr, px_arq, px_rfv, px_rok, px_tB, px_tI, px_tZ, px_tG, px_tS, px_S, lv_args, Value.category, List.contains_cons, List.contains_nil, List.getElem?_cons_zero, List.getElem?_cons_succ, List.set_cons_zero, List.set_cons_succ, List.length_cons, List.length_nil, List.map_cons, List.map_nil, List.sum_cons, List.sum_nil, List.cons_append, List.nil_append, Option.toList_some, Option.toList_none, px_hold, Fin.isValue, Fin.val_zero, Fin.val_one, Fin.val_two, Nat.reduceBEq, Nat.reduceAdd, Nat.reduceLT, Nat.reduceLeDiff, Nat.reduceEqDiff, Nat.reduceMod, Int.reduceNeg, Int.reduceAdd, Int.reduceLE, Int.reduceLT, Int.reduceToNat, Int.cast_ofNat_Int, Int.ofNat_eq_natCast, Bool.or_self, Bool.or_false, Bool.false_or, Bool.and_false, Bool.and_self, Bool.false_and, Bool.true_and, Bool.false_eq_true, Bool.true_eq_false, ↓reduceIte, reduceCtorEq, true_and, and_true, false_and, and_false, false_or, or_false, true_or, or_true, ne_eq, not_false_eq_true, not_true_eq_false, px_f0, px_f1, px_f2, px_f3, kc_L0, kc_L1, if_true, if_false, px_10, true_implies, false_implies, implies_true, on_172, mL_172, rt_172, dp_172, lc_172, nr_172, yn_172, rc_8, e172_0, e172_1, mt_8_54, kw_119, np_119, on_119, nr_119, fc_172_119, e172_4, e172_7, e172_8, e172_11, e172_12, kc_3, e172_13, e172_16, kc_m1, e172_17, e172_18, e172_19, e172_22, e172_23, fd_8_7, e172_26, e172_27, e172_28, e172_29, e172_30, e172_33, kc_1, e172_34, e172_37, kc_0, e172_38, e172_39, e172_40, e172_43, e172_44, e172_45, e172_46, e172_47, e172_50, e172_51, e172_54, e172_55, e172_56, e172_59, e172_60, fd_8_13, e172_63, e172_64, e172_65, e172_66, e172_67, e172_70, e172_71, kc_2, e172_72, e172_75, e172_76, fd_8_20, e172_79, e172_80, e172_81, e172_82, e172_83, e172_86, e172_87, fd_8_17, e172_90, e172_91, e172_92, e172_93, e172_94]
  refine px_rd.use (m_isSegment l) (px_wp_ok (sp := [18]) 60 _ _ _ _ _ ?_)
  by_cases hs : 0 ≤ s.toInt ∧ s.toInt < 3
  · rw [decide_eq_true hs, if_pos hs]
    obtain ⟨k, hk, rfl⟩ : ∃ k, k < 3 ∧ s = nI k := ⟨s.toInt.toNat, by omega, (i_of hs.1).symm⟩
    have ek2 : (nI k).toInt.toNat = k := by rw [i_n (by omega), Int.toNat_natCast]
    rw [ek2]
    have e3 : (3 : Int32) + nI k = nI (3 * 1 + k) := nI_add 3 k
    have es : (nI (3 * 1 + k)).toNatClampNeg = 3 * 1 + k := nI_clamp (by omega)
    have hin : vp_in (nI (3 * 1 + k)) 6 := pk_in (3 * 1 + k) 6 (by omega)
    have p1 := P1.1 k hk
    simp only [px_ev_nil, px_ev_i, px_ev_l, px_ev_n, px_ev_r, px_wp, px_step, px_tg, px_i1, px_i2, px_l1, px_l2, px_il, px_a1, px_ia, px_iia, px_lki, px_lkl, px_lka, px_lk, px_sto, px_ins, px_del, px_popn, px_inv, px_cat, px_obj, px_arr, px_arq, px_rfv, px_rok, px_tB, px_tI, px_tZ, px_tG, px_tS, px_S, lv_args, Value.category, List.contains_cons, List.contains_nil, List.getElem?_cons_zero, List.getElem?_cons_succ, List.set_cons_zero, List.set_cons_succ, List.length_cons, List.length_nil, List.map_cons, List.map_nil, List.sum_cons, List.sum_nil, List.cons_append, List.nil_append, Option.toList_some, Option.toList_none, px_hold, Fin.isValue, Fin.val_zero, Fin.val_one, Fin.val_two, Nat.reduceBEq, Nat.reduceAdd, Nat.reduceLT, Nat.reduceLeDiff, Nat.reduceEqDiff, Nat.reduceMod, Int.reduceNeg, Int.reduceAdd, Int.reduceLE, Int.reduceLT, Int.reduceToNat, Int.cast_ofNat_Int, Int.ofNat_eq_natCast, Bool.or_self, Bool.or_false, Bool.false_or, Bool.and_false, Bool.and_self, Bool.false_and, Bool.true_and, Bool.false_eq_true, Bool.true_eq_false, ↓reduceIte, reduceCtorEq, true_and, and_true, false_and, and_false, false_or, or_false, true_or, or_true, ne_eq, not_false_eq_true, not_true_eq_false, px_f0, px_f1, px_f2, px_f3, kc_L0, kc_L1, if_true, if_false, px_10, true_implies, false_implies, implies_true, on_172, mL_172, rt_172, dp_172, lc_172, nr_172, yn_172, rc_8, e172_0, e172_1, mt_8_54, kw_119, np_119, on_119, nr_119, fc_172_119, e172_4, e172_7, e172_8, e172_11, e172_12, kc_3, e172_13, e172_16, kc_m1, e172_17, e172_18, e172_19, e172_22, e172_23, fd_8_7, e172_26, e172_27, e172_28, e172_29, e172_30, e172_33, kc_1, e172_34, e172_37, kc_0, e172_38, e172_39, e172_40, e172_43, e172_44, e172_45, e172_46, e172_47, e172_50, e172_51, e172_54, e172_55, e172_56, e172_59, e172_60, fd_8_13, e172_63, e172_64, e172_65, e172_66, e172_67, e172_70, e172_71, kc_2, e172_72, e172_75, e172_76, fd_8_20, e172_79, e172_80, e172_81, e172_82, e172_83, e172_86, e172_87, fd_8_17, e172_90, e172_91, e172_92, e172_93, e172_94, bI_t]
    refine ek_if (i_lt (a := w) (b := 0)) (fun q => ?_) fun w1 => ?_
    · have q : w.toInt < 0 := q
      refine rdRK.is ?_
      rw [if_neg (show ¬ w.toInt = 0 by omega)]
      split
      · rw [if_neg (show ¬ w.toInt = 1 by omega), if_neg (show ¬ w.toInt = 2 by omega), if_neg (show ¬ w.toInt = 3 by omega)]
      · rfl
    have w1 : ¬ w.toInt < 0 := w1
    refine ek_if (i_le (a := w) (b := 3)) (fun w2 => ?_) fun q => ?_
    rotate_left
    · have q : ¬ w.toInt ≤ 3 := q
      refine rdRK.is ?_
      rw [if_neg (show ¬ w.toInt = 0 by omega)]
      split
      · rw [if_neg (show ¬ w.toInt = 1 by omega), if_neg (show ¬ w.toInt = 2 by omega), if_neg (show ¬ w.toInt = 3 by omega)]
      · rfl
    have w2 : w.toInt ≤ 3 := w2
    refine px_go_ok (sp := []) 60 ?_
    cases e1 : imT J k with
    | false =>
      rw [e1] at p1
      simp only [px_go, px_ev_nil, px_ev_i, px_ev_l, px_ev_n, px_ev_r, px_wp, px_step, px_tg, px_i1, px_i2, px_l1, px_l2, px_il, px_a1, px_ia, px_iia, px_lki, px_lkl, px_lka, px_lk, px_sto, px_ins, px_del, px_popn, px_inv, px_cat, px_obj, px_arr, px_arq, px_rfv, px_rok, px_tB, px_tI, px_tZ, px_tG, px_tS, px_S, lv_args, Value.category, List.contains_cons, List.contains_nil, List.getElem?_cons_zero, List.getElem?_cons_succ, List.set_cons_zero, List.set_cons_succ, List.length_cons, List.length_nil, List.map_cons, List.map_nil, List.sum_cons, List.sum_nil, List.cons_append, List.nil_append, Option.toList_some, Option.toList_none, px_hold, Fin.isValue, Fin.val_zero, Fin.val_one, Fin.val_two, Nat.reduceBEq, Nat.reduceAdd, Nat.reduceLT, Nat.reduceLeDiff, Nat.reduceEqDiff, Nat.reduceMod, Int.reduceNeg, Int.reduceAdd, Int.reduceLE, Int.reduceLT, Int.reduceToNat, Int.cast_ofNat_Int, Int.ofNat_eq_natCast, Bool.or_self, Bool.or_false, Bool.false_or, Bool.and_false, Bool.and_self, Bool.false_and, Bool.true_and, Bool.false_eq_true, Bool.true_eq_false, ↓reduceIte, reduceCtorEq, true_and, and_true, false_and, and_false, false_or, or_false, true_or, or_true, ne_eq, not_false_eq_true, not_true_eq_false, px_f0, px_f1, px_f2, px_f3, kc_L0, kc_L1, if_true, if_false, px_10, true_implies, false_implies, implies_true, on_172, mL_172, rt_172, dp_172, lc_172, nr_172, yn_172, rc_8, e172_0, e172_1, mt_8_54, kw_119, np_119, on_119, nr_119, fc_172_119, e172_4, e172_7, e172_8, e172_11, e172_12, kc_3, e172_13, e172_16, kc_m1, e172_17, e172_18, e172_19, e172_22, e172_23, fd_8_7, e172_26, e172_27, e172_28, e172_29, e172_30, e172_33, kc_1, e172_34, e172_37, kc_0, e172_38, e172_39, e172_40, e172_43, e172_44, e172_45, e172_46, e172_47, e172_50, e172_51, e172_54, e172_55, e172_56, e172_59, e172_60, fd_8_13, e172_63, e172_64, e172_65, e172_66, e172_67, e172_70, e172_71, kc_2, e172_72, e172_75, e172_76, fd_8_20, e172_79, e172_80, e172_81, e172_82, e172_83, e172_86, e172_87, fd_8_17, e172_90, e172_91, e172_92, e172_93, e172_94, M.o, M.t, e3, hin, es, p1, bI_f]
      refine ek_ifn (i_eq (a := w) (b := 0)) (fun q => ?_) fun q => ?_
      · have q : ¬ w.toInt = 0 := q
        rw [if_neg q]
        exact rdRK.rf
      · have q : w.toInt = 0 := q
        rw [if_pos q]
        exact rdRK.rf
    | true =>
      rw [e1] at p1
      obtain ⟨q1, q2, q3, -⟩ := P1.2.1 k hk e1
      simp only [px_go, px_ev_nil, px_ev_i, px_ev_l, px_ev_n, px_ev_r, px_wp, px_step, px_tg, px_i1, px_i2, px_l1, px_l2, px_il, px_a1, px_ia, px_iia, px_lki, px_lkl, px_lka, px_lk, px_sto, px_ins, px_del, px_popn, px_inv, px_cat, px_obj, px_arr, px_arq, px_rfv, px_rok, px_tB, px_tI, px_tZ, px_tG, px_tS, px_S, lv_args, Value.category, List.contains_cons, List.contains_nil, List.getElem?_cons_zero, List.getElem?_cons_succ, List.set_cons_zero, List.set_cons_succ, List.length_cons, List.length_nil, List.map_cons, List.map_nil, List.sum_cons, List.sum_nil, List.cons_append, List.nil_append, Option.toList_some, Option.toList_none, px_hold, Fin.isValue, Fin.val_zero, Fin.val_one, Fin.val_two, Nat.reduceBEq, Nat.reduceAdd, Nat.reduceLT, Nat.reduceLeDiff, Nat.reduceEqDiff, Nat.reduceMod, Int.reduceNeg, Int.reduceAdd, Int.reduceLE, Int.reduceLT, Int.reduceToNat, Int.cast_ofNat_Int, Int.ofNat_eq_natCast, Bool.or_self, Bool.or_false, Bool.false_or, Bool.and_false, Bool.and_self, Bool.false_and, Bool.true_and, Bool.false_eq_true, Bool.true_eq_false, ↓reduceIte, reduceCtorEq, true_and, and_true, false_and, and_false, false_or, or_false, true_or, or_true, ne_eq, not_false_eq_true, not_true_eq_false, px_f0, px_f1, px_f2, px_f3, kc_L0, kc_L1, if_true, if_false, px_10, true_implies, false_implies, implies_true, on_172, mL_172, rt_172, dp_172, lc_172, nr_172, yn_172, rc_8, e172_0, e172_1, mt_8_54, kw_119, np_119, on_119, nr_119, fc_172_119, e172_4, e172_7, e172_8, e172_11, e172_12, kc_3, e172_13, e172_16, kc_m1, e172_17, e172_18, e172_19, e172_22, e172_23, fd_8_7, e172_26, e172_27, e172_28, e172_29, e172_30, e172_33, kc_1, e172_34, e172_37, kc_0, e172_38, e172_39, e172_40, e172_43, e172_44, e172_45, e172_46, e172_47, e172_50, e172_51, e172_54, e172_55, e172_56, e172_59, e172_60, fd_8_13, e172_63, e172_64, e172_65, e172_66, e172_67, e172_70, e172_71, kc_2, e172_72, e172_75, e172_76, fd_8_20, e172_79, e172_80, e172_81, e172_82, e172_83, e172_86, e172_87, fd_8_17, e172_90, e172_91, e172_92, e172_93, e172_94, M.o, M.t, M.a, M.c, M.m, e3, hin, es, p1, bI_t, q1, q2, q3]
      refine ek_ifn (i_eq (a := w) (b := 0)) (fun z0 => ?_) fun q => ?_
      rotate_left
      · have q : w.toInt = 0 := q
        rw [if_pos q]
        exact rdRK.rf
      have z0 : ¬ w.toInt = 0 := z0
      rw [if_neg z0]
      refine ek_ifn (i_eq (a := w) (b := 1)) (fun z1 => ?_) fun q => ?_
      rotate_left
      · have q : w.toInt = 1 := q
        rw [if_pos q]
        exact rdRK.rf
      have z1 : ¬ w.toInt = 1 := z1
      rw [if_neg z1]
      refine ek_ifn (i_eq (a := w) (b := 2)) (fun z2 => ?_) fun q => ?_
      rotate_left
      · have q : w.toInt = 2 := q
        rw [if_pos q]
        exact rdRK.rf
      have z2 : ¬ w.toInt = 2 := z2
      rw [if_neg z2, if_pos (by omega)]
      exact rdRK.rf
  · rw [decide_eq_false hs, if_neg hs]
    simp only [px_ev_nil, px_ev_i, px_ev_l, px_ev_n, px_ev_r, px_wp, px_step, px_tg, px_i1, px_i2, px_l1, px_l2, px_il, px_a1, px_ia, px_iia, px_lki, px_lkl, px_lka, px_lk, px_sto, px_ins, px_del, px_popn, px_inv, px_cat, px_obj, px_arr, px_arq, px_rfv, px_rok, px_tB, px_tI, px_tZ, px_tG, px_tS, px_S, lv_args, Value.category, List.contains_cons, List.contains_nil, List.getElem?_cons_zero, List.getElem?_cons_succ, List.set_cons_zero, List.set_cons_succ, List.length_cons, List.length_nil, List.map_cons, List.map_nil, List.sum_cons, List.sum_nil, List.cons_append, List.nil_append, Option.toList_some, Option.toList_none, px_hold, Fin.isValue, Fin.val_zero, Fin.val_one, Fin.val_two, Nat.reduceBEq, Nat.reduceAdd, Nat.reduceLT, Nat.reduceLeDiff, Nat.reduceEqDiff, Nat.reduceMod, Int.reduceNeg, Int.reduceAdd, Int.reduceLE, Int.reduceLT, Int.reduceToNat, Int.cast_ofNat_Int, Int.ofNat_eq_natCast, Bool.or_self, Bool.or_false, Bool.false_or, Bool.and_false, Bool.and_self, Bool.false_and, Bool.true_and, Bool.false_eq_true, Bool.true_eq_false, ↓reduceIte, reduceCtorEq, true_and, and_true, false_and, and_false, false_or, or_false, true_or, or_true, ne_eq, not_false_eq_true, not_true_eq_false, px_f0, px_f1, px_f2, px_f3, kc_L0, kc_L1, if_true, if_false, px_10, true_implies, false_implies, implies_true, on_172, mL_172, rt_172, dp_172, lc_172, nr_172, yn_172, rc_8, e172_0, e172_1, mt_8_54, kw_119, np_119, on_119, nr_119, fc_172_119, e172_4, e172_7, e172_8, e172_11, e172_12, kc_3, e172_13, e172_16, kc_m1, e172_17, e172_18, e172_19, e172_22, e172_23, fd_8_7, e172_26, e172_27, e172_28, e172_29, e172_30, e172_33, kc_1, e172_34, e172_37, kc_0, e172_38, e172_39, e172_40, e172_43, e172_44, e172_45, e172_46, e172_47, e172_50, e172_51, e172_54, e172_55, e172_56, e172_59, e172_60, fd_8_13, e172_63, e172_64, e172_65, e172_66, e172_67, e172_70, e172_71, kc_2, e172_72, e172_75, e172_76, fd_8_20, e172_79, e172_80, e172_81, e172_82, e172_83, e172_86, e172_87, fd_8_17, e172_90, e172_91, e172_92, e172_93, e172_94, bI_f]
    exact rdRK.rf
set_option maxRecDepth 100000 in
set_option maxHeartbeats 4000000 in
theorem m_told (l : Launch) {h : px_H} {I J : Im} {c : Nat} {B : Nat → Nat} {pl w : Int32} (X : Mdw h I J c B pl) (VJ : imV J) (hm : imMk J) : px_Ct l 173 [.ref 2560, .int w] h (MdP h (some (.int (toV J w))) I J c B pl) := by
  have X0 := X
  obtain ⟨ft, fa, fm, fc, fb, fk, fe, fp, ff, fr, fg, tb, rw, sm, M, P0, P1, hF, hO⟩ := X
  unfold toV
  refine px_Ct.of (by decide) (Nat.le_of_ble_eq_true rfl) (px_wp_ok (sp := []) 60 _ _ _ _ _ ?_)
  simp only [px_ev_nil, px_ev_i, px_ev_l, px_ev_n, px_ev_r, px_wp, px_step, px_tg, px_i1, px_i2, px_l1, px_l2, px_il, px_a1, px_ia, px_iia, px_lki, px_lkl, px_lka, px_lk, px_sto, px_ins, px_del, px_popn, px_inv, px_cat, px_obj, px_arr, px_arq, px_rfv, px_rok, px_tB, px_tI, px_tZ, px_tG, px_tS, px_S, lv_args, Value.category, List.contains_cons, List.contains_nil, List.getElem?_cons_zero, List.getElem?_cons_succ, List.set_cons_zero, List.set_cons_succ, List.length_cons, List.length_nil, List.map_cons, List.map_nil, List.sum_cons, List.sum_nil, List.cons_append, List.nil_append, Option.toList_some, Option.toList_none, px_hold, Fin.isValue, Fin.val_zero, Fin.val_one, Fin.val_two, Nat.reduceBEq, Nat.reduceAdd, Nat.reduceLT, Nat.reduceLeDiff, Nat.reduceEqDiff, Nat.reduceMod, Int.reduceNeg, Int.reduceAdd, Int.reduceLE, Int.reduceLT, Int.reduceToNat, Int.cast_ofNat_Int, Int.ofNat_eq_natCast, Bool.or_self, Bool.or_false, Bool.false_or, Bool.and_false, Bool.and_self, Bool.false_and, Bool.true_and, Bool.false_eq_true, Bool.true_eq_false, ↓reduceIte, reduceCtorEq, true_and, and_true, false_and, and_false, false_or, or_false, true_or, or_true, ne_eq, not_false_eq_true, not_true_eq_false, px_f0, px_f1, px_f2, px_f3, kc_L0, kc_L1, if_true, if_false, px_10, true_implies, false_implies, implies_true, on_173, mL_173, rt_173, dp_173, lc_173, nr_173, yn_173, rc_8, e173_0, e173_1, e173_4, e173_5, fd_8_29, e173_8, kc_1, e173_9, e173_10, e173_13, e173_14, e173_15, e173_18, e173_19, fd_8_32, e173_22, e173_23, e173_24, e173_27, e173_28, kc_2, e173_29, e173_32, e173_33, e173_34, mt_8_134, kw_140, np_140, on_140, nr_140, fc_173_140, e173_37, e173_40, e173_41, kc_3, e173_42, e173_45, e173_46, e173_47, mt_8_224, kw_174, np_174, on_174, nr_174, fc_173_174, e173_50, e173_53, e173_54, kc_4, e173_55, e173_58, e173_59, e173_60, mt_8_123, kw_137, np_137, on_137, nr_137, fc_173_137, e173_63, e173_66, kc_0, e173_67, M.o, M.e, M.p, in12, cl1, P1.2.2.2.1, P1.2.2.2.2]
  refine ek_ifn (i_eq (a := w) (b := 0)) (fun z0 => ?_) fun q => ?_
  rotate_left
  · have q : w.toInt = 0 := q
    rw [if_pos q]
    exact MdP.rf X0
  have z0 : ¬ w.toInt = 0 := z0
  rw [if_neg z0]
  refine ek_ifn (i_eq (a := w) (b := 1)) (fun z1 => ?_) fun q => ?_
  rotate_left
  · have q : w.toInt = 1 := q
    rw [if_pos q]
    exact MdP.rf X0
  have z1 : ¬ w.toInt = 1 := z1
  rw [if_neg z1]
  refine ek_ifn (i_eq (a := w) (b := 2)) (fun z2 => ?_) fun q => ?_
  rotate_left
  · have q : w.toInt = 2 := q
    rw [if_pos q]
    refine px_Ct.use (m_sumOf l (i := 1) M P1 VJ (by decide)) ?_
    rintro _ _ _ _ ⟨rfl, ⟨s2, rfl⟩, rfl, rfl⟩
    refine px_wp_ok (sp := []) 60 _ _ _ _ _ ?_
    simp only [px_ev_nil, px_ev_i, px_ev_l, px_ev_n, px_ev_r, px_wp, px_step, px_tg, px_i1, px_i2, px_l1, px_l2, px_il, px_a1, px_ia, px_iia, px_lki, px_lkl, px_lka, px_lk, px_sto, px_ins, px_del, px_popn, px_inv, px_cat, px_obj, px_arr, px_arq, px_rfv, px_rok, px_tB, px_tI, px_tZ, px_tG, px_tS, px_S, lv_args, Value.category, List.contains_cons, List.contains_nil, List.getElem?_cons_zero, List.getElem?_cons_succ, List.set_cons_zero, List.set_cons_succ, List.length_cons, List.length_nil, List.map_cons, List.map_nil, List.sum_cons, List.sum_nil, List.cons_append, List.nil_append, Option.toList_some, Option.toList_none, px_hold, Fin.isValue, Fin.val_zero, Fin.val_one, Fin.val_two, Nat.reduceBEq, Nat.reduceAdd, Nat.reduceLT, Nat.reduceLeDiff, Nat.reduceEqDiff, Nat.reduceMod, Int.reduceNeg, Int.reduceAdd, Int.reduceLE, Int.reduceLT, Int.reduceToNat, Int.cast_ofNat_Int, Int.ofNat_eq_natCast, Bool.or_self, Bool.or_false, Bool.false_or, Bool.and_false, Bool.and_self, Bool.false_and, Bool.true_and, Bool.false_eq_true, Bool.true_eq_false, ↓reduceIte, reduceCtorEq, true_and, and_true, false_and, and_false, false_or, or_false, true_or, or_true, ne_eq, not_false_eq_true, not_true_eq_false, px_f0, px_f1, px_f2, px_f3, kc_L0, kc_L1, if_true, if_false, px_10, true_implies, false_implies, implies_true, on_173, mL_173, rt_173, dp_173, lc_173, nr_173, yn_173, rc_8, e173_0, e173_1, e173_4, e173_5, fd_8_29, e173_8, kc_1, e173_9, e173_10, e173_13, e173_14, e173_15, e173_18, e173_19, fd_8_32, e173_22, e173_23, e173_24, e173_27, e173_28, kc_2, e173_29, e173_32, e173_33, e173_34, mt_8_134, kw_140, np_140, on_140, nr_140, fc_173_140, e173_37, e173_40, e173_41, kc_3, e173_42, e173_45, e173_46, e173_47, mt_8_224, kw_174, np_174, on_174, nr_174, fc_173_174, e173_50, e173_53, e173_54, kc_4, e173_55, e173_58, e173_59, e173_60, mt_8_123, kw_137, np_137, on_137, nr_137, fc_173_137, e173_63, e173_66, kc_0, e173_67, Nat.add_zero]
    exact ⟨rfl, px_fr.rf.up ⟨by omega, by omega⟩, ⟨_, _, _, _, _, _, _, _, _, _, _, _, _, _, M.sm s2, P0, P1, hF, hO⟩, rfl, rfl⟩
  have z2 : ¬ w.toInt = 2 := z2
  rw [if_neg z2]
  refine ek_ifn (i_eq (a := w) (b := 3)) (fun z3 => ?_) fun q => ?_
  rotate_left
  · have q : w.toInt = 3 := q
    rw [if_pos q]
    refine px_rd.use (m_marksIn l (i := 1) M P1 VJ (by decide)) (px_wp_ok (sp := []) 60 _ _ _ _ _ ?_)
    simp only [px_ev_nil, px_ev_i, px_ev_l, px_ev_n, px_ev_r, px_wp, px_step, px_tg, px_i1, px_i2, px_l1, px_l2, px_il, px_a1, px_ia, px_iia, px_lki, px_lkl, px_lka, px_lk, px_sto, px_ins, px_del, px_popn, px_inv, px_cat, px_obj, px_arr, px_arq, px_rfv, px_rok, px_tB, px_tI, px_tZ, px_tG, px_tS, px_S, lv_args, Value.category, List.contains_cons, List.contains_nil, List.getElem?_cons_zero, List.getElem?_cons_succ, List.set_cons_zero, List.set_cons_succ, List.length_cons, List.length_nil, List.map_cons, List.map_nil, List.sum_cons, List.sum_nil, List.cons_append, List.nil_append, Option.toList_some, Option.toList_none, px_hold, Fin.isValue, Fin.val_zero, Fin.val_one, Fin.val_two, Nat.reduceBEq, Nat.reduceAdd, Nat.reduceLT, Nat.reduceLeDiff, Nat.reduceEqDiff, Nat.reduceMod, Int.reduceNeg, Int.reduceAdd, Int.reduceLE, Int.reduceLT, Int.reduceToNat, Int.cast_ofNat_Int, Int.ofNat_eq_natCast, Bool.or_self, Bool.or_false, Bool.false_or, Bool.and_false, Bool.and_self, Bool.false_and, Bool.true_and, Bool.false_eq_true, Bool.true_eq_false, ↓reduceIte, reduceCtorEq, true_and, and_true, false_and, and_false, false_or, or_false, true_or, or_true, ne_eq, not_false_eq_true, not_true_eq_false, px_f0, px_f1, px_f2, px_f3, kc_L0, kc_L1, if_true, if_false, px_10, true_implies, false_implies, implies_true, on_173, mL_173, rt_173, dp_173, lc_173, nr_173, yn_173, rc_8, e173_0, e173_1, e173_4, e173_5, fd_8_29, e173_8, kc_1, e173_9, e173_10, e173_13, e173_14, e173_15, e173_18, e173_19, fd_8_32, e173_22, e173_23, e173_24, e173_27, e173_28, kc_2, e173_29, e173_32, e173_33, e173_34, mt_8_134, kw_140, np_140, on_140, nr_140, fc_173_140, e173_37, e173_40, e173_41, kc_3, e173_42, e173_45, e173_46, e173_47, mt_8_224, kw_174, np_174, on_174, nr_174, fc_173_174, e173_50, e173_53, e173_54, kc_4, e173_55, e173_58, e173_59, e173_60, mt_8_123, kw_137, np_137, on_137, nr_137, fc_173_137, e173_63, e173_66, kc_0, e173_67]
    exact MdP.rf X0
  have z3 : ¬ w.toInt = 3 := z3
  rw [if_neg z3]
  refine ek_ifn (i_eq (a := w) (b := 4)) (fun z4 => ?_) fun q => ?_
  rotate_left
  · have q : w.toInt = 4 := q
    rw [if_pos q]
    refine px_rd.use (m_shortsIn l (i := 1) M P1 VJ (by decide) hm) (px_wp_ok (sp := []) 60 _ _ _ _ _ ?_)
    simp only [px_ev_nil, px_ev_i, px_ev_l, px_ev_n, px_ev_r, px_wp, px_step, px_tg, px_i1, px_i2, px_l1, px_l2, px_il, px_a1, px_ia, px_iia, px_lki, px_lkl, px_lka, px_lk, px_sto, px_ins, px_del, px_popn, px_inv, px_cat, px_obj, px_arr, px_arq, px_rfv, px_rok, px_tB, px_tI, px_tZ, px_tG, px_tS, px_S, lv_args, Value.category, List.contains_cons, List.contains_nil, List.getElem?_cons_zero, List.getElem?_cons_succ, List.set_cons_zero, List.set_cons_succ, List.length_cons, List.length_nil, List.map_cons, List.map_nil, List.sum_cons, List.sum_nil, List.cons_append, List.nil_append, Option.toList_some, Option.toList_none, px_hold, Fin.isValue, Fin.val_zero, Fin.val_one, Fin.val_two, Nat.reduceBEq, Nat.reduceAdd, Nat.reduceLT, Nat.reduceLeDiff, Nat.reduceEqDiff, Nat.reduceMod, Int.reduceNeg, Int.reduceAdd, Int.reduceLE, Int.reduceLT, Int.reduceToNat, Int.cast_ofNat_Int, Int.ofNat_eq_natCast, Bool.or_self, Bool.or_false, Bool.false_or, Bool.and_false, Bool.and_self, Bool.false_and, Bool.true_and, Bool.false_eq_true, Bool.true_eq_false, ↓reduceIte, reduceCtorEq, true_and, and_true, false_and, and_false, false_or, or_false, true_or, or_true, ne_eq, not_false_eq_true, not_true_eq_false, px_f0, px_f1, px_f2, px_f3, kc_L0, kc_L1, if_true, if_false, px_10, true_implies, false_implies, implies_true, on_173, mL_173, rt_173, dp_173, lc_173, nr_173, yn_173, rc_8, e173_0, e173_1, e173_4, e173_5, fd_8_29, e173_8, kc_1, e173_9, e173_10, e173_13, e173_14, e173_15, e173_18, e173_19, fd_8_32, e173_22, e173_23, e173_24, e173_27, e173_28, kc_2, e173_29, e173_32, e173_33, e173_34, mt_8_134, kw_140, np_140, on_140, nr_140, fc_173_140, e173_37, e173_40, e173_41, kc_3, e173_42, e173_45, e173_46, e173_47, mt_8_224, kw_174, np_174, on_174, nr_174, fc_173_174, e173_50, e173_53, e173_54, kc_4, e173_55, e173_58, e173_59, e173_60, mt_8_123, kw_137, np_137, on_137, nr_137, fc_173_137, e173_63, e173_66, kc_0, e173_67]
    exact MdP.rf X0
  have z4 : ¬ w.toInt = 4 := z4
  rw [if_neg z4]
  exact MdP.rf X0
/-! a word -/
def hwv (J : Im) (a : Int32) (n : Nat) : Nat := match n with
  | 0 => 0
  | n + 1 => hwv J a n * 256 + (memI J (a + nI (3 - n))).toInt.toNat
theorem hwv_4 (J : Im) (a : Int32) : hwv J a 4 = wos J a 4 := by
  simp only [hwv, wos, Nat.reduceSub, Nat.reduceMul, Nat.reducePow]
  omega
set_option maxRecDepth 100000 in
set_option maxHeartbeats 4000000 in
theorem lp_mword (l : Launch) {h : px_H} {ft fa fm fc fb fk fe fp ff fr fg : Nat → Int32} {fd pl tb rw sm : Int32} (M : Mr h ft fa fm fc fb fk fe fp ff fr fg fd pl tb rw sm) {J : Im} (P : mPic ft fa fm fc fb fk fe fp 1 J) (V : imV J) {a : Int32} : ∀ (n d : Nat) (L1 : px_L), (L1 = [] ∨ ∃ x, L1 = [(4, .int x)]) → n + d = 4 → (∀ q, n ≤ q → q < 4 → ∃ b, b < 256 ∧ memI J (a + nI q) = nI b) → hwv J a d < 256 ^ d → px_P l 177 4 ([(0, .ref 2560), (1, .int a), (2, .int (nI (hwv J a d))), (3, .int (nI n + (-1)))] ++ L1) [] h (rdRK h (.int (woV J a))) := by
  intro n
  induction n with
  | zero =>
    intro d L1 hL hd hq hw
    have e : d = 4 := by omega
    subst e
    refine px_P.weak (fun q hq => List.mem_append_left L1 hq) ?_
    refine px_go_ok (sp := [4]) 60 ?_
    simp only [px_go, px_ev_nil, px_ev_i, px_ev_l, px_ev_n, px_ev_r, px_wp, px_step, px_tg, px_i1, px_i2, px_l1, px_l2, px_il, px_a1, px_ia, px_iia, px_lki, px_lkl, px_lka, px_lk, px_sto, px_ins, px_del, px_popn, px_inv, px_cat, px_obj, px_arr, px_arq, px_rfv, px_rok, px_tB, px_tI, px_tZ, px_tG, px_tS, px_S, lv_args, Value.category, List.contains_cons, List.contains_nil, List.getElem?_cons_zero, List.getElem?_cons_succ, List.set_cons_zero, List.set_cons_succ, List.length_cons, List.length_nil, List.map_cons, List.map_nil, List.sum_cons, List.sum_nil, List.cons_append, List.nil_append, Option.toList_some, Option.toList_none, px_hold, Fin.isValue, Fin.val_zero, Fin.val_one, Fin.val_two, Nat.reduceBEq, Nat.reduceAdd, Nat.reduceLT, Nat.reduceLeDiff, Nat.reduceEqDiff, Nat.reduceMod, Int.reduceNeg, Int.reduceAdd, Int.reduceLE, Int.reduceLT, Int.reduceToNat, Int.cast_ofNat_Int, Int.ofNat_eq_natCast, Bool.or_self, Bool.or_false, Bool.false_or, Bool.and_false, Bool.and_self, Bool.false_and, Bool.true_and, Bool.false_eq_true, Bool.true_eq_false, ↓reduceIte, reduceCtorEq, true_and, and_true, false_and, and_false, false_or, or_false, true_or, or_true, ne_eq, not_false_eq_true, not_true_eq_false, px_f0, px_f1, px_f2, px_f3, kc_L0, kc_L1, if_true, if_false, px_10, true_implies, false_implies, implies_true, on_177, mL_177, rt_177, dp_177, lc_177, nr_177, yn_177, rc_8, e177_0, kc_0, e177_1, e177_2, kc_3, e177_3, e177_4, e177_5, e177_8, e177_9, e177_10, e177_11, e177_12, mt_8_230, kw_175, np_175, on_175, nr_175, fc_177_175, e177_15, e177_17, e177_19, kc_m1, e177_20, e177_23, e177_24, e177_25, e177_26, kc_8, e177_28, e177_29, e177_31, e177_32, e177_33, e177_36, e177_39, e177_40, M.o]
    refine ⟨fun _ => rdRK.is ?_, fun q => absurd (by decide) q⟩
    have hn : srch (woP J a) 4 0 = none := srch_none (fun k h1 h2 => by
      obtain ⟨b, hb, e⟩ := hq k (by omega) (by omega)
      unfold woP
      rw [e]
      exact decide_eq_false (n_m1 (by omega)))
    unfold woV
    rw [hn, hwv_4]
    rfl
  | succ n ih =>
    intro d L1 hL hd hq hw
    have em : nI (n + 1) + (-1) = nI n := pk_m1 n
    have en := i_n (n := n) (by omega)
    refine px_P.weak (fun q hq => List.mem_append_left L1 hq) ?_
    refine px_go_ok (sp := [4]) 60 ?_
    simp only [px_go, px_ev_nil, px_ev_i, px_ev_l, px_ev_n, px_ev_r, px_wp, px_step, px_tg, px_i1, px_i2, px_l1, px_l2, px_il, px_a1, px_ia, px_iia, px_lki, px_lkl, px_lka, px_lk, px_sto, px_ins, px_del, px_popn, px_inv, px_cat, px_obj, px_arr, px_arq, px_rfv, px_rok, px_tB, px_tI, px_tZ, px_tG, px_tS, px_S, lv_args, Value.category, List.contains_cons, List.contains_nil, List.getElem?_cons_zero, List.getElem?_cons_succ, List.set_cons_zero, List.set_cons_succ, List.length_cons, List.length_nil, List.map_cons, List.map_nil, List.sum_cons, List.sum_nil, List.cons_append, List.nil_append, Option.toList_some, Option.toList_none, px_hold, Fin.isValue, Fin.val_zero, Fin.val_one, Fin.val_two, Nat.reduceBEq, Nat.reduceAdd, Nat.reduceLT, Nat.reduceLeDiff, Nat.reduceEqDiff, Nat.reduceMod, Int.reduceNeg, Int.reduceAdd, Int.reduceLE, Int.reduceLT, Int.reduceToNat, Int.cast_ofNat_Int, Int.ofNat_eq_natCast, Bool.or_self, Bool.or_false, Bool.false_or, Bool.and_false, Bool.and_self, Bool.false_and, Bool.true_and, Bool.false_eq_true, Bool.true_eq_false, ↓reduceIte, reduceCtorEq, true_and, and_true, false_and, and_false, false_or, or_false, true_or, or_true, ne_eq, not_false_eq_true, not_true_eq_false, px_f0, px_f1, px_f2, px_f3, kc_L0, kc_L1, if_true, if_false, px_10, true_implies, false_implies, implies_true, on_177, mL_177, rt_177, dp_177, lc_177, nr_177, yn_177, rc_8, e177_0, kc_0, e177_1, e177_2, kc_3, e177_3, e177_4, e177_5, e177_8, e177_9, e177_10, e177_11, e177_12, mt_8_230, kw_175, np_175, on_175, nr_175, fc_177_175, e177_15, e177_17, e177_19, kc_m1, e177_20, e177_23, e177_24, e177_25, e177_26, kc_8, e177_28, e177_29, e177_31, e177_32, e177_33, e177_36, e177_39, e177_40, M.o, em]
    refine ek_if (i_lt (a := nI n) (b := 0)) (fun z => absurd z (by rw [en]; show ¬ (n : Int) < 0; omega)) fun _ => ?_
    refine px_rd.use (m_byteIn l M P V) (px_wp_ok (sp := [4]) 60 _ _ _ _ _ ?_)
    simp only [px_ev_nil, px_ev_i, px_ev_l, px_ev_n, px_ev_r, px_wp, px_step, px_tg, px_i1, px_i2, px_l1, px_l2, px_il, px_a1, px_ia, px_iia, px_lki, px_lkl, px_lka, px_lk, px_sto, px_ins, px_del, px_popn, px_inv, px_cat, px_obj, px_arr, px_arq, px_rfv, px_rok, px_tB, px_tI, px_tZ, px_tG, px_tS, px_S, lv_args, Value.category, List.contains_cons, List.contains_nil, List.getElem?_cons_zero, List.getElem?_cons_succ, List.set_cons_zero, List.set_cons_succ, List.length_cons, List.length_nil, List.map_cons, List.map_nil, List.sum_cons, List.sum_nil, List.cons_append, List.nil_append, Option.toList_some, Option.toList_none, px_hold, Fin.isValue, Fin.val_zero, Fin.val_one, Fin.val_two, Nat.reduceBEq, Nat.reduceAdd, Nat.reduceLT, Nat.reduceLeDiff, Nat.reduceEqDiff, Nat.reduceMod, Int.reduceNeg, Int.reduceAdd, Int.reduceLE, Int.reduceLT, Int.reduceToNat, Int.cast_ofNat_Int, Int.ofNat_eq_natCast, Bool.or_self, Bool.or_false, Bool.false_or, Bool.and_false, Bool.and_self, Bool.false_and, Bool.true_and, Bool.false_eq_true, Bool.true_eq_false, ↓reduceIte, reduceCtorEq, true_and, and_true, false_and, and_false, false_or, or_false, true_or, or_true, ne_eq, not_false_eq_true, not_true_eq_false, px_f0, px_f1, px_f2, px_f3, kc_L0, kc_L1, if_true, if_false, px_10, true_implies, false_implies, implies_true, on_177, mL_177, rt_177, dp_177, lc_177, nr_177, yn_177, rc_8, e177_0, kc_0, e177_1, e177_2, kc_3, e177_3, e177_4, e177_5, e177_8, e177_9, e177_10, e177_11, e177_12, mt_8_230, kw_175, np_175, on_175, nr_175, fc_177_175, e177_15, e177_17, e177_19, kc_m1, e177_20, e177_23, e177_24, e177_25, e177_26, kc_8, e177_28, e177_29, e177_31, e177_32, e177_33, e177_36, e177_39, e177_40]
    refine ⟨fun z => ?_, fun z => ?_⟩
    · obtain ⟨b, hb, e⟩ : ∃ b, b < 256 ∧ memI J (a + nI n) = nI b := by
        unfold memI at z ⊢
        cases e : srch (inS J (a + nI n)) 3 0 with
        | none => rw [e] at z; exact absurd rfl z
        | some s =>
          obtain ⟨-, h1, h2⟩ := srch_lt e
          unfold inS at h2
          have h3 := of_decide_eq_true (Bool.and_eq_true_iff.mp h2).2
          by_cases y : (a + nI n).toInt - imA J s < imC J s
          · exact ⟨imB J s ((a + nI n).toInt - imA J s).toNat, (V.1 s (by omega)).2.2.2.1 _ (by omega), if_pos y⟩
          · exact ⟨0, by omega, if_neg y⟩
      have hp : 256 ^ d ≤ 256 ^ 3 := Nat.pow_le_pow_right (by omega) (by omega)
      have e4 : nI (hwv J a d) <<< ((8 : Int32) &&& 31) ||| nI b = nI (hwv J a (d + 1)) := by
        rw [Int32.or_comm, n_orS (k := 8) _ (by decide) (by omega) (by omega) (by omega)]
        show _ = nI (hwv J a d * 256 + (memI J (a + nI (3 - d))).toInt.toNat)
        rw [show 3 - d = n by omega, e, i_n (by omega), Int.toNat_natCast]
        congr 1
        omega
      rw [e, e4]
      refine ih (d + 1) [(4, .int (nI b))] (Or.inr ⟨_, rfl⟩) (by omega) (fun q h1 h2 => ?_) ?_
      · by_cases eq : q = n
        · rw [eq]; exact ⟨b, hb, e⟩
        · exact hq q (by omega) h2
      · show hwv J a d * 256 + (memI J (a + nI (3 - d))).toInt.toNat < 256 ^ (d + 1)
        rw [show 3 - d = n by omega, e, i_n (by omega), Int.toNat_natCast, Nat.pow_succ]
        omega
    · unfold woV
      rw [if_pos (srch_some (k := n) (by omega) (by omega) (by unfold woP; exact decide_eq_true z))]
      exact rdRK.rf
set_option maxRecDepth 100000 in
set_option maxHeartbeats 4000000 in
theorem m_wordIn (l : Launch) {h : px_H} {I J : Im} {c : Nat} {B : Nat → Nat} {pl a : Int32} (X : Mdw h I J c B pl) (VJ : imV J) : px_rd l 177 [.ref 2560, .int a] h (.int (woV J a)) := by
  obtain ⟨ft, fa, fm, fc, fb, fk, fe, fp, ff, fr, fg, tb, rw, sm, M, P0, P1, hF, hO⟩ := X
  show px_Ct _ _ _ _ (rdRK h (.int (woV J a)))
  refine px_Ct.of (by decide) (Nat.le_of_ble_eq_true rfl) (px_wp_ok (sp := [4]) 60 _ _ _ _ _ ?_)
  simp only [px_ev_nil, px_ev_i, px_ev_l, px_ev_n, px_ev_r, px_wp, px_step, px_tg, px_i1, px_i2, px_l1, px_l2, px_il, px_a1, px_ia, px_iia, px_lki, px_lkl, px_lka, px_lk, px_sto, px_ins, px_del, px_popn, px_inv, px_cat, px_obj, px_arr, px_arq, px_rfv, px_rok, px_tB, px_tI, px_tZ, px_tG, px_tS, px_S, lv_args, Value.category, List.contains_cons, List.contains_nil, List.getElem?_cons_zero, List.getElem?_cons_succ, List.set_cons_zero, List.set_cons_succ, List.length_cons, List.length_nil, List.map_cons, List.map_nil, List.sum_cons, List.sum_nil, List.cons_append, List.nil_append, Option.toList_some, Option.toList_none, px_hold, Fin.isValue, Fin.val_zero, Fin.val_one, Fin.val_two, Nat.reduceBEq, Nat.reduceAdd, Nat.reduceLT, Nat.reduceLeDiff, Nat.reduceEqDiff, Nat.reduceMod, Int.reduceNeg, Int.reduceAdd, Int.reduceLE, Int.reduceLT, Int.reduceToNat, Int.cast_ofNat_Int, Int.ofNat_eq_natCast, Bool.or_self, Bool.or_false, Bool.false_or, Bool.and_false, Bool.and_self, Bool.false_and, Bool.true_and, Bool.false_eq_true, Bool.true_eq_false, ↓reduceIte, reduceCtorEq, true_and, and_true, false_and, and_false, false_or, or_false, true_or, or_true, ne_eq, not_false_eq_true, not_true_eq_false, px_f0, px_f1, px_f2, px_f3, kc_L0, kc_L1, if_true, if_false, px_10, true_implies, false_implies, implies_true, on_177, mL_177, rt_177, dp_177, lc_177, nr_177, yn_177, rc_8, e177_0, kc_0, e177_1, e177_2, kc_3, e177_3, e177_4, e177_5, e177_8, e177_9, e177_10, e177_11, e177_12, mt_8_230, kw_175, np_175, on_175, nr_175, fc_177_175, e177_15, e177_17, e177_19, kc_m1, e177_20, e177_23, e177_24, e177_25, e177_26, kc_8, e177_28, e177_29, e177_31, e177_32, e177_33, e177_36, e177_39, e177_40]
  exact lp_mword l M P1 VJ 4 0 [] (Or.inl rfl) rfl (fun q h1 h2 => by omega) (by show 0 < 1; omega)
