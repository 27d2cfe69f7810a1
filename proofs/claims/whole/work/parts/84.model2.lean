/-! ImageFileModel: what changes the image made -/
theorem mPic.seg {ft fa fm fc fb fk fe fp ft' fa' fm' fc' fb' : Nat → Int32} {I : Im} (P : mPic ft fa fm fc fb fk fe fp 0 I) {k : Nat} (hk : k < 3) {t : Bool} {a m c : Nat} {B : Nat → Nat} (h1 : ∀ j, j ≠ k → ft' j = ft j ∧ fa' j = fa j ∧ fm' j = fm j ∧ fc' j = fc j) (h2 : ∀ j, (j < 4096 * k ∨ 4096 * (k + 1) ≤ j) → fb' j = fb j) (ht : ft' k = bI t) (hs : t = true → fa' k = nI a ∧ fm' k = nI m ∧ fc' k = nI c ∧ ∀ j, j < c → fb' (4096 * k + j) = nI (B j)) (hC : ∀ s, s < 3 → imC I s ≤ 4096) : mPic ft' fa' fm' fc' fb' fk fe fp 0 (imS I k t a m c B) := by
  obtain ⟨p1, p2, p3, p4, p5⟩ := P
  refine ⟨fun s hs3 => ?_, fun s hs3 hts => ?_, p3, p4, p5⟩
  · show ft' (3 * 0 + s) = bI (fup (imT I) k t s)
    rw [Nat.mul_zero, Nat.zero_add]
    by_cases e : s = k
    · subst e; rw [fup_s]; exact ht
    · rw [fup_n e, (h1 s e).1]
      have := p1 s hs3
      rwa [Nat.mul_zero, Nat.zero_add] at this
  · have hts : fup (imT I) k t s = true := hts
    show fa' (3 * 0 + s) = nI (fup (imA I) k a s) ∧ fm' (3 * 0 + s) = nI (fup (imM I) k m s) ∧ fc' (3 * 0 + s) = nI (fup (imC I) k c s) ∧ ∀ j, j < fup (imC I) k c s → fb' (4096 * (3 * 0 + s) + j) = nI (fup (imB I) k B s j)
    rw [Nat.mul_zero, Nat.zero_add]
    by_cases e : s = k
    · subst e
      rw [fup_s] at hts
      rw [fup_s, fup_s, fup_s, fup_s]
      exact hs hts
    · rw [fup_n e] at hts
      rw [fup_n e, fup_n e, fup_n e, fup_n e]
      have q := p2 s hs3 hts
      rw [Nat.mul_zero, Nat.zero_add] at q
      obtain ⟨q1, q2, q3, q4⟩ := q
      obtain ⟨w1, w2, w3, w4⟩ := h1 s e
      exact ⟨w2.trans q1, w3.trans q2, w4.trans q3, fun j hj => (h2 _ (by have := hC s hs3; omega)).trans (q4 j hj)⟩
theorem mPic.oth {ft fa fm fc fb fk fe fp ft' fa' fm' fc' fb' : Nat → Int32} {J : Im} (P : mPic ft fa fm fc fb fk fe fp 1 J) {k : Nat} (hk : k < 3) (h1 : ∀ j, j ≠ k → ft' j = ft j ∧ fa' j = fa j ∧ fm' j = fm j ∧ fc' j = fc j) (h2 : ∀ j, (j < 4096 * k ∨ 4096 * (k + 1) ≤ j) → fb' j = fb j) (hC : ∀ s, s < 3 → imC J s ≤ 4096) : mPic ft' fa' fm' fc' fb' fk fe fp 1 J :=
  P.ag (fun s hs => ⟨(h1 _ (by omega)).1, (h1 _ (by omega)).2.1, (h1 _ (by omega)).2.2.1, (h1 _ (by omega)).2.2.2, fun j hj => h2 _ (by omega)⟩) (fun _ _ => rfl) rfl rfl hC
theorem in02 : vp_in 0 2 := pk_in 0 2 (by omega)
theorem cl0 : (0 : Int32).toNatClampNeg = 0 := rfl
set_option maxRecDepth 100000 in
set_option maxHeartbeats 4000000 in
theorem m_entry (l : Launch) {h : px_H} {I J : Im} {c : Nat} {B : Nat → Nat} {pl e : Int32} (X : Mdw h I J c B pl) (VI : imV I) (VJ : imV J) : px_Ct l 116 [.ref 2560, .int e] h (MdP h none (imT I, imA I, imM I, imC I, imB I, imK I, e, imP I) J c B pl) := by
  obtain ⟨ft, fa, fm, fc, fb, fk, fe, fp, ff, fr, fg, tb, rw, sm, M, P0, P1, hF, hO⟩ := X
  refine px_Ct.of (by decide) (Nat.le_of_ble_eq_true rfl) (px_wp_ok (sp := []) 60 _ _ _ _ _ ?_)
  simp only [px_ev_nil, px_ev_i, px_ev_l, px_ev_n, px_ev_r, px_wp, px_step, px_tg, px_i1, px_i2, px_l1, px_l2, px_il, px_a1, px_ia, px_iia, px_lki, px_lkl, px_lka, px_lk, px_sto, px_ins, px_del, px_popn, px_inv, px_cat, px_obj, px_arr, px_arq, px_rfv, px_rok, px_tB, px_tI, px_tZ, px_tG, px_tS, px_S, lv_args, Value.category, List.contains_cons, List.contains_nil, List.getElem?_cons_zero, List.getElem?_cons_succ, List.set_cons_zero, List.set_cons_succ, List.length_cons, List.length_nil, List.map_cons, List.map_nil, List.sum_cons, List.sum_nil, List.cons_append, List.nil_append, Option.toList_some, Option.toList_none, px_hold, Fin.isValue, Fin.val_zero, Fin.val_one, Fin.val_two, Nat.reduceBEq, Nat.reduceAdd, Nat.reduceLT, Nat.reduceLeDiff, Nat.reduceEqDiff, Nat.reduceMod, Int.reduceNeg, Int.reduceAdd, Int.reduceLE, Int.reduceLT, Int.reduceToNat, Int.cast_ofNat_Int, Int.ofNat_eq_natCast, Bool.or_self, Bool.or_false, Bool.false_or, Bool.and_false, Bool.and_self, Bool.false_and, Bool.true_and, Bool.false_eq_true, Bool.true_eq_false, ↓reduceIte, reduceCtorEq, true_and, and_true, false_and, and_false, false_or, or_false, true_or, or_true, ne_eq, not_false_eq_true, not_true_eq_false, px_f0, px_f1, px_f2, px_f3, kc_L0, kc_L1, if_true, if_false, px_10, true_implies, false_implies, implies_true, on_116, mL_116, rt_116, dp_116, lc_116, nr_116, yn_116, rc_8, e116_0, e116_1, fd_8_29, e116_4, kc_0, e116_5, e116_6, e116_7, M.o, M.e, in02, cl0]
  exact ⟨rfl, px_fr.rf.up ⟨by omega, by omega⟩, ⟨_, _, _, _, _, _, _, _, _, _, _, _, _, _, M.ue, ⟨P0.1, P0.2.1, P0.2.2.1, pk_us, P0.2.2.2.2⟩, ⟨P1.1, P1.2.1, P1.2.2.1, (pk_un (by omega)).trans P1.2.2.2.1, P1.2.2.2.2⟩, hF, hO⟩, rfl, rfl⟩
set_option maxRecDepth 100000 in
set_option maxHeartbeats 4000000 in
theorem m_page (l : Launch) {h : px_H} {I J : Im} {c : Nat} {B : Nat → Nat} {pl p : Int32} (X : Mdw h I J c B pl) (VI : imV I) (VJ : imV J) : px_Ct l 117 [.ref 2560, .int p] h (MdP h (some (.int (if pgO p then 1 else 0))) (if pgO p then (imT I, imA I, imM I, imC I, imB I, imK I, imE I, 2 ^ p.toInt.toNat) else I) J c B pl) := by
  have X0 := X
  obtain ⟨ft, fa, fm, fc, fb, fk, fe, fp, ff, fr, fg, tb, rw, sm, M, P0, P1, hF, hO⟩ := X
  refine px_Ct.of (by decide) (Nat.le_of_ble_eq_true rfl) (px_wp_ok (sp := []) 60 _ _ _ _ _ ?_)
  simp only [px_ev_nil, px_ev_i, px_ev_l, px_ev_n, px_ev_r, px_wp, px_step, px_tg, px_i1, px_i2, px_l1, px_l2, px_il, px_a1, px_ia, px_iia, px_lki, px_lkl, px_lka, px_lk, px_sto, px_ins, px_del, px_popn, px_inv, px_cat, px_obj, px_arr, px_arq, px_rfv, px_rok, px_tB, px_tI, px_tZ, px_tG, px_tS, px_S, lv_args, Value.category, List.contains_cons, List.contains_nil, List.getElem?_cons_zero, List.getElem?_cons_succ, List.set_cons_zero, List.set_cons_succ, List.length_cons, List.length_nil, List.map_cons, List.map_nil, List.sum_cons, List.sum_nil, List.cons_append, List.nil_append, Option.toList_some, Option.toList_none, px_hold, Fin.isValue, Fin.val_zero, Fin.val_one, Fin.val_two, Nat.reduceBEq, Nat.reduceAdd, Nat.reduceLT, Nat.reduceLeDiff, Nat.reduceEqDiff, Nat.reduceMod, Int.reduceNeg, Int.reduceAdd, Int.reduceLE, Int.reduceLT, Int.reduceToNat, Int.cast_ofNat_Int, Int.ofNat_eq_natCast, Bool.or_self, Bool.or_false, Bool.false_or, Bool.and_false, Bool.and_self, Bool.false_and, Bool.true_and, Bool.false_eq_true, Bool.true_eq_false, ↓reduceIte, reduceCtorEq, true_and, and_true, false_and, and_false, false_or, or_false, true_or, or_true, ne_eq, not_false_eq_true, not_true_eq_false, px_f0, px_f1, px_f2, px_f3, kc_L0, kc_L1, if_true, if_false, px_10, true_implies, false_implies, implies_true, on_117, mL_117, rt_117, dp_117, lc_117, nr_117, yn_117, rc_8, e117_0, e117_1, e117_4, e117_5, kc_12, e117_7, e117_10, kc_0, e117_11, e117_12, e117_13, fd_8_32, e117_16, e117_17, kc_1, e117_18, e117_19, e117_20, e117_21, e117_22, M.o, M.p, in02, cl0]
  refine ek_if (i_lt (a := p) (b := 0)) (fun q => ?_) fun q => ?_
  · have q : p.toInt < 0 := q
    rw [if_neg (by unfold pgO; omega), if_neg (by unfold pgO; omega)]
    exact MdP.rf X0
  have q : ¬ p.toInt < 0 := q
  refine ek_if (i_le (a := p) (b := 12)) (fun w => ?_) fun w => ?_
  · have w : p.toInt ≤ 12 := w
    rw [if_pos (by unfold pgO; omega), if_pos (by unfold pgO; omega)]
    have e1 : (1 : Int32) <<< (p &&& 31) = nI (2 ^ p.toInt.toNat) := by
      have := pg_sh p.toInt.toNat (by omega)
      rw [i_of (by omega)] at this
      exact this
    rw [e1]
    exact ⟨rfl, px_fr.rf.up ⟨by omega, by omega⟩, ⟨_, _, _, _, _, _, _, _, _, _, _, _, _, _, M.up, ⟨P0.1, P0.2.1, P0.2.2.1, P0.2.2.2.1, pk_us⟩, ⟨P1.1, P1.2.1, P1.2.2.1, P1.2.2.2.1, (pk_un (by omega)).trans P1.2.2.2.2⟩, hF, hO⟩, rfl, rfl⟩
  · have w : ¬ p.toInt ≤ 12 := w
    rw [if_neg (by unfold pgO; omega), if_neg (by unfold pgO; omega)]
    exact MdP.rf X0
set_option maxRecDepth 100000 in
set_option maxHeartbeats 4000000 in
theorem m_segment (l : Launch) {h : px_H} {I J : Im} {c : Nat} {B : Nat → Nat} {pl s a m : Int32} (X : Mdw h I J c B pl) (VI : imV I) (VJ : imV J) : px_Ct l 118 [.ref 2560, .int s, .int a, .int m] h (MdP h (some (.int (if sgO s a m then 1 else 0))) (if sgO s a m then sgN I s a m else I) J c B pl) := by
  have X0 := X
  obtain ⟨ft, fa, fm, fc, fb, fk, fe, fp, ff, fr, fg, tb, rw, sm, M, P0, P1, hF, hO⟩ := X
  refine px_Ct.of (by decide) (Nat.le_of_ble_eq_true rfl) (px_wp_ok (sp := []) 60 _ _ _ _ _ ?_)
  simp only [px_ev_nil, px_ev_i, px_ev_l, px_ev_n, px_ev_r, px_wp, px_step, px_tg, px_i1, px_i2, px_l1, px_l2, px_il, px_a1, px_ia, px_iia, px_lki, px_lkl, px_lka, px_lk, px_sto, px_ins, px_del, px_popn, px_inv, px_cat, px_obj, px_arr, px_arq, px_rfv, px_rok, px_tB, px_tI, px_tZ, px_tG, px_tS, px_S, lv_args, Value.category, List.contains_cons, List.contains_nil, List.getElem?_cons_zero, List.getElem?_cons_succ, List.set_cons_zero, List.set_cons_succ, List.length_cons, List.length_nil, List.map_cons, List.map_nil, List.sum_cons, List.sum_nil, List.cons_append, List.nil_append, Option.toList_some, Option.toList_none, px_hold, Fin.isValue, Fin.val_zero, Fin.val_one, Fin.val_two, Nat.reduceBEq, Nat.reduceAdd, Nat.reduceLT, Nat.reduceLeDiff, Nat.reduceEqDiff, Nat.reduceMod, Int.reduceNeg, Int.reduceAdd, Int.reduceLE, Int.reduceLT, Int.reduceToNat, Int.cast_ofNat_Int, Int.ofNat_eq_natCast, Bool.or_self, Bool.or_false, Bool.false_or, Bool.and_false, Bool.and_self, Bool.false_and, Bool.true_and, Bool.false_eq_true, Bool.true_eq_false, ↓reduceIte, reduceCtorEq, true_and, and_true, false_and, and_false, false_or, or_false, true_or, or_true, ne_eq, not_false_eq_true, not_true_eq_false, px_f0, px_f1, px_f2, px_f3, kc_L0, kc_L1, if_true, if_false, px_10, true_implies, false_implies, implies_true, on_118, mL_118, rt_118, dp_118, lc_118, nr_118, yn_118, rc_8, e118_0, e118_1, mt_8_54, kw_119, np_119, on_119, nr_119, fc_118_119, e118_4, e118_7, e118_8, e118_11, e118_12, ld_8_58, e118_14, e118_17, e118_18, e118_21, e118_22, ld_8_59, e118_24, e118_27, e118_28, kc_2, e118_29, e118_32, e118_33, e118_36, kc_0, e118_37, e118_38, e118_39, fd_8_7, e118_42, e118_43, e118_44, e118_47, e118_48, fd_8_20, e118_51, e118_52, e118_53, e118_54, e118_55, e118_58, e118_59, kc_1, e118_60, e118_61, e118_62, fd_8_13, e118_65, e118_66, e118_67, e118_68, e118_69, fd_8_17, e118_72, e118_73, e118_74, e118_75, e118_76]
  refine px_rd.use (m_isSegment l) (px_wp_ok (sp := [36, 38]) 60 _ _ _ _ _ ?_)
  have h36 : ¬ sgO s a m → px_P l 118 36 [(0, .ref 2560), (1, .int s), (2, .int a), (3, .int m)] [] h (MdP h (some (.int (if sgO s a m then 1 else 0))) (if sgO s a m then sgN I s a m else I) J c B pl) := by
    intro z
    rw [if_neg z, if_neg z]
    refine px_go_ok (sp := []) 60 ?_
    simp only [px_go, px_ev_nil, px_ev_i, px_ev_l, px_ev_n, px_ev_r, px_wp, px_step, px_tg, px_i1, px_i2, px_l1, px_l2, px_il, px_a1, px_ia, px_iia, px_lki, px_lkl, px_lka, px_lk, px_sto, px_ins, px_del, px_popn, px_inv, px_cat, px_obj, px_arr, px_arq, px_rfv, px_rok, px_tB, px_tI, px_tZ, px_tG, px_tS, px_S, lv_args, Value.category, List.contains_cons, List.contains_nil, List.getElem?_cons_zero, List.getElem?_cons_succ, List.set_cons_zero, List.set_cons_succ, List.length_cons, List.length_nil, List.map_cons, List.map_nil, List.sum_cons, List.sum_nil, List.cons_append, List.nil_append, Option.toList_some, Option.toList_none, px_hold, Fin.isValue, Fin.val_zero, Fin.val_one, Fin.val_two, Nat.reduceBEq, Nat.reduceAdd, Nat.reduceLT, Nat.reduceLeDiff, Nat.reduceEqDiff, Nat.reduceMod, Int.reduceNeg, Int.reduceAdd, Int.reduceLE, Int.reduceLT, Int.reduceToNat, Int.cast_ofNat_Int, Int.ofNat_eq_natCast, Bool.or_self, Bool.or_false, Bool.false_or, Bool.and_false, Bool.and_self, Bool.false_and, Bool.true_and, Bool.false_eq_true, Bool.true_eq_false, ↓reduceIte, reduceCtorEq, true_and, and_true, false_and, and_false, false_or, or_false, true_or, or_true, ne_eq, not_false_eq_true, not_true_eq_false, px_f0, px_f1, px_f2, px_f3, kc_L0, kc_L1, if_true, if_false, px_10, true_implies, false_implies, implies_true, on_118, mL_118, rt_118, dp_118, lc_118, nr_118, yn_118, rc_8, e118_0, e118_1, mt_8_54, kw_119, np_119, on_119, nr_119, fc_118_119, e118_4, e118_7, e118_8, e118_11, e118_12, ld_8_58, e118_14, e118_17, e118_18, e118_21, e118_22, ld_8_59, e118_24, e118_27, e118_28, kc_2, e118_29, e118_32, e118_33, e118_36, kc_0, e118_37, e118_38, e118_39, fd_8_7, e118_42, e118_43, e118_44, e118_47, e118_48, fd_8_20, e118_51, e118_52, e118_53, e118_54, e118_55, e118_58, e118_59, kc_1, e118_60, e118_61, e118_62, fd_8_13, e118_65, e118_66, e118_67, e118_68, e118_69, fd_8_17, e118_72, e118_73, e118_74, e118_75, e118_76]
    exact MdP.rf X0
  have h38 : sgO s a m → px_P l 118 38 [(0, .ref 2560), (1, .int s), (2, .int a), (3, .int m)] [] h (MdP h (some (.int (if sgO s a m then 1 else 0))) (if sgO s a m then sgN I s a m else I) J c B pl) := by
    intro z
    rw [if_pos z, if_pos z]
    obtain ⟨k, hk, rfl⟩ : ∃ k, k < 3 ∧ s = nI k := ⟨s.toInt.toNat, by have := z.1; omega, (i_of z.1.1).symm⟩
    have ek2 : (nI k).toInt.toNat = k := by rw [i_n (by omega), Int.toNat_natCast]
    have es : (nI k).toNatClampNeg = k := nI_clamp (by omega)
    have hin : vp_in (nI k) 6 := pk_in k 6 (by omega)
    have eI : sgN I (nI k) a m = imS I k true a.toInt.toNat m.toInt.toNat (imC I k) (imB I k) := by unfold sgN; rw [ek2]
    have ea := i_of z.2.1
    have em := i_of z.2.2.2.1
    rw [eI]
    have pt := P0.1 k hk
    rw [Nat.mul_zero, Nat.zero_add] at pt
    have hC := fun s hs => (VI.1 s hs).1
    have hCJ := fun s hs => (VJ.1 s hs).1
    refine px_go_ok (sp := []) 60 ?_
    cases e : imT I k with
    | true =>
      rw [e] at pt
      have q := P0.2.1 k hk e
      rw [Nat.mul_zero, Nat.zero_add] at q
      simp only [px_go, px_ev_nil, px_ev_i, px_ev_l, px_ev_n, px_ev_r, px_wp, px_step, px_tg, px_i1, px_i2, px_l1, px_l2, px_il, px_a1, px_ia, px_iia, px_lki, px_lkl, px_lka, px_lk, px_sto, px_ins, px_del, px_popn, px_inv, px_cat, px_obj, px_arr, px_arq, px_rfv, px_rok, px_tB, px_tI, px_tZ, px_tG, px_tS, px_S, lv_args, Value.category, List.contains_cons, List.contains_nil, List.getElem?_cons_zero, List.getElem?_cons_succ, List.set_cons_zero, List.set_cons_succ, List.length_cons, List.length_nil, List.map_cons, List.map_nil, List.sum_cons, List.sum_nil, List.cons_append, List.nil_append, Option.toList_some, Option.toList_none, px_hold, Fin.isValue, Fin.val_zero, Fin.val_one, Fin.val_two, Nat.reduceBEq, Nat.reduceAdd, Nat.reduceLT, Nat.reduceLeDiff, Nat.reduceEqDiff, Nat.reduceMod, Int.reduceNeg, Int.reduceAdd, Int.reduceLE, Int.reduceLT, Int.reduceToNat, Int.cast_ofNat_Int, Int.ofNat_eq_natCast, Bool.or_self, Bool.or_false, Bool.false_or, Bool.and_false, Bool.and_self, Bool.false_and, Bool.true_and, Bool.false_eq_true, Bool.true_eq_false, ↓reduceIte, reduceCtorEq, true_and, and_true, false_and, and_false, false_or, or_false, true_or, or_true, ne_eq, not_false_eq_true, not_true_eq_false, px_f0, px_f1, px_f2, px_f3, kc_L0, kc_L1, if_true, if_false, px_10, true_implies, false_implies, implies_true, on_118, mL_118, rt_118, dp_118, lc_118, nr_118, yn_118, rc_8, e118_0, e118_1, mt_8_54, kw_119, np_119, on_119, nr_119, fc_118_119, e118_4, e118_7, e118_8, e118_11, e118_12, ld_8_58, e118_14, e118_17, e118_18, e118_21, e118_22, ld_8_59, e118_24, e118_27, e118_28, kc_2, e118_29, e118_32, e118_33, e118_36, kc_0, e118_37, e118_38, e118_39, fd_8_7, e118_42, e118_43, e118_44, e118_47, e118_48, fd_8_20, e118_51, e118_52, e118_53, e118_54, e118_55, e118_58, e118_59, kc_1, e118_60, e118_61, e118_62, fd_8_13, e118_65, e118_66, e118_67, e118_68, e118_69, fd_8_17, e118_72, e118_73, e118_74, e118_75, e118_76, M.o, M.t, M.c, M.a, M.m, hin, es, pt, bI_t, px_up_nl, nz1]
      have w1 : ∀ j, j ≠ k → upd ft k 1 j = ft j ∧ upd fa k a j = fa j ∧ upd fm k m j = fm j ∧ fc j = fc j := fun j hj => ⟨pk_un hj, pk_un hj, pk_un hj, rfl⟩
      exact ⟨rfl, ((px_fr.rf.up ⟨by omega, by omega⟩).up ⟨by omega, by omega⟩).up ⟨by omega, by omega⟩, ⟨_, _, _, _, _, _, _, _, _, _, _, _, _, _, M.ut.ua.um, P0.seg hk w1 (fun _ _ => rfl) pk_us (fun _ => ⟨pk_us.trans ea.symm, pk_us.trans em.symm, q.2.2.1, q.2.2.2⟩) hC, P1.oth hk w1 (fun _ _ => rfl) hCJ, hF, hO⟩, rfl, rfl⟩
    | false =>
      rw [e] at pt
      have hz := (VI.1 k hk).2.2.2.2 e
      simp only [px_go, px_ev_nil, px_ev_i, px_ev_l, px_ev_n, px_ev_r, px_wp, px_step, px_tg, px_i1, px_i2, px_l1, px_l2, px_il, px_a1, px_ia, px_iia, px_lki, px_lkl, px_lka, px_lk, px_sto, px_ins, px_del, px_popn, px_inv, px_cat, px_obj, px_arr, px_arq, px_rfv, px_rok, px_tB, px_tI, px_tZ, px_tG, px_tS, px_S, lv_args, Value.category, List.contains_cons, List.contains_nil, List.getElem?_cons_zero, List.getElem?_cons_succ, List.set_cons_zero, List.set_cons_succ, List.length_cons, List.length_nil, List.map_cons, List.map_nil, List.sum_cons, List.sum_nil, List.cons_append, List.nil_append, Option.toList_some, Option.toList_none, px_hold, Fin.isValue, Fin.val_zero, Fin.val_one, Fin.val_two, Nat.reduceBEq, Nat.reduceAdd, Nat.reduceLT, Nat.reduceLeDiff, Nat.reduceEqDiff, Nat.reduceMod, Int.reduceNeg, Int.reduceAdd, Int.reduceLE, Int.reduceLT, Int.reduceToNat, Int.cast_ofNat_Int, Int.ofNat_eq_natCast, Bool.or_self, Bool.or_false, Bool.false_or, Bool.and_false, Bool.and_self, Bool.false_and, Bool.true_and, Bool.false_eq_true, Bool.true_eq_false, ↓reduceIte, reduceCtorEq, true_and, and_true, false_and, and_false, false_or, or_false, true_or, or_true, ne_eq, not_false_eq_true, not_true_eq_false, px_f0, px_f1, px_f2, px_f3, kc_L0, kc_L1, if_true, if_false, px_10, true_implies, false_implies, implies_true, on_118, mL_118, rt_118, dp_118, lc_118, nr_118, yn_118, rc_8, e118_0, e118_1, mt_8_54, kw_119, np_119, on_119, nr_119, fc_118_119, e118_4, e118_7, e118_8, e118_11, e118_12, ld_8_58, e118_14, e118_17, e118_18, e118_21, e118_22, ld_8_59, e118_24, e118_27, e118_28, kc_2, e118_29, e118_32, e118_33, e118_36, kc_0, e118_37, e118_38, e118_39, fd_8_7, e118_42, e118_43, e118_44, e118_47, e118_48, fd_8_20, e118_51, e118_52, e118_53, e118_54, e118_55, e118_58, e118_59, kc_1, e118_60, e118_61, e118_62, fd_8_13, e118_65, e118_66, e118_67, e118_68, e118_69, fd_8_17, e118_72, e118_73, e118_74, e118_75, e118_76, M.o, M.t, M.c, M.a, M.m, hin, es, pt, bI_f, px_up_nl, nz1]
      have w1 : ∀ j, j ≠ k → upd ft k 1 j = ft j ∧ upd fa k a j = fa j ∧ upd fm k m j = fm j ∧ upd fc k 0 j = fc j := fun j hj => ⟨pk_un hj, pk_un hj, pk_un hj, pk_un hj⟩
      exact ⟨rfl, (((px_fr.rf.up ⟨by omega, by omega⟩).up ⟨by omega, by omega⟩).up ⟨by omega, by omega⟩).up ⟨by omega, by omega⟩, ⟨_, _, _, _, _, _, _, _, _, _, _, _, _, _, M.uc.ut.ua.um, P0.seg hk w1 (fun _ _ => rfl) pk_us (fun _ => ⟨pk_us.trans ea.symm, pk_us.trans em.symm, by rw [pk_us, hz.2.2]; rfl, fun j hj => by omega⟩) hC, P1.oth hk w1 (fun _ _ => rfl) hCJ, hF, hO.u (n := 0) (by omega)⟩, rfl, rfl⟩
  simp only [px_ev_nil, px_ev_i, px_ev_l, px_ev_n, px_ev_r, px_wp, px_step, px_tg, px_i1, px_i2, px_l1, px_l2, px_il, px_a1, px_ia, px_iia, px_lki, px_lkl, px_lka, px_lk, px_sto, px_ins, px_del, px_popn, px_inv, px_cat, px_obj, px_arr, px_arq, px_rfv, px_rok, px_tB, px_tI, px_tZ, px_tG, px_tS, px_S, lv_args, Value.category, List.contains_cons, List.contains_nil, List.getElem?_cons_zero, List.getElem?_cons_succ, List.set_cons_zero, List.set_cons_succ, List.length_cons, List.length_nil, List.map_cons, List.map_nil, List.sum_cons, List.sum_nil, List.cons_append, List.nil_append, Option.toList_some, Option.toList_none, px_hold, Fin.isValue, Fin.val_zero, Fin.val_one, Fin.val_two, Nat.reduceBEq, Nat.reduceAdd, Nat.reduceLT, Nat.reduceLeDiff, Nat.reduceEqDiff, Nat.reduceMod, Int.reduceNeg, Int.reduceAdd, Int.reduceLE, Int.reduceLT, Int.reduceToNat, Int.cast_ofNat_Int, Int.ofNat_eq_natCast, Bool.or_self, Bool.or_false, Bool.false_or, Bool.and_false, Bool.and_self, Bool.false_and, Bool.true_and, Bool.false_eq_true, Bool.true_eq_false, ↓reduceIte, reduceCtorEq, true_and, and_true, false_and, and_false, false_or, or_false, true_or, or_true, ne_eq, not_false_eq_true, not_true_eq_false, px_f0, px_f1, px_f2, px_f3, kc_L0, kc_L1, if_true, if_false, px_10, true_implies, false_implies, implies_true, on_118, mL_118, rt_118, dp_118, lc_118, nr_118, yn_118, rc_8, e118_0, e118_1, mt_8_54, kw_119, np_119, on_119, nr_119, fc_118_119, e118_4, e118_7, e118_8, e118_11, e118_12, ld_8_58, e118_14, e118_17, e118_18, e118_21, e118_22, ld_8_59, e118_24, e118_27, e118_28, kc_2, e118_29, e118_32, e118_33, e118_36, kc_0, e118_37, e118_38, e118_39, fd_8_7, e118_42, e118_43, e118_44, e118_47, e118_48, fd_8_20, e118_51, e118_52, e118_53, e118_54, e118_55, e118_58, e118_59, kc_1, e118_60, e118_61, e118_62, fd_8_13, e118_65, e118_66, e118_67, e118_68, e118_69, fd_8_17, e118_72, e118_73, e118_74, e118_75, e118_76]
  refine ek_if bI_0 (fun q => h36 (fun z => by have := of_decide_eq_false q; exact this z.1)) fun q0 => ?_
  have q0 : 0 ≤ s.toInt ∧ s.toInt < 3 := by
    have : decide (0 ≤ s.toInt ∧ s.toInt < 3) = true := by simpa using q0
    exact of_decide_eq_true this
  refine ek_if (i_lt (a := a) (b := 0)) (fun q => h36 (fun z => by have q : a.toInt < 0 := q; have := z.2.1; omega)) fun q1 => ?_
  have q1 : ¬ a.toInt < 0 := q1
  refine ek_if (i_le (a := 131072) (b := a)) (fun q => h36 (fun z => by have q : 131072 ≤ a.toInt := q; have := z.2.2.1; omega)) fun q2 => ?_
  have q2 : ¬ 131072 ≤ a.toInt := q2
  refine ek_if (i_lt (a := m) (b := 0)) (fun q => h36 (fun z => by have q : m.toInt < 0 := q; have := z.2.2.2.1; omega)) fun q3 => ?_
  have q3 : ¬ m.toInt < 0 := q3
  have hle : (if s.toInt = 2 then (32768 : Int) else 0) ≤ 32768 := by split <;> omega
  refine ek_if (i_lt (a := 32768) (b := m)) (fun q => h36 (fun z => by have q : 32768 < m.toInt := q; have := z.2.2.2.2; omega)) fun q4 => ?_
  have q4 : ¬ 32768 < m.toInt := q4
  refine ek_if (i_le (a := 2) (b := s)) (fun q => h38 ?_) fun q5 => ?_
  · have q : 2 ≤ s.toInt := q
    exact ⟨q0, by omega, by omega, by omega, by rw [if_pos (by omega)]; omega⟩
  have q5 : ¬ 2 ≤ s.toInt := q5
  refine ek_if (i_le (a := m) (b := 0)) (fun q => h38 ?_) fun q => h36 ?_
  · have q : m.toInt ≤ 0 := q
    exact ⟨q0, by omega, by omega, by omega, by rw [if_neg (by omega)]; omega⟩
  · have q : ¬ m.toInt ≤ 0 := q
    intro z
    have := z.2.2.2.2
    rw [if_neg (by omega)] at this
    omega
set_option maxRecDepth 100000 in
set_option maxHeartbeats 4000000 in
theorem m_drop (l : Launch) {h : px_H} {I J : Im} {c : Nat} {B : Nat → Nat} {pl s : Int32} (X : Mdw h I J c B pl) (VI : imV I) (VJ : imV J) : px_Ct l 120 [.ref 2560, .int s] h (MdP h (some (.int (if drO I s then 1 else 0))) (if drO I s then drN I s else I) J c B pl) := by
  have X0 := X
  obtain ⟨ft, fa, fm, fc, fb, fk, fe, fp, ff, fr, fg, tb, rw, sm, M, P0, P1, hF, hO⟩ := X
  refine px_Ct.of (by decide) (Nat.le_of_ble_eq_true rfl) (px_wp_ok (sp := []) 60 _ _ _ _ _ ?_)
  simp only [px_ev_nil, px_ev_i, px_ev_l, px_ev_n, px_ev_r, px_wp, px_step, px_tg, px_i1, px_i2, px_l1, px_l2, px_il, px_a1, px_ia, px_iia, px_lki, px_lkl, px_lka, px_lk, px_sto, px_ins, px_del, px_popn, px_inv, px_cat, px_obj, px_arr, px_arq, px_rfv, px_rok, px_tB, px_tI, px_tZ, px_tG, px_tS, px_S, lv_args, Value.category, List.contains_cons, List.contains_nil, List.getElem?_cons_zero, List.getElem?_cons_succ, List.set_cons_zero, List.set_cons_succ, List.length_cons, List.length_nil, List.map_cons, List.map_nil, List.sum_cons, List.sum_nil, List.cons_append, List.nil_append, Option.toList_some, Option.toList_none, px_hold, Fin.isValue, Fin.val_zero, Fin.val_one, Fin.val_two, Nat.reduceBEq, Nat.reduceAdd, Nat.reduceLT, Nat.reduceLeDiff, Nat.reduceEqDiff, Nat.reduceMod, Int.reduceNeg, Int.reduceAdd, Int.reduceLE, Int.reduceLT, Int.reduceToNat, Int.cast_ofNat_Int, Int.ofNat_eq_natCast, Bool.or_self, Bool.or_false, Bool.false_or, Bool.and_false, Bool.and_self, Bool.false_and, Bool.true_and, Bool.false_eq_true, Bool.true_eq_false, ↓reduceIte, reduceCtorEq, true_and, and_true, false_and, and_false, false_or, or_false, true_or, or_true, ne_eq, not_false_eq_true, not_true_eq_false, px_f0, px_f1, px_f2, px_f3, kc_L0, kc_L1, if_true, if_false, px_10, true_implies, false_implies, implies_true, on_120, mL_120, rt_120, dp_120, lc_120, nr_120, yn_120, rc_8, e120_0, e120_1, mt_8_54, kw_119, np_119, on_119, nr_119, fc_120_119, e120_4, e120_7, e120_8, fd_8_7, e120_11, e120_12, e120_13, e120_16, kc_0, e120_17, e120_18, e120_19, e120_22, e120_23, e120_24, e120_25, kc_1, e120_26]
  refine px_rd.use (m_isSegment l) (px_wp_ok (sp := []) 60 _ _ _ _ _ ?_)
  by_cases hs : 0 ≤ s.toInt ∧ s.toInt < 3
  · obtain ⟨k, hk, rfl⟩ : ∃ k, k < 3 ∧ s = nI k := ⟨s.toInt.toNat, by omega, (i_of hs.1).symm⟩
    have ek2 : (nI k).toInt.toNat = k := by rw [i_n (by omega), Int.toNat_natCast]
    have es : (nI k).toNatClampNeg = k := nI_clamp (by omega)
    have hin : vp_in (nI k) 6 := pk_in k 6 (by omega)
    have pt := P0.1 k hk
    rw [Nat.mul_zero, Nat.zero_add] at pt
    rw [decide_eq_true hs]
    cases e : imT I k with
    | false =>
      rw [e] at pt
      simp only [px_ev_nil, px_ev_i, px_ev_l, px_ev_n, px_ev_r, px_wp, px_step, px_tg, px_i1, px_i2, px_l1, px_l2, px_il, px_a1, px_ia, px_iia, px_lki, px_lkl, px_lka, px_lk, px_sto, px_ins, px_del, px_popn, px_inv, px_cat, px_obj, px_arr, px_arq, px_rfv, px_rok, px_tB, px_tI, px_tZ, px_tG, px_tS, px_S, lv_args, Value.category, List.contains_cons, List.contains_nil, List.getElem?_cons_zero, List.getElem?_cons_succ, List.set_cons_zero, List.set_cons_succ, List.length_cons, List.length_nil, List.map_cons, List.map_nil, List.sum_cons, List.sum_nil, List.cons_append, List.nil_append, Option.toList_some, Option.toList_none, px_hold, Fin.isValue, Fin.val_zero, Fin.val_one, Fin.val_two, Nat.reduceBEq, Nat.reduceAdd, Nat.reduceLT, Nat.reduceLeDiff, Nat.reduceEqDiff, Nat.reduceMod, Int.reduceNeg, Int.reduceAdd, Int.reduceLE, Int.reduceLT, Int.reduceToNat, Int.cast_ofNat_Int, Int.ofNat_eq_natCast, Bool.or_self, Bool.or_false, Bool.false_or, Bool.and_false, Bool.and_self, Bool.false_and, Bool.true_and, Bool.false_eq_true, Bool.true_eq_false, ↓reduceIte, reduceCtorEq, true_and, and_true, false_and, and_false, false_or, or_false, true_or, or_true, ne_eq, not_false_eq_true, not_true_eq_false, px_f0, px_f1, px_f2, px_f3, kc_L0, kc_L1, if_true, if_false, px_10, true_implies, false_implies, implies_true, on_120, mL_120, rt_120, dp_120, lc_120, nr_120, yn_120, rc_8, e120_0, e120_1, mt_8_54, kw_119, np_119, on_119, nr_119, fc_120_119, e120_4, e120_7, e120_8, fd_8_7, e120_11, e120_12, e120_13, e120_16, kc_0, e120_17, e120_18, e120_19, e120_22, e120_23, e120_24, e120_25, kc_1, e120_26, M.o, M.t, hin, es, pt, bI_f, bI_t]
      have hn : ¬ drO I (nI k) := fun z => by have := z.2; rw [ek2, e] at this; cases this
      rw [if_neg hn, if_neg hn]
      exact MdP.rf X0
    | true =>
      rw [e] at pt
      simp only [px_ev_nil, px_ev_i, px_ev_l, px_ev_n, px_ev_r, px_wp, px_step, px_tg, px_i1, px_i2, px_l1, px_l2, px_il, px_a1, px_ia, px_iia, px_lki, px_lkl, px_lka, px_lk, px_sto, px_ins, px_del, px_popn, px_inv, px_cat, px_obj, px_arr, px_arq, px_rfv, px_rok, px_tB, px_tI, px_tZ, px_tG, px_tS, px_S, lv_args, Value.category, List.contains_cons, List.contains_nil, List.getElem?_cons_zero, List.getElem?_cons_succ, List.set_cons_zero, List.set_cons_succ, List.length_cons, List.length_nil, List.map_cons, List.map_nil, List.sum_cons, List.sum_nil, List.cons_append, List.nil_append, Option.toList_some, Option.toList_none, px_hold, Fin.isValue, Fin.val_zero, Fin.val_one, Fin.val_two, Nat.reduceBEq, Nat.reduceAdd, Nat.reduceLT, Nat.reduceLeDiff, Nat.reduceEqDiff, Nat.reduceMod, Int.reduceNeg, Int.reduceAdd, Int.reduceLE, Int.reduceLT, Int.reduceToNat, Int.cast_ofNat_Int, Int.ofNat_eq_natCast, Bool.or_self, Bool.or_false, Bool.false_or, Bool.and_false, Bool.and_self, Bool.false_and, Bool.true_and, Bool.false_eq_true, Bool.true_eq_false, ↓reduceIte, reduceCtorEq, true_and, and_true, false_and, and_false, false_or, or_false, true_or, or_true, ne_eq, not_false_eq_true, not_true_eq_false, px_f0, px_f1, px_f2, px_f3, kc_L0, kc_L1, if_true, if_false, px_10, true_implies, false_implies, implies_true, on_120, mL_120, rt_120, dp_120, lc_120, nr_120, yn_120, rc_8, e120_0, e120_1, mt_8_54, kw_119, np_119, on_119, nr_119, fc_120_119, e120_4, e120_7, e120_8, fd_8_7, e120_11, e120_12, e120_13, e120_16, kc_0, e120_17, e120_18, e120_19, e120_22, e120_23, e120_24, e120_25, kc_1, e120_26, M.o, M.t, hin, es, pt, bI_t, nz0]
      have hn : drO I (nI k) := ⟨hs, by rw [ek2]; exact e⟩
      rw [if_pos hn, if_pos hn]
      have eI : drN I (nI k) = imS I k false 0 0 0 (imB I k) := by unfold drN; rw [ek2]
      rw [eI]
      have w1 : ∀ j, j ≠ k → upd ft k 0 j = ft j ∧ fa j = fa j ∧ fm j = fm j ∧ fc j = fc j := fun j hj => ⟨pk_un hj, rfl, rfl, rfl⟩
      exact ⟨rfl, px_fr.rf.up ⟨by omega, by omega⟩, ⟨_, _, _, _, _, _, _, _, _, _, _, _, _, _, M.ut, P0.seg hk w1 (fun _ _ => rfl) pk_us (fun z => by cases z) (fun s hs => (VI.1 s hs).1), P1.oth hk w1 (fun _ _ => rfl) (fun s hs => (VJ.1 s hs).1), hF, hO⟩, rfl, rfl⟩
  · rw [if_neg (fun z => hs z.1), if_neg (fun z => hs z.1), decide_eq_false hs]
    simp only [px_ev_nil, px_ev_i, px_ev_l, px_ev_n, px_ev_r, px_wp, px_step, px_tg, px_i1, px_i2, px_l1, px_l2, px_il, px_a1, px_ia, px_iia, px_lki, px_lkl, px_lka, px_lk, px_sto, px_ins, px_del, px_popn, px_inv, px_cat, px_obj, px_arr, px_arq, px_rfv, px_rok, px_tB, px_tI, px_tZ, px_tG, px_tS, px_S, lv_args, Value.category, List.contains_cons, List.contains_nil, List.getElem?_cons_zero, List.getElem?_cons_succ, List.set_cons_zero, List.set_cons_succ, List.length_cons, List.length_nil, List.map_cons, List.map_nil, List.sum_cons, List.sum_nil, List.cons_append, List.nil_append, Option.toList_some, Option.toList_none, px_hold, Fin.isValue, Fin.val_zero, Fin.val_one, Fin.val_two, Nat.reduceBEq, Nat.reduceAdd, Nat.reduceLT, Nat.reduceLeDiff, Nat.reduceEqDiff, Nat.reduceMod, Int.reduceNeg, Int.reduceAdd, Int.reduceLE, Int.reduceLT, Int.reduceToNat, Int.cast_ofNat_Int, Int.ofNat_eq_natCast, Bool.or_self, Bool.or_false, Bool.false_or, Bool.and_false, Bool.and_self, Bool.false_and, Bool.true_and, Bool.false_eq_true, Bool.true_eq_false, ↓reduceIte, reduceCtorEq, true_and, and_true, false_and, and_false, false_or, or_false, true_or, or_true, ne_eq, not_false_eq_true, not_true_eq_false, px_f0, px_f1, px_f2, px_f3, kc_L0, kc_L1, if_true, if_false, px_10, true_implies, false_implies, implies_true, on_120, mL_120, rt_120, dp_120, lc_120, nr_120, yn_120, rc_8, e120_0, e120_1, mt_8_54, kw_119, np_119, on_119, nr_119, fc_120_119, e120_4, e120_7, e120_8, fd_8_7, e120_11, e120_12, e120_13, e120_16, kc_0, e120_17, e120_18, e120_19, e120_22, e120_23, e120_24, e120_25, kc_1, e120_26, bI_f]
    exact MdP.rf X0
abbrev mrO (o : Int32) : Prop := 0 ≤ o.toInt ∧ o.toInt ≤ 4094 ∧ o.toInt % 2 = 0
theorem i_rem2 (o : Int32) (h : 0 ≤ o.toInt) : o - o / 2 * 2 = nI (o.toInt.toNat % 2) ∧ o / 2 = nI (o.toInt.toNat / 2) := by
  have h1 := i_hi o
  obtain ⟨k, hk, rfl⟩ : ∃ k, k < 2147483648 ∧ o = nI k := ⟨o.toInt.toNat, by omega, (i_of h).symm⟩
  rw [i_n hk, Int.toNat_natCast]
  exact ⟨pk_rem (d := 2) hk (by omega) (by omega), pk_div (d := 2) hk (by omega) (by omega)⟩
theorem ne2 : ((2 : Int32) = 0) = False := by decide
set_option maxRecDepth 100000 in
set_option maxHeartbeats 4000000 in
theorem m_mark (l : Launch) {h : px_H} {I J : Im} {c : Nat} {B : Nat → Nat} {pl o : Int32} {on : Bool} (X : Mdw h I J c B pl) (VI : imV I) (VJ : imV J) : px_Ct l 123 [.ref 2560, .int o, .int (bI on)] h (MdP h (some (.int (if maO I o on then 1 else 0))) (if maO I o on then maN I o else I) J c B pl) := by
  have X0 := X
  obtain ⟨ft, fa, fm, fc, fb, fk, fe, fp, ff, fr, fg, tb, rw, sm, M, P0, P1, hF, hO⟩ := X
  have ok : okm o.toInt = decide (0 ≤ o.toInt ∧ o.toInt < 4096 ∧ o.toInt % 2 = 0) := rfl
  refine px_Ct.of (by decide) (Nat.le_of_ble_eq_true rfl) (px_wp_ok (sp := [17]) 60 _ _ _ _ _ ?_)
  simp only [px_ev_nil, px_ev_i, px_ev_l, px_ev_n, px_ev_r, px_wp, px_step, px_tg, px_i1, px_i2, px_l1, px_l2, px_il, px_a1, px_ia, px_iia, px_lki, px_lkl, px_lka, px_lk, px_sto, px_ins, px_del, px_popn, px_inv, px_cat, px_obj, px_arr, px_arq, px_rfv, px_rok, px_tB, px_tI, px_tZ, px_tG, px_tS, px_S, lv_args, Value.category, List.contains_cons, List.contains_nil, List.getElem?_cons_zero, List.getElem?_cons_succ, List.set_cons_zero, List.set_cons_succ, List.length_cons, List.length_nil, List.map_cons, List.map_nil, List.sum_cons, List.sum_nil, List.cons_append, List.nil_append, Option.toList_some, Option.toList_none, px_hold, Fin.isValue, Fin.val_zero, Fin.val_one, Fin.val_two, Nat.reduceBEq, Nat.reduceAdd, Nat.reduceLT, Nat.reduceLeDiff, Nat.reduceEqDiff, Nat.reduceMod, Int.reduceNeg, Int.reduceAdd, Int.reduceLE, Int.reduceLT, Int.reduceToNat, Int.cast_ofNat_Int, Int.ofNat_eq_natCast, Bool.or_self, Bool.or_false, Bool.false_or, Bool.and_false, Bool.and_self, Bool.false_and, Bool.true_and, Bool.false_eq_true, Bool.true_eq_false, ↓reduceIte, reduceCtorEq, true_and, and_true, false_and, and_false, false_or, or_false, true_or, or_true, ne_eq, not_false_eq_true, not_true_eq_false, px_f0, px_f1, px_f2, px_f3, kc_L0, kc_L1, if_true, if_false, px_10, true_implies, false_implies, implies_true, on_123, mL_123, rt_123, dp_123, lc_123, nr_123, yn_123, rc_8, e123_0, e123_1, e123_4, e123_5, kc_4094, e123_8, e123_11, e123_12, kc_2, e123_13, e123_14, e123_17, e123_18, fd_8_26, e123_21, e123_22, e123_23, e123_24, e123_25, e123_26, e123_29, kc_0, e123_30, e123_31, e123_32, e123_35, e123_36, e123_37, e123_38, e123_39, e123_40, kc_1, e123_41, ne2]
  have no : ¬ (0 ≤ o.toInt ∧ o.toInt < 4096 ∧ o.toInt % 2 = 0) → MdP h (some (.int (if maO I o on then 1 else 0))) (if maO I o on then maN I o else I) J c B pl (some (.int 0)) h 0 0 := by
    intro z
    have hn : ¬ maO I o on := fun y => by have := y.1; rw [ok, decide_eq_false z] at this; cases this
    rw [if_neg hn, if_neg hn]
    exact MdP.rf X0
  refine ek_if (i_lt (a := o) (b := 0)) (fun q => no (by have q : o.toInt < 0 := q; omega)) fun q0 => ?_
  have q0 : ¬ o.toInt < 0 := q0
  refine ek_if (i_lt (a := 4094) (b := o)) (fun q => ?_) fun q1 => ?_
  · have q : 4094 < o.toInt := q
    exact no (by omega)
  have q1 : ¬ 4094 < o.toInt := q1
  obtain ⟨er, ed⟩ := i_rem2 o (by omega)
  rw [er]
  refine ek_ifn (nI_eq (a := o.toInt.toNat % 2) (b := 0) (by omega) (by omega)) (fun q => no (by omega)) fun q2 => ?_
  obtain ⟨k, hk, hk2, rfl⟩ : ∃ k, k < 4096 ∧ k % 2 = 0 ∧ o = nI k := ⟨o.toInt.toNat, by omega, by omega, (i_of (by omega)).symm⟩
  have ei := i_n (n := k) (by omega)
  rw [ei, Int.toNat_natCast] at ed
  have es : (nI (k / 2)).toNatClampNeg = k / 2 := nI_clamp (by omega)
  have hin : vp_in (nI (k / 2)) 4096 := pk_in (k / 2) 4096 (by omega)
  have pk := P0.2.2.1 (k / 2) (by omega)
  rw [Nat.mul_zero, Nat.zero_add] at pk
  have hk : hmk I (nI k).toInt = imK I (k / 2) := by
    unfold hmk
    rw [ok, ei, Int.toNat_natCast, decide_eq_true (by omega), Bool.true_and]
  have hok : okm (nI k).toInt = true := by rw [ok, ei, decide_eq_true (by omega)]
  refine px_go_ok (sp := []) 60 ?_
  simp only [px_go, px_ev_nil, px_ev_i, px_ev_l, px_ev_n, px_ev_r, px_wp, px_step, px_tg, px_i1, px_i2, px_l1, px_l2, px_il, px_a1, px_ia, px_iia, px_lki, px_lkl, px_lka, px_lk, px_sto, px_ins, px_del, px_popn, px_inv, px_cat, px_obj, px_arr, px_arq, px_rfv, px_rok, px_tB, px_tI, px_tZ, px_tG, px_tS, px_S, lv_args, Value.category, List.contains_cons, List.contains_nil, List.getElem?_cons_zero, List.getElem?_cons_succ, List.set_cons_zero, List.set_cons_succ, List.length_cons, List.length_nil, List.map_cons, List.map_nil, List.sum_cons, List.sum_nil, List.cons_append, List.nil_append, Option.toList_some, Option.toList_none, px_hold, Fin.isValue, Fin.val_zero, Fin.val_one, Fin.val_two, Nat.reduceBEq, Nat.reduceAdd, Nat.reduceLT, Nat.reduceLeDiff, Nat.reduceEqDiff, Nat.reduceMod, Int.reduceNeg, Int.reduceAdd, Int.reduceLE, Int.reduceLT, Int.reduceToNat, Int.cast_ofNat_Int, Int.ofNat_eq_natCast, Bool.or_self, Bool.or_false, Bool.false_or, Bool.and_false, Bool.and_self, Bool.false_and, Bool.true_and, Bool.false_eq_true, Bool.true_eq_false, ↓reduceIte, reduceCtorEq, true_and, and_true, false_and, and_false, false_or, or_false, true_or, or_true, ne_eq, not_false_eq_true, not_true_eq_false, px_f0, px_f1, px_f2, px_f3, kc_L0, kc_L1, if_true, if_false, px_10, true_implies, false_implies, implies_true, on_123, mL_123, rt_123, dp_123, lc_123, nr_123, yn_123, rc_8, e123_0, e123_1, e123_4, e123_5, kc_4094, e123_8, e123_11, e123_12, kc_2, e123_13, e123_14, e123_17, e123_18, fd_8_26, e123_21, e123_22, e123_23, e123_24, e123_25, e123_26, e123_29, kc_0, e123_30, e123_31, e123_32, e123_35, e123_36, e123_37, e123_38, e123_39, e123_40, kc_1, e123_41, M.o, M.k, ne2, ed, es, hin, pk, nzb]
  refine ek_ifn bI_e (fun w => ?_) fun w => ?_
  · have hn : maO I (nI k) on := ⟨hok, by rw [hk]; exact w⟩
    rw [if_pos hn, if_pos hn]
    have eI : maN I (nI k) = (imT I, imA I, imM I, imC I, imB I, (fun q => if q = k / 2 then !(imK I q) else imK I q), imE I, imP I) := by unfold maN; rw [ei, Int.toNat_natCast]
    rw [eI]
    refine ⟨rfl, px_fr.rf.up ⟨by omega, by omega⟩, ⟨_, _, _, _, _, _, _, _, _, _, _, _, _, _, M.uk, ⟨P0.1, P0.2.1, fun q hq => ?_, P0.2.2.2.1, P0.2.2.2.2⟩, ⟨P1.1, P1.2.1, fun q hq => (pk_un (by omega)).trans (P1.2.2.1 q hq), P1.2.2.2.1, P1.2.2.2.2⟩, hF, hO⟩, rfl, rfl⟩
    show upd fk (k / 2) (bI on) (2048 * 0 + q) = bI (if q = k / 2 then !(imK I q) else imK I q)
    rw [Nat.mul_zero, Nat.zero_add]
    by_cases e : q = k / 2
    · rw [if_pos e, e, pk_us]
      cases h1 : imK I (k / 2) <;> cases h2 : on
      · rw [h1, h2] at w; exact absurd rfl w
      · rfl
      · rfl
      · rw [h1, h2] at w; exact absurd rfl w
    · rw [if_neg e, pk_un e]
      have := P0.2.2.1 q hq
      rwa [Nat.mul_zero, Nat.zero_add] at this
  · have hn : ¬ maO I (nI k) on := fun z => z.2 (by rw [hk]; exact w)
    rw [if_neg hn, if_neg hn]
    exact MdP.rf X0
