/-! ImageFile: what changes the image made -/
def Ps (nM nS nD : Nat → Nat) (nF : Nat) : Nat := Phi nM + Phi nS + Phi nD + phi 16384 nF
def IFp (h : px_H) (nM nS nD : Nat → Nat) (nF : Nat) (v : Option Value) (I J : Im) (c : Nat) (B : Nat → Nat) (pl : Int32) : px_K := fun r h' mc ms => r = v ∧ px_fr IFk h h' ∧ ∃ nM' nS' nD' nF', IFw h' I J c B pl nM' nS' nD' nF' ∧ mc + Ps nM nS nD nF ≤ Ps nM' nS' nD' nF' ∧ ms + Ps nM nS nD nF ≤ Ps nM' nS' nD' nF'
theorem IFp.rf {h : px_H} {nM nS nD : Nat → Nat} {nF : Nat} {v : Option Value} {I J : Im} {c : Nat} {B : Nat → Nat} {pl : Int32} (X : IFw h I J c B pl nM nS nD nF) : IFp h nM nS nD nF v I J c B pl v h 0 0 := ⟨rfl, px_fr.rf, nM, nS, nD, nF, X, by omega, by omega⟩
theorem IFw.made {h h' : px_H} {nM nS nD nM' : Nat → Nat} {nF : Nat} {I J I' : Im} {c : Nat} {B : Nat → Nat} {pl : Int32} (X : IFw h I J c B pl nM nS nD nF) (hf : px_fr (imQ 512) h h') (H : ImA h' 512 nM' I') (hP : pow2 (imP I')) : IFw h' I' J c B pl nM' nS nD nF := by
  obtain ⟨ht, HS, h0, HM, HJ, F, ⟨nb, rw, bg, W⟩, ⟨tb, rw', nr, nb', nl, R⟩, ⟨g, hg⟩, ⟨D, HD⟩, p1, p2⟩ := X
  have ht' : px_top h' := ht.fr hf (fun j hj => by unfold imQ at hj; omega)
  have HS' : Stc h' := HS.fr hf (fun j hj => by unfold imQ at hj; omega)
  obtain ⟨-, -, w1, ⟨gw, w2, w3⟩, -⟩ := W
  exact ⟨ht', HS', (hf _ (by unfold imQ; omega)).trans h0, H, HJ.fr hf (fun j hj => by unfold imQ at hj ⊢; omega), F.fr hf (by unfold imQ; omega) (by unfold imQ; omega), ⟨nb, rw, bg, ht', HS', (hf _ (by unfold imQ; omega)).trans w1, ⟨gw, (hf _ (by unfold imQ; omega)).trans w2, w3⟩, H⟩, ⟨tb, rw', nr, nb', nl, (hf _ (by unfold imQ; omega)).trans R⟩, ⟨g, (hf _ (by unfold imQ; omega)).trans hg⟩, ⟨D, HD.fr hf (fun j hj => by unfold imQ at hj ⊢; omega)⟩, hP, p2⟩
theorem IFk.q {i j : Nat} (h1 : 448 ≤ i) (h2 : i + 576 ≤ 2560) (h : imQ i j) : IFk j := by unfold imQ at h; exact ⟨by omega, by omega⟩
set_option maxRecDepth 100000 in
set_option maxHeartbeats 4000000 in
theorem t_ImageFile_clear (l : Launch) {h : px_H} {nM nS nD : Nat → Nat} {nF : Nat} {I J : Im} {c : Nat} {B : Nat → Nat} {pl : Int32} (X : IFw h I J c B pl nM nS nD nF) : px_Ct l 6 [.ref 448] h (IFp h nM nS nD nF none im0 J c B pl) := by
  have h0 := X.2.2.1
  have D1 := X.2.2.2.1.1
  refine px_Ct.of (by decide) (Nat.le_of_ble_eq_true rfl) (px_wp_ok (sp := []) 60 _ _ _ _ _ ?_)
  simp only [px_ev_nil, px_ev_i, px_ev_l, px_ev_n, px_ev_r, px_wp, px_step, px_tg, px_i1, px_i2, px_l1, px_l2, px_il, px_a1, px_ia, px_iia, px_lki, px_lkl, px_lka, px_lk, px_sto, px_ins, px_del, px_popn, px_inv, px_cat, px_obj, px_arr, px_arq, px_rfv, px_rok, px_tB, px_tI, px_tZ, px_tG, px_tS, px_S, lv_args, Value.category, List.contains_cons, List.contains_nil, List.getElem?_cons_zero, List.getElem?_cons_succ, List.set_cons_zero, List.set_cons_succ, List.length_cons, List.length_nil, List.map_cons, List.map_nil, List.sum_cons, List.sum_nil, List.cons_append, List.nil_append, Option.toList_some, Option.toList_none, px_hold, Fin.isValue, Fin.val_zero, Fin.val_one, Fin.val_two, Nat.reduceBEq, Nat.reduceAdd, Nat.reduceLT, Nat.reduceLeDiff, Nat.reduceEqDiff, Nat.reduceMod, Int.reduceNeg, Int.reduceAdd, Int.reduceLE, Int.reduceLT, Int.reduceToNat, Int.cast_ofNat_Int, Int.ofNat_eq_natCast, Bool.or_self, Bool.or_false, Bool.false_or, Bool.and_false, Bool.and_self, Bool.false_and, Bool.true_and, Bool.false_eq_true, Bool.true_eq_false, ↓reduceIte, reduceCtorEq, true_and, and_true, false_and, and_false, false_or, or_false, true_or, or_true, ne_eq, not_false_eq_true, not_true_eq_false, px_f0, px_f1, px_f2, px_f3, kc_L0, kc_L1, if_true, if_false, px_10, true_implies, false_implies, implies_true, on_6, mL_6, rt_6, dp_6, lc_6, nr_6, yn_6, rc_7, e6_0, e6_1, fd_7_10, e6_4, mt_7_44, kw_7, np_7, on_7, nr_7, fc_6_7, rc_1, e6_7, h0, D1]
  refine px_Ct.use (t_Image_becomeEmpty l X.2.2.2.1) ?_
  rintro _ h1 _ _ ⟨rfl, D2, hf1, rfl, rfl⟩
  refine px_wp_ok (sp := []) 60 _ _ _ _ _ ?_
  simp only [px_ev_nil, px_ev_i, px_ev_l, px_ev_n, px_ev_r, px_wp, px_step, px_tg, px_i1, px_i2, px_l1, px_l2, px_il, px_a1, px_ia, px_iia, px_lki, px_lkl, px_lka, px_lk, px_sto, px_ins, px_del, px_popn, px_inv, px_cat, px_obj, px_arr, px_arq, px_rfv, px_rok, px_tB, px_tI, px_tZ, px_tG, px_tS, px_S, lv_args, Value.category, List.contains_cons, List.contains_nil, List.getElem?_cons_zero, List.getElem?_cons_succ, List.set_cons_zero, List.set_cons_succ, List.length_cons, List.length_nil, List.map_cons, List.map_nil, List.sum_cons, List.sum_nil, List.cons_append, List.nil_append, Option.toList_some, Option.toList_none, px_hold, Fin.isValue, Fin.val_zero, Fin.val_one, Fin.val_two, Nat.reduceBEq, Nat.reduceAdd, Nat.reduceLT, Nat.reduceLeDiff, Nat.reduceEqDiff, Nat.reduceMod, Int.reduceNeg, Int.reduceAdd, Int.reduceLE, Int.reduceLT, Int.reduceToNat, Int.cast_ofNat_Int, Int.ofNat_eq_natCast, Bool.or_self, Bool.or_false, Bool.false_or, Bool.and_false, Bool.and_self, Bool.false_and, Bool.true_and, Bool.false_eq_true, Bool.true_eq_false, ↓reduceIte, reduceCtorEq, true_and, and_true, false_and, and_false, false_or, or_false, true_or, or_true, ne_eq, not_false_eq_true, not_true_eq_false, px_f0, px_f1, px_f2, px_f3, kc_L0, kc_L1, if_true, if_false, px_10, true_implies, false_implies, implies_true, on_6, mL_6, rt_6, dp_6, lc_6, nr_6, yn_6, rc_7, e6_0, e6_1, fd_7_10, e6_4, mt_7_44, kw_7, np_7, on_7, nr_7, fc_6_7, rc_1, e6_7, Nat.add_zero]
  exact ⟨rfl, hf1.mono fun j hj => IFk.q (by omega) (by omega) hj, nM, nS, nD, nF, X.made hf1 D2 ⟨0, by omega, rfl⟩, by omega, by omega⟩
set_option maxRecDepth 100000 in
set_option maxHeartbeats 4000000 in
theorem t_ImageFile_entry (l : Launch) {h : px_H} {nM nS nD : Nat → Nat} {nF : Nat} {I J : Im} {c : Nat} {B : Nat → Nat} {pl e : Int32} (X : IFw h I J c B pl nM nS nD nF) : px_Ct l 11 [.ref 448, .int e] h (IFp h nM nS nD nF none (imT I, imA I, imM I, imC I, imB I, imK I, e, imP I) J c B pl) := by
  have h0 := X.2.2.1
  have D := X.2.2.2.1
  have D1 := D.1
  refine px_Ct.of (by decide) (Nat.le_of_ble_eq_true rfl) (px_wp_ok (sp := []) 60 _ _ _ _ _ ?_)
  simp only [px_ev_nil, px_ev_i, px_ev_l, px_ev_n, px_ev_r, px_wp, px_step, px_tg, px_i1, px_i2, px_l1, px_l2, px_il, px_a1, px_ia, px_iia, px_lki, px_lkl, px_lka, px_lk, px_sto, px_ins, px_del, px_popn, px_inv, px_cat, px_obj, px_arr, px_arq, px_rfv, px_rok, px_tB, px_tI, px_tZ, px_tG, px_tS, px_S, lv_args, Value.category, List.contains_cons, List.contains_nil, List.getElem?_cons_zero, List.getElem?_cons_succ, List.set_cons_zero, List.set_cons_succ, List.length_cons, List.length_nil, List.map_cons, List.map_nil, List.sum_cons, List.sum_nil, List.cons_append, List.nil_append, Option.toList_some, Option.toList_none, px_hold, Fin.isValue, Fin.val_zero, Fin.val_one, Fin.val_two, Nat.reduceBEq, Nat.reduceAdd, Nat.reduceLT, Nat.reduceLeDiff, Nat.reduceEqDiff, Nat.reduceMod, Int.reduceNeg, Int.reduceAdd, Int.reduceLE, Int.reduceLT, Int.reduceToNat, Int.cast_ofNat_Int, Int.ofNat_eq_natCast, Bool.or_self, Bool.or_false, Bool.false_or, Bool.and_false, Bool.and_self, Bool.false_and, Bool.true_and, Bool.false_eq_true, Bool.true_eq_false, ↓reduceIte, reduceCtorEq, true_and, and_true, false_and, and_false, false_or, or_false, true_or, or_true, ne_eq, not_false_eq_true, not_true_eq_false, px_f0, px_f1, px_f2, px_f3, kc_L0, kc_L1, if_true, if_false, px_10, true_implies, false_implies, implies_true, on_11, mL_11, rt_11, dp_11, lc_11, nr_11, yn_11, rc_7, e11_0, e11_1, fd_7_10, e11_4, e11_5, fd_7_47, fin_1_3, ft_1_3, e11_8, h0, D1, px_fit_int]
  have D2 := ImA.ep (e' := e) (P' := imP I) D D.2.2.2.2.2.2.1 D.2.2.2.2.2.2.2
  have hf : ∀ z, px_fr (imQ 512) h (px_up h 512 z) := fun z => px_fr.rf.up ⟨by omega, by omega⟩
  exact ⟨rfl, (hf _).mono fun j hj => IFk.q (by omega) (by omega) hj, nM, nS, nD, nF, X.made (hf _) D2 X.2.2.2.2.2.2.2.2.2.2.1, by omega, by omega⟩
abbrev pgO (p : Int32) : Prop := 0 ≤ p.toInt ∧ p.toInt ≤ 12
theorem pg_sh : ∀ k, k < 13 → (1 : Int32) <<< (nI k &&& 31) = nI (2 ^ k) := by decide
theorem i_of {x : Int32} (h : 0 ≤ x.toInt) : nI x.toInt.toNat = x := by
  have := i_hi x
  rw [i_eq, i_n (by omega)]
  omega
set_option maxRecDepth 100000 in
set_option maxHeartbeats 4000000 in
theorem t_ImageFile_page (l : Launch) {h : px_H} {nM nS nD : Nat → Nat} {nF : Nat} {I J : Im} {c : Nat} {B : Nat → Nat} {pl p : Int32} (X : IFw h I J c B pl nM nS nD nF) : px_Ct l 12 [.ref 448, .int p] h (IFp h nM nS nD nF (some (.int (if pgO p then 1 else 0))) (if pgO p then (imT I, imA I, imM I, imC I, imB I, imK I, imE I, 2 ^ p.toInt.toNat) else I) J c B pl) := by
  have h0 := X.2.2.1
  have D := X.2.2.2.1
  have D1 := D.1
  refine px_Ct.of (by decide) (Nat.le_of_ble_eq_true rfl) (px_wp_ok (sp := []) 60 _ _ _ _ _ ?_)
  simp only [px_ev_nil, px_ev_i, px_ev_l, px_ev_n, px_ev_r, px_wp, px_step, px_tg, px_i1, px_i2, px_l1, px_l2, px_il, px_a1, px_ia, px_iia, px_lki, px_lkl, px_lka, px_lk, px_sto, px_ins, px_del, px_popn, px_inv, px_cat, px_obj, px_arr, px_arq, px_rfv, px_rok, px_tB, px_tI, px_tZ, px_tG, px_tS, px_S, lv_args, Value.category, List.contains_cons, List.contains_nil, List.getElem?_cons_zero, List.getElem?_cons_succ, List.set_cons_zero, List.set_cons_succ, List.length_cons, List.length_nil, List.map_cons, List.map_nil, List.sum_cons, List.sum_nil, List.cons_append, List.nil_append, Option.toList_some, Option.toList_none, px_hold, Fin.isValue, Fin.val_zero, Fin.val_one, Fin.val_two, Nat.reduceBEq, Nat.reduceAdd, Nat.reduceLT, Nat.reduceLeDiff, Nat.reduceEqDiff, Nat.reduceMod, Int.reduceNeg, Int.reduceAdd, Int.reduceLE, Int.reduceLT, Int.reduceToNat, Int.cast_ofNat_Int, Int.ofNat_eq_natCast, Bool.or_self, Bool.or_false, Bool.false_or, Bool.and_false, Bool.and_self, Bool.false_and, Bool.true_and, Bool.false_eq_true, Bool.true_eq_false, ↓reduceIte, reduceCtorEq, true_and, and_true, false_and, and_false, false_or, or_false, true_or, or_true, ne_eq, not_false_eq_true, not_true_eq_false, px_f0, px_f1, px_f2, px_f3, kc_L0, kc_L1, if_true, if_false, px_10, true_implies, false_implies, implies_true, on_12, mL_12, rt_12, dp_12, lc_12, nr_12, yn_12, rc_7, e12_0, e12_1, e12_4, e12_5, kc_12, e12_7, e12_10, kc_0, e12_11, e12_12, e12_13, fd_7_10, e12_16, kc_1, e12_17, e12_18, e12_19, fd_7_51, fin_1_4, ft_1_4, e12_22, e12_23, h0, D1, px_fit_int]
  refine ek_if (i_lt (a := p) (b := 0)) (fun q => ?_) fun q => ?_
  · have q : p.toInt < 0 := q
    rw [if_neg (by unfold pgO; omega), if_neg (by unfold pgO; omega)]
    exact IFp.rf X
  have q : ¬ p.toInt < 0 := q
  refine ek_if (i_le (a := p) (b := 12)) (fun w => ?_) fun w => ?_
  · have w : p.toInt ≤ 12 := w
    rw [if_pos (by unfold pgO; omega), if_pos (by unfold pgO; omega)]
    have e1 : (1 : Int32) <<< (p &&& 31) = nI (2 ^ p.toInt.toNat) := by
      have := pg_sh p.toInt.toNat (by omega)
      rw [i_of (by omega)] at this
      exact this
    rw [e1]
    have hk : 2 ^ p.toInt.toNat ≤ 2 ^ 12 := Nat.pow_le_pow_right (by omega) (by omega)
    have hk0 : 0 < 2 ^ p.toInt.toNat := Nat.two_pow_pos _
    have D2 := ImA.ep (e' := imE I) (P' := 2 ^ p.toInt.toNat) D (by omega) (by omega)
    have hf : ∀ z, px_fr (imQ 512) h (px_up h 512 z) := fun z => px_fr.rf.up ⟨by omega, by omega⟩
    exact ⟨rfl, (hf _).mono fun j hj => IFk.q (by omega) (by omega) hj, nM, nS, nD, nF, X.made (hf _) D2 ⟨p.toInt.toNat, by omega, rfl⟩, by omega, by omega⟩
  · have w : ¬ p.toInt ≤ 12 := w
    rw [if_neg (by unfold pgO; omega), if_neg (by unfold pgO; omega)]
    exact IFp.rf X
/-! segments -/
theorem r_segM (l : Launch) {h : px_H} {i : Nat} {ns : Nat → Nat} {I : Im} (D : ImA h i ns I) {s : Nat} (hs : s < 3) : px_rd l 14 [.ref i, .int (nI s)] h (.ref (i + 128 + 128 * s)) := by
  have t := t_Image_segmentOrNull l (s := nI s) D
  rw [i_n (by omega), if_pos ⟨by omega, by omega⟩, Int.toNat_natCast] at t
  exact t
theorem r_segO (l : Launch) {h : px_H} {i : Nat} {ns : Nat → Nat} {I : Im} {s : Int32} (D : ImA h i ns I) (hs : ¬ (0 ≤ s.toInt ∧ s.toInt < 3)) : px_rd l 14 [.ref i, .int s] h .null := by
  have t := t_Image_segmentOrNull l (s := s) D
  rw [if_neg hs] at t
  exact t
abbrev sgO (s a m : Int32) : Prop := (0 ≤ s.toInt ∧ s.toInt < 3) ∧ 0 ≤ a.toInt ∧ a.toInt < 131072 ∧ 0 ≤ m.toInt ∧ m.toInt ≤ (if s.toInt = 2 then 32768 else 0)
def sgN (I : Im) (s a m : Int32) : Im := imS I s.toInt.toNat true a.toInt.toNat m.toInt.toNat (imC I s.toInt.toNat) (imB I s.toInt.toNat)
set_option maxRecDepth 100000 in
set_option maxHeartbeats 4000000 in
theorem t_ImageFile_segment (l : Launch) {h : px_H} {nM nS nD : Nat → Nat} {nF : Nat} {I J : Im} {c : Nat} {B : Nat → Nat} {pl s a m : Int32} (X : IFw h I J c B pl nM nS nD nF) : px_Ct l 13 [.ref 448, .int s, .int a, .int m] h (IFp h nM nS nD nF (some (.int (if sgO s a m then 1 else 0))) (if sgO s a m then sgN I s a m else I) J c B pl) := by
  have h0 := X.2.2.1
  have D := X.2.2.2.1
  have D1 := D.1
  refine px_Ct.of (by decide) (Nat.le_of_ble_eq_true rfl) (px_wp_ok (sp := []) 60 _ _ _ _ _ ?_)
  simp only [px_ev_nil, px_ev_i, px_ev_l, px_ev_n, px_ev_r, px_wp, px_step, px_tg, px_i1, px_i2, px_l1, px_l2, px_il, px_a1, px_ia, px_iia, px_lki, px_lkl, px_lka, px_lk, px_sto, px_ins, px_del, px_popn, px_inv, px_cat, px_obj, px_arr, px_arq, px_rfv, px_rok, px_tB, px_tI, px_tZ, px_tG, px_tS, px_S, lv_args, Value.category, List.contains_cons, List.contains_nil, List.getElem?_cons_zero, List.getElem?_cons_succ, List.set_cons_zero, List.set_cons_succ, List.length_cons, List.length_nil, List.map_cons, List.map_nil, List.sum_cons, List.sum_nil, List.cons_append, List.nil_append, Option.toList_some, Option.toList_none, px_hold, Fin.isValue, Fin.val_zero, Fin.val_one, Fin.val_two, Nat.reduceBEq, Nat.reduceAdd, Nat.reduceLT, Nat.reduceLeDiff, Nat.reduceEqDiff, Nat.reduceMod, Int.reduceNeg, Int.reduceAdd, Int.reduceLE, Int.reduceLT, Int.reduceToNat, Int.cast_ofNat_Int, Int.ofNat_eq_natCast, Bool.or_self, Bool.or_false, Bool.false_or, Bool.and_false, Bool.and_self, Bool.false_and, Bool.true_and, Bool.false_eq_true, Bool.true_eq_false, ↓reduceIte, reduceCtorEq, true_and, and_true, false_and, and_false, false_or, or_false, true_or, or_true, ne_eq, not_false_eq_true, not_true_eq_false, px_f0, px_f1, px_f2, px_f3, kc_L0, kc_L1, if_true, if_false, px_10, true_implies, false_implies, implies_true, on_13, mL_13, rt_13, dp_13, lc_13, nr_13, yn_13, rc_7, e13_0, e13_1, fd_7_10, e13_4, e13_5, mt_7_54, kw_14, np_14, on_14, nr_14, fc_13_14, rc_1, e13_8, e13_10, e13_12, e13_15, e13_16, e13_19, e13_20, ld_7_58, e13_22, e13_25, kc_0, e13_26, e13_27, e13_28, e13_31, e13_32, e13_33, kc_2, e13_34, e13_37, ld_7_59, e13_39, e13_42, e13_43, e13_46, e13_47, e13_48, e13_50, e13_51, e13_52, mt_7_60, kw_15, np_15, on_15, nr_15, fc_13_15, rc_4, e13_55, kc_1, e13_56, h0, D1]
  by_cases hs : 0 ≤ s.toInt ∧ s.toInt < 3
  · obtain ⟨k, hk, rfl⟩ : ∃ k, k < 3 ∧ s = nI k := ⟨s.toInt.toNat, by omega, (i_of hs.1).symm⟩
    have ek := i_n (n := k) (by omega)
    refine px_rd.use (r_segM l D hk) (px_wp_ok (sp := []) 60 _ _ _ _ _ ?_)
    have hS := D.sg hk
    simp only [px_ev_nil, px_ev_i, px_ev_l, px_ev_n, px_ev_r, px_wp, px_step, px_tg, px_i1, px_i2, px_l1, px_l2, px_il, px_a1, px_ia, px_iia, px_lki, px_lkl, px_lka, px_lk, px_sto, px_ins, px_del, px_popn, px_inv, px_cat, px_obj, px_arr, px_arq, px_rfv, px_rok, px_tB, px_tI, px_tZ, px_tG, px_tS, px_S, lv_args, Value.category, List.contains_cons, List.contains_nil, List.getElem?_cons_zero, List.getElem?_cons_succ, List.set_cons_zero, List.set_cons_succ, List.length_cons, List.length_nil, List.map_cons, List.map_nil, List.sum_cons, List.sum_nil, List.cons_append, List.nil_append, Option.toList_some, Option.toList_none, px_hold, Fin.isValue, Fin.val_zero, Fin.val_one, Fin.val_two, Nat.reduceBEq, Nat.reduceAdd, Nat.reduceLT, Nat.reduceLeDiff, Nat.reduceEqDiff, Nat.reduceMod, Int.reduceNeg, Int.reduceAdd, Int.reduceLE, Int.reduceLT, Int.reduceToNat, Int.cast_ofNat_Int, Int.ofNat_eq_natCast, Bool.or_self, Bool.or_false, Bool.false_or, Bool.and_false, Bool.and_self, Bool.false_and, Bool.true_and, Bool.false_eq_true, Bool.true_eq_false, ↓reduceIte, reduceCtorEq, true_and, and_true, false_and, and_false, false_or, or_false, true_or, or_true, ne_eq, not_false_eq_true, not_true_eq_false, px_f0, px_f1, px_f2, px_f3, kc_L0, kc_L1, if_true, if_false, px_10, true_implies, false_implies, implies_true, on_13, mL_13, rt_13, dp_13, lc_13, nr_13, yn_13, rc_7, e13_0, e13_1, fd_7_10, e13_4, e13_5, mt_7_54, kw_14, np_14, on_14, nr_14, fc_13_14, rc_1, e13_8, e13_10, e13_12, e13_15, e13_16, e13_19, e13_20, ld_7_58, e13_22, e13_25, kc_0, e13_26, e13_27, e13_28, e13_31, e13_32, e13_33, kc_2, e13_34, e13_37, ld_7_59, e13_39, e13_42, e13_43, e13_46, e13_47, e13_48, e13_50, e13_51, e13_52, mt_7_60, kw_15, np_15, on_15, nr_15, fc_13_15, rc_4, e13_55, kc_1, e13_56, hS.1]
    refine ek_if (i_lt (a := a) (b := 0)) (fun q => ?_) fun q1 => ?_
    · have q : a.toInt < 0 := q
      rw [if_neg (by unfold sgO; omega), if_neg (by unfold sgO; omega)]
      exact IFp.rf X
    have q1 : ¬ a.toInt < 0 := q1
    refine ek_if (i_lt (a := a) (b := 131072)) (fun q2 => ?_) fun q => ?_
    rotate_left
    · have q : ¬ a.toInt < 131072 := q
      rw [if_neg (by unfold sgO; omega), if_neg (by unfold sgO; omega)]
      exact IFp.rf X
    have q2 : a.toInt < 131072 := q2
    refine ek_if (i_lt (a := m) (b := 0)) (fun q => ?_) fun q3 => ?_
    · have q : m.toInt < 0 := q
      rw [if_neg (by unfold sgO; omega), if_neg (by unfold sgO; omega)]
      exact IFp.rf X
    have q3 : ¬ m.toInt < 0 := q3
    have fin : (m.toInt ≤ if k = 2 then 32768 else 0) → px_Ct l 15 [.ref (512 + 128 + 128 * k), .int a, .int m] h (px_kont l 13 55 [(0, .ref 448), (1, .int (nI k)), (2, .int a), (3, .int m), (4, .ref (512 + 128 + 128 * k))] [] (IFp h nM nS nD nF (some (.int (if sgO (nI k) a m then 1 else 0))) (if sgO (nI k) a m then sgN I (nI k) a m else I) J c B pl)) := by
      intro w
      have hO : sgO (nI k) a m := by
        refine ⟨hs, by omega, q2, by omega, ?_⟩
        rw [ek]
        by_cases e : k = 2
        · subst e; exact w
        · rw [if_neg e] at w; rw [if_neg (by omega)]; exact w
      have w2 : m.toInt ≤ 32768 := by split at w <;> omega
      rw [if_pos hO, if_pos hO]
      have lt := t_Segment_lieAt l hS (a' := a.toInt.toNat) (m' := m.toInt.toNat) (by omega) (by omega)
      rw [i_of (by omega), i_of (by omega)] at lt
      refine px_Ct.use lt ?_
      rintro _ h1 _ _ ⟨rfl, S1, hf1, rfl, rfl⟩
      refine px_wp_ok (sp := []) 60 _ _ _ _ _ ?_
      simp only [px_ev_nil, px_ev_i, px_ev_l, px_ev_n, px_ev_r, px_wp, px_step, px_tg, px_i1, px_i2, px_l1, px_l2, px_il, px_a1, px_ia, px_iia, px_lki, px_lkl, px_lka, px_lk, px_sto, px_ins, px_del, px_popn, px_inv, px_cat, px_obj, px_arr, px_arq, px_rfv, px_rok, px_tB, px_tI, px_tZ, px_tG, px_tS, px_S, lv_args, Value.category, List.contains_cons, List.contains_nil, List.getElem?_cons_zero, List.getElem?_cons_succ, List.set_cons_zero, List.set_cons_succ, List.length_cons, List.length_nil, List.map_cons, List.map_nil, List.sum_cons, List.sum_nil, List.cons_append, List.nil_append, Option.toList_some, Option.toList_none, px_hold, Fin.isValue, Fin.val_zero, Fin.val_one, Fin.val_two, Nat.reduceBEq, Nat.reduceAdd, Nat.reduceLT, Nat.reduceLeDiff, Nat.reduceEqDiff, Nat.reduceMod, Int.reduceNeg, Int.reduceAdd, Int.reduceLE, Int.reduceLT, Int.reduceToNat, Int.cast_ofNat_Int, Int.ofNat_eq_natCast, Bool.or_self, Bool.or_false, Bool.false_or, Bool.and_false, Bool.and_self, Bool.false_and, Bool.true_and, Bool.false_eq_true, Bool.true_eq_false, ↓reduceIte, reduceCtorEq, true_and, and_true, false_and, and_false, false_or, or_false, true_or, or_true, ne_eq, not_false_eq_true, not_true_eq_false, px_f0, px_f1, px_f2, px_f3, kc_L0, kc_L1, if_true, if_false, px_10, true_implies, false_implies, implies_true, on_13, mL_13, rt_13, dp_13, lc_13, nr_13, yn_13, rc_7, e13_0, e13_1, fd_7_10, e13_4, e13_5, mt_7_54, kw_14, np_14, on_14, nr_14, fc_13_14, rc_1, e13_8, e13_10, e13_12, e13_15, e13_16, e13_19, e13_20, ld_7_58, e13_22, e13_25, kc_0, e13_26, e13_27, e13_28, e13_31, e13_32, e13_33, kc_2, e13_34, e13_37, ld_7_59, e13_39, e13_42, e13_43, e13_46, e13_47, e13_48, e13_50, e13_51, e13_52, mt_7_60, kw_15, np_15, on_15, nr_15, fc_13_15, rc_4, e13_55, kc_1, e13_56, Nat.add_zero]
      have D2 := ImA.seg D hk (hf1.mono fun j hj => Or.inl hj) S1 (fun z => by cases z)
      have eI : sgN I (nI k) a m = imS I k true a.toInt.toNat m.toInt.toNat (imC I k) (imB I k) := by
        unfold sgN; rw [ek, Int.toNat_natCast]
      rw [eI]
      have hfq : px_fr (imQ 512) h h1 := hf1.mono fun j hj => ⟨by omega, by omega⟩
      refine ⟨rfl, hfq.mono fun j hj => IFk.q (by omega) (by omega) hj, fup nM k (nM k), nS, nD, nF, X.made hfq D2 X.2.2.2.2.2.2.2.2.2.2.1, ?_, ?_⟩
      · rw [fup_id]; omega
      · rw [fup_id]; omega
    refine ek_ifn (nI_eq (a := k) (b := 2) (by omega) (by omega)) (fun q4 => ?_) fun q4 => ?_
    · rw [if_neg q4] at fin
      refine ek_if (i_le (a := m) (b := 0)) (fun q => fin q) fun q => ?_
      have q : ¬ m.toInt ≤ 0 := q
      rw [if_neg (by unfold sgO; rw [ek, if_neg (by omega)]; omega), if_neg (by unfold sgO; rw [ek, if_neg (by omega)]; omega)]
      exact IFp.rf X
    · rw [if_pos q4] at fin
      refine ek_if (i_le (a := m) (b := 32768)) (fun q => fin q) fun q => ?_
      have q : ¬ m.toInt ≤ 32768 := q
      rw [if_neg (by unfold sgO; rw [ek, if_pos (by omega)]; omega), if_neg (by unfold sgO; rw [ek, if_pos (by omega)]; omega)]
      exact IFp.rf X
  · rw [if_neg (fun z => hs z.1), if_neg (fun z => hs z.1)]
    refine px_rd.use (r_segO l D hs) (px_wp_ok (sp := []) 60 _ _ _ _ _ ?_)
    simp only [px_ev_nil, px_ev_i, px_ev_l, px_ev_n, px_ev_r, px_wp, px_step, px_tg, px_i1, px_i2, px_l1, px_l2, px_il, px_a1, px_ia, px_iia, px_lki, px_lkl, px_lka, px_lk, px_sto, px_ins, px_del, px_popn, px_inv, px_cat, px_obj, px_arr, px_arq, px_rfv, px_rok, px_tB, px_tI, px_tZ, px_tG, px_tS, px_S, lv_args, Value.category, List.contains_cons, List.contains_nil, List.getElem?_cons_zero, List.getElem?_cons_succ, List.set_cons_zero, List.set_cons_succ, List.length_cons, List.length_nil, List.map_cons, List.map_nil, List.sum_cons, List.sum_nil, List.cons_append, List.nil_append, Option.toList_some, Option.toList_none, px_hold, Fin.isValue, Fin.val_zero, Fin.val_one, Fin.val_two, Nat.reduceBEq, Nat.reduceAdd, Nat.reduceLT, Nat.reduceLeDiff, Nat.reduceEqDiff, Nat.reduceMod, Int.reduceNeg, Int.reduceAdd, Int.reduceLE, Int.reduceLT, Int.reduceToNat, Int.cast_ofNat_Int, Int.ofNat_eq_natCast, Bool.or_self, Bool.or_false, Bool.false_or, Bool.and_false, Bool.and_self, Bool.false_and, Bool.true_and, Bool.false_eq_true, Bool.true_eq_false, ↓reduceIte, reduceCtorEq, true_and, and_true, false_and, and_false, false_or, or_false, true_or, or_true, ne_eq, not_false_eq_true, not_true_eq_false, px_f0, px_f1, px_f2, px_f3, kc_L0, kc_L1, if_true, if_false, px_10, true_implies, false_implies, implies_true, on_13, mL_13, rt_13, dp_13, lc_13, nr_13, yn_13, rc_7, e13_0, e13_1, fd_7_10, e13_4, e13_5, mt_7_54, kw_14, np_14, on_14, nr_14, fc_13_14, rc_1, e13_8, e13_10, e13_12, e13_15, e13_16, e13_19, e13_20, ld_7_58, e13_22, e13_25, kc_0, e13_26, e13_27, e13_28, e13_31, e13_32, e13_33, kc_2, e13_34, e13_37, ld_7_59, e13_39, e13_42, e13_43, e13_46, e13_47, e13_48, e13_50, e13_51, e13_52, mt_7_60, kw_15, np_15, on_15, nr_15, fc_13_15, rc_4, e13_55, kc_1, e13_56]
    exact IFp.rf X
abbrev drO (I : Im) (s : Int32) : Prop := (0 ≤ s.toInt ∧ s.toInt < 3) ∧ imT I s.toInt.toNat = true
def drN (I : Im) (s : Int32) : Im := imS I s.toInt.toNat false 0 0 0 (imB I s.toInt.toNat)
set_option maxRecDepth 100000 in
set_option maxHeartbeats 4000000 in
theorem t_ImageFile_drop (l : Launch) {h : px_H} {nM nS nD : Nat → Nat} {nF : Nat} {I J : Im} {c : Nat} {B : Nat → Nat} {pl s : Int32} (X : IFw h I J c B pl nM nS nD nF) : px_Ct l 16 [.ref 448, .int s] h (IFp h nM nS nD nF (some (.int (if drO I s then 1 else 0))) (if drO I s then drN I s else I) J c B pl) := by
  have h0 := X.2.2.1
  have D := X.2.2.2.1
  have D1 := D.1
  refine px_Ct.of (by decide) (Nat.le_of_ble_eq_true rfl) (px_wp_ok (sp := []) 60 _ _ _ _ _ ?_)
  simp only [px_ev_nil, px_ev_i, px_ev_l, px_ev_n, px_ev_r, px_wp, px_step, px_tg, px_i1, px_i2, px_l1, px_l2, px_il, px_a1, px_ia, px_iia, px_lki, px_lkl, px_lka, px_lk, px_sto, px_ins, px_del, px_popn, px_inv, px_cat, px_obj, px_arr, px_arq, px_rfv, px_rok, px_tB, px_tI, px_tZ, px_tG, px_tS, px_S, lv_args, Value.category, List.contains_cons, List.contains_nil, List.getElem?_cons_zero, List.getElem?_cons_succ, List.set_cons_zero, List.set_cons_succ, List.length_cons, List.length_nil, List.map_cons, List.map_nil, List.sum_cons, List.sum_nil, List.cons_append, List.nil_append, Option.toList_some, Option.toList_none, px_hold, Fin.isValue, Fin.val_zero, Fin.val_one, Fin.val_two, Nat.reduceBEq, Nat.reduceAdd, Nat.reduceLT, Nat.reduceLeDiff, Nat.reduceEqDiff, Nat.reduceMod, Int.reduceNeg, Int.reduceAdd, Int.reduceLE, Int.reduceLT, Int.reduceToNat, Int.cast_ofNat_Int, Int.ofNat_eq_natCast, Bool.or_self, Bool.or_false, Bool.false_or, Bool.and_false, Bool.and_self, Bool.false_and, Bool.true_and, Bool.false_eq_true, Bool.true_eq_false, ↓reduceIte, reduceCtorEq, true_and, and_true, false_and, and_false, false_or, or_false, true_or, or_true, ne_eq, not_false_eq_true, not_true_eq_false, px_f0, px_f1, px_f2, px_f3, kc_L0, kc_L1, if_true, if_false, px_10, true_implies, false_implies, implies_true, on_16, mL_16, rt_16, dp_16, lc_16, nr_16, yn_16, rc_7, e16_0, e16_1, fd_7_10, e16_4, e16_5, mt_7_54, kw_14, np_14, on_14, nr_14, fc_16_14, rc_1, e16_8, e16_9, e16_10, e16_13, e16_14, fd_7_66, e16_17, e16_20, kc_0, e16_21, e16_22, e16_23, mt_7_70, kw_8, np_8, on_8, nr_8, fc_16_8, rc_4, e16_26, kc_1, e16_27, h0, D1]
  by_cases hs : 0 ≤ s.toInt ∧ s.toInt < 3
  · obtain ⟨k, hk, rfl⟩ : ∃ k, k < 3 ∧ s = nI k := ⟨s.toInt.toNat, by omega, (i_of hs.1).symm⟩
    have ek := i_n (n := k) (by omega)
    have ek2 : (nI k).toInt.toNat = k := by rw [ek, Int.toNat_natCast]
    refine px_rd.use (r_segM l D hk) (px_wp_ok (sp := []) 60 _ _ _ _ _ ?_)
    have hS := D.sg hk
    cases e : imT I k with
    | false =>
      rw [e] at hS
      simp only [px_ev_nil, px_ev_i, px_ev_l, px_ev_n, px_ev_r, px_wp, px_step, px_tg, px_i1, px_i2, px_l1, px_l2, px_il, px_a1, px_ia, px_iia, px_lki, px_lkl, px_lka, px_lk, px_sto, px_ins, px_del, px_popn, px_inv, px_cat, px_obj, px_arr, px_arq, px_rfv, px_rok, px_tB, px_tI, px_tZ, px_tG, px_tS, px_S, lv_args, Value.category, List.contains_cons, List.contains_nil, List.getElem?_cons_zero, List.getElem?_cons_succ, List.set_cons_zero, List.set_cons_succ, List.length_cons, List.length_nil, List.map_cons, List.map_nil, List.sum_cons, List.sum_nil, List.cons_append, List.nil_append, Option.toList_some, Option.toList_none, px_hold, Fin.isValue, Fin.val_zero, Fin.val_one, Fin.val_two, Nat.reduceBEq, Nat.reduceAdd, Nat.reduceLT, Nat.reduceLeDiff, Nat.reduceEqDiff, Nat.reduceMod, Int.reduceNeg, Int.reduceAdd, Int.reduceLE, Int.reduceLT, Int.reduceToNat, Int.cast_ofNat_Int, Int.ofNat_eq_natCast, Bool.or_self, Bool.or_false, Bool.false_or, Bool.and_false, Bool.and_self, Bool.false_and, Bool.true_and, Bool.false_eq_true, Bool.true_eq_false, ↓reduceIte, reduceCtorEq, true_and, and_true, false_and, and_false, false_or, or_false, true_or, or_true, ne_eq, not_false_eq_true, not_true_eq_false, px_f0, px_f1, px_f2, px_f3, kc_L0, kc_L1, if_true, if_false, px_10, true_implies, false_implies, implies_true, on_16, mL_16, rt_16, dp_16, lc_16, nr_16, yn_16, rc_7, e16_0, e16_1, fd_7_10, e16_4, e16_5, mt_7_54, kw_14, np_14, on_14, nr_14, fc_16_14, rc_1, e16_8, e16_9, e16_10, e16_13, e16_14, fd_7_66, e16_17, e16_20, kc_0, e16_21, e16_22, e16_23, mt_7_70, kw_8, np_8, on_8, nr_8, fc_16_8, rc_4, e16_26, kc_1, e16_27, hS.1, bI_f]
      have hn : ¬ drO I (nI k) := fun z => by have := z.2; rw [ek2, e] at this; cases this
      rw [if_neg hn, if_neg hn]
      exact IFp.rf X
    | true =>
      rw [e] at hS
      simp only [px_ev_nil, px_ev_i, px_ev_l, px_ev_n, px_ev_r, px_wp, px_step, px_tg, px_i1, px_i2, px_l1, px_l2, px_il, px_a1, px_ia, px_iia, px_lki, px_lkl, px_lka, px_lk, px_sto, px_ins, px_del, px_popn, px_inv, px_cat, px_obj, px_arr, px_arq, px_rfv, px_rok, px_tB, px_tI, px_tZ, px_tG, px_tS, px_S, lv_args, Value.category, List.contains_cons, List.contains_nil, List.getElem?_cons_zero, List.getElem?_cons_succ, List.set_cons_zero, List.set_cons_succ, List.length_cons, List.length_nil, List.map_cons, List.map_nil, List.sum_cons, List.sum_nil, List.cons_append, List.nil_append, Option.toList_some, Option.toList_none, px_hold, Fin.isValue, Fin.val_zero, Fin.val_one, Fin.val_two, Nat.reduceBEq, Nat.reduceAdd, Nat.reduceLT, Nat.reduceLeDiff, Nat.reduceEqDiff, Nat.reduceMod, Int.reduceNeg, Int.reduceAdd, Int.reduceLE, Int.reduceLT, Int.reduceToNat, Int.cast_ofNat_Int, Int.ofNat_eq_natCast, Bool.or_self, Bool.or_false, Bool.false_or, Bool.and_false, Bool.and_self, Bool.false_and, Bool.true_and, Bool.false_eq_true, Bool.true_eq_false, ↓reduceIte, reduceCtorEq, true_and, and_true, false_and, and_false, false_or, or_false, true_or, or_true, ne_eq, not_false_eq_true, not_true_eq_false, px_f0, px_f1, px_f2, px_f3, kc_L0, kc_L1, if_true, if_false, px_10, true_implies, false_implies, implies_true, on_16, mL_16, rt_16, dp_16, lc_16, nr_16, yn_16, rc_7, e16_0, e16_1, fd_7_10, e16_4, e16_5, mt_7_54, kw_14, np_14, on_14, nr_14, fc_16_14, rc_1, e16_8, e16_9, e16_10, e16_13, e16_14, fd_7_66, e16_17, e16_20, kc_0, e16_21, e16_22, e16_23, mt_7_70, kw_8, np_8, on_8, nr_8, fc_16_8, rc_4, e16_26, kc_1, e16_27, hS.1, bI_t]
      have hn : drO I (nI k) := ⟨hs, by rw [ek2]; exact e⟩
      rw [if_pos hn, if_pos hn]
      refine px_Ct.use (t_Segment_leave l hS) ?_
      rintro _ h1 _ _ ⟨rfl, S1, hf1, rfl, rfl⟩
      refine px_wp_ok (sp := []) 60 _ _ _ _ _ ?_
      simp only [px_ev_nil, px_ev_i, px_ev_l, px_ev_n, px_ev_r, px_wp, px_step, px_tg, px_i1, px_i2, px_l1, px_l2, px_il, px_a1, px_ia, px_iia, px_lki, px_lkl, px_lka, px_lk, px_sto, px_ins, px_del, px_popn, px_inv, px_cat, px_obj, px_arr, px_arq, px_rfv, px_rok, px_tB, px_tI, px_tZ, px_tG, px_tS, px_S, lv_args, Value.category, List.contains_cons, List.contains_nil, List.getElem?_cons_zero, List.getElem?_cons_succ, List.set_cons_zero, List.set_cons_succ, List.length_cons, List.length_nil, List.map_cons, List.map_nil, List.sum_cons, List.sum_nil, List.cons_append, List.nil_append, Option.toList_some, Option.toList_none, px_hold, Fin.isValue, Fin.val_zero, Fin.val_one, Fin.val_two, Nat.reduceBEq, Nat.reduceAdd, Nat.reduceLT, Nat.reduceLeDiff, Nat.reduceEqDiff, Nat.reduceMod, Int.reduceNeg, Int.reduceAdd, Int.reduceLE, Int.reduceLT, Int.reduceToNat, Int.cast_ofNat_Int, Int.ofNat_eq_natCast, Bool.or_self, Bool.or_false, Bool.false_or, Bool.and_false, Bool.and_self, Bool.false_and, Bool.true_and, Bool.false_eq_true, Bool.true_eq_false, ↓reduceIte, reduceCtorEq, true_and, and_true, false_and, and_false, false_or, or_false, true_or, or_true, ne_eq, not_false_eq_true, not_true_eq_false, px_f0, px_f1, px_f2, px_f3, kc_L0, kc_L1, if_true, if_false, px_10, true_implies, false_implies, implies_true, on_16, mL_16, rt_16, dp_16, lc_16, nr_16, yn_16, rc_7, e16_0, e16_1, fd_7_10, e16_4, e16_5, mt_7_54, kw_14, np_14, on_14, nr_14, fc_16_14, rc_1, e16_8, e16_9, e16_10, e16_13, e16_14, fd_7_66, e16_17, e16_20, kc_0, e16_21, e16_22, e16_23, mt_7_70, kw_8, np_8, on_8, nr_8, fc_16_8, rc_4, e16_26, kc_1, e16_27, Nat.add_zero]
      have D2 := ImA.seg D hk hf1 S1 (fun z => ⟨rfl, rfl, rfl⟩)
      have eI : drN I (nI k) = imS I k false 0 0 0 (imB I k) := by unfold drN; rw [ek2]
      rw [eI]
      have hfq : px_fr (imQ 512) h h1 := hf1.mono fun j hj => by unfold sgK at hj; exact ⟨by omega, by omega⟩
      refine ⟨rfl, hfq.mono fun j hj => IFk.q (by omega) (by omega) hj, fup nM k (nM k), nS, nD, nF, X.made hfq D2 X.2.2.2.2.2.2.2.2.2.2.1, ?_, ?_⟩
      · rw [fup_id]; omega
      · rw [fup_id]; omega
  · rw [if_neg (fun z => hs z.1), if_neg (fun z => hs z.1)]
    refine px_rd.use (r_segO l D hs) (px_wp_ok (sp := []) 60 _ _ _ _ _ ?_)
    simp only [px_ev_nil, px_ev_i, px_ev_l, px_ev_n, px_ev_r, px_wp, px_step, px_tg, px_i1, px_i2, px_l1, px_l2, px_il, px_a1, px_ia, px_iia, px_lki, px_lkl, px_lka, px_lk, px_sto, px_ins, px_del, px_popn, px_inv, px_cat, px_obj, px_arr, px_arq, px_rfv, px_rok, px_tB, px_tI, px_tZ, px_tG, px_tS, px_S, lv_args, Value.category, List.contains_cons, List.contains_nil, List.getElem?_cons_zero, List.getElem?_cons_succ, List.set_cons_zero, List.set_cons_succ, List.length_cons, List.length_nil, List.map_cons, List.map_nil, List.sum_cons, List.sum_nil, List.cons_append, List.nil_append, Option.toList_some, Option.toList_none, px_hold, Fin.isValue, Fin.val_zero, Fin.val_one, Fin.val_two, Nat.reduceBEq, Nat.reduceAdd, Nat.reduceLT, Nat.reduceLeDiff, Nat.reduceEqDiff, Nat.reduceMod, Int.reduceNeg, Int.reduceAdd, Int.reduceLE, Int.reduceLT, Int.reduceToNat, Int.cast_ofNat_Int, Int.ofNat_eq_natCast, Bool.or_self, Bool.or_false, Bool.false_or, Bool.and_false, Bool.and_self, Bool.false_and, Bool.true_and, Bool.false_eq_true, Bool.true_eq_false, ↓reduceIte, reduceCtorEq, true_and, and_true, false_and, and_false, false_or, or_false, true_or, or_true, ne_eq, not_false_eq_true, not_true_eq_false, px_f0, px_f1, px_f2, px_f3, kc_L0, kc_L1, if_true, if_false, px_10, true_implies, false_implies, implies_true, on_16, mL_16, rt_16, dp_16, lc_16, nr_16, yn_16, rc_7, e16_0, e16_1, fd_7_10, e16_4, e16_5, mt_7_54, kw_14, np_14, on_14, nr_14, fc_16_14, rc_1, e16_8, e16_9, e16_10, e16_13, e16_14, fd_7_66, e16_17, e16_20, kc_0, e16_21, e16_22, e16_23, mt_7_70, kw_8, np_8, on_8, nr_8, fc_16_8, rc_4, e16_26, kc_1, e16_27]
    exact IFp.rf X
