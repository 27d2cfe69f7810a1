/-! ImageFile$Image: mark bytes, lengths, offsets -/
def b1N (t : Bool) : Nat := if t = true then 1 else 0
def mbyte (mk : Nat → Bool) (k : Nat) : Nat := b1N (mk (8 * k)) + 2 * b1N (mk (8 * k + 1)) + 4 * b1N (mk (8 * k + 2)) + 8 * b1N (mk (8 * k + 3)) + 16 * b1N (mk (8 * k + 4)) + 32 * b1N (mk (8 * k + 5)) + 64 * b1N (mk (8 * k + 6)) + 128 * b1N (mk (8 * k + 7))
theorem bv_bit {x : BitVec 32} {j : Nat} {t : Bool} (h : x.getLsbD j = t) : x.toNat / 2 ^ j % 2 = b1N t := by
  unfold b1N
  rw [BitVec.getLsbD, Nat.testBit_eq_decide_div_mod_eq] at h
  cases t with
  | false =>
    have : ¬ (x.toNat / 2 ^ j % 2 = 1) := by simpa using h
    simp
    omega
  | true =>
    have : x.toNat / 2 ^ j % 2 = 1 := by simpa using h
    simp [this]
theorem mbyte_of {x : Int32} {mk : Nat → Bool} {k : Nat} (h : ∀ j, j < 8 → x.toBitVec.getLsbD j = mk (8 * k + j)) : x &&& 255 = nI (mbyte mk k) := by
  rw [pk_and x (m := 255) 8 (by decide)]
  congr 1
  have h0 := bv_bit (h 0 (by omega))
  have h1 := bv_bit (h 1 (by omega))
  have h2 := bv_bit (h 2 (by omega))
  have h3 := bv_bit (h 3 (by omega))
  have h4 := bv_bit (h 4 (by omega))
  have h5 := bv_bit (h 5 (by omega))
  have h6 := bv_bit (h 6 (by omega))
  have h7 := bv_bit (h 7 (by omega))
  simp only [Nat.pow_zero, Nat.div_one, Nat.add_zero, Nat.reducePow] at h0 h1 h2 h3 h4 h5 h6 h7 ⊢
  unfold mbyte
  omega
set_option maxRecDepth 100000 in
set_option maxHeartbeats 4000000 in
theorem t_Image_markByteCount (l : Launch) {h : px_H} {i : Nat} {ns : Nat → Nat} {I : Im} (H : ImA h i ns I) : px_rd l 44 [.ref i] h (.int (nI ((imC I 0 + 15) / 16))) := by
  have T := H.text
  have hc := (H.cn (s := 0) (by omega)).1
  obtain ⟨h1, -⟩ := H
  refine px_Ct.of (by decide) (Nat.le_of_ble_eq_true rfl) (px_wp_ok (sp := []) 60 _ _ _ _ _ ?_)
  simp only [px_ev_nil, px_ev_i, px_ev_l, px_ev_n, px_ev_r, px_wp, px_step, px_tg, px_i1, px_i2, px_l1, px_l2, px_il, px_a1, px_ia, px_iia, px_lki, px_lkl, px_lka, px_lk, px_sto, px_ins, px_del, px_popn, px_inv, px_cat, px_obj, px_arr, px_arq, px_rfv, px_rok, px_tB, px_tI, px_tZ, px_tG, px_tS, px_S, lv_args, Value.category, List.contains_cons, List.contains_nil, List.getElem?_cons_zero, List.getElem?_cons_succ, List.set_cons_zero, List.set_cons_succ, List.length_cons, List.length_nil, List.map_cons, List.map_nil, List.sum_cons, List.sum_nil, List.cons_append, List.nil_append, Option.toList_some, Option.toList_none, px_hold, Fin.isValue, Fin.val_zero, Fin.val_one, Fin.val_two, Nat.reduceBEq, Nat.reduceAdd, Nat.reduceLT, Nat.reduceLeDiff, Nat.reduceEqDiff, Nat.reduceMod, Int.reduceNeg, Int.reduceAdd, Int.reduceLE, Int.reduceLT, Int.reduceToNat, Int.cast_ofNat_Int, Int.ofNat_eq_natCast, Bool.or_self, Bool.or_false, Bool.false_or, Bool.and_false, Bool.and_self, Bool.false_and, Bool.true_and, Bool.false_eq_true, Bool.true_eq_false, ↓reduceIte, reduceCtorEq, true_and, and_true, false_and, and_false, false_or, or_false, true_or, or_true, ne_eq, not_false_eq_true, not_true_eq_false, px_f0, px_f1, px_f2, px_f3, kc_L0, kc_L1, if_true, if_false, px_10, true_implies, false_implies, implies_true, on_44, mL_44, rt_44, dp_44, lc_44, nr_44, yn_44, rc_1, e44_0, e44_1, fd_1_24, e44_4, fd_1_76, e44_7, fd_1_80, e44_10, kc_15, e44_12, e44_13, kc_4, e44_14, e44_15, h1, T.1, T.2.2.1.1]
  rw [show (15 : Int32) = nI 15 from rfl, nI_add, pk_shrN (by omega) _ 4 (by decide)]
set_option maxRecDepth 100000 in
set_option maxHeartbeats 4000000 in
theorem t_Image_markByte (l : Launch) {h : px_H} {i : Nat} {ns : Nat → Nat} {I : Im} {k : Nat} (H : ImA h i ns I) (hk : k < 256) : px_rd l 63 [.ref i, .int (nI k)] h (.int (nI (mbyte (imK I) k))) := by
  obtain ⟨h1, h2, -, -, ⟨f, h6, h7, h8⟩, -⟩ := H
  have ek := i_n (n := k) (by omega)
  refine px_Ct.of (by decide) (Nat.le_of_ble_eq_true rfl) (px_wp_ok (sp := []) 60 _ _ _ _ _ ?_)
  simp only [px_ev_nil, px_ev_i, px_ev_l, px_ev_n, px_ev_r, px_wp, px_step, px_tg, px_i1, px_i2, px_l1, px_l2, px_il, px_a1, px_ia, px_iia, px_lki, px_lkl, px_lka, px_lk, px_sto, px_ins, px_del, px_popn, px_inv, px_cat, px_obj, px_arr, px_arq, px_rfv, px_rok, px_tB, px_tI, px_tZ, px_tG, px_tS, px_S, lv_args, Value.category, List.contains_cons, List.contains_nil, List.getElem?_cons_zero, List.getElem?_cons_succ, List.set_cons_zero, List.set_cons_succ, List.length_cons, List.length_nil, List.map_cons, List.map_nil, List.sum_cons, List.sum_nil, List.cons_append, List.nil_append, Option.toList_some, Option.toList_none, px_hold, Fin.isValue, Fin.val_zero, Fin.val_one, Fin.val_two, Nat.reduceBEq, Nat.reduceAdd, Nat.reduceLT, Nat.reduceLeDiff, Nat.reduceEqDiff, Nat.reduceMod, Int.reduceNeg, Int.reduceAdd, Int.reduceLE, Int.reduceLT, Int.reduceToNat, Int.cast_ofNat_Int, Int.ofNat_eq_natCast, Bool.or_self, Bool.or_false, Bool.false_or, Bool.and_false, Bool.and_self, Bool.false_and, Bool.true_and, Bool.false_eq_true, Bool.true_eq_false, ↓reduceIte, reduceCtorEq, true_and, and_true, false_and, and_false, false_or, or_false, true_or, or_true, ne_eq, not_false_eq_true, not_true_eq_false, px_f0, px_f1, px_f2, px_f3, kc_L0, kc_L1, if_true, if_false, px_10, true_implies, false_implies, implies_true, on_63, mL_63, rt_63, dp_63, lc_63, nr_63, yn_63, rc_1, e63_0, e63_1, e63_4, e63_5, e63_6, fd_1_28, e63_9, e63_10, e63_13, kc_0, e63_14, e63_17, e63_18, e63_21, e63_22, e63_23, kc_255, e63_26, e63_27, h1, h6]
  refine ⟨fun q => ?_, fun _ => ⟨fun _ => ⟨pk_in k 256 hk, ?_⟩, fun q => ?_⟩⟩
  · simp only [i_lt, i_le, i_eq, i_cl, vp_in, kt_m6, kt_m4, kt_m1, kt_0, kt_1, kt_2, kt_3, kt_4, kt_5, kt_6, kt_7, kt_8, kt_9, kt_10, kt_11, kt_12, kt_13, kt_14, kt_15, kt_16, kt_17, kt_18, kt_19, kt_20, kt_21, kt_22, kt_23, kt_24, kt_25, kt_26, kt_27, kt_28, kt_29, kt_30, kt_31, kt_32, kt_36, kt_40, kt_42, kt_44, kt_46, kt_52, kt_56, kt_69, kt_70, kt_76, kt_77, kt_97, kt_107, kt_114, kt_115, kt_127, kt_243, kt_255, kt_256, kt_2048, kt_4094, kt_4095, kt_4096, kt_12288, kt_16384, kt_24576] at q; omega
  · rw [nI_clamp (show k < 2 ^ 31 by omega), mbyte_of (fun j hj => ?_)]
    have := h8 (8 * k + j) (by omega)
    rw [show (8 * k + j) / 8 = k by omega, show (8 * k + j) % 8 = j by omega] at this
    exact this
  · rw [i_lt, ek] at q
    exact absurd (show (k : Int) < (Int32.ofNat 256).toInt from (by show (k : Int) < 256; omega)) q
theorem nb_bits (x : Int32) {j : Nat} (hj : j < 8) : (x.toInt8.toInt32).toBitVec.getLsbD j = x.toBitVec.getLsbD j := by
  have e : (x.toInt8.toInt32).toBitVec = (x.toBitVec.signExtend 8).signExtend 32 := rfl
  rw [e, BitVec.getLsbD_signExtend, BitVec.getLsbD_signExtend]
  have h1 : j < 32 := by omega
  simp [hj, h1]
set_option maxRecDepth 100000 in
set_option maxHeartbeats 4000000 in
theorem t_Image_setMarkByte (l : Launch) {h : px_H} {i : Nat} {ns : Nat → Nat} {I : Im} {k b : Nat} (H : ImA h i ns I) (hk : k < 256) (hb : b < 256) : px_Ct l 94 [.ref i, .int (nI k), .int (nI b)] h (fun r h' mc ms => r = none ∧ ImA h' i ns (imT I, imA I, imM I, imC I, imB I, (fun q => if q / 8 = k then b.testBit (q % 8) else imK I q), imE I, imP I) ∧ px_fr (fun j => j = i + 512) h h' ∧ mc = 0 ∧ ms = 0) := by
  have H0 := H
  obtain ⟨h1, h2, h3, h4, ⟨f, h6, h7, h8⟩, h9⟩ := H
  have ek := i_n (n := k) (by omega)
  refine px_Ct.of (by decide) (Nat.le_of_ble_eq_true rfl) (px_wp_ok (sp := []) 60 _ _ _ _ _ ?_)
  simp only [px_ev_nil, px_ev_i, px_ev_l, px_ev_n, px_ev_r, px_wp, px_step, px_tg, px_i1, px_i2, px_l1, px_l2, px_il, px_a1, px_ia, px_iia, px_lki, px_lkl, px_lka, px_lk, px_sto, px_ins, px_del, px_popn, px_inv, px_cat, px_obj, px_arr, px_arq, px_rfv, px_rok, px_tB, px_tI, px_tZ, px_tG, px_tS, px_S, lv_args, Value.category, List.contains_cons, List.contains_nil, List.getElem?_cons_zero, List.getElem?_cons_succ, List.set_cons_zero, List.set_cons_succ, List.length_cons, List.length_nil, List.map_cons, List.map_nil, List.sum_cons, List.sum_nil, List.cons_append, List.nil_append, Option.toList_some, Option.toList_none, px_hold, Fin.isValue, Fin.val_zero, Fin.val_one, Fin.val_two, Nat.reduceBEq, Nat.reduceAdd, Nat.reduceLT, Nat.reduceLeDiff, Nat.reduceEqDiff, Nat.reduceMod, Int.reduceNeg, Int.reduceAdd, Int.reduceLE, Int.reduceLT, Int.reduceToNat, Int.cast_ofNat_Int, Int.ofNat_eq_natCast, Bool.or_self, Bool.or_false, Bool.false_or, Bool.and_false, Bool.and_self, Bool.false_and, Bool.true_and, Bool.false_eq_true, Bool.true_eq_false, ↓reduceIte, reduceCtorEq, true_and, and_true, false_and, and_false, false_or, or_false, true_or, or_true, ne_eq, not_false_eq_true, not_true_eq_false, px_f0, px_f1, px_f2, px_f3, kc_L0, kc_L1, if_true, if_false, px_10, true_implies, false_implies, implies_true, on_94, mL_94, rt_94, dp_94, lc_94, nr_94, yn_94, rc_1, e94_0, e94_1, e94_4, e94_5, e94_6, fd_1_28, e94_9, e94_10, e94_13, e94_14, e94_17, e94_18, e94_19, e94_20, e94_21, h1, h6]
  refine ⟨fun q => ?_, fun _ => ⟨fun q => ?_, fun _ => ⟨pk_in k 256 hk, ?_⟩⟩⟩
  · simp only [i_lt, i_le, i_eq, i_cl, vp_in, kt_m6, kt_m4, kt_m1, kt_0, kt_1, kt_2, kt_3, kt_4, kt_5, kt_6, kt_7, kt_8, kt_9, kt_10, kt_11, kt_12, kt_13, kt_14, kt_15, kt_16, kt_17, kt_18, kt_19, kt_20, kt_21, kt_22, kt_23, kt_24, kt_25, kt_26, kt_27, kt_28, kt_29, kt_30, kt_31, kt_32, kt_36, kt_40, kt_42, kt_44, kt_46, kt_52, kt_56, kt_69, kt_70, kt_76, kt_77, kt_97, kt_107, kt_114, kt_115, kt_127, kt_243, kt_255, kt_256, kt_2048, kt_4094, kt_4095, kt_4096, kt_12288, kt_16384, kt_24576] at q; omega
  · rw [i_le, ek] at q
    exact absurd (show (k : Int) < (Int32.ofNat 256).toInt from (by show (k : Int) < 256; omega)) (by omega)
  · have hf : px_fr (fun j => j = i + 512) h (px_up h (i + 512) (.inl (px_tB, 256, .inl (upd f (nI k).toNatClampNeg (vp_nar .byte (nI b).toInt8.toInt32))))) := px_fr.rf.up rfl
    refine ⟨⟨by rw [px_up_ne (by omega)]; exact h1, h2, ?_, fun s hs => (h4 s hs).fr hf (fun j hj => by unfold sgK at hj; omega), ⟨_, px_up_self, fun j hj => ?_, fun q hq => ?_⟩, h9⟩, hf⟩
    · obtain ⟨F, h3, h5⟩ := h3
      exact ⟨F, by rw [px_up_ne (by omega)]; exact h3, h5⟩
    · by_cases e : j = (nI k).toNatClampNeg
      · subst e; rw [pk_us, i_nb]; exact i_nb_rg _
      · rw [pk_un e]; exact h7 j hj
    · rw [nI_clamp (show k < 2 ^ 31 by omega)]
      show _ = if q / 8 = k then b.testBit (q % 8) else imK I q
      by_cases e : q / 8 = k
      · rw [if_pos e, e, pk_us, i_nb, nb_bits _ (by omega), nb_bits _ (by omega), BitVec.getLsbD, pk_tn (by omega)]
      · rw [if_neg e, pk_un e]; exact h8 q hq
set_option maxRecDepth 100000 in
set_option maxHeartbeats 4000000 in
theorem t_Image_turnMark (l : Launch) {h : px_H} {i : Nat} {ns : Nat → Nat} {I : Im} {n : Nat} (H : ImA h i ns I) (hn : n < 4096) (hn2 : n % 2 = 0) : px_Ct l 25 [.ref i, .int (nI n)] h (fun r h' mc ms => r = none ∧ ImA h' i ns (imT I, imA I, imM I, imC I, imB I, (fun q => if q = n / 2 then !(imK I q) else imK I q), imE I, imP I) ∧ px_fr (fun j => j = i + 512) h h' ∧ mc = 0 ∧ ms = 0) := by
  have H0 := H
  obtain ⟨h1, h2, h3, h4, ⟨f, h6, h7, h8⟩, h9⟩ := H
  have en := i_n (n := n) (by omega)
  have es : nI n >>> ((4 : Int32) &&& 31) = nI (n / 16) := by rw [pk_shrN (by omega) _ 4 (by decide)]
  have ho : okm (nI n).toInt = true := by rw [en, okm, decide_eq_true (by omega)]
  refine px_Ct.of (by decide) (Nat.le_of_ble_eq_true rfl) (px_wp_ok (sp := []) 60 _ _ _ _ _ ?_)
  simp only [px_ev_nil, px_ev_i, px_ev_l, px_ev_n, px_ev_r, px_wp, px_step, px_tg, px_i1, px_i2, px_l1, px_l2, px_il, px_a1, px_ia, px_iia, px_lki, px_lkl, px_lka, px_lk, px_sto, px_ins, px_del, px_popn, px_inv, px_cat, px_obj, px_arr, px_arq, px_rfv, px_rok, px_tB, px_tI, px_tZ, px_tG, px_tS, px_S, lv_args, Value.category, List.contains_cons, List.contains_nil, List.getElem?_cons_zero, List.getElem?_cons_succ, List.set_cons_zero, List.set_cons_succ, List.length_cons, List.length_nil, List.map_cons, List.map_nil, List.sum_cons, List.sum_nil, List.cons_append, List.nil_append, Option.toList_some, Option.toList_none, px_hold, Fin.isValue, Fin.val_zero, Fin.val_one, Fin.val_two, Nat.reduceBEq, Nat.reduceAdd, Nat.reduceLT, Nat.reduceLeDiff, Nat.reduceEqDiff, Nat.reduceMod, Int.reduceNeg, Int.reduceAdd, Int.reduceLE, Int.reduceLT, Int.reduceToNat, Int.cast_ofNat_Int, Int.ofNat_eq_natCast, Bool.or_self, Bool.or_false, Bool.false_or, Bool.and_false, Bool.and_self, Bool.false_and, Bool.true_and, Bool.false_eq_true, Bool.true_eq_false, ↓reduceIte, reduceCtorEq, true_and, and_true, false_and, and_false, false_or, or_false, true_or, or_true, ne_eq, not_false_eq_true, not_true_eq_false, px_f0, px_f1, px_f2, px_f3, kc_L0, kc_L1, if_true, if_false, px_10, true_implies, false_implies, implies_true, on_25, mL_25, rt_25, dp_25, lc_25, nr_25, yn_25, rc_1, e25_0, e25_1, mt_1_70, kw_22, np_22, on_22, nr_22, fc_25_22, e25_4, e25_7, e25_8, fd_1_28, e25_11, e25_12, kc_4, e25_13, e25_14, e25_15, e25_16, e25_17, mt_1_73, kw_24, np_24, on_24, nr_24, fc_25_24, e25_20, e25_21, e25_22, e25_23, e25_24, h1, h6]
  refine px_rd.use (t_Image_canHaveMark l) (px_wp_ok (sp := []) 60 _ _ _ _ _ ?_)
  simp only [px_ev_nil, px_ev_i, px_ev_l, px_ev_n, px_ev_r, px_wp, px_step, px_tg, px_i1, px_i2, px_l1, px_l2, px_il, px_a1, px_ia, px_iia, px_lki, px_lkl, px_lka, px_lk, px_sto, px_ins, px_del, px_popn, px_inv, px_cat, px_obj, px_arr, px_arq, px_rfv, px_rok, px_tB, px_tI, px_tZ, px_tG, px_tS, px_S, lv_args, Value.category, List.contains_cons, List.contains_nil, List.getElem?_cons_zero, List.getElem?_cons_succ, List.set_cons_zero, List.set_cons_succ, List.length_cons, List.length_nil, List.map_cons, List.map_nil, List.sum_cons, List.sum_nil, List.cons_append, List.nil_append, Option.toList_some, Option.toList_none, px_hold, Fin.isValue, Fin.val_zero, Fin.val_one, Fin.val_two, Nat.reduceBEq, Nat.reduceAdd, Nat.reduceLT, Nat.reduceLeDiff, Nat.reduceEqDiff, Nat.reduceMod, Int.reduceNeg, Int.reduceAdd, Int.reduceLE, Int.reduceLT, Int.reduceToNat, Int.cast_ofNat_Int, Int.ofNat_eq_natCast, Bool.or_self, Bool.or_false, Bool.false_or, Bool.and_false, Bool.and_self, Bool.false_and, Bool.true_and, Bool.false_eq_true, Bool.true_eq_false, ↓reduceIte, reduceCtorEq, true_and, and_true, false_and, and_false, false_or, or_false, true_or, or_true, ne_eq, not_false_eq_true, not_true_eq_false, px_f0, px_f1, px_f2, px_f3, kc_L0, kc_L1, if_true, if_false, px_10, true_implies, false_implies, implies_true, on_25, mL_25, rt_25, dp_25, lc_25, nr_25, yn_25, rc_1, e25_0, e25_1, mt_1_70, kw_22, np_22, on_22, nr_22, fc_25_22, e25_4, e25_7, e25_8, fd_1_28, e25_11, e25_12, kc_4, e25_13, e25_14, e25_15, e25_16, e25_17, mt_1_73, kw_24, np_24, on_24, nr_24, fc_25_24, e25_20, e25_21, e25_22, e25_23, e25_24, h1, h6, ho, bI_t, es]
  refine ⟨pk_in (n / 16) 256 (by omega), px_rd.use (t_Image_markBit l hn) (px_wp_ok (sp := []) 60 _ _ _ _ _ ?_)⟩
  simp only [px_ev_nil, px_ev_i, px_ev_l, px_ev_n, px_ev_r, px_wp, px_step, px_tg, px_i1, px_i2, px_l1, px_l2, px_il, px_a1, px_ia, px_iia, px_lki, px_lkl, px_lka, px_lk, px_sto, px_ins, px_del, px_popn, px_inv, px_cat, px_obj, px_arr, px_arq, px_rfv, px_rok, px_tB, px_tI, px_tZ, px_tG, px_tS, px_S, lv_args, Value.category, List.contains_cons, List.contains_nil, List.getElem?_cons_zero, List.getElem?_cons_succ, List.set_cons_zero, List.set_cons_succ, List.length_cons, List.length_nil, List.map_cons, List.map_nil, List.sum_cons, List.sum_nil, List.cons_append, List.nil_append, Option.toList_some, Option.toList_none, px_hold, Fin.isValue, Fin.val_zero, Fin.val_one, Fin.val_two, Nat.reduceBEq, Nat.reduceAdd, Nat.reduceLT, Nat.reduceLeDiff, Nat.reduceEqDiff, Nat.reduceMod, Int.reduceNeg, Int.reduceAdd, Int.reduceLE, Int.reduceLT, Int.reduceToNat, Int.cast_ofNat_Int, Int.ofNat_eq_natCast, Bool.or_self, Bool.or_false, Bool.false_or, Bool.and_false, Bool.and_self, Bool.false_and, Bool.true_and, Bool.false_eq_true, Bool.true_eq_false, ↓reduceIte, reduceCtorEq, true_and, and_true, false_and, and_false, false_or, or_false, true_or, or_true, ne_eq, not_false_eq_true, not_true_eq_false, px_f0, px_f1, px_f2, px_f3, kc_L0, kc_L1, if_true, if_false, px_10, true_implies, false_implies, implies_true, on_25, mL_25, rt_25, dp_25, lc_25, nr_25, yn_25, rc_1, e25_0, e25_1, mt_1_70, kw_22, np_22, on_22, nr_22, fc_25_22, e25_4, e25_7, e25_8, fd_1_28, e25_11, e25_12, kc_4, e25_13, e25_14, e25_15, e25_16, e25_17, mt_1_73, kw_24, np_24, on_24, nr_24, fc_25_24, e25_20, e25_21, e25_22, e25_23, e25_24, h1, h6]
  refine ⟨pk_in (n / 16) 256 (by omega), ?_⟩
  rw [nI_clamp (show n / 16 < 2 ^ 31 by omega)]
  have hf : ∀ z, px_fr (fun j => j = i + 512) h (px_up h (i + 512) z) := fun z => px_fr.rf.up rfl
  refine ⟨⟨by rw [px_up_ne (by omega)]; exact h1, h2, ?_, fun s hs => (h4 s hs).fr (hf _) (fun j hj => by unfold sgK at hj; omega), ⟨_, px_up_self, fun j hj => ?_, fun q hq => ?_⟩, h9⟩, hf _⟩
  · obtain ⟨F, h3, h5⟩ := h3
    exact ⟨F, by rw [px_up_ne (by omega)]; exact h3, h5⟩
  · by_cases e : j = n / 16
    · subst e; rw [pk_us, i_nb]; exact i_nb_rg _
    · rw [pk_un e]; exact h7 j hj
  · show _ = if q = n / 2 then !(imK I q) else imK I q
    by_cases e : q / 8 = n / 16
    · rw [e, pk_us, i_nb, nb_bits _ (by omega), nb_bits _ (by omega)]
      have e1 : (f (n / 16) ^^^ (nI (2 ^ (n / 2 % 8))).toInt8.toInt32).toBitVec = (f (n / 16)).toBitVec ^^^ ((nI (2 ^ (n / 2 % 8))).toInt8.toInt32).toBitVec := rfl
      have hlt : 2 ^ (n / 2 % 8) < 2 ^ 32 := Nat.pow_lt_pow_right (by decide) (by omega)
      have e9 : (nI (2 ^ (n / 2 % 8))).toBitVec.getLsbD (q % 8) = decide (n / 2 % 8 = q % 8) := by rw [BitVec.getLsbD, pk_tn hlt, Nat.testBit_two_pow]
      rw [e1, BitVec.getLsbD_xor, nb_bits _ (by omega), e9]
      have h10 := h8 q hq
      rw [e] at h10
      rw [h10]
      by_cases e2 : q = n / 2
      · rw [if_pos e2, decide_eq_true (by omega)]
        simp
      · rw [if_neg e2, decide_eq_false (by omega)]
        simp
    · rw [if_neg (by omega), pk_un e]; exact h8 q hq
/-- how many bytes the instruction at an offset has -/
def ilen (I : Im) (o : Int) : Nat := if 0 ≤ o ∧ o < imC I 0 then (if imB I 0 o.toNat % 4 = 3 then 4 else 2) else 4
set_option maxRecDepth 100000 in
set_option maxHeartbeats 4000000 in
theorem t_Image_instructionLength (l : Launch) {h : px_H} {i : Nat} {ns : Nat → Nat} {I : Im} {o : Int32} (H : ImA h i ns I) : px_rd l 36 [.ref i, .int o] h (.int (nI (ilen I o.toInt))) := by
  have T := H.text
  obtain ⟨h1, -⟩ := H
  refine px_Ct.of (by decide) (Nat.le_of_ble_eq_true rfl) (px_wp_ok (sp := []) 60 _ _ _ _ _ ?_)
  simp only [px_ev_nil, px_ev_i, px_ev_l, px_ev_n, px_ev_r, px_wp, px_step, px_tg, px_i1, px_i2, px_l1, px_l2, px_il, px_a1, px_ia, px_iia, px_lki, px_lkl, px_lka, px_lk, px_sto, px_ins, px_del, px_popn, px_inv, px_cat, px_obj, px_arr, px_arq, px_rfv, px_rok, px_tB, px_tI, px_tZ, px_tG, px_tS, px_S, lv_args, Value.category, List.contains_cons, List.contains_nil, List.getElem?_cons_zero, List.getElem?_cons_succ, List.set_cons_zero, List.set_cons_succ, List.length_cons, List.length_nil, List.map_cons, List.map_nil, List.sum_cons, List.sum_nil, List.cons_append, List.nil_append, Option.toList_some, Option.toList_none, px_hold, Fin.isValue, Fin.val_zero, Fin.val_one, Fin.val_two, Nat.reduceBEq, Nat.reduceAdd, Nat.reduceLT, Nat.reduceLeDiff, Nat.reduceEqDiff, Nat.reduceMod, Int.reduceNeg, Int.reduceAdd, Int.reduceLE, Int.reduceLT, Int.reduceToNat, Int.cast_ofNat_Int, Int.ofNat_eq_natCast, Bool.or_self, Bool.or_false, Bool.false_or, Bool.and_false, Bool.and_self, Bool.false_and, Bool.true_and, Bool.false_eq_true, Bool.true_eq_false, ↓reduceIte, reduceCtorEq, true_and, and_true, false_and, and_false, false_or, or_false, true_or, or_true, ne_eq, not_false_eq_true, not_true_eq_false, px_f0, px_f1, px_f2, px_f3, kc_L0, kc_L1, if_true, if_false, px_10, true_implies, false_implies, implies_true, on_36, mL_36, rt_36, dp_36, lc_36, nr_36, yn_36, rc_1, e36_0, e36_1, fd_1_24, e36_4, fd_1_76, e36_7, e36_8, mt_1_85, kw_37, np_37, on_37, nr_37, fc_36_37, rc_0, e36_11, kc_3, e36_12, e36_13, e36_14, e36_17, kc_4, e36_18, e36_21, kc_2, e36_22, h1, T.1, T.2.2.1.1]
  refine px_rd.use (t_Bytes_at l T.2.2.1) (px_wp_ok (sp := []) 60 _ _ _ _ _ ?_)
  simp only [px_ev_nil, px_ev_i, px_ev_l, px_ev_n, px_ev_r, px_wp, px_step, px_tg, px_i1, px_i2, px_l1, px_l2, px_il, px_a1, px_ia, px_iia, px_lki, px_lkl, px_lka, px_lk, px_sto, px_ins, px_del, px_popn, px_inv, px_cat, px_obj, px_arr, px_arq, px_rfv, px_rok, px_tB, px_tI, px_tZ, px_tG, px_tS, px_S, lv_args, Value.category, List.contains_cons, List.contains_nil, List.getElem?_cons_zero, List.getElem?_cons_succ, List.set_cons_zero, List.set_cons_succ, List.length_cons, List.length_nil, List.map_cons, List.map_nil, List.sum_cons, List.sum_nil, List.cons_append, List.nil_append, Option.toList_some, Option.toList_none, px_hold, Fin.isValue, Fin.val_zero, Fin.val_one, Fin.val_two, Nat.reduceBEq, Nat.reduceAdd, Nat.reduceLT, Nat.reduceLeDiff, Nat.reduceEqDiff, Nat.reduceMod, Int.reduceNeg, Int.reduceAdd, Int.reduceLE, Int.reduceLT, Int.reduceToNat, Int.cast_ofNat_Int, Int.ofNat_eq_natCast, Bool.or_self, Bool.or_false, Bool.false_or, Bool.and_false, Bool.and_self, Bool.false_and, Bool.true_and, Bool.false_eq_true, Bool.true_eq_false, ↓reduceIte, reduceCtorEq, true_and, and_true, false_and, and_false, false_or, or_false, true_or, or_true, ne_eq, not_false_eq_true, not_true_eq_false, px_f0, px_f1, px_f2, px_f3, kc_L0, kc_L1, if_true, if_false, px_10, true_implies, false_implies, implies_true, on_36, mL_36, rt_36, dp_36, lc_36, nr_36, yn_36, rc_1, e36_0, e36_1, fd_1_24, e36_4, fd_1_76, e36_7, e36_8, mt_1_85, kw_37, np_37, on_37, nr_37, fc_36_37, rc_0, e36_11, kc_3, e36_12, e36_13, e36_14, e36_17, kc_4, e36_18, e36_21, kc_2, e36_22, h1, T.1, T.2.2.1.1]
  by_cases hin : 0 ≤ o.toInt ∧ o.toInt < imC I 0
  · have hb := T.2.2.1.lt (j := o.toInt.toNat) (by omega)
    rw [byAt_in hin.1 hin.2, pk_andN (by omega) (m := 3) 2 (by decide), ilen, if_pos hin]
    have e3 := i_n (n := imB I 0 o.toInt.toNat % 2 ^ 2) (by omega)
    refine ⟨fun q => ?_, fun q => ?_⟩
    · rw [i_eq, e3, kt_3] at q
      rw [if_neg (by omega)]; rfl
    · rw [i_eq, e3, kt_3] at q
      rw [if_pos (by omega)]; rfl
  · rw [byAt, if_neg hin, ilen, if_neg hin]
    exact ⟨fun q => absurd (by decide) q, fun _ => rfl⟩
