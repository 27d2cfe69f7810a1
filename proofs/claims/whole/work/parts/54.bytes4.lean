/-! ImageFile$Bytes: numbers, zeros, parts -/
def nby (v : Int32) (k : Nat) : Nat := v.toBitVec.toNat / 2 ^ (8 * k) % 256
def nbI (v : Int32) (i : Nat) : Int32 := vp_nar .byte ((v.toUInt32 >>> (((8 : Int32) * nI i).toUInt32 &&& Int32.toUInt32 31)).toInt32.toInt8.toInt32)
theorem i_un (z : Int32) : z.toInt % 256 = (z.toBitVec.toNat : Int) % 256 := by
  have h1 : z.toInt = z.toBitVec.toInt := rfl
  rw [h1, BitVec.toInt_eq_toNat_cond]
  split <;> omega
theorem nbI_mod (v : Int32) {i : Nat} (hi : i < 4) : (nbI v i).toInt % 256 = nby v i := by
  unfold nbI
  rw [i_nb, i_nb_mod, i_nb_mod, i_un]
  have h2 : ((v.toUInt32 >>> (((8 : Int32) * nI i).toUInt32 &&& Int32.toUInt32 31)).toInt32).toBitVec.toNat = v.toBitVec.toNat / 2 ^ (8 * i) := by
    refine pk_ushr v _ (8 * i) ?_
    rcases (show i = 0 ∨ i = 1 ∨ i = 2 ∨ i = 3 by omega) with rfl | rfl | rfl | rfl <;> decide
  rw [h2]
  unfold nby
  omega
set_option maxRecDepth 100000 in
set_option maxHeartbeats 4000000 in
theorem lp_addNumber (l : Launch) {b lim n c k : Nat} {v : Int32} {K : px_K} (hb0 : b % 64 = 0) (hk : k ≤ 4) (hck : c + k ≤ n) (hn : n ≤ 16384) : ∀ (d i : Nat) (h : px_H) (f : Nat → Int32), i + d = k → h b = some (.inr (0, [.int (nI lim), .ref (b + 2), .int (nI c)])) → h (b + 2) = some (.inl (px_tB, n, .inl f)) →
    (∀ f' : Nat → Int32, (∀ j, f' j = if c + i ≤ j ∧ j < c + k then nbI v (j - c) else f j) → K none (px_up (px_up h (b + 2) (.inl (px_tB, n, .inl f'))) b (.inr (0, [.int (nI lim), .ref (b + 2), .int (nI (c + k))]))) 0 0) →
    px_P l 47 10 [(0, .ref b), (1, .int v), (2, .int (nI k)), (3, .int (nI i))] [] h K := by
  intro d
  induction d with
  | zero =>
    intro i h f hi hb hr hK
    have hik : i = k := by omega
    subst hik
    refine px_go_ok (sp := [10]) 60 ?_
    simp only [px_go, px_ev_nil, px_ev_i, px_ev_l, px_ev_n, px_ev_r, px_wp, px_step, px_tg, px_i1, px_i2, px_l1, px_l2, px_il, px_a1, px_ia, px_iia, px_lki, px_lkl, px_lka, px_lk, px_sto, px_ins, px_del, px_popn, px_inv, px_cat, px_obj, px_arr, px_arq, px_rfv, px_rok, px_tB, px_tI, px_tZ, px_tG, px_tS, px_S, lv_args, Value.category, List.contains_cons, List.contains_nil, List.getElem?_cons_zero, List.getElem?_cons_succ, List.set_cons_zero, List.set_cons_succ, List.length_cons, List.length_nil, List.map_cons, List.map_nil, List.sum_cons, List.sum_nil, List.cons_append, List.nil_append, Option.toList_some, Option.toList_none, px_hold, Fin.isValue, Fin.val_zero, Fin.val_one, Fin.val_two, Nat.reduceBEq, Nat.reduceAdd, Nat.reduceLT, Nat.reduceLeDiff, Nat.reduceEqDiff, Nat.reduceMod, Int.reduceNeg, Int.reduceAdd, Int.reduceLE, Int.reduceLT, Int.reduceToNat, Int.cast_ofNat_Int, Int.ofNat_eq_natCast, Bool.or_self, Bool.or_false, Bool.false_or, Bool.and_false, Bool.and_self, Bool.false_and, Bool.true_and, Bool.false_eq_true, Bool.true_eq_false, ↓reduceIte, reduceCtorEq, true_and, and_true, false_and, and_false, false_or, or_false, true_or, or_true, ne_eq, not_false_eq_true, not_true_eq_false, px_f0, px_f1, px_f2, px_f3, kc_L0, kc_L1, if_true, if_false, px_10, true_implies, false_implies, implies_true, on_47, mL_47, rt_47, dp_47, lc_47, nr_47, yn_47, rc_0, e47_0, e47_1, e47_2, mt_0_28, kw_19, np_19, on_19, nr_19, fc_47_19, e47_5, e47_8, kc_0, e47_9, e47_10, e47_11, e47_12, e47_15, e47_16, fd_0_15, e47_19, e47_20, fd_0_19, e47_23, e47_24, e47_25, e47_26, kc_8, e47_28, e47_29, e47_30, e47_31, e47_32, e47_33, kc_1, e47_36, e47_39, e47_40, e47_41, e47_44, e47_45, e47_46, fin_0_2, ft_0_2, e47_49, hb, hr, px_fit_int, nI_add]
    refine ⟨fun _ => ?_, fun q => absurd (i_le.mpr (Int.le_refl _)) q⟩
    have h1 := hK f (fun j => by rw [if_neg (by omega)])
    rw [px_up_id hr] at h1
    exact h1
  | succ d ih =>
    intro i h f hi hb hr hK
    have h1 := i_n (n := i) (by omega)
    have h2 := i_n (n := k) (by omega)
    refine px_go_ok (sp := [10]) 60 ?_
    simp only [px_go, px_ev_nil, px_ev_i, px_ev_l, px_ev_n, px_ev_r, px_wp, px_step, px_tg, px_i1, px_i2, px_l1, px_l2, px_il, px_a1, px_ia, px_iia, px_lki, px_lkl, px_lka, px_lk, px_sto, px_ins, px_del, px_popn, px_inv, px_cat, px_obj, px_arr, px_arq, px_rfv, px_rok, px_tB, px_tI, px_tZ, px_tG, px_tS, px_S, lv_args, Value.category, List.contains_cons, List.contains_nil, List.getElem?_cons_zero, List.getElem?_cons_succ, List.set_cons_zero, List.set_cons_succ, List.length_cons, List.length_nil, List.map_cons, List.map_nil, List.sum_cons, List.sum_nil, List.cons_append, List.nil_append, Option.toList_some, Option.toList_none, px_hold, Fin.isValue, Fin.val_zero, Fin.val_one, Fin.val_two, Nat.reduceBEq, Nat.reduceAdd, Nat.reduceLT, Nat.reduceLeDiff, Nat.reduceEqDiff, Nat.reduceMod, Int.reduceNeg, Int.reduceAdd, Int.reduceLE, Int.reduceLT, Int.reduceToNat, Int.cast_ofNat_Int, Int.ofNat_eq_natCast, Bool.or_self, Bool.or_false, Bool.false_or, Bool.and_false, Bool.and_self, Bool.false_and, Bool.true_and, Bool.false_eq_true, Bool.true_eq_false, ↓reduceIte, reduceCtorEq, true_and, and_true, false_and, and_false, false_or, or_false, true_or, or_true, ne_eq, not_false_eq_true, not_true_eq_false, px_f0, px_f1, px_f2, px_f3, kc_L0, kc_L1, if_true, if_false, px_10, true_implies, false_implies, implies_true, on_47, mL_47, rt_47, dp_47, lc_47, nr_47, yn_47, rc_0, e47_0, e47_1, e47_2, mt_0_28, kw_19, np_19, on_19, nr_19, fc_47_19, e47_5, e47_8, kc_0, e47_9, e47_10, e47_11, e47_12, e47_15, e47_16, fd_0_15, e47_19, e47_20, fd_0_19, e47_23, e47_24, e47_25, e47_26, kc_8, e47_28, e47_29, e47_30, e47_31, e47_32, e47_33, kc_1, e47_36, e47_39, e47_40, e47_41, e47_44, e47_45, e47_46, fin_0_2, ft_0_2, e47_49, hb, hr, nI_add, nI_1]
    refine ⟨fun q => ?_, fun _ => ⟨?_, ?_⟩⟩
    · rw [i_le] at q
      omega
    · exact pk_in (c + i) n (by omega)
    · rw [nI_clamp (show c + i < 2 ^ 31 by omega)]
      refine ih (i + 1) _ _ (by omega) (by rw [px_up_ne (by omega)]; exact hb) px_up_self fun f' hf' => ?_
      rw [px_up_up]
      refine hK f' fun j => ?_
      rw [hf' j]
      by_cases e1 : j = c + i
      · subst e1
        rw [if_neg (by omega), if_pos (by omega), pk_us, show c + i - c = i by omega]
        rfl
      · by_cases e2 : c + (i + 1) ≤ j ∧ j < c + k
        · rw [if_pos e2, if_pos (by omega)]
        · rw [if_neg e2, if_neg (by omega), pk_un e1]
set_option maxRecDepth 100000 in
set_option maxHeartbeats 4000000 in
theorem t_Bytes_addNumber (l : Launch) {h : px_H} {b lim n c k : Nat} {B : Nat → Nat} {v : Int32} (H : By h b lim n c B) (hb9 : b < 90000) (ht : px_top h) (hk : k ≤ 4) (hroom : c + k ≤ lim) : px_Ct l 47 [.ref b, .int v, .int (nI k)] h (fun r h' mc ms => r = none ∧ px_fr (fun j => j = b ∨ j = b + 2) h h' ∧ ∃ n', n ≤ n' ∧ By h' b lim n' (c + k) (bapp B c (nby v)) ∧ mc + phi lim n ≤ phi lim n' ∧ ms + phi lim n ≤ phi lim n') := by
  have H0 := H
  obtain ⟨hb, hb0, hcn, hnl, hl, f, hr, hf, hB⟩ := H
  have ek := i_n (n := k) (by omega)
  refine px_Ct.of (by decide) (Nat.le_of_ble_eq_true rfl) (px_wp_ok (sp := []) 60 _ _ _ _ _ ?_)
  simp only [px_ev_nil, px_ev_i, px_ev_l, px_ev_n, px_ev_r, px_wp, px_step, px_tg, px_i1, px_i2, px_l1, px_l2, px_il, px_a1, px_ia, px_iia, px_lki, px_lkl, px_lka, px_lk, px_sto, px_ins, px_del, px_popn, px_inv, px_cat, px_obj, px_arr, px_arq, px_rfv, px_rok, px_tB, px_tI, px_tZ, px_tG, px_tS, px_S, lv_args, Value.category, List.contains_cons, List.contains_nil, List.getElem?_cons_zero, List.getElem?_cons_succ, List.set_cons_zero, List.set_cons_succ, List.length_cons, List.length_nil, List.map_cons, List.map_nil, List.sum_cons, List.sum_nil, List.cons_append, List.nil_append, Option.toList_some, Option.toList_none, px_hold, Fin.isValue, Fin.val_zero, Fin.val_one, Fin.val_two, Nat.reduceBEq, Nat.reduceAdd, Nat.reduceLT, Nat.reduceLeDiff, Nat.reduceEqDiff, Nat.reduceMod, Int.reduceNeg, Int.reduceAdd, Int.reduceLE, Int.reduceLT, Int.reduceToNat, Int.cast_ofNat_Int, Int.ofNat_eq_natCast, Bool.or_self, Bool.or_false, Bool.false_or, Bool.and_false, Bool.and_self, Bool.false_and, Bool.true_and, Bool.false_eq_true, Bool.true_eq_false, ↓reduceIte, reduceCtorEq, true_and, and_true, false_and, and_false, false_or, or_false, true_or, or_true, ne_eq, not_false_eq_true, not_true_eq_false, px_f0, px_f1, px_f2, px_f3, kc_L0, kc_L1, if_true, if_false, px_10, true_implies, false_implies, implies_true, on_47, mL_47, rt_47, dp_47, lc_47, nr_47, yn_47, rc_0, e47_0, e47_1, e47_2, mt_0_28, kw_19, np_19, on_19, nr_19, fc_47_19, e47_5, e47_8, kc_0, e47_9, e47_10, e47_11, e47_12, e47_15, e47_16, fd_0_15, e47_19, e47_20, fd_0_19, e47_23, e47_24, e47_25, e47_26, kc_8, e47_28, e47_29, e47_30, e47_31, e47_32, e47_33, kc_1, e47_36, e47_39, e47_40, e47_41, e47_44, e47_45, e47_46, fin_0_2, ft_0_2, e47_49, hb, hb0]
  refine px_Ct.use (t_Bytes_makeRoom l H0 hb9 ht) ?_
  intro r1 h1' mc1 ms1 hh
  obtain ⟨hr1, hfr1, n1, hn1, H1, hw1, hc1, hs1⟩ := hh
  subst hr1
  rw [if_pos (by omega)]
  obtain ⟨g1, g2, g3, g4, g5, f1, g6, g7, g8⟩ := H1
  refine px_wp_ok (sp := [10]) 20 _ _ _ _ _ ?_
  simp only [px_ev_nil, px_ev_i, px_ev_l, px_ev_n, px_ev_r, px_wp, px_step, px_tg, px_i1, px_i2, px_l1, px_l2, px_il, px_a1, px_ia, px_iia, px_lki, px_lkl, px_lka, px_lk, px_sto, px_ins, px_del, px_popn, px_inv, px_cat, px_obj, px_arr, px_arq, px_rfv, px_rok, px_tB, px_tI, px_tZ, px_tG, px_tS, px_S, lv_args, Value.category, List.contains_cons, List.contains_nil, List.getElem?_cons_zero, List.getElem?_cons_succ, List.set_cons_zero, List.set_cons_succ, List.length_cons, List.length_nil, List.map_cons, List.map_nil, List.sum_cons, List.sum_nil, List.cons_append, List.nil_append, Option.toList_some, Option.toList_none, px_hold, Fin.isValue, Fin.val_zero, Fin.val_one, Fin.val_two, Nat.reduceBEq, Nat.reduceAdd, Nat.reduceLT, Nat.reduceLeDiff, Nat.reduceEqDiff, Nat.reduceMod, Int.reduceNeg, Int.reduceAdd, Int.reduceLE, Int.reduceLT, Int.reduceToNat, Int.cast_ofNat_Int, Int.ofNat_eq_natCast, Bool.or_self, Bool.or_false, Bool.false_or, Bool.and_false, Bool.and_self, Bool.false_and, Bool.true_and, Bool.false_eq_true, Bool.true_eq_false, ↓reduceIte, reduceCtorEq, true_and, and_true, false_and, and_false, false_or, or_false, true_or, or_true, ne_eq, not_false_eq_true, not_true_eq_false, px_f0, px_f1, px_f2, px_f3, kc_L0, kc_L1, if_true, if_false, px_10, true_implies, false_implies, implies_true, on_47, mL_47, rt_47, dp_47, lc_47, nr_47, yn_47, rc_0, e47_0, e47_1, e47_2, mt_0_28, kw_19, np_19, on_19, nr_19, fc_47_19, e47_5, e47_8, kc_0, e47_9, e47_10, e47_11, e47_12, e47_15, e47_16, fd_0_15, e47_19, e47_20, fd_0_19, e47_23, e47_24, e47_25, e47_26, kc_8, e47_28, e47_29, e47_30, e47_31, e47_32, e47_33, kc_1, e47_36, e47_39, e47_40, e47_41, e47_44, e47_45, e47_46, fin_0_2, ft_0_2, e47_49]
  rw [show (0 : Int32) = nI 0 from rfl]
  refine lp_addNumber l (n := n1) hb0 hk (by omega) (by omega) k 0 h1' f1 (by omega) g1 g6 fun f' hf' => ?_
  refine ⟨rfl, ((hfr1.mono (fun j hj => Or.inr hj)).up (Or.inr rfl)).up (Or.inl rfl), n1, hn1, ⟨by rw [px_up_self], hb0, by omega, g4, g5, f', by rw [px_up_ne (by omega), px_up_self], fun j hj => ?_, fun j hj => ?_⟩, by omega, by omega⟩
  · rw [hf' j]
    split
    · exact i_nb_rg _
    · exact g7 j hj
  · rw [hf' j]
    by_cases ej : j < c
    · rw [if_neg (by omega), bapp, if_pos ej]
      exact g8 j ej
    · rw [if_pos (by omega), bapp, if_neg ej, nbI_mod v (by omega)]
