/-! ImageFile$Bytes: what is added -/
def bapp (B : Nat → Nat) (c : Nat) (v : Nat → Nat) : Nat → Nat := fun j => if j < c then B j else v (j - c)
/-- byte k of eight, the highest first -/
def hby (e : Int64) (k : Nat) : Nat := e.toBitVec.toNat / 2 ^ (56 - 8 * k) % 256
def hbI (e : Int64) (i : Nat) : Int32 := vp_nar .byte ((e.toUInt64 >>> (((56 : Int32) - 8 * nI i).toInt64.toUInt64 &&& Int64.toUInt64 63)).toInt64.toInt32.toInt8.toInt32)
theorem l_mod256 (z : Int64) : (z.toInt32).toInt % 256 = z.toInt % 256 := by
  have h1 : z.toInt.bmod 4294967296 % (4294967296 : Int) = z.toInt % 4294967296 := Int.bmod_emod
  rw [Int64.toInt_toInt32, show ((2 : Nat) ^ 32) = 4294967296 by decide]
  omega
theorem l_un (z : Int64) : z.toInt % 256 = (z.toBitVec.toNat : Int) % 256 := by
  have h1 : z.toInt = z.toBitVec.toInt := rfl
  rw [h1, BitVec.toInt_eq_toNat_cond]
  split <;> omega
theorem hbI_mod (e : Int64) {i : Nat} (hi : i < 8) : (hbI e i).toInt % 256 = hby e i := by
  have hs : ((((56 : Int32) - 8 * nI i).toInt64.toUInt64 &&& Int64.toUInt64 63)) = UInt64.ofNat (56 - 8 * i) := by
    rcases (show i = 0 ∨ i = 1 ∨ i = 2 ∨ i = 3 ∨ i = 4 ∨ i = 5 ∨ i = 6 ∨ i = 7 by omega) with rfl | rfl | rfl | rfl | rfl | rfl | rfl | rfl <;> decide
  unfold hbI
  rw [hs, i_nb, i_nb_mod, i_nb_mod, l_mod256, l_un]
  have h2 : (e.toUInt64 >>> UInt64.ofNat (56 - 8 * i)).toInt64.toBitVec.toNat = e.toBitVec.toNat / 2 ^ (56 - 8 * i) := by
    show (e.toUInt64 >>> UInt64.ofNat (56 - 8 * i)).toNat = _
    rw [UInt64.toNat_shiftRight]
    have h3 : (UInt64.ofNat (56 - 8 * i)).toNat % 64 = 56 - 8 * i := by
      rcases (show i = 0 ∨ i = 1 ∨ i = 2 ∨ i = 3 ∨ i = 4 ∨ i = 5 ∨ i = 6 ∨ i = 7 by omega) with rfl | rfl | rfl | rfl | rfl | rfl | rfl | rfl <;> decide
    rw [h3, Nat.shiftRight_eq_div_pow]
    rfl
  rw [h2]
  unfold hby
  omega
set_option maxRecDepth 100000 in
set_option maxHeartbeats 4000000 in
theorem lp_addHighest (l : Launch) {b lim n c k : Nat} {e : Int64} {K : px_K} (hb0 : b % 64 = 0) (hk : k ≤ 8) (hck : c + k ≤ n) (hn : n ≤ 16384) : ∀ (d i : Nat) (h : px_H) (f : Nat → Int32), i + d = k → h b = some (.inr (0, [.int (nI lim), .ref (b + 2), .int (nI c)])) → h (b + 2) = some (.inl (px_tB, n, .inl f)) →
    (∀ f' : Nat → Int32, (∀ j, f' j = if c + i ≤ j ∧ j < c + k then hbI e (j - c) else f j) → K (some (.int 1)) (px_up (px_up h (b + 2) (.inl (px_tB, n, .inl f'))) b (.inr (0, [.int (nI lim), .ref (b + 2), .int (nI (c + k))]))) 0 0) →
    px_P l 18 24 [(0, .ref b), (1, .int (nI k)), (2, .long e), (4, .int (nI i))] [] h K := by
  intro d
  induction d with
  | zero =>
    intro i h f hi hb hr hK
    have hik : i = k := by omega
    subst hik
    refine px_go_ok (sp := [24]) 60 ?_
    simp only [px_go, px_ev_nil, px_ev_i, px_ev_l, px_ev_n, px_ev_r, px_wp, px_step, px_tg, px_i1, px_i2, px_l1, px_l2, px_il, px_a1, px_ia, px_iia, px_lki, px_lkl, px_lka, px_lk, px_sto, px_ins, px_del, px_popn, px_inv, px_cat, px_obj, px_arr, px_arq, px_rfv, px_rok, px_tB, px_tI, px_tZ, px_tG, px_tS, px_S, lv_args, Value.category, List.contains_cons, List.contains_nil, List.getElem?_cons_zero, List.getElem?_cons_succ, List.set_cons_zero, List.set_cons_succ, List.length_cons, List.length_nil, List.map_cons, List.map_nil, List.sum_cons, List.sum_nil, List.cons_append, List.nil_append, Option.toList_some, Option.toList_none, px_hold, Fin.isValue, Fin.val_zero, Fin.val_one, Fin.val_two, Nat.reduceBEq, Nat.reduceAdd, Nat.reduceLT, Nat.reduceLeDiff, Nat.reduceEqDiff, Nat.reduceMod, Int.reduceNeg, Int.reduceAdd, Int.reduceLE, Int.reduceLT, Int.reduceToNat, Int.cast_ofNat_Int, Int.ofNat_eq_natCast, Bool.or_self, Bool.or_false, Bool.false_or, Bool.and_false, Bool.and_self, Bool.false_and, Bool.true_and, Bool.false_eq_true, Bool.true_eq_false, ↓reduceIte, reduceCtorEq, true_and, and_true, false_and, and_false, false_or, or_false, true_or, or_true, ne_eq, not_false_eq_true, not_true_eq_false, px_f0, px_f1, px_f2, px_f3, kc_L0, kc_L1, if_true, if_false, px_10, true_implies, false_implies, implies_true, on_18, mL_18, rt_18, dp_18, lc_18, nr_18, yn_18, rc_0, e18_0, e18_1, kc_1, e18_2, e18_5, e18_6, kc_8, e18_8, e18_11, e18_12, e18_13, mt_0_28, kw_19, np_19, on_19, nr_19, fc_18_19, e18_16, e18_19, kc_0, e18_20, e18_21, e18_22, e18_24, e18_26, e18_27, e18_30, e18_31, fd_0_15, e18_34, e18_35, fd_0_19, e18_38, e18_40, e18_41, e18_42, kc_56, e18_44, e18_46, e18_48, e18_49, e18_50, e18_51, e18_52, e18_53, e18_54, e18_57, e18_60, e18_61, e18_62, e18_65, e18_66, e18_67, fin_0_2, ft_0_2, e18_70, e18_71, hb, hr, px_fit_int, nI_add]
    refine ⟨fun _ => ?_, fun q => absurd (i_le.mpr (Int.le_refl _)) q⟩
    have h1 := hK f (fun j => by rw [if_neg (by omega)])
    rw [px_up_id hr] at h1
    exact h1
  | succ d ih =>
    intro i h f hi hb hr hK
    have h1 := i_n (n := i) (by omega)
    have h2 := i_n (n := k) (by omega)
    refine px_go_ok (sp := [24]) 60 ?_
    simp only [px_go, px_ev_nil, px_ev_i, px_ev_l, px_ev_n, px_ev_r, px_wp, px_step, px_tg, px_i1, px_i2, px_l1, px_l2, px_il, px_a1, px_ia, px_iia, px_lki, px_lkl, px_lka, px_lk, px_sto, px_ins, px_del, px_popn, px_inv, px_cat, px_obj, px_arr, px_arq, px_rfv, px_rok, px_tB, px_tI, px_tZ, px_tG, px_tS, px_S, lv_args, Value.category, List.contains_cons, List.contains_nil, List.getElem?_cons_zero, List.getElem?_cons_succ, List.set_cons_zero, List.set_cons_succ, List.length_cons, List.length_nil, List.map_cons, List.map_nil, List.sum_cons, List.sum_nil, List.cons_append, List.nil_append, Option.toList_some, Option.toList_none, px_hold, Fin.isValue, Fin.val_zero, Fin.val_one, Fin.val_two, Nat.reduceBEq, Nat.reduceAdd, Nat.reduceLT, Nat.reduceLeDiff, Nat.reduceEqDiff, Nat.reduceMod, Int.reduceNeg, Int.reduceAdd, Int.reduceLE, Int.reduceLT, Int.reduceToNat, Int.cast_ofNat_Int, Int.ofNat_eq_natCast, Bool.or_self, Bool.or_false, Bool.false_or, Bool.and_false, Bool.and_self, Bool.false_and, Bool.true_and, Bool.false_eq_true, Bool.true_eq_false, ↓reduceIte, reduceCtorEq, true_and, and_true, false_and, and_false, false_or, or_false, true_or, or_true, ne_eq, not_false_eq_true, not_true_eq_false, px_f0, px_f1, px_f2, px_f3, kc_L0, kc_L1, if_true, if_false, px_10, true_implies, false_implies, implies_true, on_18, mL_18, rt_18, dp_18, lc_18, nr_18, yn_18, rc_0, e18_0, e18_1, kc_1, e18_2, e18_5, e18_6, kc_8, e18_8, e18_11, e18_12, e18_13, mt_0_28, kw_19, np_19, on_19, nr_19, fc_18_19, e18_16, e18_19, kc_0, e18_20, e18_21, e18_22, e18_24, e18_26, e18_27, e18_30, e18_31, fd_0_15, e18_34, e18_35, fd_0_19, e18_38, e18_40, e18_41, e18_42, kc_56, e18_44, e18_46, e18_48, e18_49, e18_50, e18_51, e18_52, e18_53, e18_54, e18_57, e18_60, e18_61, e18_62, e18_65, e18_66, e18_67, fin_0_2, ft_0_2, e18_70, e18_71, hb, hr, nI_add, nI_1]
    refine ⟨fun q => ?_, fun _ => ⟨?_, ?_⟩⟩
    · rw [i_le] at q
      omega
    · exact pk_in (c + i) n (by omega)
    · rw [nI_clamp (show c + i < 2 ^ 31 by omega)]
      refine ih (i + 1) _ _ (by omega) (by rw [px_up_ne (by omega)]; exact hb) px_up_self fun f' hf' => ?_
      rw [px_up_up]
      refine hK f' fun j => ?_
      rw [hf' j]
      by_cases e1 : j = c + i
      · subst e1
        rw [if_neg (by omega), if_pos (by omega), pk_us, show c + i - c = i by omega]
        rfl
      · by_cases e2 : c + (i + 1) ≤ j ∧ j < c + k
        · rw [if_pos e2, if_pos (by omega)]
        · rw [if_neg e2, if_neg (by omega), pk_un e1]
set_option maxRecDepth 100000 in
set_option maxHeartbeats 4000000 in
theorem t_Bytes_addHighest (l : Launch) {h : px_H} {b lim n c : Nat} {B : Nat → Nat} {w : Int32} {e : Int64} (H : By h b lim n c B) (hb9 : b < 90000) (ht : px_top h) : px_Ct l 18 [.ref b, .int w, .long e] h (fun r h' mc ms => r = some (.int (if 1 ≤ w.toInt ∧ w.toInt ≤ 8 ∧ w.toInt + c ≤ lim then 1 else 0)) ∧ px_fr (fun j => j = b ∨ j = b + 2) h h' ∧ ∃ n', n ≤ n' ∧ By h' b lim n' (if 1 ≤ w.toInt ∧ w.toInt ≤ 8 ∧ w.toInt + c ≤ lim then c + w.toInt.toNat else c) (if 1 ≤ w.toInt ∧ w.toInt ≤ 8 ∧ w.toInt + c ≤ lim then bapp B c (hby e) else B) ∧ mc + phi lim n ≤ phi lim n' ∧ ms + phi lim n ≤ phi lim n') := by
  have H0 := H
  obtain ⟨hb, hb0, hcn, hnl, hl, f, hr, hf, hB⟩ := H
  refine px_Ct.of (by decide) (Nat.le_of_ble_eq_true rfl) (px_wp_ok (sp := []) 60 _ _ _ _ _ ?_)
  simp only [px_ev_nil, px_ev_i, px_ev_l, px_ev_n, px_ev_r, px_wp, px_step, px_tg, px_i1, px_i2, px_l1, px_l2, px_il, px_a1, px_ia, px_iia, px_lki, px_lkl, px_lka, px_lk, px_sto, px_ins, px_del, px_popn, px_inv, px_cat, px_obj, px_arr, px_arq, px_rfv, px_rok, px_tB, px_tI, px_tZ, px_tG, px_tS, px_S, lv_args, Value.category, List.contains_cons, List.contains_nil, List.getElem?_cons_zero, List.getElem?_cons_succ, List.set_cons_zero, List.set_cons_succ, List.length_cons, List.length_nil, List.map_cons, List.map_nil, List.sum_cons, List.sum_nil, List.cons_append, List.nil_append, Option.toList_some, Option.toList_none, px_hold, Fin.isValue, Fin.val_zero, Fin.val_one, Fin.val_two, Nat.reduceBEq, Nat.reduceAdd, Nat.reduceLT, Nat.reduceLeDiff, Nat.reduceEqDiff, Nat.reduceMod, Int.reduceNeg, Int.reduceAdd, Int.reduceLE, Int.reduceLT, Int.reduceToNat, Int.cast_ofNat_Int, Int.ofNat_eq_natCast, Bool.or_self, Bool.or_false, Bool.false_or, Bool.and_false, Bool.and_self, Bool.false_and, Bool.true_and, Bool.false_eq_true, Bool.true_eq_false, ↓reduceIte, reduceCtorEq, true_and, and_true, false_and, and_false, false_or, or_false, true_or, or_true, ne_eq, not_false_eq_true, not_true_eq_false, px_f0, px_f1, px_f2, px_f3, kc_L0, kc_L1, if_true, if_false, px_10, true_implies, false_implies, implies_true, on_18, mL_18, rt_18, dp_18, lc_18, nr_18, yn_18, rc_0, e18_0, e18_1, kc_1, e18_2, e18_5, e18_6, kc_8, e18_8, e18_11, e18_12, e18_13, mt_0_28, kw_19, np_19, on_19, nr_19, fc_18_19, e18_16, e18_19, kc_0, e18_20, e18_21, e18_22, e18_24, e18_26, e18_27, e18_30, e18_31, fd_0_15, e18_34, e18_35, fd_0_19, e18_38, e18_40, e18_41, e18_42, kc_56, e18_44, e18_46, e18_48, e18_49, e18_50, e18_51, e18_52, e18_53, e18_54, e18_57, e18_60, e18_61, e18_62, e18_65, e18_66, e18_67, fin_0_2, ft_0_2, e18_70, e18_71, hb, hb0]
  refine ⟨fun h1 => ?_, fun h1 => ⟨fun h2 => ?_, fun h2 => ?_⟩⟩
  · simp only [i_lt, i_le, i_eq, i_cl, vp_in, kt_m6, kt_m4, kt_m1, kt_0, kt_1, kt_2, kt_3, kt_4, kt_5, kt_6, kt_7, kt_8, kt_9, kt_10, kt_11, kt_12, kt_13, kt_14, kt_15, kt_16, kt_17, kt_18, kt_19, kt_20, kt_21, kt_22, kt_23, kt_24, kt_25, kt_26, kt_27, kt_28, kt_29, kt_30, kt_31, kt_32, kt_36, kt_40, kt_42, kt_44, kt_46, kt_52, kt_56, kt_69, kt_70, kt_76, kt_77, kt_97, kt_107, kt_114, kt_115, kt_127, kt_243, kt_255, kt_256, kt_2048, kt_4094, kt_4095, kt_4096, kt_12288, kt_16384, kt_24576] at h1
    rw [if_neg (by omega), if_neg (by omega), if_neg (by omega)]
    exact ⟨rfl, px_fr.rf, n, Nat.le_refl _, H0, by omega, by omega⟩
  · simp only [i_lt, i_le, i_eq, i_cl, vp_in, kt_m6, kt_m4, kt_m1, kt_0, kt_1, kt_2, kt_3, kt_4, kt_5, kt_6, kt_7, kt_8, kt_9, kt_10, kt_11, kt_12, kt_13, kt_14, kt_15, kt_16, kt_17, kt_18, kt_19, kt_20, kt_21, kt_22, kt_23, kt_24, kt_25, kt_26, kt_27, kt_28, kt_29, kt_30, kt_31, kt_32, kt_36, kt_40, kt_42, kt_44, kt_46, kt_52, kt_56, kt_69, kt_70, kt_76, kt_77, kt_97, kt_107, kt_114, kt_115, kt_127, kt_243, kt_255, kt_256, kt_2048, kt_4094, kt_4095, kt_4096, kt_12288, kt_16384, kt_24576] at h2
    rw [if_neg (by omega), if_neg (by omega), if_neg (by omega)]
    exact ⟨rfl, px_fr.rf, n, Nat.le_refl _, H0, by omega, by omega⟩
  · simp only [i_lt, i_le, i_eq, i_cl, vp_in, kt_m6, kt_m4, kt_m1, kt_0, kt_1, kt_2, kt_3, kt_4, kt_5, kt_6, kt_7, kt_8, kt_9, kt_10, kt_11, kt_12, kt_13, kt_14, kt_15, kt_16, kt_17, kt_18, kt_19, kt_20, kt_21, kt_22, kt_23, kt_24, kt_25, kt_26, kt_27, kt_28, kt_29, kt_30, kt_31, kt_32, kt_36, kt_40, kt_42, kt_44, kt_46, kt_52, kt_56, kt_69, kt_70, kt_76, kt_77, kt_97, kt_107, kt_114, kt_115, kt_127, kt_243, kt_255, kt_256, kt_2048, kt_4094, kt_4095, kt_4096, kt_12288, kt_16384, kt_24576] at h1 h2
    have hk : ∃ k : Nat, w = nI k ∧ 1 ≤ k ∧ k ≤ 8 := ⟨w.toInt.toNat, by rw [i_eq, i_n (by omega)]; omega, by omega, by omega⟩
    obtain ⟨k, rfl, hk1, hk8⟩ := hk
    have ek := i_n (n := k) (by omega)
    refine px_Ct.use (t_Bytes_makeRoom l H0 hb9 ht) ?_
    intro r1 h1' mc1 ms1 hh
    obtain ⟨hr1, hfr1, n1, hn1, H1, hw1, hc1, hs1⟩ := hh
    subst hr1
    by_cases hroom : k + c ≤ lim
    · rw [if_pos (by omega), if_pos (by omega), if_pos (by omega), if_pos (by omega)]
      have H1' := H1
      obtain ⟨g1, g2, g3, g4, g5, f1, g6, g7, g8⟩ := H1
      refine px_wp_ok (sp := [24]) 20 _ _ _ _ _ ?_
      simp only [px_ev_nil, px_ev_i, px_ev_l, px_ev_n, px_ev_r, px_wp, px_step, px_tg, px_i1, px_i2, px_l1, px_l2, px_il, px_a1, px_ia, px_iia, px_lki, px_lkl, px_lka, px_lk, px_sto, px_ins, px_del, px_popn, px_inv, px_cat, px_obj, px_arr, px_arq, px_rfv, px_rok, px_tB, px_tI, px_tZ, px_tG, px_tS, px_S, lv_args, Value.category, List.contains_cons, List.contains_nil, List.getElem?_cons_zero, List.getElem?_cons_succ, List.set_cons_zero, List.set_cons_succ, List.length_cons, List.length_nil, List.map_cons, List.map_nil, List.sum_cons, List.sum_nil, List.cons_append, List.nil_append, Option.toList_some, Option.toList_none, px_hold, Fin.isValue, Fin.val_zero, Fin.val_one, Fin.val_two, Nat.reduceBEq, Nat.reduceAdd, Nat.reduceLT, Nat.reduceLeDiff, Nat.reduceEqDiff, Nat.reduceMod, Int.reduceNeg, Int.reduceAdd, Int.reduceLE, Int.reduceLT, Int.reduceToNat, Int.cast_ofNat_Int, Int.ofNat_eq_natCast, Bool.or_self, Bool.or_false, Bool.false_or, Bool.and_false, Bool.and_self, Bool.false_and, Bool.true_and, Bool.false_eq_true, Bool.true_eq_false, ↓reduceIte, reduceCtorEq, true_and, and_true, false_and, and_false, false_or, or_false, true_or, or_true, ne_eq, not_false_eq_true, not_true_eq_false, px_f0, px_f1, px_f2, px_f3, kc_L0, kc_L1, if_true, if_false, px_10, true_implies, false_implies, implies_true, on_18, mL_18, rt_18, dp_18, lc_18, nr_18, yn_18, rc_0, e18_0, e18_1, kc_1, e18_2, e18_5, e18_6, kc_8, e18_8, e18_11, e18_12, e18_13, mt_0_28, kw_19, np_19, on_19, nr_19, fc_18_19, e18_16, e18_19, kc_0, e18_20, e18_21, e18_22, e18_24, e18_26, e18_27, e18_30, e18_31, fd_0_15, e18_34, e18_35, fd_0_19, e18_38, e18_40, e18_41, e18_42, kc_56, e18_44, e18_46, e18_48, e18_49, e18_50, e18_51, e18_52, e18_53, e18_54, e18_57, e18_60, e18_61, e18_62, e18_65, e18_66, e18_67, fin_0_2, ft_0_2, e18_70, e18_71]
      rw [show (0 : Int32) = nI 0 from rfl]
      refine lp_addHighest l (n := n1) hb0 hk8 (by omega) (by omega) k 0 h1' f1 (by omega) g1 g6 fun f' hf' => ?_
      refine ⟨rfl, ((hfr1.mono (fun j hj => Or.inr hj)).up (Or.inr rfl)).up (Or.inl rfl), n1, hn1, ⟨by rw [px_up_self, show (nI k).toInt.toNat = k by omega], hb0, by omega, g4, g5, f', by rw [px_up_ne (by omega), px_up_self], fun j hj => ?_, fun j hj => ?_⟩, by omega, by omega⟩
      · rw [hf' j]
        split
        · exact i_nb_rg _
        · exact g7 j hj
      · rw [hf' j]
        by_cases ej : j < c
        · rw [if_neg (by omega), bapp, if_pos ej]
          exact g8 j ej
        · rw [if_pos (by omega), bapp, if_neg ej, hbI_mod e (by omega)]
    · rw [if_neg (by omega), if_neg (by omega), if_neg (by omega), if_neg (by omega)]
      refine px_wp_ok (sp := [24]) 20 _ _ _ _ _ ?_
      simp only [px_ev_nil, px_ev_i, px_ev_l, px_ev_n, px_ev_r, px_wp, px_step, px_tg, px_i1, px_i2, px_l1, px_l2, px_il, px_a1, px_ia, px_iia, px_lki, px_lkl, px_lka, px_lk, px_sto, px_ins, px_del, px_popn, px_inv, px_cat, px_obj, px_arr, px_arq, px_rfv, px_rok, px_tB, px_tI, px_tZ, px_tG, px_tS, px_S, lv_args, Value.category, List.contains_cons, List.contains_nil, List.getElem?_cons_zero, List.getElem?_cons_succ, List.set_cons_zero, List.set_cons_succ, List.length_cons, List.length_nil, List.map_cons, List.map_nil, List.sum_cons, List.sum_nil, List.cons_append, List.nil_append, Option.toList_some, Option.toList_none, px_hold, Fin.isValue, Fin.val_zero, Fin.val_one, Fin.val_two, Nat.reduceBEq, Nat.reduceAdd, Nat.reduceLT, Nat.reduceLeDiff, Nat.reduceEqDiff, Nat.reduceMod, Int.reduceNeg, Int.reduceAdd, Int.reduceLE, Int.reduceLT, Int.reduceToNat, Int.cast_ofNat_Int, Int.ofNat_eq_natCast, Bool.or_self, Bool.or_false, Bool.false_or, Bool.and_false, Bool.and_self, Bool.false_and, Bool.true_and, Bool.false_eq_true, Bool.true_eq_false, ↓reduceIte, reduceCtorEq, true_and, and_true, false_and, and_false, false_or, or_false, true_or, or_true, ne_eq, not_false_eq_true, not_true_eq_false, px_f0, px_f1, px_f2, px_f3, kc_L0, kc_L1, if_true, if_false, px_10, true_implies, false_implies, implies_true, on_18, mL_18, rt_18, dp_18, lc_18, nr_18, yn_18, rc_0, e18_0, e18_1, kc_1, e18_2, e18_5, e18_6, kc_8, e18_8, e18_11, e18_12, e18_13, mt_0_28, kw_19, np_19, on_19, nr_19, fc_18_19, e18_16, e18_19, kc_0, e18_20, e18_21, e18_22, e18_24, e18_26, e18_27, e18_30, e18_31, fd_0_15, e18_34, e18_35, fd_0_19, e18_38, e18_40, e18_41, e18_42, kc_56, e18_44, e18_46, e18_48, e18_49, e18_50, e18_51, e18_52, e18_53, e18_54, e18_57, e18_60, e18_61, e18_62, e18_65, e18_66, e18_67, fin_0_2, ft_0_2, e18_70, e18_71]
      exact ⟨hfr1.mono (fun j hj => Or.inr hj), n1, hn1, H1, by omega, by omega⟩
