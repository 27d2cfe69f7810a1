/-! ImageFile$Image: copied, made -/
def Phi (ns : Nat → Nat) : Nat := phi 4096 (ns 0) + phi 4096 (ns 1) + phi 4096 (ns 2)
/-- the first n segments are those of J -/
def imC2 (I J : Im) (n : Nat) : Im := match n with
  | 0 => I
  | n + 1 => imS (imC2 I J n) n (imT J n) (imA J n) (imM J n) (imC J n) (imB J n)
theorem imC2_K (I J : Im) (n : Nat) : imK (imC2 I J n) = imK I ∧ imE (imC2 I J n) = imE I ∧ imP (imC2 I J n) = imP I := by
  induction n with
  | zero => exact ⟨rfl, rfl, rfl⟩
  | succ n ih => exact ih
theorem imC2_s (I J : Im) : ∀ (n s : Nat), s < n → imT (imC2 I J n) s = imT J s ∧ imA (imC2 I J n) s = imA J s ∧ imM (imC2 I J n) s = imM J s ∧ imC (imC2 I J n) s = imC J s ∧ imB (imC2 I J n) s = imB J s
  | n + 1, s, h => by
    show fup (imT (imC2 I J n)) n _ s = _ ∧ fup (imA (imC2 I J n)) n _ s = _ ∧ fup (imM (imC2 I J n)) n _ s = _ ∧ fup (imC (imC2 I J n)) n _ s = _ ∧ fup (imB (imC2 I J n)) n _ s = _
    by_cases e : s = n
    · subst e; exact ⟨fup_s, fup_s, fup_s, fup_s, fup_s⟩
    · rw [fup_n e, fup_n e, fup_n e, fup_n e, fup_n e]
      exact imC2_s I J n s (by omega)
theorem Phi_up {ns : Nat → Nat} {s n' : Nat} (hs : s < 3) : Phi (fup ns s n') + phi 4096 (ns s) = Phi ns + phi 4096 n' := by
  unfold Phi
  rcases (show s = 0 ∨ s = 1 ∨ s = 2 by omega) with rfl | rfl | rfl <;> simp [fup] <;> omega
set_option maxRecDepth 100000 in
set_option maxHeartbeats 4000000 in
theorem lp_like (l : Launch) {i i2 : Nat} {ns ns2 : Nat → Nat} {I J : Im} {h0 : px_H} {K : px_K} (hd : i + 576 ≤ i2 ∨ i2 + 576 ≤ i) (hi9 : i < 70000) (hi20 : i2 % 64 = 0)
    (hK : ∀ (h : px_H) (ns' : Nat → Nat) (mc ms : Nat), ImA h i ns' (imC2 I J 3) → ImA h i2 ns2 J → px_fr (imQ i) h0 h → (∀ s, s < 3 → ns s ≤ ns' s) → mc + Phi ns ≤ Phi ns' → ms + Phi ns ≤ Phi ns' → px_P l 95 28 [(0, .ref i), (1, .ref i2)] [] h (fun r h' a b => K r h' (mc + a) (ms + b))) :
    ∀ (d s : Nat) (h : px_H) (ns' : Nat → Nat) (mc ms : Nat), s + d = 3 → ImA h i ns' (imC2 I J s) → ImA h i2 ns2 J → px_top h → px_fr (imQ i) h0 h → (∀ s, s < 3 → ns s ≤ ns' s) → mc + Phi ns ≤ Phi ns' → ms + Phi ns ≤ Phi ns' → px_P l 95 2 [(0, .ref i), (1, .ref i2), (2, .int (nI s))] [] h (fun r h' a b => K r h' (mc + a) (ms + b)) := by
  intro d
  induction d with
  | zero =>
    intro s h ns' mc ms hs H H2 ht hf hle hmc hms
    have e : s = 3 := by omega
    subst e
    refine px_go_ok (sp := [28]) 60 ?_
    simp only [px_go, px_ev_nil, px_ev_i, px_ev_l, px_ev_n, px_ev_r, px_wp, px_step, px_tg, px_i1, px_i2, px_l1, px_l2, px_il, px_a1, px_ia, px_iia, px_lki, px_lkl, px_lka, px_lk, px_sto, px_ins, px_del, px_popn, px_inv, px_cat, px_obj, px_arr, px_arq, px_rfv, px_rok, px_tB, px_tI, px_tZ, px_tG, px_tS, px_S, lv_args, Value.category, List.contains_cons, List.contains_nil, List.getElem?_cons_zero, List.getElem?_cons_succ, List.set_cons_zero, List.set_cons_succ, List.length_cons, List.length_nil, List.map_cons, List.map_nil, List.sum_cons, List.sum_nil, List.cons_append, List.nil_append, Option.toList_some, Option.toList_none, px_hold, Fin.isValue, Fin.val_zero, Fin.val_one, Fin.val_two, Nat.reduceBEq, Nat.reduceAdd, Nat.reduceLT, Nat.reduceLeDiff, Nat.reduceEqDiff, Nat.reduceMod, Int.reduceNeg, Int.reduceAdd, Int.reduceLE, Int.reduceLT, Int.reduceToNat, Int.cast_ofNat_Int, Int.ofNat_eq_natCast, Bool.or_self, Bool.or_false, Bool.false_or, Bool.and_false, Bool.and_self, Bool.false_and, Bool.true_and, Bool.false_eq_true, Bool.true_eq_false, ↓reduceIte, reduceCtorEq, true_and, and_true, false_and, and_false, false_or, or_false, true_or, or_true, ne_eq, not_false_eq_true, not_true_eq_false, px_f0, px_f1, px_f2, px_f3, kc_L0, kc_L1, if_true, if_false, px_10, true_implies, false_implies, implies_true, on_95, mL_95, rt_95, dp_95, lc_95, nr_95, yn_95, rc_1, e95_0, kc_0, e95_1, e95_2, e95_3, kc_3, e95_4, e95_7, e95_8, fd_1_11, e95_11, e95_12, e95_13, e95_14, e95_17, e95_18, e95_19, mt_1_48, kw_96, np_96, on_96, nr_96, fc_95_96, rc_4, e95_22, kc_1, e95_25, e95_28, e95_29, fd_1_28, e95_32, e95_33, e95_34, e95_37, e95_38, e95_39, e95_42, e95_43, mt_1_52, e95_46, e95_47, e95_48, fd_1_45, e95_51, fin_1_3, ft_1_3, e95_54, e95_55, e95_56, fd_1_32, e95_59, fin_1_4, ft_1_4, e95_62]
    refine ⟨fun _ => ?_, fun q => absurd (by decide) q⟩
    exact px_P.weak (fun q hq => by simp at hq ⊢; grind) (hK h ns' mc ms H H2 hf hle hmc hms)
  | succ d ih =>
    intro s h ns' mc ms hs H H2 ht hf hle hmc hms
    obtain ⟨F, hF, hFs⟩ := H.2.2.1
    obtain ⟨F2, hF2, hFs2⟩ := H2.2.2.1
    have h1 := i_n (n := s) (by omega)
    have hS := H.sg (s := s) (by omega)
    have hS2 := H2.sg (s := s) (by omega)
    have es : (nI s).toNatClampNeg = s := nI_clamp (by omega)
    have hin : vp_in (nI s) 3 := pk_in s 3 (by omega)
    have hFx := hFs s (by omega)
    have hFy := hFs2 s (by omega)
    have hi0 := H.2.1
    refine px_go_ok (sp := [2]) 60 ?_
    simp only [px_go, px_ev_nil, px_ev_i, px_ev_l, px_ev_n, px_ev_r, px_wp, px_step, px_tg, px_i1, px_i2, px_l1, px_l2, px_il, px_a1, px_ia, px_iia, px_lki, px_lkl, px_lka, px_lk, px_sto, px_ins, px_del, px_popn, px_inv, px_cat, px_obj, px_arr, px_arq, px_rfv, px_rok, px_tB, px_tI, px_tZ, px_tG, px_tS, px_S, lv_args, Value.category, List.contains_cons, List.contains_nil, List.getElem?_cons_zero, List.getElem?_cons_succ, List.set_cons_zero, List.set_cons_succ, List.length_cons, List.length_nil, List.map_cons, List.map_nil, List.sum_cons, List.sum_nil, List.cons_append, List.nil_append, Option.toList_some, Option.toList_none, px_hold, Fin.isValue, Fin.val_zero, Fin.val_one, Fin.val_two, Nat.reduceBEq, Nat.reduceAdd, Nat.reduceLT, Nat.reduceLeDiff, Nat.reduceEqDiff, Nat.reduceMod, Int.reduceNeg, Int.reduceAdd, Int.reduceLE, Int.reduceLT, Int.reduceToNat, Int.cast_ofNat_Int, Int.ofNat_eq_natCast, Bool.or_self, Bool.or_false, Bool.false_or, Bool.and_false, Bool.and_self, Bool.false_and, Bool.true_and, Bool.false_eq_true, Bool.true_eq_false, ↓reduceIte, reduceCtorEq, true_and, and_true, false_and, and_false, false_or, or_false, true_or, or_true, ne_eq, not_false_eq_true, not_true_eq_false, px_f0, px_f1, px_f2, px_f3, kc_L0, kc_L1, if_true, if_false, px_10, true_implies, false_implies, implies_true, on_95, mL_95, rt_95, dp_95, lc_95, nr_95, yn_95, rc_1, e95_0, kc_0, e95_1, e95_2, e95_3, kc_3, e95_4, e95_7, e95_8, fd_1_11, e95_11, e95_12, e95_13, e95_14, e95_17, e95_18, e95_19, mt_1_48, kw_96, np_96, on_96, nr_96, fc_95_96, rc_4, e95_22, kc_1, e95_25, e95_28, e95_29, fd_1_28, e95_32, e95_33, e95_34, e95_37, e95_38, e95_39, e95_42, e95_43, mt_1_52, e95_46, e95_47, e95_48, fd_1_45, e95_51, fin_1_3, ft_1_3, e95_54, e95_55, e95_56, fd_1_32, e95_59, fin_1_4, ft_1_4, e95_62, H.1, H2.1, hF, hF2, hin, es, hFx, hFy, va_rf, hS.1, hi0, hi20]
    refine ⟨fun q => ?_, fun _ => ?_⟩
    · rw [i_le, h1, kt_3] at q; omega
    · refine px_Ct.use (t_Segment_becomeLike l hS hS2 (by omega) (by omega) ht) ?_
      rintro r1 h2 mc1 ms1 ⟨rfl, hf1, n1, hn1, H1, hc1, hs1⟩
      refine px_wp_ok (sp := [2]) 20 _ _ _ _ _ ?_
      simp only [px_ev_nil, px_ev_i, px_ev_l, px_ev_n, px_ev_r, px_wp, px_step, px_tg, px_i1, px_i2, px_l1, px_l2, px_il, px_a1, px_ia, px_iia, px_lki, px_lkl, px_lka, px_lk, px_sto, px_ins, px_del, px_popn, px_inv, px_cat, px_obj, px_arr, px_arq, px_rfv, px_rok, px_tB, px_tI, px_tZ, px_tG, px_tS, px_S, lv_args, Value.category, List.contains_cons, List.contains_nil, List.getElem?_cons_zero, List.getElem?_cons_succ, List.set_cons_zero, List.set_cons_succ, List.length_cons, List.length_nil, List.map_cons, List.map_nil, List.sum_cons, List.sum_nil, List.cons_append, List.nil_append, Option.toList_some, Option.toList_none, px_hold, Fin.isValue, Fin.val_zero, Fin.val_one, Fin.val_two, Nat.reduceBEq, Nat.reduceAdd, Nat.reduceLT, Nat.reduceLeDiff, Nat.reduceEqDiff, Nat.reduceMod, Int.reduceNeg, Int.reduceAdd, Int.reduceLE, Int.reduceLT, Int.reduceToNat, Int.cast_ofNat_Int, Int.ofNat_eq_natCast, Bool.or_self, Bool.or_false, Bool.false_or, Bool.and_false, Bool.and_self, Bool.false_and, Bool.true_and, Bool.false_eq_true, Bool.true_eq_false, ↓reduceIte, reduceCtorEq, true_and, and_true, false_and, and_false, false_or, or_false, true_or, or_true, ne_eq, not_false_eq_true, not_true_eq_false, px_f0, px_f1, px_f2, px_f3, kc_L0, kc_L1, if_true, if_false, px_10, true_implies, false_implies, implies_true, on_95, mL_95, rt_95, dp_95, lc_95, nr_95, yn_95, rc_1, e95_0, kc_0, e95_1, e95_2, e95_3, kc_3, e95_4, e95_7, e95_8, fd_1_11, e95_11, e95_12, e95_13, e95_14, e95_17, e95_18, e95_19, mt_1_48, kw_96, np_96, on_96, nr_96, fc_95_96, rc_4, e95_22, kc_1, e95_25, e95_28, e95_29, fd_1_28, e95_32, e95_33, e95_34, e95_37, e95_38, e95_39, e95_42, e95_43, mt_1_52, e95_46, e95_47, e95_48, fd_1_45, e95_51, fin_1_3, ft_1_3, e95_54, e95_55, e95_56, fd_1_32, e95_59, fin_1_4, ft_1_4, e95_62, nI_1, ← Nat.add_assoc]
      have hfQ : px_fr (imQ i) h h2 := hf1.mono fun j hj => by unfold sgK at hj; unfold imQ; omega
      have H3 := H.seg (s := s) (by omega) hf1 H1 (fun hz => H2.2.2.2.2.2.1 s (by omega) hz)
      have hP := Phi_up (ns := ns') (n' := n1) (show s < 3 by omega)
      refine ih (s + 1) h2 (fup ns' s n1) (mc + mc1) (ms + ms1) (by omega) H3 (H2.fr hfQ (fun j hj => by unfold imQ at hj ⊢; omega)) (ht.fr hfQ (fun j hj => by unfold imQ at hj; omega)) (hf.tr hfQ) (fun q hq => ?_) (by omega) (by omega)
      by_cases e : q = s
      · subst e; rw [fup_s]; exact Nat.le_trans (hle q hq) hn1
      · rw [fup_n e]; exact hle q hq
set_option maxRecDepth 100000 in
set_option maxHeartbeats 4000000 in
theorem t_Image_becomeLike (l : Launch) {h : px_H} {i i2 : Nat} {ns ns2 : Nat → Nat} {I J : Im} (H : ImA h i ns I) (H2 : ImA h i2 ns2 J) (hd : i + 576 ≤ i2 ∨ i2 + 576 ≤ i) (hi9 : i < 70000) (ht : px_top h) : px_Ct l 95 [.ref i, .ref i2] h (fun r h' mc ms => r = none ∧ px_fr (imQ i) h h' ∧ ∃ ns', (∀ s, s < 3 → ns s ≤ ns' s) ∧ ImA h' i ns' J ∧ mc + Phi ns ≤ Phi ns' ∧ ms + Phi ns ≤ Phi ns') := by
  refine px_Ct.of (by decide) (Nat.le_of_ble_eq_true rfl) (px_wp_ok (sp := [2]) 60 _ _ _ _ _ ?_)
  simp only [px_ev_nil, px_ev_i, px_ev_l, px_ev_n, px_ev_r, px_wp, px_step, px_tg, px_i1, px_i2, px_l1, px_l2, px_il, px_a1, px_ia, px_iia, px_lki, px_lkl, px_lka, px_lk, px_sto, px_ins, px_del, px_popn, px_inv, px_cat, px_obj, px_arr, px_arq, px_rfv, px_rok, px_tB, px_tI, px_tZ, px_tG, px_tS, px_S, lv_args, Value.category, List.contains_cons, List.contains_nil, List.getElem?_cons_zero, List.getElem?_cons_succ, List.set_cons_zero, List.set_cons_succ, List.length_cons, List.length_nil, List.map_cons, List.map_nil, List.sum_cons, List.sum_nil, List.cons_append, List.nil_append, Option.toList_some, Option.toList_none, px_hold, Fin.isValue, Fin.val_zero, Fin.val_one, Fin.val_two, Nat.reduceBEq, Nat.reduceAdd, Nat.reduceLT, Nat.reduceLeDiff, Nat.reduceEqDiff, Nat.reduceMod, Int.reduceNeg, Int.reduceAdd, Int.reduceLE, Int.reduceLT, Int.reduceToNat, Int.cast_ofNat_Int, Int.ofNat_eq_natCast, Bool.or_self, Bool.or_false, Bool.false_or, Bool.and_false, Bool.and_self, Bool.false_and, Bool.true_and, Bool.false_eq_true, Bool.true_eq_false, ↓reduceIte, reduceCtorEq, true_and, and_true, false_and, and_false, false_or, or_false, true_or, or_true, ne_eq, not_false_eq_true, not_true_eq_false, px_f0, px_f1, px_f2, px_f3, kc_L0, kc_L1, if_true, if_false, px_10, true_implies, false_implies, implies_true, on_95, mL_95, rt_95, dp_95, lc_95, nr_95, yn_95, rc_1, e95_0, kc_0, e95_1, e95_2, e95_3, kc_3, e95_4, e95_7, e95_8, fd_1_11, e95_11, e95_12, e95_13, e95_14, e95_17, e95_18, e95_19, mt_1_48, kw_96, np_96, on_96, nr_96, fc_95_96, rc_4, e95_22, kc_1, e95_25, e95_28, e95_29, fd_1_28, e95_32, e95_33, e95_34, e95_37, e95_38, e95_39, e95_42, e95_43, mt_1_52, e95_46, e95_47, e95_48, fd_1_45, e95_51, fin_1_3, ft_1_3, e95_54, e95_55, e95_56, fd_1_32, e95_59, fin_1_4, ft_1_4, e95_62]
  have main := lp_like l (I := I) (J := J) (ns := ns) (ns2 := ns2) (h0 := h) (K := fun r h' mc ms => r = none ∧ px_fr (imQ i) h h' ∧ ∃ ns', (∀ s, s < 3 → ns s ≤ ns' s) ∧ ImA h' i ns' J ∧ mc + Phi ns ≤ Phi ns' ∧ ms + Phi ns ≤ Phi ns') hd hi9 H2.2.1 ?_ 3 0 h ns 0 0 rfl H H2 ht px_fr.rf (fun _ _ => Nat.le_refl _) (by omega) (by omega)
  · simp only [Nat.zero_add] at main
    exact main
  · intro h1 ns' mc ms H1 G hf1 hle hmc hms
    have eK := imC2_K I J 3
    have eS := imC2_s I J 3
    obtain ⟨a1, a2, a3, a5, ⟨f, a6, a7, a8⟩, a9, a10⟩ := H1
    obtain ⟨b1, b2, b3, b5, ⟨f2, b6, b7, b8⟩, b9, b10⟩ := G
    refine px_go_ok (sp := []) 60 ?_
    have e1 : ∀ z, px_up h1 (i + 512) z i = h1 i := fun z => px_up_ne (by omega)
    have e2 : ∀ z, px_up h1 (i + 512) z i2 = h1 i2 := fun z => px_up_ne (by omega)
    have e3 : ∀ g z, px_up g i z i2 = g i2 := fun g z => px_up_ne (by omega)
    have e4 : (0 : Int32).toNatClampNeg = 0 := rfl
    have e5 : (Int32.ofNat 256).toNatClampNeg = 256 := rfl
    simp only [px_go, px_ev_nil, px_ev_i, px_ev_l, px_ev_n, px_ev_r, px_wp, px_step, px_tg, px_i1, px_i2, px_l1, px_l2, px_il, px_a1, px_ia, px_iia, px_lki, px_lkl, px_lka, px_lk, px_sto, px_ins, px_del, px_popn, px_inv, px_cat, px_obj, px_arr, px_arq, px_rfv, px_rok, px_tB, px_tI, px_tZ, px_tG, px_tS, px_S, lv_args, Value.category, List.contains_cons, List.contains_nil, List.getElem?_cons_zero, List.getElem?_cons_succ, List.set_cons_zero, List.set_cons_succ, List.length_cons, List.length_nil, List.map_cons, List.map_nil, List.sum_cons, List.sum_nil, List.cons_append, List.nil_append, Option.toList_some, Option.toList_none, px_hold, Fin.isValue, Fin.val_zero, Fin.val_one, Fin.val_two, Nat.reduceBEq, Nat.reduceAdd, Nat.reduceLT, Nat.reduceLeDiff, Nat.reduceEqDiff, Nat.reduceMod, Int.reduceNeg, Int.reduceAdd, Int.reduceLE, Int.reduceLT, Int.reduceToNat, Int.cast_ofNat_Int, Int.ofNat_eq_natCast, Bool.or_self, Bool.or_false, Bool.false_or, Bool.and_false, Bool.and_self, Bool.false_and, Bool.true_and, Bool.false_eq_true, Bool.true_eq_false, ↓reduceIte, reduceCtorEq, true_and, and_true, false_and, and_false, false_or, or_false, true_or, or_true, ne_eq, not_false_eq_true, not_true_eq_false, px_f0, px_f1, px_f2, px_f3, kc_L0, kc_L1, if_true, if_false, px_10, true_implies, false_implies, implies_true, on_95, mL_95, rt_95, dp_95, lc_95, nr_95, yn_95, rc_1, e95_0, kc_0, e95_1, e95_2, e95_3, kc_3, e95_4, e95_7, e95_8, fd_1_11, e95_11, e95_12, e95_13, e95_14, e95_17, e95_18, e95_19, mt_1_48, kw_96, np_96, on_96, nr_96, fc_95_96, rc_4, e95_22, kc_1, e95_25, e95_28, e95_29, fd_1_28, e95_32, e95_33, e95_34, e95_37, e95_38, e95_39, e95_42, e95_43, mt_1_52, e95_46, e95_47, e95_48, fd_1_45, e95_51, fin_1_3, ft_1_3, e95_54, e95_55, e95_56, fd_1_32, e95_59, fin_1_4, ft_1_4, e95_62, a1, b1, a6, b6, e1, e2, e3, e4, e5, px_up_self, px_up_up, px_fit_int]
    have hfr : px_fr (fun j => j = i ∨ j = i + 512) h1 (px_up (px_up h1 (i + 512) (.inl (px_tB, 256, .inl (va_cpy f2 f 0 0 256)))) i (.inr (1, [.ref (i + 64), .ref (i + 128), .ref (i + 512), .int (imE J), .int (nI (imP J))]))) := (px_fr.rf.up (Or.inr rfl)).up (Or.inl rfl)
    refine ⟨by decide, by decide, by decide, fun j hj => i_fits (b7 _ (by omega)).1 (b7 _ (by omega)).2, hf1.tr (hfr.mono fun j hj => by unfold imQ; omega), ns', hle, ⟨px_up_self, a2, ?_, fun s hs => ?_, ⟨va_cpy f2 f 0 0 256, by rw [px_up_ne (by omega), px_up_self]; rfl, fun j hj => ?_, fun k hk => ?_⟩, b9, b10⟩, by omega, by omega⟩
    · obtain ⟨G2, c1, c2⟩ := a3
      exact ⟨G2, (hfr _ (by omega)).trans c1, c2⟩
    · obtain ⟨z1, z2, z3, z4, z5⟩ := eS s hs
      have := a5 s hs
      rw [z1, z2, z3, z4, z5] at this
      exact this.fr hfr (fun j hj => by unfold sgK at hj; omega)
    · rw [pk_cpy_in (by omega) (by omega)]
      have := b7 j hj
      simpa using this
    · rw [pk_cpy_in (by omega) (by omega)]
      have := b8 k hk
      simpa using this
