/-! ImageFile$Image: emptied, copied, made -/
def fup {α : Type} (f : Nat → α) (s : Nat) (v : α) : Nat → α := fun q => if q = s then v else f q
theorem fup_s {α : Type} {f : Nat → α} {s : Nat} {v : α} : fup f s v s = v := if_pos rfl
theorem fup_n {α : Type} {f : Nat → α} {s q : Nat} {v : α} (h : q ≠ s) : fup f s v q = f q := if_neg h
/-- another segment s -/
def imS (I : Im) (s : Nat) (t : Bool) (a m c : Nat) (B : Nat → Nat) : Im := (fup (imT I) s t, fup (imA I) s a, fup (imM I) s m, fup (imC I) s c, fup (imB I) s B, imK I, imE I, imP I)
theorem ImA.seg {h h' : px_H} {i : Nat} {ns : Nat → Nat} {I : Im} {s n : Nat} {t : Bool} {a m c : Nat} {B : Nat → Nat} (H : ImA h i ns I) (hs : s < 3) (hf : px_fr (sgK (i + 128 + 128 * s)) h h') (hS : Sg h' (i + 128 + 128 * s) (prm s) n t a m c B) (hz : t = false → a = 0 ∧ m = 0 ∧ c = 0) : ImA h' i (fup ns s n) (imS I s t a m c B) := by
  obtain ⟨h1, h2, ⟨F, h3, h4⟩, h5, ⟨f, h6, h7⟩, h8, h9⟩ := H
  have e : ∀ j, ¬ sgK (i + 128 + 128 * s) j → h' j = h j := fun j hj => hf j hj
  refine ⟨by rw [e i (by unfold sgK; omega)]; exact h1, h2, ⟨F, by rw [e _ (by unfold sgK; omega)]; exact h3, h4⟩, fun q hq => ?_, ⟨f, by rw [e _ (by unfold sgK; omega)]; exact h6, h7⟩, fun q hq => ?_, h9⟩
  · show Sg h' (i + 128 + 128 * q) (prm q) (fup ns s n q) (fup (imT I) s t q) (fup (imA I) s a q) (fup (imM I) s m q) (fup (imC I) s c q) (fup (imB I) s B q)
    by_cases eq : q = s
    · subst eq
      rw [fup_s, fup_s, fup_s, fup_s, fup_s, fup_s]
      exact hS
    · rw [fup_n eq, fup_n eq, fup_n eq, fup_n eq, fup_n eq, fup_n eq]
      exact (h5 q hq).fr hf (fun j hj => by unfold sgK at hj ⊢; omega)
  · show fup (imT I) s t q = false → fup (imA I) s a q = 0 ∧ fup (imM I) s m q = 0 ∧ fup (imC I) s c q = 0
    by_cases eq : q = s
    · subst eq
      rw [fup_s, fup_s, fup_s, fup_s]
      exact hz
    · rw [fup_n eq, fup_n eq, fup_n eq, fup_n eq]
      exact h8 q hq
theorem By.congr {h : px_H} {b lim n c : Nat} {B B' : Nat → Nat} (H : By h b lim n c B) (hB : ∀ j, j < c → B' j = B j) : By h b lim n c B' := by
  obtain ⟨a1, a2, a3, a4, a5, f, a6, a7, a8⟩ := H
  exact ⟨a1, a2, a3, a4, a5, f, a6, a7, fun j hj => by rw [hB j hj]; exact a8 j hj⟩
/-- two pictures that say the same -/
def imEq (I J : Im) : Prop := (∀ s, s < 3 → imT J s = imT I s ∧ imA J s = imA I s ∧ imM J s = imM I s ∧ imC J s = imC I s ∧ ∀ j, j < imC I s → imB J s j = imB I s j) ∧ (∀ k, k < 2048 → imK J k = imK I k) ∧ imE J = imE I ∧ imP J = imP I
theorem ImA.congr {h : px_H} {i : Nat} {ns ns' : Nat → Nat} {I J : Im} (H : ImA h i ns I) (e : imEq I J) (hn : ∀ s, s < 3 → ns' s = ns s) : ImA h i ns' J := by
  obtain ⟨h1, h2, h3, h5, ⟨f, h6, h7, h8⟩, h9, h10⟩ := H
  refine ⟨by rw [e.2.2.1, e.2.2.2]; exact h1, h2, h3, fun s hs => ?_, ⟨f, h6, h7, fun k hk => by rw [e.2.1 k hk]; exact h8 k hk⟩, fun s hs => ?_, by rw [e.2.2.2]; exact h10⟩
  · obtain ⟨e1, e2, e3, e4, e5⟩ := e.1 s hs
    rw [e1, e2, e3, e4, hn s hs]
    have := h5 s hs
    exact ⟨this.1, this.2.1, this.2.2.1.congr e5, this.2.2.2⟩
  · obtain ⟨e1, e2, e3, e4, e5⟩ := e.1 s hs
    rw [e1, e2, e3, e4]
    exact h9 s hs
def im0 : Im := (fun _ => false, fun _ => 0, fun _ => 0, fun _ => 0, fun _ _ => 0, fun _ => false, 0, 1)
set_option maxRecDepth 100000 in
set_option maxHeartbeats 4000000 in
theorem lp_fill (l : Launch) {q n : Nat} {x : Int32} {K : px_K} (hn : n ≤ 16384) : ∀ (d i : Nat) (h : px_H) (f : Nat → Int32), i + d = n → h q = some (.inl (px_tB, n, .inl f)) →
    (∀ f' : Nat → Int32, (∀ j, f' j = if i ≤ j ∧ j < n then vp_nar .byte x else f j) → K none (px_up h q (.inl (px_tB, n, .inl f'))) 0 0) →
    px_P l 10 5 [(0, .ref q), (1, .int x), (2, .int (nI i)), (3, .int (nI n))] [] h K := by
  intro d
  induction d with
  | zero =>
    intro i h f hi hr hK
    have e : i = n := by omega
    subst e
    refine px_go_ok (sp := [5]) 60 ?_
    simp only [px_go, px_ev_nil, px_ev_i, px_ev_l, px_ev_n, px_ev_r, px_wp, px_step, px_tg, px_i1, px_i2, px_l1, px_l2, px_il, px_a1, px_ia, px_iia, px_lki, px_lkl, px_lka, px_lk, px_sto, px_ins, px_del, px_popn, px_inv, px_cat, px_obj, px_arr, px_arq, px_rfv, px_rok, px_tB, px_tI, px_tZ, px_tG, px_tS, px_S, lv_args, Value.category, List.contains_cons, List.contains_nil, List.getElem?_cons_zero, List.getElem?_cons_succ, List.set_cons_zero, List.set_cons_succ, List.length_cons, List.length_nil, List.map_cons, List.map_nil, List.sum_cons, List.sum_nil, List.cons_append, List.nil_append, Option.toList_some, Option.toList_none, px_hold, Fin.isValue, Fin.val_zero, Fin.val_one, Fin.val_two, Nat.reduceBEq, Nat.reduceAdd, Nat.reduceLT, Nat.reduceLeDiff, Nat.reduceEqDiff, Nat.reduceMod, Int.reduceNeg, Int.reduceAdd, Int.reduceLE, Int.reduceLT, Int.reduceToNat, Int.cast_ofNat_Int, Int.ofNat_eq_natCast, Bool.or_self, Bool.or_false, Bool.false_or, Bool.and_false, Bool.and_self, Bool.false_and, Bool.true_and, Bool.false_eq_true, Bool.true_eq_false, ↓reduceIte, reduceCtorEq, true_and, and_true, false_and, and_false, false_or, or_false, true_or, or_true, ne_eq, not_false_eq_true, not_true_eq_false, px_f0, px_f1, px_f2, px_f3, kc_L0, kc_L1, if_true, if_false, px_10, true_implies, false_implies, implies_true, on_10, mL_10, rt_10, dp_10, lc_10, nr_10, yn_10, rc_9, e10_0, kc_0, e10_1, e10_2, e10_3, e10_4, e10_5, e10_6, e10_7, e10_10, e10_11, e10_12, e10_13, e10_14, kc_1, e10_17, e10_20, hr]
    refine ⟨fun _ => ?_, fun q => absurd (i_le.mpr (Int.le_refl _)) q⟩
    have h1 := hK f (fun j => by rw [if_neg (by omega)])
    rw [px_up_id hr] at h1
    exact h1
  | succ d ih =>
    intro i h f hi hr hK
    have h1 := i_n (n := i) (by omega)
    have h2 := i_n (n := n) (by omega)
    refine px_go_ok (sp := [5]) 60 ?_
    simp only [px_go, px_ev_nil, px_ev_i, px_ev_l, px_ev_n, px_ev_r, px_wp, px_step, px_tg, px_i1, px_i2, px_l1, px_l2, px_il, px_a1, px_ia, px_iia, px_lki, px_lkl, px_lka, px_lk, px_sto, px_ins, px_del, px_popn, px_inv, px_cat, px_obj, px_arr, px_arq, px_rfv, px_rok, px_tB, px_tI, px_tZ, px_tG, px_tS, px_S, lv_args, Value.category, List.contains_cons, List.contains_nil, List.getElem?_cons_zero, List.getElem?_cons_succ, List.set_cons_zero, List.set_cons_succ, List.length_cons, List.length_nil, List.map_cons, List.map_nil, List.sum_cons, List.sum_nil, List.cons_append, List.nil_append, Option.toList_some, Option.toList_none, px_hold, Fin.isValue, Fin.val_zero, Fin.val_one, Fin.val_two, Nat.reduceBEq, Nat.reduceAdd, Nat.reduceLT, Nat.reduceLeDiff, Nat.reduceEqDiff, Nat.reduceMod, Int.reduceNeg, Int.reduceAdd, Int.reduceLE, Int.reduceLT, Int.reduceToNat, Int.cast_ofNat_Int, Int.ofNat_eq_natCast, Bool.or_self, Bool.or_false, Bool.false_or, Bool.and_false, Bool.and_self, Bool.false_and, Bool.true_and, Bool.false_eq_true, Bool.true_eq_false, ↓reduceIte, reduceCtorEq, true_and, and_true, false_and, and_false, false_or, or_false, true_or, or_true, ne_eq, not_false_eq_true, not_true_eq_false, px_f0, px_f1, px_f2, px_f3, kc_L0, kc_L1, if_true, if_false, px_10, true_implies, false_implies, implies_true, on_10, mL_10, rt_10, dp_10, lc_10, nr_10, yn_10, rc_9, e10_0, kc_0, e10_1, e10_2, e10_3, e10_4, e10_5, e10_6, e10_7, e10_10, e10_11, e10_12, e10_13, e10_14, kc_1, e10_17, e10_20, hr, nI_1]
    refine ⟨fun q => ?_, fun _ => ⟨pk_in i n (by omega), ?_⟩⟩
    · rw [i_le] at q
      omega
    · rw [nI_clamp (show i < 2 ^ 31 by omega)]
      refine ih (i + 1) _ _ (by omega) px_up_self fun f' hf' => ?_
      rw [px_up_up]
      refine hK f' fun j => ?_
      rw [hf' j]
      by_cases e1 : j = i
      · subst e1
        rw [if_neg (by omega), if_pos (by omega), pk_us]
      · by_cases e2 : i + 1 ≤ j ∧ j < n
        · rw [if_pos e2, if_pos (by omega)]
        · rw [if_neg e2, if_neg (by omega), pk_un e1]
set_option maxRecDepth 100000 in
set_option maxHeartbeats 4000000 in
theorem t_fill (l : Launch) {h : px_H} {q n : Nat} {x : Int32} {f : Nat → Int32} (hn : n ≤ 16384) (hr : h q = some (.inl (px_tB, n, .inl f))) : px_Ct l 10 [.ref q, .int x] h (fun r h' mc ms => r = none ∧ (∃ f' : Nat → Int32, (∀ j, j < n → f' j = vp_nar .byte x) ∧ h' = px_up h q (.inl (px_tB, n, .inl f'))) ∧ mc = 0 ∧ ms = 0) := by
  refine px_Ct.of (by decide) (Nat.le_of_ble_eq_true rfl) (px_wp_ok (sp := [5]) 60 _ _ _ _ _ ?_)
  simp only [px_ev_nil, px_ev_i, px_ev_l, px_ev_n, px_ev_r, px_wp, px_step, px_tg, px_i1, px_i2, px_l1, px_l2, px_il, px_a1, px_ia, px_iia, px_lki, px_lkl, px_lka, px_lk, px_sto, px_ins, px_del, px_popn, px_inv, px_cat, px_obj, px_arr, px_arq, px_rfv, px_rok, px_tB, px_tI, px_tZ, px_tG, px_tS, px_S, lv_args, Value.category, List.contains_cons, List.contains_nil, List.getElem?_cons_zero, List.getElem?_cons_succ, List.set_cons_zero, List.set_cons_succ, List.length_cons, List.length_nil, List.map_cons, List.map_nil, List.sum_cons, List.sum_nil, List.cons_append, List.nil_append, Option.toList_some, Option.toList_none, px_hold, Fin.isValue, Fin.val_zero, Fin.val_one, Fin.val_two, Nat.reduceBEq, Nat.reduceAdd, Nat.reduceLT, Nat.reduceLeDiff, Nat.reduceEqDiff, Nat.reduceMod, Int.reduceNeg, Int.reduceAdd, Int.reduceLE, Int.reduceLT, Int.reduceToNat, Int.cast_ofNat_Int, Int.ofNat_eq_natCast, Bool.or_self, Bool.or_false, Bool.false_or, Bool.and_false, Bool.and_self, Bool.false_and, Bool.true_and, Bool.false_eq_true, Bool.true_eq_false, ↓reduceIte, reduceCtorEq, true_and, and_true, false_and, and_false, false_or, or_false, true_or, or_true, ne_eq, not_false_eq_true, not_true_eq_false, px_f0, px_f1, px_f2, px_f3, kc_L0, kc_L1, if_true, if_false, px_10, true_implies, false_implies, implies_true, on_10, mL_10, rt_10, dp_10, lc_10, nr_10, yn_10, rc_9, e10_0, kc_0, e10_1, e10_2, e10_3, e10_4, e10_5, e10_6, e10_7, e10_10, e10_11, e10_12, e10_13, e10_14, kc_1, e10_17, e10_20, hr]
  refine lp_fill l hn n 0 h f (by omega) hr fun f' hf' => ?_
  exact ⟨rfl, ⟨f', fun j hj => by rw [hf' j, if_pos (by omega)], rfl⟩, rfl, rfl⟩
def imL (I : Im) (n : Nat) : Im := match n with
  | 0 => I
  | n + 1 => imS (imL I n) n false 0 0 0 (fun _ => 0)
theorem fup_id {α : Type} {f : Nat → α} {s : Nat} : fup f s (f s) = f := by
  funext q
  by_cases e : q = s
  · subst e; exact fup_s
  · exact fup_n e
theorem imL_K (I : Im) (n : Nat) : imK (imL I n) = imK I ∧ imE (imL I n) = imE I ∧ imP (imL I n) = imP I := by
  induction n with
  | zero => exact ⟨rfl, rfl, rfl⟩
  | succ n ih => exact ih
theorem imL_z (I : Im) : ∀ (n s : Nat), s < n → imT (imL I n) s = false ∧ imA (imL I n) s = 0 ∧ imM (imL I n) s = 0 ∧ imC (imL I n) s = 0
  | n + 1, s, h => by
    show fup (imT (imL I n)) n false s = false ∧ fup (imA (imL I n)) n 0 s = 0 ∧ fup (imM (imL I n)) n 0 s = 0 ∧ fup (imC (imL I n)) n 0 s = 0
    by_cases e : s = n
    · subst e; exact ⟨fup_s, fup_s, fup_s, fup_s⟩
    · rw [fup_n e, fup_n e, fup_n e, fup_n e]
      exact imL_z I n s (by omega)
set_option maxRecDepth 100000 in
set_option maxHeartbeats 4000000 in
theorem lp_empty (l : Launch) {i : Nat} {ns : Nat → Nat} {I : Im} {h0 : px_H} {K : px_K} (hK : ∀ h, ImA h i ns (imL I 3) → px_fr (imQ i) h0 h → px_P l 7 31 [(0, .ref i)] [] h K) : ∀ (d s : Nat) (h : px_H), s + d = 3 → ImA h i ns (imL I s) → px_fr (imQ i) h0 h → px_P l 7 10 [(0, .ref i), (1, .ref (i + 64)), (2, .int (nI 3)), (3, .int (nI s))] [] h K := by
  intro d
  induction d with
  | zero =>
    intro s h hs H hf
    have e : s = 3 := by omega
    subst e
    refine px_go_ok (sp := [31]) 60 ?_
    simp only [px_go, px_ev_nil, px_ev_i, px_ev_l, px_ev_n, px_ev_r, px_wp, px_step, px_tg, px_i1, px_i2, px_l1, px_l2, px_il, px_a1, px_ia, px_iia, px_lki, px_lkl, px_lka, px_lk, px_sto, px_ins, px_del, px_popn, px_inv, px_cat, px_obj, px_arr, px_arq, px_rfv, px_rok, px_tB, px_tI, px_tZ, px_tG, px_tS, px_S, lv_args, Value.category, List.contains_cons, List.contains_nil, List.getElem?_cons_zero, List.getElem?_cons_succ, List.set_cons_zero, List.set_cons_succ, List.length_cons, List.length_nil, List.map_cons, List.map_nil, List.sum_cons, List.sum_nil, List.cons_append, List.nil_append, Option.toList_some, Option.toList_none, px_hold, Fin.isValue, Fin.val_zero, Fin.val_one, Fin.val_two, Nat.reduceBEq, Nat.reduceAdd, Nat.reduceLT, Nat.reduceLeDiff, Nat.reduceEqDiff, Nat.reduceMod, Int.reduceNeg, Int.reduceAdd, Int.reduceLE, Int.reduceLT, Int.reduceToNat, Int.cast_ofNat_Int, Int.ofNat_eq_natCast, Bool.or_self, Bool.or_false, Bool.false_or, Bool.and_false, Bool.and_self, Bool.false_and, Bool.true_and, Bool.false_eq_true, Bool.true_eq_false, ↓reduceIte, reduceCtorEq, true_and, and_true, false_and, and_false, false_or, or_false, true_or, or_true, ne_eq, not_false_eq_true, not_true_eq_false, px_f0, px_f1, px_f2, px_f3, kc_L0, kc_L1, if_true, if_false, px_10, true_implies, false_implies, implies_true, on_7, mL_7, rt_7, dp_7, lc_7, nr_7, yn_7, rc_1, e7_0, e7_1, fd_1_11, e7_4, e7_5, e7_6, e7_7, e7_8, kc_0, e7_9, e7_10, e7_11, e7_12, e7_15, e7_16, e7_17, e7_18, e7_20, e7_22, mt_1_36, kw_8, np_8, on_8, nr_8, fc_7_8, rc_4, e7_25, kc_1, e7_28, e7_31, e7_32, fd_1_28, e7_35, e7_36, mt_1_39, kw_10, np_10, on_10, nr_10, fc_7_10, rc_9, e7_39, e7_40, e7_41, fd_1_45, fin_1_3, ft_1_3, e7_44, e7_45, e7_46, fd_1_32, fin_1_4, ft_1_4, e7_49]
    refine ⟨fun _ => ?_, fun q => absurd (i_le.mpr (Int.le_refl _)) q⟩
    exact px_P.weak (fun q hq => by simp at hq ⊢; grind) (hK h H hf)
  | succ d ih =>
    intro s h hs H hf
    obtain ⟨F, hF, hFs⟩ := H.2.2.1
    have h1 := i_n (n := s) (by omega)
    have hS := H.sg (s := s) (by omega)
    have es : (nI s).toNatClampNeg = s := nI_clamp (by omega)
    have hin : vp_in (nI s) 3 := pk_in s 3 (by omega)
    have hFx := hFs s (by omega)
    refine px_go_ok (sp := [10]) 60 ?_
    simp only [px_go, px_ev_nil, px_ev_i, px_ev_l, px_ev_n, px_ev_r, px_wp, px_step, px_tg, px_i1, px_i2, px_l1, px_l2, px_il, px_a1, px_ia, px_iia, px_lki, px_lkl, px_lka, px_lk, px_sto, px_ins, px_del, px_popn, px_inv, px_cat, px_obj, px_arr, px_arq, px_rfv, px_rok, px_tB, px_tI, px_tZ, px_tG, px_tS, px_S, lv_args, Value.category, List.contains_cons, List.contains_nil, List.getElem?_cons_zero, List.getElem?_cons_succ, List.set_cons_zero, List.set_cons_succ, List.length_cons, List.length_nil, List.map_cons, List.map_nil, List.sum_cons, List.sum_nil, List.cons_append, List.nil_append, Option.toList_some, Option.toList_none, px_hold, Fin.isValue, Fin.val_zero, Fin.val_one, Fin.val_two, Nat.reduceBEq, Nat.reduceAdd, Nat.reduceLT, Nat.reduceLeDiff, Nat.reduceEqDiff, Nat.reduceMod, Int.reduceNeg, Int.reduceAdd, Int.reduceLE, Int.reduceLT, Int.reduceToNat, Int.cast_ofNat_Int, Int.ofNat_eq_natCast, Bool.or_self, Bool.or_false, Bool.false_or, Bool.and_false, Bool.and_self, Bool.false_and, Bool.true_and, Bool.false_eq_true, Bool.true_eq_false, ↓reduceIte, reduceCtorEq, true_and, and_true, false_and, and_false, false_or, or_false, true_or, or_true, ne_eq, not_false_eq_true, not_true_eq_false, px_f0, px_f1, px_f2, px_f3, kc_L0, kc_L1, if_true, if_false, px_10, true_implies, false_implies, implies_true, on_7, mL_7, rt_7, dp_7, lc_7, nr_7, yn_7, rc_1, e7_0, e7_1, fd_1_11, e7_4, e7_5, e7_6, e7_7, e7_8, kc_0, e7_9, e7_10, e7_11, e7_12, e7_15, e7_16, e7_17, e7_18, e7_20, e7_22, mt_1_36, kw_8, np_8, on_8, nr_8, fc_7_8, rc_4, e7_25, kc_1, e7_28, e7_31, e7_32, fd_1_28, e7_35, e7_36, mt_1_39, kw_10, np_10, on_10, nr_10, fc_7_10, rc_9, e7_39, e7_40, e7_41, fd_1_45, fin_1_3, ft_1_3, e7_44, e7_45, e7_46, fd_1_32, fin_1_4, ft_1_4, e7_49, H.1, hF, hin, es, hFx, va_rf, hS.1]
    refine ⟨fun q => ?_, fun _ => ?_⟩
    · rw [i_le, h1, show (nI 3).toInt = 3 from rfl] at q; omega
    · refine px_Ct.use (t_Segment_leave l hS) ?_
      rintro r1 h2 mc1 ms1 ⟨rfl, H1, hf1, rfl, rfl⟩
      simp only [Nat.zero_add]
      refine px_wp_ok (sp := [10]) 20 _ _ _ _ _ ?_
      simp only [px_ev_nil, px_ev_i, px_ev_l, px_ev_n, px_ev_r, px_wp, px_step, px_tg, px_i1, px_i2, px_l1, px_l2, px_il, px_a1, px_ia, px_iia, px_lki, px_lkl, px_lka, px_lk, px_sto, px_ins, px_del, px_popn, px_inv, px_cat, px_obj, px_arr, px_arq, px_rfv, px_rok, px_tB, px_tI, px_tZ, px_tG, px_tS, px_S, lv_args, Value.category, List.contains_cons, List.contains_nil, List.getElem?_cons_zero, List.getElem?_cons_succ, List.set_cons_zero, List.set_cons_succ, List.length_cons, List.length_nil, List.map_cons, List.map_nil, List.sum_cons, List.sum_nil, List.cons_append, List.nil_append, Option.toList_some, Option.toList_none, px_hold, Fin.isValue, Fin.val_zero, Fin.val_one, Fin.val_two, Nat.reduceBEq, Nat.reduceAdd, Nat.reduceLT, Nat.reduceLeDiff, Nat.reduceEqDiff, Nat.reduceMod, Int.reduceNeg, Int.reduceAdd, Int.reduceLE, Int.reduceLT, Int.reduceToNat, Int.cast_ofNat_Int, Int.ofNat_eq_natCast, Bool.or_self, Bool.or_false, Bool.false_or, Bool.and_false, Bool.and_self, Bool.false_and, Bool.true_and, Bool.false_eq_true, Bool.true_eq_false, ↓reduceIte, reduceCtorEq, true_and, and_true, false_and, and_false, false_or, or_false, true_or, or_true, ne_eq, not_false_eq_true, not_true_eq_false, px_f0, px_f1, px_f2, px_f3, kc_L0, kc_L1, if_true, if_false, px_10, true_implies, false_implies, implies_true, on_7, mL_7, rt_7, dp_7, lc_7, nr_7, yn_7, rc_1, e7_0, e7_1, fd_1_11, e7_4, e7_5, e7_6, e7_7, e7_8, kc_0, e7_9, e7_10, e7_11, e7_12, e7_15, e7_16, e7_17, e7_18, e7_20, e7_22, mt_1_36, kw_8, np_8, on_8, nr_8, fc_7_8, rc_4, e7_25, kc_1, e7_28, e7_31, e7_32, fd_1_28, e7_35, e7_36, mt_1_39, kw_10, np_10, on_10, nr_10, fc_7_10, rc_9, e7_39, e7_40, e7_41, fd_1_45, fin_1_3, ft_1_3, e7_44, e7_45, e7_46, fd_1_32, fin_1_4, ft_1_4, e7_49, nI_1]
      refine px_P.weak (L' := [(0, .ref i), (1, .ref (i + 64)), (2, .int (nI 3)), (3, .int (nI (s + 1)))]) (fun q hq => by simp at hq ⊢; grind) ?_
      have H2 := H.seg (s := s) (B := fun _ => 0) (by omega) hf1 ⟨H1.1, H1.2.1, H1.2.2.1.congr (fun j hj => by omega), H1.2.2.2⟩ (fun _ => ⟨rfl, rfl, rfl⟩)
      rw [fup_id] at H2
      exact ih (s + 1) h2 (by omega) H2 (hf.tr (hf1.mono fun j hj => by unfold sgK at hj; unfold imQ; omega))
set_option maxRecDepth 100000 in
set_option maxHeartbeats 4000000 in
theorem t_Image_becomeEmpty (l : Launch) {h : px_H} {i : Nat} {ns : Nat → Nat} {I : Im} (H : ImA h i ns I) : px_Ct l 7 [.ref i] h (fun r h' mc ms => r = none ∧ ImA h' i ns im0 ∧ px_fr (imQ i) h h' ∧ mc = 0 ∧ ms = 0) := by
  obtain ⟨F, hF, hFs⟩ := H.2.2.1
  refine px_Ct.of (by decide) (Nat.le_of_ble_eq_true rfl) (px_wp_ok (sp := [10]) 60 _ _ _ _ _ ?_)
  simp only [px_ev_nil, px_ev_i, px_ev_l, px_ev_n, px_ev_r, px_wp, px_step, px_tg, px_i1, px_i2, px_l1, px_l2, px_il, px_a1, px_ia, px_iia, px_lki, px_lkl, px_lka, px_lk, px_sto, px_ins, px_del, px_popn, px_inv, px_cat, px_obj, px_arr, px_arq, px_rfv, px_rok, px_tB, px_tI, px_tZ, px_tG, px_tS, px_S, lv_args, Value.category, List.contains_cons, List.contains_nil, List.getElem?_cons_zero, List.getElem?_cons_succ, List.set_cons_zero, List.set_cons_succ, List.length_cons, List.length_nil, List.map_cons, List.map_nil, List.sum_cons, List.sum_nil, List.cons_append, List.nil_append, Option.toList_some, Option.toList_none, px_hold, Fin.isValue, Fin.val_zero, Fin.val_one, Fin.val_two, Nat.reduceBEq, Nat.reduceAdd, Nat.reduceLT, Nat.reduceLeDiff, Nat.reduceEqDiff, Nat.reduceMod, Int.reduceNeg, Int.reduceAdd, Int.reduceLE, Int.reduceLT, Int.reduceToNat, Int.cast_ofNat_Int, Int.ofNat_eq_natCast, Bool.or_self, Bool.or_false, Bool.false_or, Bool.and_false, Bool.and_self, Bool.false_and, Bool.true_and, Bool.false_eq_true, Bool.true_eq_false, ↓reduceIte, reduceCtorEq, true_and, and_true, false_and, and_false, false_or, or_false, true_or, or_true, ne_eq, not_false_eq_true, not_true_eq_false, px_f0, px_f1, px_f2, px_f3, kc_L0, kc_L1, if_true, if_false, px_10, true_implies, false_implies, implies_true, on_7, mL_7, rt_7, dp_7, lc_7, nr_7, yn_7, rc_1, e7_0, e7_1, fd_1_11, e7_4, e7_5, e7_6, e7_7, e7_8, kc_0, e7_9, e7_10, e7_11, e7_12, e7_15, e7_16, e7_17, e7_18, e7_20, e7_22, mt_1_36, kw_8, np_8, on_8, nr_8, fc_7_8, rc_4, e7_25, kc_1, e7_28, e7_31, e7_32, fd_1_28, e7_35, e7_36, mt_1_39, kw_10, np_10, on_10, nr_10, fc_7_10, rc_9, e7_39, e7_40, e7_41, fd_1_45, fin_1_3, ft_1_3, e7_44, e7_45, e7_46, fd_1_32, fin_1_4, ft_1_4, e7_49, H.1, hF]
  refine lp_empty l (I := I) (h0 := h) (fun h1 H1 hf1 => ?_) 3 0 h rfl H px_fr.rf
  have eK := imL_K I 3
  have eZ := imL_z I 3
  obtain ⟨a1, a2, a3, a5, ⟨f, a6, a7, a8⟩, a9, a10⟩ := H1
  refine px_go_ok (sp := []) 60 ?_
  simp only [px_go, px_ev_nil, px_ev_i, px_ev_l, px_ev_n, px_ev_r, px_wp, px_step, px_tg, px_i1, px_i2, px_l1, px_l2, px_il, px_a1, px_ia, px_iia, px_lki, px_lkl, px_lka, px_lk, px_sto, px_ins, px_del, px_popn, px_inv, px_cat, px_obj, px_arr, px_arq, px_rfv, px_rok, px_tB, px_tI, px_tZ, px_tG, px_tS, px_S, lv_args, Value.category, List.contains_cons, List.contains_nil, List.getElem?_cons_zero, List.getElem?_cons_succ, List.set_cons_zero, List.set_cons_succ, List.length_cons, List.length_nil, List.map_cons, List.map_nil, List.sum_cons, List.sum_nil, List.cons_append, List.nil_append, Option.toList_some, Option.toList_none, px_hold, Fin.isValue, Fin.val_zero, Fin.val_one, Fin.val_two, Nat.reduceBEq, Nat.reduceAdd, Nat.reduceLT, Nat.reduceLeDiff, Nat.reduceEqDiff, Nat.reduceMod, Int.reduceNeg, Int.reduceAdd, Int.reduceLE, Int.reduceLT, Int.reduceToNat, Int.cast_ofNat_Int, Int.ofNat_eq_natCast, Bool.or_self, Bool.or_false, Bool.false_or, Bool.and_false, Bool.and_self, Bool.false_and, Bool.true_and, Bool.false_eq_true, Bool.true_eq_false, ↓reduceIte, reduceCtorEq, true_and, and_true, false_and, and_false, false_or, or_false, true_or, or_true, ne_eq, not_false_eq_true, not_true_eq_false, px_f0, px_f1, px_f2, px_f3, kc_L0, kc_L1, if_true, if_false, px_10, true_implies, false_implies, implies_true, on_7, mL_7, rt_7, dp_7, lc_7, nr_7, yn_7, rc_1, e7_0, e7_1, fd_1_11, e7_4, e7_5, e7_6, e7_7, e7_8, kc_0, e7_9, e7_10, e7_11, e7_12, e7_15, e7_16, e7_17, e7_18, e7_20, e7_22, mt_1_36, kw_8, np_8, on_8, nr_8, fc_7_8, rc_4, e7_25, kc_1, e7_28, e7_31, e7_32, fd_1_28, e7_35, e7_36, mt_1_39, kw_10, np_10, on_10, nr_10, fc_7_10, rc_9, e7_39, e7_40, e7_41, fd_1_45, fin_1_3, ft_1_3, e7_44, e7_45, e7_46, fd_1_32, fin_1_4, ft_1_4, e7_49, a1]
  refine px_Ct.use (t_fill l (n := 256) (by omega) a6) ?_
  rintro r2 h2 mc2 ms2 ⟨rfl, ⟨f2, hf2, rfl⟩, rfl, rfl⟩
  simp only [Nat.zero_add]
  have e1 : ∀ z, px_up h1 (i + 512) z i = h1 i := fun z => px_up_ne (by omega)
  refine px_wp_ok (sp := []) 20 _ _ _ _ _ ?_
  simp only [px_ev_nil, px_ev_i, px_ev_l, px_ev_n, px_ev_r, px_wp, px_step, px_tg, px_i1, px_i2, px_l1, px_l2, px_il, px_a1, px_ia, px_iia, px_lki, px_lkl, px_lka, px_lk, px_sto, px_ins, px_del, px_popn, px_inv, px_cat, px_obj, px_arr, px_arq, px_rfv, px_rok, px_tB, px_tI, px_tZ, px_tG, px_tS, px_S, lv_args, Value.category, List.contains_cons, List.contains_nil, List.getElem?_cons_zero, List.getElem?_cons_succ, List.set_cons_zero, List.set_cons_succ, List.length_cons, List.length_nil, List.map_cons, List.map_nil, List.sum_cons, List.sum_nil, List.cons_append, List.nil_append, Option.toList_some, Option.toList_none, px_hold, Fin.isValue, Fin.val_zero, Fin.val_one, Fin.val_two, Nat.reduceBEq, Nat.reduceAdd, Nat.reduceLT, Nat.reduceLeDiff, Nat.reduceEqDiff, Nat.reduceMod, Int.reduceNeg, Int.reduceAdd, Int.reduceLE, Int.reduceLT, Int.reduceToNat, Int.cast_ofNat_Int, Int.ofNat_eq_natCast, Bool.or_self, Bool.or_false, Bool.false_or, Bool.and_false, Bool.and_self, Bool.false_and, Bool.true_and, Bool.false_eq_true, Bool.true_eq_false, ↓reduceIte, reduceCtorEq, true_and, and_true, false_and, and_false, false_or, or_false, true_or, or_true, ne_eq, not_false_eq_true, not_true_eq_false, px_f0, px_f1, px_f2, px_f3, kc_L0, kc_L1, if_true, if_false, px_10, true_implies, false_implies, implies_true, on_7, mL_7, rt_7, dp_7, lc_7, nr_7, yn_7, rc_1, e7_0, e7_1, fd_1_11, e7_4, e7_5, e7_6, e7_7, e7_8, kc_0, e7_9, e7_10, e7_11, e7_12, e7_15, e7_16, e7_17, e7_18, e7_20, e7_22, mt_1_36, kw_8, np_8, on_8, nr_8, fc_7_8, rc_4, e7_25, kc_1, e7_28, e7_31, e7_32, fd_1_28, e7_35, e7_36, mt_1_39, kw_10, np_10, on_10, nr_10, fc_7_10, rc_9, e7_39, e7_40, e7_41, fd_1_45, fin_1_3, ft_1_3, e7_44, e7_45, e7_46, fd_1_32, fin_1_4, ft_1_4, e7_49, e1, a1, px_up_self, px_up_up, px_fit_int]
  have hfr : px_fr (fun j => j = i ∨ j = i + 512) h1 (px_up (px_up h1 (i + 512) (.inl (px_tB, 256, .inl f2))) i (.inr (1, [.ref (i + 64), .ref (i + 128), .ref (i + 512), .int 0, .int 1]))) := (px_fr.rf.up (Or.inr rfl)).up (Or.inl rfl)
  refine ⟨⟨px_up_self, a2, ?_, fun s hs => ?_, ⟨f2, by rw [px_up_ne (by omega), px_up_self]; rfl, fun j hj => ?_, fun k hk => ?_⟩, fun s hs _ => ⟨rfl, rfl, rfl⟩, by decide, by decide⟩, hf1.tr (hfr.mono fun j hj => by unfold imQ; omega)⟩
  · obtain ⟨F2, b1, b2⟩ := a3
    exact ⟨F2, (hfr _ (by omega)).trans b1, b2⟩
  · obtain ⟨z1, z2, z3, z4⟩ := eZ s hs
    have := a5 s hs
    rw [z1, z2, z3, z4] at this
    have h9 : Sg h1 (i + 128 + 128 * s) (prm s) (ns s) false 0 0 0 (fun _ => 0) := ⟨this.1, this.2.1, this.2.2.1.congr (fun j hj => by omega), this.2.2.2⟩
    exact h9.fr hfr (fun j hj => by unfold sgK at hj; omega)
  · rw [hf2 j hj]; decide
  · rw [hf2 _ (by omega)]
    show (vp_nar .byte 0).toBitVec.getLsbD (k % 8) = false
    have : (vp_nar .byte 0).toBitVec = 0#32 := rfl
    rw [this]; simp
