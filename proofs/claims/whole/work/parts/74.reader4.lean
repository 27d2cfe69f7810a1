/-! ImageFile$Reader: rows taken -/
def Rk (j : Nat) : Prop := j = 1856 ∨ j = 2496 ∨ imQ 1920 j
def nrI (x : Option Nat) : Int32 := match x with
  | none => -1
  | some p => nI p
def Tok (c : Nat) (B : Nat → Nat) (tb n : Nat) (T : Nat → Option Nat) : Prop := ∀ s p, s < 4 → T s = some p → (∃ i, i < n ∧ p = tb + 32 * i) ∧ rU4 B (p + 4) + rU4 B (p + 16) ≤ c ∧ (s < 3 → rU4 B (p + 8) < 131072 ∧ rU4 B (p + 16) ≤ 4096 ∧ rU4 B (p + 16) ≤ rU4 B (p + 20) ∧ rU4 B (p + 20) ≤ rU4 B (p + 16) + 32768 ∧ isPg (rU4 B (p + 28)) = true)
def rdS (h : px_H) (m c : Nat) (B ns : Nat → Nat) (tb n : Nat) (T : Nat → Option Nat) (mk : Nat → Bool) (fp : Int32) : Prop := px_top h ∧ Stc h ∧ By h 1664 16384 m c B ∧ (∃ nb nl, rdO h (nI tb) (nI n) (nrI (T 3)) nb nl fp ∧ ∀ p, T 3 = some p → nb = nI (rU4 B (p + 4)) ∧ nl = nI (rU4 B (p + 16))) ∧ (∃ g : Nat → Int32, h 2496 = some (.inl (px_tI, 3, .inl g)) ∧ ∀ s p, s < 3 → T s = some p → g s = nI p) ∧ ImA h 1920 ns (drI B T mk) ∧ Tok c B tb n T ∧ tb + 32 * n ≤ c
def rdTk (h : px_H) (ns : Nat → Nat) (G : px_H → (Nat → Nat) → Prop) : px_K := fun r h' mc ms => r = none ∧ px_fr Rk h h' ∧ ∃ ns', (∀ s, s < 3 → ns s ≤ ns' s) ∧ mc + Phi ns ≤ Phi ns' ∧ ms + Phi ns ≤ Phi ns' ∧ G h' ns'
theorem ImA.ep {h : px_H} {i P' : Nat} {ns : Nat → Nat} {I : Im} {e' : Int32} (H : ImA h i ns I) (h1 : 1 ≤ P') (h2 : P' ≤ 4096) : ImA (px_up h i (.inr (1, [.ref (i + 64), .ref (i + 128), .ref (i + 512), .int e', .int (nI P')]))) i ns (imT I, imA I, imM I, imC I, imB I, imK I, e', P') := by
  obtain ⟨a, b, ⟨F, c1, c2⟩, d, ⟨f, e1, e2⟩, g, k⟩ := H
  have hf : px_fr (fun j => j = i) h (px_up h i (.inr (1, [.ref (i + 64), .ref (i + 128), .ref (i + 512), .int e', .int (nI P')]))) := px_fr.rf.up rfl
  exact ⟨px_up_self, b, ⟨F, (hf _ (by omega)).trans c1, c2⟩, fun s hs => (d s hs).fr hf (fun j hj => by unfold sgK at hj; omega), ⟨f, (hf _ (by omega)).trans e1, e2⟩, g, h1, h2⟩
theorem drI_eq {B : Nat → Nat} {T T' : Nat → Option Nat} {mk : Nat → Bool} (h : ∀ s, s < 3 → T' s = T s) : imEq (drI B T mk) (drI B T' mk) := by
  refine ⟨fun s hs => ?_, fun _ _ => rfl, rfl, ?_⟩
  · have e := h s hs
    refine ⟨?_, ?_, ?_, ?_, fun j hj => ?_⟩
    · show (T' s).isSome = (T s).isSome
      rw [e]
    · show rwv B (T' s) 8 = rwv B (T s) 8
      rw [e]
    · show rwv B (T' s) 20 - rwv B (T' s) 16 = rwv B (T s) 20 - rwv B (T s) 16
      rw [e]
    · show rwv B (T' s) 16 = rwv B (T s) 16
      rw [e]
    · show B (rwv B (T' s) 4 + j) = B (rwv B (T s) 4 + j)
      rw [e]
  · show drP B T' = drP B T
    unfold drP
    rw [h 0 (by omega), h 1 (by omega), h 2 (by omega)]
set_option maxRecDepth 100000 in
set_option maxHeartbeats 4000000 in
theorem t_Reader_takeNote (l : Launch) {h : px_H} {m c tb n i : Nat} {B ns : Nat → Nat} {T : Nat → Option Nat} {mk : Nat → Bool} {fp : Int32} (X : rdS h m c B ns tb n T mk fp) (hi : i < n) (hb : rU4 B (tb + 32 * i + 4) + rU4 B (tb + 32 * i + 16) ≤ c) : px_Ct l 87 [.ref 1856, .int (nI (tb + 32 * i))] h (rdTk h ns fun h' ns' => rdS h' m c B ns' tb n (fup T 3 (some (tb + 32 * i))) mk fp) := by
  obtain ⟨ht, HS, F, ⟨nb, nl, R, hR⟩, ⟨g, hg, hgs⟩, D, hT, hc⟩ := X
  unfold rdO at R
  have hc16 := F.c16
  have F1 : ∀ z, By (px_up h 1856 z) 1664 16384 m c B := fun z => F.fr (px_fr.rf.up (P := fun j => j = 1856) rfl) (by omega) (by omega)
  have e1 : ∀ z, px_up h 1856 z 1664 = h 1664 := fun z => px_up_ne (by omega)
  refine px_Ct.of (by decide) (Nat.le_of_ble_eq_true rfl) (px_wp_ok (sp := []) 60 _ _ _ _ _ ?_)
  simp only [px_ev_nil, px_ev_i, px_ev_l, px_ev_n, px_ev_r, px_wp, px_step, px_tg, px_i1, px_i2, px_l1, px_l2, px_il, px_a1, px_ia, px_iia, px_lki, px_lkl, px_lka, px_lk, px_sto, px_ins, px_del, px_popn, px_inv, px_cat, px_obj, px_arr, px_arq, px_rfv, px_rok, px_tB, px_tI, px_tZ, px_tG, px_tS, px_S, lv_args, Value.category, List.contains_cons, List.contains_nil, List.getElem?_cons_zero, List.getElem?_cons_succ, List.set_cons_zero, List.set_cons_succ, List.length_cons, List.length_nil, List.map_cons, List.map_nil, List.sum_cons, List.sum_nil, List.cons_append, List.nil_append, Option.toList_some, Option.toList_none, px_hold, Fin.isValue, Fin.val_zero, Fin.val_one, Fin.val_two, Nat.reduceBEq, Nat.reduceAdd, Nat.reduceLT, Nat.reduceLeDiff, Nat.reduceEqDiff, Nat.reduceMod, Int.reduceNeg, Int.reduceAdd, Int.reduceLE, Int.reduceLT, Int.reduceToNat, Int.cast_ofNat_Int, Int.ofNat_eq_natCast, Bool.or_self, Bool.or_false, Bool.false_or, Bool.and_false, Bool.and_self, Bool.false_and, Bool.true_and, Bool.false_eq_true, Bool.true_eq_false, ↓reduceIte, reduceCtorEq, true_and, and_true, false_and, and_false, false_or, or_false, true_or, or_true, ne_eq, not_false_eq_true, not_true_eq_false, px_f0, px_f1, px_f2, px_f3, kc_L0, kc_L1, if_true, if_false, px_10, true_implies, false_implies, implies_true, on_87, mL_87, rt_87, dp_87, lc_87, nr_87, yn_87, rc_3, e87_0, e87_1, e87_2, fd_3_26, fin_2_5, ft_2_5, e87_5, e87_6, e87_7, fd_3_9, e87_10, e87_11, kc_4, e87_12, e87_13, mt_3_80, kw_78, np_78, on_78, nr_78, fc_87_78, rc_0, e87_16, e87_17, fd_3_161, fin_2_6, ft_2_6, e87_20, e87_21, e87_22, e87_25, e87_26, kc_16, e87_28, e87_29, e87_32, e87_33, fd_3_164, fin_2_7, ft_2_7, e87_36, R, F.1, e1, px_up_self, px_up_up, px_fit_int, n_p4, n_p16, lN_i]
  refine px_rd.use (r_u4 l (F1 _) (k := tb + 32 * i + 4) (by omega)) (px_wp_ok (sp := []) 60 _ _ _ _ _ ?_)
  simp only [px_ev_nil, px_ev_i, px_ev_l, px_ev_n, px_ev_r, px_wp, px_step, px_tg, px_i1, px_i2, px_l1, px_l2, px_il, px_a1, px_ia, px_iia, px_lki, px_lkl, px_lka, px_lk, px_sto, px_ins, px_del, px_popn, px_inv, px_cat, px_obj, px_arr, px_arq, px_rfv, px_rok, px_tB, px_tI, px_tZ, px_tG, px_tS, px_S, lv_args, Value.category, List.contains_cons, List.contains_nil, List.getElem?_cons_zero, List.getElem?_cons_succ, List.set_cons_zero, List.set_cons_succ, List.length_cons, List.length_nil, List.map_cons, List.map_nil, List.sum_cons, List.sum_nil, List.cons_append, List.nil_append, Option.toList_some, Option.toList_none, px_hold, Fin.isValue, Fin.val_zero, Fin.val_one, Fin.val_two, Nat.reduceBEq, Nat.reduceAdd, Nat.reduceLT, Nat.reduceLeDiff, Nat.reduceEqDiff, Nat.reduceMod, Int.reduceNeg, Int.reduceAdd, Int.reduceLE, Int.reduceLT, Int.reduceToNat, Int.cast_ofNat_Int, Int.ofNat_eq_natCast, Bool.or_self, Bool.or_false, Bool.false_or, Bool.and_false, Bool.and_self, Bool.false_and, Bool.true_and, Bool.false_eq_true, Bool.true_eq_false, ↓reduceIte, reduceCtorEq, true_and, and_true, false_and, and_false, false_or, or_false, true_or, or_true, ne_eq, not_false_eq_true, not_true_eq_false, px_f0, px_f1, px_f2, px_f3, kc_L0, kc_L1, if_true, if_false, px_10, true_implies, false_implies, implies_true, on_87, mL_87, rt_87, dp_87, lc_87, nr_87, yn_87, rc_3, e87_0, e87_1, e87_2, fd_3_26, fin_2_5, ft_2_5, e87_5, e87_6, e87_7, fd_3_9, e87_10, e87_11, kc_4, e87_12, e87_13, mt_3_80, kw_78, np_78, on_78, nr_78, fc_87_78, rc_0, e87_16, e87_17, fd_3_161, fin_2_6, ft_2_6, e87_20, e87_21, e87_22, e87_25, e87_26, kc_16, e87_28, e87_29, e87_32, e87_33, fd_3_164, fin_2_7, ft_2_7, e87_36, R, F.1, e1, px_up_self, px_up_up, px_fit_int, n_p4, n_p16, lN_i]
  refine px_rd.use (r_u4 l (F1 _) (k := tb + 32 * i + 16) (by omega)) (px_wp_ok (sp := []) 60 _ _ _ _ _ ?_)
  simp only [px_ev_nil, px_ev_i, px_ev_l, px_ev_n, px_ev_r, px_wp, px_step, px_tg, px_i1, px_i2, px_l1, px_l2, px_il, px_a1, px_ia, px_iia, px_lki, px_lkl, px_lka, px_lk, px_sto, px_ins, px_del, px_popn, px_inv, px_cat, px_obj, px_arr, px_arq, px_rfv, px_rok, px_tB, px_tI, px_tZ, px_tG, px_tS, px_S, lv_args, Value.category, List.contains_cons, List.contains_nil, List.getElem?_cons_zero, List.getElem?_cons_succ, List.set_cons_zero, List.set_cons_succ, List.length_cons, List.length_nil, List.map_cons, List.map_nil, List.sum_cons, List.sum_nil, List.cons_append, List.nil_append, Option.toList_some, Option.toList_none, px_hold, Fin.isValue, Fin.val_zero, Fin.val_one, Fin.val_two, Nat.reduceBEq, Nat.reduceAdd, Nat.reduceLT, Nat.reduceLeDiff, Nat.reduceEqDiff, Nat.reduceMod, Int.reduceNeg, Int.reduceAdd, Int.reduceLE, Int.reduceLT, Int.reduceToNat, Int.cast_ofNat_Int, Int.ofNat_eq_natCast, Bool.or_self, Bool.or_false, Bool.false_or, Bool.and_false, Bool.and_self, Bool.false_and, Bool.true_and, Bool.false_eq_true, Bool.true_eq_false, ↓reduceIte, reduceCtorEq, true_and, and_true, false_and, and_false, false_or, or_false, true_or, or_true, ne_eq, not_false_eq_true, not_true_eq_false, px_f0, px_f1, px_f2, px_f3, kc_L0, kc_L1, if_true, if_false, px_10, true_implies, false_implies, implies_true, on_87, mL_87, rt_87, dp_87, lc_87, nr_87, yn_87, rc_3, e87_0, e87_1, e87_2, fd_3_26, fin_2_5, ft_2_5, e87_5, e87_6, e87_7, fd_3_9, e87_10, e87_11, kc_4, e87_12, e87_13, mt_3_80, kw_78, np_78, on_78, nr_78, fc_87_78, rc_0, e87_16, e87_17, fd_3_161, fin_2_6, ft_2_6, e87_20, e87_21, e87_22, e87_25, e87_26, kc_16, e87_28, e87_29, e87_32, e87_33, fd_3_164, fin_2_7, ft_2_7, e87_36, R, F.1, e1, px_up_self, px_up_up, px_fit_int, n_p4, n_p16, lN_i]
  have hf : ∀ z, px_fr (fun j => j = 1856) h (px_up h 1856 z) := fun z => px_fr.rf.up rfl
  refine ⟨rfl, px_fr.rf.up (Or.inl rfl), ns, fun _ _ => Nat.le_refl _, by omega, by omega, ht.up (by omega), HS.fr (hf _) (fun j hj => by omega), F1 _, ⟨nI (rU4 B (tb + 32 * i + 4)), nI (rU4 B (tb + 32 * i + 16)), ?_, fun p hp => ?_⟩, ⟨g, (hf _ 2496 (by omega)).trans hg, fun s p hs hp => ?_⟩, (D.fr (hf _) (fun j hj => by unfold imQ at hj; omega)).congr (drI_eq fun s hs => fup_n (by omega)) (fun _ _ => rfl), fun s p hs hp => ?_, hc⟩
  · unfold rdO
    rw [fup_s]
    exact px_up_self
  · rw [fup_s] at hp
    cases hp
    exact ⟨rfl, rfl⟩
  · rw [fup_n (by omega)] at hp
    exact hgs s p hs hp
  · by_cases e : s = 3
    · subst e
      rw [fup_s] at hp
      cases hp
      exact ⟨⟨i, hi, rfl⟩, hb, fun z => by omega⟩
    · rw [fup_n e] at hp
      exact hT s p hs hp
theorem oI_s {s : Nat} {f : Nat → Nat} : oI (some s) f = nI (f s) := rfl
theorem sgF_no {B : Nat → Nat} {T : Nat → Option Nat} {row : Nat} (h : sgF B T row = none) : isPg (rU4 B (row + 28)) = true ∧ ∃ s, srt (rU4 B (row + 24)) = some s ∧ T s = none ∧ rU4 B (row + 8) < 131072 ∧ rU4 B (row + 16) ≤ 4096 ∧ rU4 B (row + 16) ≤ rU4 B (row + 20) ∧ rU4 B (row + 20) ≤ rU4 B (row + 16) + 32768 := by
  unfold sgF at h
  split at h
  · rename_i h1
    refine ⟨h1.1, ?_⟩
    split at h
    · cases h
    · rename_i s hs
      refine ⟨s, hs, ?_⟩
      split at h
      · cases h
      · rename_i h2
        split at h
        · split at h
          · split at h
            · by_cases h6 : rU4 B (row + 20) < rU4 B (row + 16) ∨ (if s = 2 then 32768 else 0) < rU4 B (row + 20) - rU4 B (row + 16)
              · rw [if_pos h6] at h
                cases h
              · refine ⟨by cases e : T s with | none => rfl | some p => rw [e] at h2; exact absurd rfl h2, by omega, by omega, Nat.le_of_not_lt (fun z => h6 (Or.inl z)), ?_⟩
                have x1 : (if s = 2 then 32768 else 0) ≤ 32768 := by split <;> omega
                have x2 := Nat.le_of_not_lt (fun z => h6 (Or.inr z))
                omega
            · cases h
          · cases h
        · cases h
  · cases h
set_option maxRecDepth 100000 in
set_option maxHeartbeats 4000000 in
theorem t_Reader_takeSegment (l : Launch) {h : px_H} {m c tb n i : Nat} {B ns : Nat → Nat} {T : Nat → Option Nat} {mk : Nat → Bool} {fp : Int32} (X : rdS h m c B ns tb n T mk fp) (hi : i < n) (hb : rU4 B (tb + 32 * i + 4) + rU4 B (tb + 32 * i + 16) ≤ c) (hsg : sgF B T (tb + 32 * i) = none) : px_Ct l 88 [.ref 1856, .int (nI (tb + 32 * i))] h (rdTk h ns fun h' ns' => ∃ s, srt (rU4 B (tb + 32 * i + 24)) = some s ∧ rdS h' m c B ns' tb n (fup T s (some (tb + 32 * i))) mk fp) := by
  obtain ⟨ht, HS, F, ⟨nb, nl, R, hR⟩, ⟨g, hg, hgs⟩, D, hT, hc⟩ := X
  obtain ⟨hpg, s, hs, hTs, w8, w16, w20, w21⟩ := sgF_no hsg
  have hs3 := srt_lt hs
  have R0 := R
  unfold rdO at R0
  have hc16 := F.c16
  have v4 := rU4_lt B (tb + 32 * i + 4)
  have v8 := rU4_lt B (tb + 32 * i + 8)
  have v16 := rU4_lt B (tb + 32 * i + 16)
  have v20 := rU4_lt B (tb + 32 * i + 20)
  have v24 := rU4_lt B (tb + 32 * i + 24)
  have v28 := rU4_lt B (tb + 32 * i + 28)
  have hS := D.sgD hs3
  have hz := D.2.2.2.2.2.1 s hs3 (by show (T s).isSome = false; rw [hTs]; rfl)
  rw [hz.2.2] at hS
  have es : (nI s).toNatClampNeg = s := nI_clamp (by omega)
  have hin : vp_in (nI s) 3 := pk_in s 3 (by omega)
  have hk0 : (2048 + 128 * s) % 64 = 0 := by omega
  have e20 : nI (rU4 B (tb + 32 * i + 20)) - nI (rU4 B (tb + 32 * i + 16)) = nI (rU4 B (tb + 32 * i + 20) - rU4 B (tb + 32 * i + 16)) := pk_sub w20
  refine px_Ct.of (by decide) (Nat.le_of_ble_eq_true rfl) (px_wp_ok (sp := []) 60 _ _ _ _ _ ?_)
  simp only [px_ev_nil, px_ev_i, px_ev_l, px_ev_n, px_ev_r, px_wp, px_step, px_tg, px_i1, px_i2, px_l1, px_l2, px_il, px_a1, px_ia, px_iia, px_lki, px_lkl, px_lka, px_lk, px_sto, px_ins, px_del, px_popn, px_inv, px_cat, px_obj, px_arr, px_arq, px_rfv, px_rok, px_tB, px_tI, px_tZ, px_tG, px_tS, px_S, lv_args, Value.category, List.contains_cons, List.contains_nil, List.getElem?_cons_zero, List.getElem?_cons_succ, List.set_cons_zero, List.set_cons_succ, List.length_cons, List.length_nil, List.map_cons, List.map_nil, List.sum_cons, List.sum_nil, List.cons_append, List.nil_append, Option.toList_some, Option.toList_none, px_hold, Fin.isValue, Fin.val_zero, Fin.val_one, Fin.val_two, Nat.reduceBEq, Nat.reduceAdd, Nat.reduceLT, Nat.reduceLeDiff, Nat.reduceEqDiff, Nat.reduceMod, Int.reduceNeg, Int.reduceAdd, Int.reduceLE, Int.reduceLT, Int.reduceToNat, Int.cast_ofNat_Int, Int.ofNat_eq_natCast, Bool.or_self, Bool.or_false, Bool.false_or, Bool.and_false, Bool.and_self, Bool.false_and, Bool.true_and, Bool.false_eq_true, Bool.true_eq_false, ↓reduceIte, reduceCtorEq, true_and, and_true, false_and, and_false, false_or, or_false, true_or, or_true, ne_eq, not_false_eq_true, not_true_eq_false, px_f0, px_f1, px_f2, px_f3, kc_L0, kc_L1, if_true, if_false, px_10, true_implies, false_implies, implies_true, on_88, mL_88, rt_88, dp_88, lc_88, nr_88, yn_88, rc_3, e88_0, e88_1, fd_3_9, e88_4, e88_5, kc_24, e88_7, e88_8, mt_3_80, kw_78, np_78, on_78, nr_78, fc_88_78, rc_0, e88_11, mt_3_123, kw_84, np_84, on_84, nr_84, fc_88_84, e88_14, e88_15, e88_16, fd_3_18, e88_19, e88_20, mt_3_127, kw_14, np_14, on_14, nr_14, fc_88_14, rc_1, e88_23, e88_24, e88_25, e88_28, e88_29, e88_30, e88_33, e88_34, kc_16, e88_36, e88_37, e88_40, e88_41, e88_43, e88_44, e88_45, e88_48, e88_49, kc_8, e88_51, e88_52, e88_55, e88_56, e88_57, e88_60, e88_61, kc_20, e88_63, e88_64, e88_67, e88_68, e88_70, e88_71, mt_3_167, kw_15, np_15, on_15, nr_15, fc_88_15, rc_4, e88_74, e88_75, fd_3_171, e88_78, e88_79, e88_82, e88_83, e88_86, e88_87, kc_4, e88_88, e88_89, e88_92, e88_93, e88_95, mt_3_174, kw_57, np_57, on_57, nr_57, fc_88_57, e88_98, e88_99, e88_102, e88_103, e88_106, fd_3_178, e88_109, e88_110, e88_113, e88_114, kc_28, e88_116, e88_117, e88_120, e88_121, mt_3_181, e88_124, fin_1_4, ft_1_4, e88_127, e88_128, fd_3_22, e88_131, e88_132, e88_133, e88_134, R0, F.1, n_p4, n_p8, n_p16, n_p20, n_p24, n_p28, lN_i]
  refine px_rd.use (r_u4 l F (k := tb + 32 * i + 24) (by omega)) (px_wp_ok (sp := []) 60 _ _ _ _ _ ?_)
  simp only [px_ev_nil, px_ev_i, px_ev_l, px_ev_n, px_ev_r, px_wp, px_step, px_tg, px_i1, px_i2, px_l1, px_l2, px_il, px_a1, px_ia, px_iia, px_lki, px_lkl, px_lka, px_lk, px_sto, px_ins, px_del, px_popn, px_inv, px_cat, px_obj, px_arr, px_arq, px_rfv, px_rok, px_tB, px_tI, px_tZ, px_tG, px_tS, px_S, lv_args, Value.category, List.contains_cons, List.contains_nil, List.getElem?_cons_zero, List.getElem?_cons_succ, List.set_cons_zero, List.set_cons_succ, List.length_cons, List.length_nil, List.map_cons, List.map_nil, List.sum_cons, List.sum_nil, List.cons_append, List.nil_append, Option.toList_some, Option.toList_none, px_hold, Fin.isValue, Fin.val_zero, Fin.val_one, Fin.val_two, Nat.reduceBEq, Nat.reduceAdd, Nat.reduceLT, Nat.reduceLeDiff, Nat.reduceEqDiff, Nat.reduceMod, Int.reduceNeg, Int.reduceAdd, Int.reduceLE, Int.reduceLT, Int.reduceToNat, Int.cast_ofNat_Int, Int.ofNat_eq_natCast, Bool.or_self, Bool.or_false, Bool.false_or, Bool.and_false, Bool.and_self, Bool.false_and, Bool.true_and, Bool.false_eq_true, Bool.true_eq_false, ↓reduceIte, reduceCtorEq, true_and, and_true, false_and, and_false, false_or, or_false, true_or, or_true, ne_eq, not_false_eq_true, not_true_eq_false, px_f0, px_f1, px_f2, px_f3, kc_L0, kc_L1, if_true, if_false, px_10, true_implies, false_implies, implies_true, on_88, mL_88, rt_88, dp_88, lc_88, nr_88, yn_88, rc_3, e88_0, e88_1, fd_3_9, e88_4, e88_5, kc_24, e88_7, e88_8, mt_3_80, kw_78, np_78, on_78, nr_78, fc_88_78, rc_0, e88_11, mt_3_123, kw_84, np_84, on_84, nr_84, fc_88_84, e88_14, e88_15, e88_16, fd_3_18, e88_19, e88_20, mt_3_127, kw_14, np_14, on_14, nr_14, fc_88_14, rc_1, e88_23, e88_24, e88_25, e88_28, e88_29, e88_30, e88_33, e88_34, kc_16, e88_36, e88_37, e88_40, e88_41, e88_43, e88_44, e88_45, e88_48, e88_49, kc_8, e88_51, e88_52, e88_55, e88_56, e88_57, e88_60, e88_61, kc_20, e88_63, e88_64, e88_67, e88_68, e88_70, e88_71, mt_3_167, kw_15, np_15, on_15, nr_15, fc_88_15, rc_4, e88_74, e88_75, fd_3_171, e88_78, e88_79, e88_82, e88_83, e88_86, e88_87, kc_4, e88_88, e88_89, e88_92, e88_93, e88_95, mt_3_174, kw_57, np_57, on_57, nr_57, fc_88_57, e88_98, e88_99, e88_102, e88_103, e88_106, fd_3_178, e88_109, e88_110, e88_113, e88_114, kc_28, e88_116, e88_117, e88_120, e88_121, mt_3_181, e88_124, fin_1_4, ft_1_4, e88_127, e88_128, fd_3_22, e88_131, e88_132, e88_133, e88_134, R0, F.1, n_p4, n_p8, n_p16, n_p20, n_p24, n_p28, lN_i]
  refine px_rd.use (t_Reader_segmentWith l HS v24) (px_wp_ok (sp := []) 60 _ _ _ _ _ ?_)
  simp only [px_ev_nil, px_ev_i, px_ev_l, px_ev_n, px_ev_r, px_wp, px_step, px_tg, px_i1, px_i2, px_l1, px_l2, px_il, px_a1, px_ia, px_iia, px_lki, px_lkl, px_lka, px_lk, px_sto, px_ins, px_del, px_popn, px_inv, px_cat, px_obj, px_arr, px_arq, px_rfv, px_rok, px_tB, px_tI, px_tZ, px_tG, px_tS, px_S, lv_args, Value.category, List.contains_cons, List.contains_nil, List.getElem?_cons_zero, List.getElem?_cons_succ, List.set_cons_zero, List.set_cons_succ, List.length_cons, List.length_nil, List.map_cons, List.map_nil, List.sum_cons, List.sum_nil, List.cons_append, List.nil_append, Option.toList_some, Option.toList_none, px_hold, Fin.isValue, Fin.val_zero, Fin.val_one, Fin.val_two, Nat.reduceBEq, Nat.reduceAdd, Nat.reduceLT, Nat.reduceLeDiff, Nat.reduceEqDiff, Nat.reduceMod, Int.reduceNeg, Int.reduceAdd, Int.reduceLE, Int.reduceLT, Int.reduceToNat, Int.cast_ofNat_Int, Int.ofNat_eq_natCast, Bool.or_self, Bool.or_false, Bool.false_or, Bool.and_false, Bool.and_self, Bool.false_and, Bool.true_and, Bool.false_eq_true, Bool.true_eq_false, ↓reduceIte, reduceCtorEq, true_and, and_true, false_and, and_false, false_or, or_false, true_or, or_true, ne_eq, not_false_eq_true, not_true_eq_false, px_f0, px_f1, px_f2, px_f3, kc_L0, kc_L1, if_true, if_false, px_10, true_implies, false_implies, implies_true, on_88, mL_88, rt_88, dp_88, lc_88, nr_88, yn_88, rc_3, e88_0, e88_1, fd_3_9, e88_4, e88_5, kc_24, e88_7, e88_8, mt_3_80, kw_78, np_78, on_78, nr_78, fc_88_78, rc_0, e88_11, mt_3_123, kw_84, np_84, on_84, nr_84, fc_88_84, e88_14, e88_15, e88_16, fd_3_18, e88_19, e88_20, mt_3_127, kw_14, np_14, on_14, nr_14, fc_88_14, rc_1, e88_23, e88_24, e88_25, e88_28, e88_29, e88_30, e88_33, e88_34, kc_16, e88_36, e88_37, e88_40, e88_41, e88_43, e88_44, e88_45, e88_48, e88_49, kc_8, e88_51, e88_52, e88_55, e88_56, e88_57, e88_60, e88_61, kc_20, e88_63, e88_64, e88_67, e88_68, e88_70, e88_71, mt_3_167, kw_15, np_15, on_15, nr_15, fc_88_15, rc_4, e88_74, e88_75, fd_3_171, e88_78, e88_79, e88_82, e88_83, e88_86, e88_87, kc_4, e88_88, e88_89, e88_92, e88_93, e88_95, mt_3_174, kw_57, np_57, on_57, nr_57, fc_88_57, e88_98, e88_99, e88_102, e88_103, e88_106, fd_3_178, e88_109, e88_110, e88_113, e88_114, kc_28, e88_116, e88_117, e88_120, e88_121, mt_3_181, e88_124, fin_1_4, ft_1_4, e88_127, e88_128, fd_3_22, e88_131, e88_132, e88_133, e88_134, R0, F.1, n_p4, n_p8, n_p16, n_p20, n_p24, n_p28, lN_i, D.1]
  rw [hs]
  refine px_rd.use (r_seg l D hs3) (px_wp_ok (sp := []) 60 _ _ _ _ _ ?_)
  simp only [px_ev_nil, px_ev_i, px_ev_l, px_ev_n, px_ev_r, px_wp, px_step, px_tg, px_i1, px_i2, px_l1, px_l2, px_il, px_a1, px_ia, px_iia, px_lki, px_lkl, px_lka, px_lk, px_sto, px_ins, px_del, px_popn, px_inv, px_cat, px_obj, px_arr, px_arq, px_rfv, px_rok, px_tB, px_tI, px_tZ, px_tG, px_tS, px_S, lv_args, Value.category, List.contains_cons, List.contains_nil, List.getElem?_cons_zero, List.getElem?_cons_succ, List.set_cons_zero, List.set_cons_succ, List.length_cons, List.length_nil, List.map_cons, List.map_nil, List.sum_cons, List.sum_nil, List.cons_append, List.nil_append, Option.toList_some, Option.toList_none, px_hold, Fin.isValue, Fin.val_zero, Fin.val_one, Fin.val_two, Nat.reduceBEq, Nat.reduceAdd, Nat.reduceLT, Nat.reduceLeDiff, Nat.reduceEqDiff, Nat.reduceMod, Int.reduceNeg, Int.reduceAdd, Int.reduceLE, Int.reduceLT, Int.reduceToNat, Int.cast_ofNat_Int, Int.ofNat_eq_natCast, Bool.or_self, Bool.or_false, Bool.false_or, Bool.and_false, Bool.and_self, Bool.false_and, Bool.true_and, Bool.false_eq_true, Bool.true_eq_false, ↓reduceIte, reduceCtorEq, true_and, and_true, false_and, and_false, false_or, or_false, true_or, or_true, ne_eq, not_false_eq_true, not_true_eq_false, px_f0, px_f1, px_f2, px_f3, kc_L0, kc_L1, if_true, if_false, px_10, true_implies, false_implies, implies_true, on_88, mL_88, rt_88, dp_88, lc_88, nr_88, yn_88, rc_3, e88_0, e88_1, fd_3_9, e88_4, e88_5, kc_24, e88_7, e88_8, mt_3_80, kw_78, np_78, on_78, nr_78, fc_88_78, rc_0, e88_11, mt_3_123, kw_84, np_84, on_84, nr_84, fc_88_84, e88_14, e88_15, e88_16, fd_3_18, e88_19, e88_20, mt_3_127, kw_14, np_14, on_14, nr_14, fc_88_14, rc_1, e88_23, e88_24, e88_25, e88_28, e88_29, e88_30, e88_33, e88_34, kc_16, e88_36, e88_37, e88_40, e88_41, e88_43, e88_44, e88_45, e88_48, e88_49, kc_8, e88_51, e88_52, e88_55, e88_56, e88_57, e88_60, e88_61, kc_20, e88_63, e88_64, e88_67, e88_68, e88_70, e88_71, mt_3_167, kw_15, np_15, on_15, nr_15, fc_88_15, rc_4, e88_74, e88_75, fd_3_171, e88_78, e88_79, e88_82, e88_83, e88_86, e88_87, kc_4, e88_88, e88_89, e88_92, e88_93, e88_95, mt_3_174, kw_57, np_57, on_57, nr_57, fc_88_57, e88_98, e88_99, e88_102, e88_103, e88_106, fd_3_178, e88_109, e88_110, e88_113, e88_114, kc_28, e88_116, e88_117, e88_120, e88_121, mt_3_181, e88_124, fin_1_4, ft_1_4, e88_127, e88_128, fd_3_22, e88_131, e88_132, e88_133, e88_134, R0, F.1, n_p4, n_p8, n_p16, n_p20, n_p24, n_p28, lN_i, oI_s]
  refine px_rd.use (r_u4 l F (k := tb + 32 * i + 16) (by omega)) (px_wp_ok (sp := []) 60 _ _ _ _ _ ?_)
  simp only [px_ev_nil, px_ev_i, px_ev_l, px_ev_n, px_ev_r, px_wp, px_step, px_tg, px_i1, px_i2, px_l1, px_l2, px_il, px_a1, px_ia, px_iia, px_lki, px_lkl, px_lka, px_lk, px_sto, px_ins, px_del, px_popn, px_inv, px_cat, px_obj, px_arr, px_arq, px_rfv, px_rok, px_tB, px_tI, px_tZ, px_tG, px_tS, px_S, lv_args, Value.category, List.contains_cons, List.contains_nil, List.getElem?_cons_zero, List.getElem?_cons_succ, List.set_cons_zero, List.set_cons_succ, List.length_cons, List.length_nil, List.map_cons, List.map_nil, List.sum_cons, List.sum_nil, List.cons_append, List.nil_append, Option.toList_some, Option.toList_none, px_hold, Fin.isValue, Fin.val_zero, Fin.val_one, Fin.val_two, Nat.reduceBEq, Nat.reduceAdd, Nat.reduceLT, Nat.reduceLeDiff, Nat.reduceEqDiff, Nat.reduceMod, Int.reduceNeg, Int.reduceAdd, Int.reduceLE, Int.reduceLT, Int.reduceToNat, Int.cast_ofNat_Int, Int.ofNat_eq_natCast, Bool.or_self, Bool.or_false, Bool.false_or, Bool.and_false, Bool.and_self, Bool.false_and, Bool.true_and, Bool.false_eq_true, Bool.true_eq_false, ↓reduceIte, reduceCtorEq, true_and, and_true, false_and, and_false, false_or, or_false, true_or, or_true, ne_eq, not_false_eq_true, not_true_eq_false, px_f0, px_f1, px_f2, px_f3, kc_L0, kc_L1, if_true, if_false, px_10, true_implies, false_implies, implies_true, on_88, mL_88, rt_88, dp_88, lc_88, nr_88, yn_88, rc_3, e88_0, e88_1, fd_3_9, e88_4, e88_5, kc_24, e88_7, e88_8, mt_3_80, kw_78, np_78, on_78, nr_78, fc_88_78, rc_0, e88_11, mt_3_123, kw_84, np_84, on_84, nr_84, fc_88_84, e88_14, e88_15, e88_16, fd_3_18, e88_19, e88_20, mt_3_127, kw_14, np_14, on_14, nr_14, fc_88_14, rc_1, e88_23, e88_24, e88_25, e88_28, e88_29, e88_30, e88_33, e88_34, kc_16, e88_36, e88_37, e88_40, e88_41, e88_43, e88_44, e88_45, e88_48, e88_49, kc_8, e88_51, e88_52, e88_55, e88_56, e88_57, e88_60, e88_61, kc_20, e88_63, e88_64, e88_67, e88_68, e88_70, e88_71, mt_3_167, kw_15, np_15, on_15, nr_15, fc_88_15, rc_4, e88_74, e88_75, fd_3_171, e88_78, e88_79, e88_82, e88_83, e88_86, e88_87, kc_4, e88_88, e88_89, e88_92, e88_93, e88_95, mt_3_174, kw_57, np_57, on_57, nr_57, fc_88_57, e88_98, e88_99, e88_102, e88_103, e88_106, fd_3_178, e88_109, e88_110, e88_113, e88_114, kc_28, e88_116, e88_117, e88_120, e88_121, mt_3_181, e88_124, fin_1_4, ft_1_4, e88_127, e88_128, fd_3_22, e88_131, e88_132, e88_133, e88_134, R0, F.1, n_p4, n_p8, n_p16, n_p20, n_p24, n_p28, lN_i]
  refine px_rd.use (r_u4 l F (k := tb + 32 * i + 8) (by omega)) (px_wp_ok (sp := []) 60 _ _ _ _ _ ?_)
  simp only [px_ev_nil, px_ev_i, px_ev_l, px_ev_n, px_ev_r, px_wp, px_step, px_tg, px_i1, px_i2, px_l1, px_l2, px_il, px_a1, px_ia, px_iia, px_lki, px_lkl, px_lka, px_lk, px_sto, px_ins, px_del, px_popn, px_inv, px_cat, px_obj, px_arr, px_arq, px_rfv, px_rok, px_tB, px_tI, px_tZ, px_tG, px_tS, px_S, lv_args, Value.category, List.contains_cons, List.contains_nil, List.getElem?_cons_zero, List.getElem?_cons_succ, List.set_cons_zero, List.set_cons_succ, List.length_cons, List.length_nil, List.map_cons, List.map_nil, List.sum_cons, List.sum_nil, List.cons_append, List.nil_append, Option.toList_some, Option.toList_none, px_hold, Fin.isValue, Fin.val_zero, Fin.val_one, Fin.val_two, Nat.reduceBEq, Nat.reduceAdd, Nat.reduceLT, Nat.reduceLeDiff, Nat.reduceEqDiff, Nat.reduceMod, Int.reduceNeg, Int.reduceAdd, Int.reduceLE, Int.reduceLT, Int.reduceToNat, Int.cast_ofNat_Int, Int.ofNat_eq_natCast, Bool.or_self, Bool.or_false, Bool.false_or, Bool.and_false, Bool.and_self, Bool.false_and, Bool.true_and, Bool.false_eq_true, Bool.true_eq_false, ↓reduceIte, reduceCtorEq, true_and, and_true, false_and, and_false, false_or, or_false, true_or, or_true, ne_eq, not_false_eq_true, not_true_eq_false, px_f0, px_f1, px_f2, px_f3, kc_L0, kc_L1, if_true, if_false, px_10, true_implies, false_implies, implies_true, on_88, mL_88, rt_88, dp_88, lc_88, nr_88, yn_88, rc_3, e88_0, e88_1, fd_3_9, e88_4, e88_5, kc_24, e88_7, e88_8, mt_3_80, kw_78, np_78, on_78, nr_78, fc_88_78, rc_0, e88_11, mt_3_123, kw_84, np_84, on_84, nr_84, fc_88_84, e88_14, e88_15, e88_16, fd_3_18, e88_19, e88_20, mt_3_127, kw_14, np_14, on_14, nr_14, fc_88_14, rc_1, e88_23, e88_24, e88_25, e88_28, e88_29, e88_30, e88_33, e88_34, kc_16, e88_36, e88_37, e88_40, e88_41, e88_43, e88_44, e88_45, e88_48, e88_49, kc_8, e88_51, e88_52, e88_55, e88_56, e88_57, e88_60, e88_61, kc_20, e88_63, e88_64, e88_67, e88_68, e88_70, e88_71, mt_3_167, kw_15, np_15, on_15, nr_15, fc_88_15, rc_4, e88_74, e88_75, fd_3_171, e88_78, e88_79, e88_82, e88_83, e88_86, e88_87, kc_4, e88_88, e88_89, e88_92, e88_93, e88_95, mt_3_174, kw_57, np_57, on_57, nr_57, fc_88_57, e88_98, e88_99, e88_102, e88_103, e88_106, fd_3_178, e88_109, e88_110, e88_113, e88_114, kc_28, e88_116, e88_117, e88_120, e88_121, mt_3_181, e88_124, fin_1_4, ft_1_4, e88_127, e88_128, fd_3_22, e88_131, e88_132, e88_133, e88_134, R0, F.1, n_p4, n_p8, n_p16, n_p20, n_p24, n_p28, lN_i]
  refine px_rd.use (r_u4 l F (k := tb + 32 * i + 20) (by omega)) (px_wp_ok (sp := []) 60 _ _ _ _ _ ?_)
  simp only [px_ev_nil, px_ev_i, px_ev_l, px_ev_n, px_ev_r, px_wp, px_step, px_tg, px_i1, px_i2, px_l1, px_l2, px_il, px_a1, px_ia, px_iia, px_lki, px_lkl, px_lka, px_lk, px_sto, px_ins, px_del, px_popn, px_inv, px_cat, px_obj, px_arr, px_arq, px_rfv, px_rok, px_tB, px_tI, px_tZ, px_tG, px_tS, px_S, lv_args, Value.category, List.contains_cons, List.contains_nil, List.getElem?_cons_zero, List.getElem?_cons_succ, List.set_cons_zero, List.set_cons_succ, List.length_cons, List.length_nil, List.map_cons, List.map_nil, List.sum_cons, List.sum_nil, List.cons_append, List.nil_append, Option.toList_some, Option.toList_none, px_hold, Fin.isValue, Fin.val_zero, Fin.val_one, Fin.val_two, Nat.reduceBEq, Nat.reduceAdd, Nat.reduceLT, Nat.reduceLeDiff, Nat.reduceEqDiff, Nat.reduceMod, Int.reduceNeg, Int.reduceAdd, Int.reduceLE, Int.reduceLT, Int.reduceToNat, Int.cast_ofNat_Int, Int.ofNat_eq_natCast, Bool.or_self, Bool.or_false, Bool.false_or, Bool.and_false, Bool.and_self, Bool.false_and, Bool.true_and, Bool.false_eq_true, Bool.true_eq_false, ↓reduceIte, reduceCtorEq, true_and, and_true, false_and, and_false, false_or, or_false, true_or, or_true, ne_eq, not_false_eq_true, not_true_eq_false, px_f0, px_f1, px_f2, px_f3, kc_L0, kc_L1, if_true, if_false, px_10, true_implies, false_implies, implies_true, on_88, mL_88, rt_88, dp_88, lc_88, nr_88, yn_88, rc_3, e88_0, e88_1, fd_3_9, e88_4, e88_5, kc_24, e88_7, e88_8, mt_3_80, kw_78, np_78, on_78, nr_78, fc_88_78, rc_0, e88_11, mt_3_123, kw_84, np_84, on_84, nr_84, fc_88_84, e88_14, e88_15, e88_16, fd_3_18, e88_19, e88_20, mt_3_127, kw_14, np_14, on_14, nr_14, fc_88_14, rc_1, e88_23, e88_24, e88_25, e88_28, e88_29, e88_30, e88_33, e88_34, kc_16, e88_36, e88_37, e88_40, e88_41, e88_43, e88_44, e88_45, e88_48, e88_49, kc_8, e88_51, e88_52, e88_55, e88_56, e88_57, e88_60, e88_61, kc_20, e88_63, e88_64, e88_67, e88_68, e88_70, e88_71, mt_3_167, kw_15, np_15, on_15, nr_15, fc_88_15, rc_4, e88_74, e88_75, fd_3_171, e88_78, e88_79, e88_82, e88_83, e88_86, e88_87, kc_4, e88_88, e88_89, e88_92, e88_93, e88_95, mt_3_174, kw_57, np_57, on_57, nr_57, fc_88_57, e88_98, e88_99, e88_102, e88_103, e88_106, fd_3_178, e88_109, e88_110, e88_113, e88_114, kc_28, e88_116, e88_117, e88_120, e88_121, mt_3_181, e88_124, fin_1_4, ft_1_4, e88_127, e88_128, fd_3_22, e88_131, e88_132, e88_133, e88_134, R0, F.1, n_p4, n_p8, n_p16, n_p20, n_p24, n_p28, lN_i, e20, hS.1]
  refine px_Ct.use (t_Segment_lieAt l hS w8 (show rU4 B (tb + 32 * i + 20) - rU4 B (tb + 32 * i + 16) ≤ 32768 by omega)) ?_
  rintro _ h1 _ _ ⟨rfl, hS1, hf1, rfl, rfl⟩
  simp only [Nat.zero_add]
  have hk : ∀ j, j < 2048 → h1 j = h j := fun j hj => hf1 j (by omega)
  have F : By h1 1664 16384 m c B := F.fr hf1 (by omega) (by omega)
  have R0 := (hk 1856 (by omega)).trans R0
  have ht1 : px_top h1 := ht.fr hf1 (fun j hj => by omega)
  refine px_wp_ok (sp := []) 60 _ _ _ _ _ ?_
  simp only [px_ev_nil, px_ev_i, px_ev_l, px_ev_n, px_ev_r, px_wp, px_step, px_tg, px_i1, px_i2, px_l1, px_l2, px_il, px_a1, px_ia, px_iia, px_lki, px_lkl, px_lka, px_lk, px_sto, px_ins, px_del, px_popn, px_inv, px_cat, px_obj, px_arr, px_arq, px_rfv, px_rok, px_tB, px_tI, px_tZ, px_tG, px_tS, px_S, lv_args, Value.category, List.contains_cons, List.contains_nil, List.getElem?_cons_zero, List.getElem?_cons_succ, List.set_cons_zero, List.set_cons_succ, List.length_cons, List.length_nil, List.map_cons, List.map_nil, List.sum_cons, List.sum_nil, List.cons_append, List.nil_append, Option.toList_some, Option.toList_none, px_hold, Fin.isValue, Fin.val_zero, Fin.val_one, Fin.val_two, Nat.reduceBEq, Nat.reduceAdd, Nat.reduceLT, Nat.reduceLeDiff, Nat.reduceEqDiff, Nat.reduceMod, Int.reduceNeg, Int.reduceAdd, Int.reduceLE, Int.reduceLT, Int.reduceToNat, Int.cast_ofNat_Int, Int.ofNat_eq_natCast, Bool.or_self, Bool.or_false, Bool.false_or, Bool.and_false, Bool.and_self, Bool.false_and, Bool.true_and, Bool.false_eq_true, Bool.true_eq_false, ↓reduceIte, reduceCtorEq, true_and, and_true, false_and, and_false, false_or, or_false, true_or, or_true, ne_eq, not_false_eq_true, not_true_eq_false, px_f0, px_f1, px_f2, px_f3, kc_L0, kc_L1, if_true, if_false, px_10, true_implies, false_implies, implies_true, on_88, mL_88, rt_88, dp_88, lc_88, nr_88, yn_88, rc_3, e88_0, e88_1, fd_3_9, e88_4, e88_5, kc_24, e88_7, e88_8, mt_3_80, kw_78, np_78, on_78, nr_78, fc_88_78, rc_0, e88_11, mt_3_123, kw_84, np_84, on_84, nr_84, fc_88_84, e88_14, e88_15, e88_16, fd_3_18, e88_19, e88_20, mt_3_127, kw_14, np_14, on_14, nr_14, fc_88_14, rc_1, e88_23, e88_24, e88_25, e88_28, e88_29, e88_30, e88_33, e88_34, kc_16, e88_36, e88_37, e88_40, e88_41, e88_43, e88_44, e88_45, e88_48, e88_49, kc_8, e88_51, e88_52, e88_55, e88_56, e88_57, e88_60, e88_61, kc_20, e88_63, e88_64, e88_67, e88_68, e88_70, e88_71, mt_3_167, kw_15, np_15, on_15, nr_15, fc_88_15, rc_4, e88_74, e88_75, fd_3_171, e88_78, e88_79, e88_82, e88_83, e88_86, e88_87, kc_4, e88_88, e88_89, e88_92, e88_93, e88_95, mt_3_174, kw_57, np_57, on_57, nr_57, fc_88_57, e88_98, e88_99, e88_102, e88_103, e88_106, fd_3_178, e88_109, e88_110, e88_113, e88_114, kc_28, e88_116, e88_117, e88_120, e88_121, mt_3_181, e88_124, fin_1_4, ft_1_4, e88_127, e88_128, fd_3_22, e88_131, e88_132, e88_133, e88_134, R0, F.1, n_p4, n_p8, n_p16, n_p20, n_p24, n_p28, lN_i, hS1.1]
  refine px_rd.use (r_u4 l F (k := tb + 32 * i + 4) (by omega)) (px_wp_ok (sp := []) 60 _ _ _ _ _ ?_)
  simp only [px_ev_nil, px_ev_i, px_ev_l, px_ev_n, px_ev_r, px_wp, px_step, px_tg, px_i1, px_i2, px_l1, px_l2, px_il, px_a1, px_ia, px_iia, px_lki, px_lkl, px_lka, px_lk, px_sto, px_ins, px_del, px_popn, px_inv, px_cat, px_obj, px_arr, px_arq, px_rfv, px_rok, px_tB, px_tI, px_tZ, px_tG, px_tS, px_S, lv_args, Value.category, List.contains_cons, List.contains_nil, List.getElem?_cons_zero, List.getElem?_cons_succ, List.set_cons_zero, List.set_cons_succ, List.length_cons, List.length_nil, List.map_cons, List.map_nil, List.sum_cons, List.sum_nil, List.cons_append, List.nil_append, Option.toList_some, Option.toList_none, px_hold, Fin.isValue, Fin.val_zero, Fin.val_one, Fin.val_two, Nat.reduceBEq, Nat.reduceAdd, Nat.reduceLT, Nat.reduceLeDiff, Nat.reduceEqDiff, Nat.reduceMod, Int.reduceNeg, Int.reduceAdd, Int.reduceLE, Int.reduceLT, Int.reduceToNat, Int.cast_ofNat_Int, Int.ofNat_eq_natCast, Bool.or_self, Bool.or_false, Bool.false_or, Bool.and_false, Bool.and_self, Bool.false_and, Bool.true_and, Bool.false_eq_true, Bool.true_eq_false, ↓reduceIte, reduceCtorEq, true_and, and_true, false_and, and_false, false_or, or_false, true_or, or_true, ne_eq, not_false_eq_true, not_true_eq_false, px_f0, px_f1, px_f2, px_f3, kc_L0, kc_L1, if_true, if_false, px_10, true_implies, false_implies, implies_true, on_88, mL_88, rt_88, dp_88, lc_88, nr_88, yn_88, rc_3, e88_0, e88_1, fd_3_9, e88_4, e88_5, kc_24, e88_7, e88_8, mt_3_80, kw_78, np_78, on_78, nr_78, fc_88_78, rc_0, e88_11, mt_3_123, kw_84, np_84, on_84, nr_84, fc_88_84, e88_14, e88_15, e88_16, fd_3_18, e88_19, e88_20, mt_3_127, kw_14, np_14, on_14, nr_14, fc_88_14, rc_1, e88_23, e88_24, e88_25, e88_28, e88_29, e88_30, e88_33, e88_34, kc_16, e88_36, e88_37, e88_40, e88_41, e88_43, e88_44, e88_45, e88_48, e88_49, kc_8, e88_51, e88_52, e88_55, e88_56, e88_57, e88_60, e88_61, kc_20, e88_63, e88_64, e88_67, e88_68, e88_70, e88_71, mt_3_167, kw_15, np_15, on_15, nr_15, fc_88_15, rc_4, e88_74, e88_75, fd_3_171, e88_78, e88_79, e88_82, e88_83, e88_86, e88_87, kc_4, e88_88, e88_89, e88_92, e88_93, e88_95, mt_3_174, kw_57, np_57, on_57, nr_57, fc_88_57, e88_98, e88_99, e88_102, e88_103, e88_106, fd_3_178, e88_109, e88_110, e88_113, e88_114, kc_28, e88_116, e88_117, e88_120, e88_121, mt_3_181, e88_124, fin_1_4, ft_1_4, e88_127, e88_128, fd_3_22, e88_131, e88_132, e88_133, e88_134, R0, F.1, n_p4, n_p8, n_p16, n_p20, n_p24, n_p28, lN_i, hS1.2.2.1.1, hk0]
  refine px_Ct.use (t_Bytes_addPart l hS1.2.2.1 F (by omega) (by omega) ht1 hb (by omega)) ?_
  rintro _ h2 mc2 ms2 ⟨rfl, hf2, n2, hn2, H2, hc2, hs2⟩
  have hS2 : Sg h2 (2048 + 128 * s) (prm s) n2 true (rU4 B (tb + 32 * i + 8)) (rU4 B (tb + 32 * i + 20) - rU4 B (tb + 32 * i + 16)) (rU4 B (tb + 32 * i + 16)) (fun j => B (rU4 B (tb + 32 * i + 4) + j)) := by
    refine ⟨(hf2 _ (by omega)).trans hS1.1, hS1.2.1, ?_, w8, by omega⟩
    rw [Nat.zero_add] at H2
    refine H2.congr fun j hj => ?_
    show _ = bapp _ 0 _ j
    unfold bapp
    rw [if_neg (by omega), Nat.sub_zero]
  have hf3 : px_fr (sgK (2048 + 128 * s)) h h2 := (hf1.mono fun j hj => Or.inl hj).tr (hf2.mono fun j hj => hj.elim (fun z => Or.inr (Or.inl z)) fun z => Or.inr (Or.inr z))
  have D2 := ImA.seg D hs3 hf3 hS2 (fun z => by cases z)
  have hk : ∀ j, j < 2048 → h2 j = h j := fun j hj => hf3 j (by unfold sgK; omega)
  have ht2 : px_top h2 := ht.fr hf3 (fun j hj => by unfold sgK at hj; omega)
  have HS2 : Stc h2 := HS.fr hf3 (fun j hj => by unfold sgK at hj; omega)
  have F : By h2 1664 16384 m c B := F.fr hf2 (by omega) (by omega)
  have R0 : h2 1856 = _ := (hf3 1856 (by unfold sgK; omega)).trans R
  have hg2 : h2 2496 = _ := (hf3 2496 (by unfold sgK; omega)).trans hg
  have D21 := D2.1
  have e1 : ∀ z, px_up h2 1920 z 1856 = h2 1856 := fun z => px_up_ne (by omega)
  have e2 : ∀ z, px_up h2 1920 z 2496 = h2 2496 := fun z => px_up_ne (by omega)
  refine px_wp_ok (sp := []) 60 _ _ _ _ _ ?_
  simp only [px_ev_nil, px_ev_i, px_ev_l, px_ev_n, px_ev_r, px_wp, px_step, px_tg, px_i1, px_i2, px_l1, px_l2, px_il, px_a1, px_ia, px_iia, px_lki, px_lkl, px_lka, px_lk, px_sto, px_ins, px_del, px_popn, px_inv, px_cat, px_obj, px_arr, px_arq, px_rfv, px_rok, px_tB, px_tI, px_tZ, px_tG, px_tS, px_S, lv_args, Value.category, List.contains_cons, List.contains_nil, List.getElem?_cons_zero, List.getElem?_cons_succ, List.set_cons_zero, List.set_cons_succ, List.length_cons, List.length_nil, List.map_cons, List.map_nil, List.sum_cons, List.sum_nil, List.cons_append, List.nil_append, Option.toList_some, Option.toList_none, px_hold, Fin.isValue, Fin.val_zero, Fin.val_one, Fin.val_two, Nat.reduceBEq, Nat.reduceAdd, Nat.reduceLT, Nat.reduceLeDiff, Nat.reduceEqDiff, Nat.reduceMod, Int.reduceNeg, Int.reduceAdd, Int.reduceLE, Int.reduceLT, Int.reduceToNat, Int.cast_ofNat_Int, Int.ofNat_eq_natCast, Bool.or_self, Bool.or_false, Bool.false_or, Bool.and_false, Bool.and_self, Bool.false_and, Bool.true_and, Bool.false_eq_true, Bool.true_eq_false, ↓reduceIte, reduceCtorEq, true_and, and_true, false_and, and_false, false_or, or_false, true_or, or_true, ne_eq, not_false_eq_true, not_true_eq_false, px_f0, px_f1, px_f2, px_f3, kc_L0, kc_L1, if_true, if_false, px_10, true_implies, false_implies, implies_true, on_88, mL_88, rt_88, dp_88, lc_88, nr_88, yn_88, rc_3, e88_0, e88_1, fd_3_9, e88_4, e88_5, kc_24, e88_7, e88_8, mt_3_80, kw_78, np_78, on_78, nr_78, fc_88_78, rc_0, e88_11, mt_3_123, kw_84, np_84, on_84, nr_84, fc_88_84, e88_14, e88_15, e88_16, fd_3_18, e88_19, e88_20, mt_3_127, kw_14, np_14, on_14, nr_14, fc_88_14, rc_1, e88_23, e88_24, e88_25, e88_28, e88_29, e88_30, e88_33, e88_34, kc_16, e88_36, e88_37, e88_40, e88_41, e88_43, e88_44, e88_45, e88_48, e88_49, kc_8, e88_51, e88_52, e88_55, e88_56, e88_57, e88_60, e88_61, kc_20, e88_63, e88_64, e88_67, e88_68, e88_70, e88_71, mt_3_167, kw_15, np_15, on_15, nr_15, fc_88_15, rc_4, e88_74, e88_75, fd_3_171, e88_78, e88_79, e88_82, e88_83, e88_86, e88_87, kc_4, e88_88, e88_89, e88_92, e88_93, e88_95, mt_3_174, kw_57, np_57, on_57, nr_57, fc_88_57, e88_98, e88_99, e88_102, e88_103, e88_106, fd_3_178, e88_109, e88_110, e88_113, e88_114, kc_28, e88_116, e88_117, e88_120, e88_121, mt_3_181, e88_124, fin_1_4, ft_1_4, e88_127, e88_128, fd_3_22, e88_131, e88_132, e88_133, e88_134, R0, F.1, n_p4, n_p8, n_p16, n_p20, n_p24, n_p28, lN_i, D21]
  refine px_rd.use (r_u4 l F (k := tb + 32 * i + 28) (by omega)) (px_wp_ok (sp := []) 60 _ _ _ _ _ ?_)
  simp only [px_ev_nil, px_ev_i, px_ev_l, px_ev_n, px_ev_r, px_wp, px_step, px_tg, px_i1, px_i2, px_l1, px_l2, px_il, px_a1, px_ia, px_iia, px_lki, px_lkl, px_lka, px_lk, px_sto, px_ins, px_del, px_popn, px_inv, px_cat, px_obj, px_arr, px_arq, px_rfv, px_rok, px_tB, px_tI, px_tZ, px_tG, px_tS, px_S, lv_args, Value.category, List.contains_cons, List.contains_nil, List.getElem?_cons_zero, List.getElem?_cons_succ, List.set_cons_zero, List.set_cons_succ, List.length_cons, List.length_nil, List.map_cons, List.map_nil, List.sum_cons, List.sum_nil, List.cons_append, List.nil_append, Option.toList_some, Option.toList_none, px_hold, Fin.isValue, Fin.val_zero, Fin.val_one, Fin.val_two, Nat.reduceBEq, Nat.reduceAdd, Nat.reduceLT, Nat.reduceLeDiff, Nat.reduceEqDiff, Nat.reduceMod, Int.reduceNeg, Int.reduceAdd, Int.reduceLE, Int.reduceLT, Int.reduceToNat, Int.cast_ofNat_Int, Int.ofNat_eq_natCast, Bool.or_self, Bool.or_false, Bool.false_or, Bool.and_false, Bool.and_self, Bool.false_and, Bool.true_and, Bool.false_eq_true, Bool.true_eq_false, ↓reduceIte, reduceCtorEq, true_and, and_true, false_and, and_false, false_or, or_false, true_or, or_true, ne_eq, not_false_eq_true, not_true_eq_false, px_f0, px_f1, px_f2, px_f3, kc_L0, kc_L1, if_true, if_false, px_10, true_implies, false_implies, implies_true, on_88, mL_88, rt_88, dp_88, lc_88, nr_88, yn_88, rc_3, e88_0, e88_1, fd_3_9, e88_4, e88_5, kc_24, e88_7, e88_8, mt_3_80, kw_78, np_78, on_78, nr_78, fc_88_78, rc_0, e88_11, mt_3_123, kw_84, np_84, on_84, nr_84, fc_88_84, e88_14, e88_15, e88_16, fd_3_18, e88_19, e88_20, mt_3_127, kw_14, np_14, on_14, nr_14, fc_88_14, rc_1, e88_23, e88_24, e88_25, e88_28, e88_29, e88_30, e88_33, e88_34, kc_16, e88_36, e88_37, e88_40, e88_41, e88_43, e88_44, e88_45, e88_48, e88_49, kc_8, e88_51, e88_52, e88_55, e88_56, e88_57, e88_60, e88_61, kc_20, e88_63, e88_64, e88_67, e88_68, e88_70, e88_71, mt_3_167, kw_15, np_15, on_15, nr_15, fc_88_15, rc_4, e88_74, e88_75, fd_3_171, e88_78, e88_79, e88_82, e88_83, e88_86, e88_87, kc_4, e88_88, e88_89, e88_92, e88_93, e88_95, mt_3_174, kw_57, np_57, on_57, nr_57, fc_88_57, e88_98, e88_99, e88_102, e88_103, e88_106, fd_3_178, e88_109, e88_110, e88_113, e88_114, kc_28, e88_116, e88_117, e88_120, e88_121, mt_3_181, e88_124, fin_1_4, ft_1_4, e88_127, e88_128, fd_3_22, e88_131, e88_132, e88_133, e88_134, R0, F.1, n_p4, n_p8, n_p16, n_p20, n_p24, n_p28, lN_i, D21, e1, e2, hg2, hin, es, px_fit_int]
  have hP := isPg_le hpg
  have hP2 := D2.2.2.2.2.2.2
  have em : (if nI (imP (imS (drI B T mk) s true (rU4 B (tb + 32 * i + 8)) (rU4 B (tb + 32 * i + 20) - rU4 B (tb + 32 * i + 16)) (rU4 B (tb + 32 * i + 16)) (fun j => B (rU4 B (tb + 32 * i + 4) + j)))) < nI (rU4 B (tb + 32 * i + 28)) then nI (rU4 B (tb + 32 * i + 28)) else nI (imP (imS (drI B T mk) s true (rU4 B (tb + 32 * i + 8)) (rU4 B (tb + 32 * i + 20) - rU4 B (tb + 32 * i + 16)) (rU4 B (tb + 32 * i + 16)) (fun j => B (rU4 B (tb + 32 * i + 4) + j))))) = nI (max (drP B T) (rU4 B (tb + 32 * i + 28))) := by
    have hP2 : 1 ≤ drP B T ∧ drP B T ≤ 4096 := hP2
    show (if nI (drP B T) < nI (rU4 B (tb + 32 * i + 28)) then nI (rU4 B (tb + 32 * i + 28)) else nI (drP B T)) = _
    split
    · rename_i q
      rw [nI_ltI (by omega) (by omega)] at q
      rw [Nat.max_eq_right (by omega)]
    · rename_i q
      rw [nI_ltI (by omega) (by omega)] at q
      rw [Nat.max_eq_left (by omega)]
  rw [em]
  have hP2 : 1 ≤ drP B T ∧ drP B T ≤ 4096 := hP2
  have D3 := ImA.ep (e' := nI (rU4 B 24)) (P' := max (drP B T) (rU4 B (tb + 32 * i + 28))) D2 (by omega) (by omega)
  have hfg : ∀ (u : px_H) z, px_fr (fun j => j = 2496) u (px_up u 2496 z) := fun u z => px_fr.rf.up rfl
  have hfd : ∀ z, px_fr (fun j => j = 1920) h2 (px_up h2 1920 z) := fun z => px_fr.rf.up rfl
  refine ⟨rfl, ((hf3.mono fun j hj => ?_).up (Or.inr (Or.inr ⟨by omega, by omega⟩))).up (Or.inr (Or.inl rfl)), fup ns s n2, fun q hq => ?_, ?_, ?_, s, rfl, (ht2.up (by omega)).up (by omega), (HS2.fr (hfd _) (fun j hj => by omega)).fr (hfg _ _) (fun j hj => by omega), (F.fr (hfd _) (by omega) (by omega)).fr (hfg _ _) (by omega) (by omega), ⟨nb, nl, ?_, fun p hp => ?_⟩, ⟨_, px_up_self, fun q p hq hp => ?_⟩, (D3.fr (hfg _ _) (fun j hj => by unfold imQ at hj; omega)).congr ?_ (fun _ _ => rfl), fun q p hq hp => ?_, hc⟩
  · unfold sgK at hj
    exact Or.inr (Or.inr ⟨by omega, by omega⟩)
  · by_cases e : q = s
    · subst e; rw [fup_s]; omega
    · rw [fup_n e]; exact Nat.le_refl _
  · have := Phi_up (ns := ns) (n' := n2) hs3
    omega
  · have := Phi_up (ns := ns) (n' := n2) hs3
    omega
  · unfold rdO
    rw [fup_n (by omega), px_up_ne (by omega), px_up_ne (by omega)]
    exact R0
  · rw [fup_n (by omega)] at hp
    exact hR p hp
  · by_cases e : q = s
    · subst e
      rw [fup_s] at hp
      cases hp
      rw [pk_us]
    · rw [fup_n e] at hp
      rw [pk_un e]
      exact hgs q p hq hp
  · refine ⟨fun q hq => ?_, fun _ _ => rfl, rfl, ?_⟩
    · by_cases e : q = s
      · subst e
        have x1 : rwv B (fup T q (some (tb + 32 * i)) q) = rwv B (some (tb + 32 * i)) := by rw [fup_s]
        refine ⟨?_, ?_, ?_, ?_, fun j hj => ?_⟩
        · show (fup T q (some (tb + 32 * i)) q).isSome = fup (imT (drI B T mk)) q true q
          rw [fup_s, fup_s]; rfl
        · show rwv B (fup T q (some (tb + 32 * i)) q) 8 = fup (imA (drI B T mk)) q _ q
          rw [x1, fup_s]; rfl
        · show rwv B (fup T q (some (tb + 32 * i)) q) 20 - rwv B (fup T q (some (tb + 32 * i)) q) 16 = fup (imM (drI B T mk)) q _ q
          rw [x1, fup_s]; rfl
        · show rwv B (fup T q (some (tb + 32 * i)) q) 16 = fup (imC (drI B T mk)) q _ q
          rw [x1, fup_s]; rfl
        · show B (rwv B (fup T q (some (tb + 32 * i)) q) 4 + j) = fup (imB (drI B T mk)) q _ q j
          rw [x1, fup_s]; rfl
      · have x1 : fup T s (some (tb + 32 * i)) q = T q := fup_n e
        refine ⟨?_, ?_, ?_, ?_, fun j hj => ?_⟩
        · show (fup T s (some (tb + 32 * i)) q).isSome = fup (imT (drI B T mk)) s true q
          rw [x1, fup_n e]; rfl
        · show rwv B (fup T s (some (tb + 32 * i)) q) 8 = fup (imA (drI B T mk)) s _ q
          rw [x1, fup_n e]; rfl
        · show rwv B (fup T s (some (tb + 32 * i)) q) 20 - rwv B (fup T s (some (tb + 32 * i)) q) 16 = fup (imM (drI B T mk)) s _ q
          rw [x1, fup_n e]; rfl
        · show rwv B (fup T s (some (tb + 32 * i)) q) 16 = fup (imC (drI B T mk)) s _ q
          rw [x1, fup_n e]; rfl
        · show B (rwv B (fup T s (some (tb + 32 * i)) q) 4 + j) = fup (imB (drI B T mk)) s _ q j
          rw [x1, fup_n e]; rfl
    · show drP B (fup T s (some (tb + 32 * i))) = max (drP B T) (rU4 B (tb + 32 * i + 28))
      have y0 : rwv B none 28 = 0 := rfl
      have y1 : rwv B (some (tb + 32 * i)) 28 = rU4 B (tb + 32 * i + 28) := rfl
      unfold drP
      rcases (show s = 0 ∨ s = 1 ∨ s = 2 by omega) with rfl | rfl | rfl
      · rw [fup_s, fup_n (by omega), fup_n (by omega), hTs, y0, y1]
        omega
      · rw [fup_s, fup_n (by omega), fup_n (by omega), hTs, y0, y1]
        omega
      · rw [fup_s, fup_n (by omega), fup_n (by omega), hTs, y0, y1]
        omega
  · by_cases e : q = s
    · subst e
      rw [fup_s] at hp
      cases hp
      exact ⟨⟨i, hi, rfl⟩, hb, fun _ => ⟨w8, w16, w20, w21, hpg⟩⟩
    · rw [fup_n e] at hp
      exact hT q p hq hp
