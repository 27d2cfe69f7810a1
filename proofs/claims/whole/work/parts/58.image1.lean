/-! ImageFile$Image: an image's picture; what is looked at without a loop -/
abbrev Im : Type := (Nat → Bool) × (Nat → Nat) × (Nat → Nat) × (Nat → Nat) × (Nat → Nat → Nat) × (Nat → Bool) × Int32 × Nat
def imT (I : Im) : Nat → Bool := I.1
def imA (I : Im) : Nat → Nat := I.2.1
def imM (I : Im) : Nat → Nat := I.2.2.1
def imC (I : Im) : Nat → Nat := I.2.2.2.1
def imB (I : Im) : Nat → Nat → Nat := I.2.2.2.2.1
def imK (I : Im) : Nat → Bool := I.2.2.2.2.2.1
def imE (I : Im) : Int32 := I.2.2.2.2.2.2.1
def imP (I : Im) : Nat := I.2.2.2.2.2.2.2
def prm (s : Nat) : Nat := if s = 0 then 5 else if s = 1 then 4 else 6
def Mk (h : px_H) (q : Nat) (mk : Nat → Bool) : Prop := ∃ f : Nat → Int32, h q = some (.inl (px_tB, 256, .inl f)) ∧ (∀ j, j < 256 → -128 ≤ (f j).toInt ∧ (f j).toInt ≤ 127) ∧ ∀ k, k < 2048 → (f (k / 8)).toBitVec.getLsbD (k % 8) = mk k
def ImA (h : px_H) (i : Nat) (ns : Nat → Nat) (I : Im) : Prop :=
  h i = some (.inr (1, [.ref (i + 64), .ref (i + 128), .ref (i + 512), .int (imE I), .int (nI (imP I))])) ∧ i % 64 = 0 ∧
  (∃ F : Nat → Option Nat, h (i + 64) = some (.inl (px_tG, 3, .inr (.inr (.inr (.inr F))))) ∧ ∀ s, s < 3 → F s = some (i + 128 + 128 * s)) ∧
  (∀ s, s < 3 → Sg h (i + 128 + 128 * s) (prm s) (ns s) (imT I s) (imA I s) (imM I s) (imC I s) (imB I s)) ∧
  Mk h (i + 512) (imK I) ∧ (∀ s, s < 3 → imT I s = false → imA I s = 0 ∧ imM I s = 0 ∧ imC I s = 0) ∧ 1 ≤ imP I ∧ imP I ≤ 4096
/-- the keys of an image -/
def imQ (i j : Nat) : Prop := i ≤ j ∧ j < i + 576
theorem ImA.text {h : px_H} {i : Nat} {ns : Nat → Nat} {I : Im} (H : ImA h i ns I) : Sg h (i + 128) 5 (ns 0) (imT I 0) (imA I 0) (imM I 0) (imC I 0) (imB I 0) := H.2.2.2.1 0 (by omega)
theorem ImA.fr {P : Nat → Prop} {h h' : px_H} {i : Nat} {ns : Nat → Nat} {I : Im} (H : ImA h i ns I) (hf : px_fr P h h') (hP : ∀ j, imQ i j → ¬ P j) : ImA h' i ns I := by
  obtain ⟨h1, h2, ⟨F, h3, h4⟩, h5, ⟨f, h6, h7⟩, h8⟩ := H
  have e : ∀ j, i ≤ j → j < i + 576 → h' j = h j := fun j a b => hf j (hP j ⟨a, b⟩)
  refine ⟨by rw [e i (by omega) (by omega)]; exact h1, h2, ⟨F, by rw [e _ (by omega) (by omega)]; exact h3, h4⟩, fun s hs => (h5 s hs).fr hf ?_, ⟨f, by rw [e _ (by omega) (by omega)]; exact h6, h7⟩, h8⟩
  intro j hj
  unfold sgK at hj
  exact hP j ⟨by omega, by omega⟩
theorem ImA.cn {h : px_H} {i : Nat} {ns : Nat → Nat} {I : Im} (H : ImA h i ns I) {s : Nat} (hs : s < 3) : imC I s ≤ 4096 ∧ imA I s < 131072 ∧ imM I s ≤ 32768 := by
  have h1 := H.2.2.2.1 s hs
  have h2 := h1.2.2.1
  exact ⟨Nat.le_trans h2.2.2.1 h2.2.2.2.1, h1.2.2.2.1, h1.2.2.2.2⟩
theorem i_andp (a : Int32) {m : Int32} (k : Nat) (hm : m.toBitVec.toNat = 2 ^ k - 1) (hk : k ≤ 30) : (a &&& m).toInt = a.toInt % 2 ^ k := by
  have hlt : a.toBitVec.toNat % 2 ^ k < 2 ^ 31 := Nat.lt_of_lt_of_le (Nat.mod_lt _ (Nat.two_pow_pos k)) (Nat.pow_le_pow_right (by decide) (by omega))
  rw [pk_and a k hm, nI_toInt hlt]
  have h1 : a.toInt = a.toBitVec.toInt := rfl
  rw [h1, BitVec.toInt_eq_toNat_cond]
  split
  · simp
  · have h2 : ((2 : Int) ^ 32) = 2 ^ k * 2 ^ (32 - k) := by rw [← Int.pow_add]; congr 1; omega
    have h3 : ((a.toBitVec.toNat : Int) - ((2 ^ 32 : Nat) : Int)) = a.toBitVec.toNat - 2 ^ k * 2 ^ (32 - k) := by rw [← h2]; simp
    rw [h3, Int.sub_mul_emod_self_left]
    simp
theorem i_bit (x : Int32) {j : Nat} (hj : j < 31) : (x &&& nI (2 ^ j) = 0) ↔ x.toBitVec.getLsbD j = false := by
  have e : (nI (2 ^ j)).toBitVec = BitVec.twoPow 32 j := by
    apply BitVec.eq_of_toNat_eq
    have hlt : 2 ^ j < 2 ^ 32 := Nat.pow_lt_pow_right (by decide) (by omega)
    rw [pk_tn hlt, BitVec.toNat_twoPow, Nat.mod_eq_of_lt hlt]
  have e0 : (x &&& nI (2 ^ j) = 0) ↔ x.toBitVec &&& BitVec.twoPow 32 j = 0#32 := by
    rw [← Int32.toBitVec_inj, Int32.toBitVec_and, e]
    exact Iff.rfl
  rw [e0, BitVec.and_twoPow]
  cases x.toBitVec.getLsbD j with
  | false => simp
  | true =>
    simp only [if_true, Bool.true_eq_false, iff_false]
    intro q
    have h1 := congrArg BitVec.toNat q
    have hlt : 2 ^ j < 2 ^ 32 := Nat.pow_lt_pow_right (by decide) (by omega)
    rw [BitVec.toNat_twoPow, Nat.mod_eq_of_lt hlt] at h1
    have := Nat.two_pow_pos j
    simp at h1
set_option maxRecDepth 100000 in
set_option maxHeartbeats 4000000 in
theorem t_Image_segmentOrNull (l : Launch) {h : px_H} {i : Nat} {ns : Nat → Nat} {I : Im} {s : Int32} (H : ImA h i ns I) : px_rd l 14 [.ref i, .int s] h (if 0 ≤ s.toInt ∧ s.toInt < 3 then .ref (i + 128 + 128 * s.toInt.toNat) else .null) := by
  obtain ⟨h1, h2, ⟨F, h3, h4⟩, -⟩ := H
  refine px_Ct.of (by decide) (Nat.le_of_ble_eq_true rfl) (px_wp_ok (sp := [18]) 60 _ _ _ _ _ ?_)
  simp only [px_ev_nil, px_ev_i, px_ev_l, px_ev_n, px_ev_r, px_wp, px_step, px_tg, px_i1, px_i2, px_l1, px_l2, px_il, px_a1, px_ia, px_iia, px_lki, px_lkl, px_lka, px_lk, px_sto, px_ins, px_del, px_popn, px_inv, px_cat, px_obj, px_arr, px_arq, px_rfv, px_rok, px_tB, px_tI, px_tZ, px_tG, px_tS, px_S, lv_args, Value.category, List.contains_cons, List.contains_nil, List.getElem?_cons_zero, List.getElem?_cons_succ, List.set_cons_zero, List.set_cons_succ, List.length_cons, List.length_nil, List.map_cons, List.map_nil, List.sum_cons, List.sum_nil, List.cons_append, List.nil_append, Option.toList_some, Option.toList_none, px_hold, Fin.isValue, Fin.val_zero, Fin.val_one, Fin.val_two, Nat.reduceBEq, Nat.reduceAdd, Nat.reduceLT, Nat.reduceLeDiff, Nat.reduceEqDiff, Nat.reduceMod, Int.reduceNeg, Int.reduceAdd, Int.reduceLE, Int.reduceLT, Int.reduceToNat, Int.cast_ofNat_Int, Int.ofNat_eq_natCast, Bool.or_self, Bool.or_false, Bool.false_or, Bool.and_false, Bool.and_self, Bool.false_and, Bool.true_and, Bool.false_eq_true, Bool.true_eq_false, ↓reduceIte, reduceCtorEq, true_and, and_true, false_and, and_false, false_or, or_false, true_or, or_true, ne_eq, not_false_eq_true, not_true_eq_false, px_f0, px_f1, px_f2, px_f3, kc_L0, kc_L1, if_true, if_false, px_10, true_implies, false_implies, implies_true, on_14, mL_14, rt_14, dp_14, lc_14, nr_14, yn_14, rc_1, e14_0, e14_1, e14_4, e14_5, kc_3, e14_6, e14_9, e14_10, e14_13, e14_14, fd_1_11, e14_17, e14_18, e14_19, h1]
  refine ⟨fun q => ?_, fun q => ⟨fun q2 => ?_, fun q2 => ?_⟩⟩
  · simp only [i_lt, i_le, i_eq, i_cl, vp_in, kt_m6, kt_m4, kt_m1, kt_0, kt_1, kt_2, kt_3, kt_4, kt_5, kt_6, kt_7, kt_8, kt_9, kt_10, kt_11, kt_12, kt_13, kt_14, kt_15, kt_16, kt_17, kt_18, kt_19, kt_20, kt_21, kt_22, kt_23, kt_24, kt_25, kt_26, kt_27, kt_28, kt_29, kt_30, kt_31, kt_32, kt_36, kt_40, kt_42, kt_44, kt_46, kt_52, kt_56, kt_69, kt_70, kt_76, kt_77, kt_97, kt_107, kt_114, kt_115, kt_127, kt_243, kt_255, kt_256, kt_2048, kt_4094, kt_4095, kt_4096, kt_12288, kt_16384, kt_24576] at q
    rw [if_neg (by omega)]
  · simp only [i_lt, i_le, i_eq, i_cl, vp_in, kt_m6, kt_m4, kt_m1, kt_0, kt_1, kt_2, kt_3, kt_4, kt_5, kt_6, kt_7, kt_8, kt_9, kt_10, kt_11, kt_12, kt_13, kt_14, kt_15, kt_16, kt_17, kt_18, kt_19, kt_20, kt_21, kt_22, kt_23, kt_24, kt_25, kt_26, kt_27, kt_28, kt_29, kt_30, kt_31, kt_32, kt_36, kt_40, kt_42, kt_44, kt_46, kt_52, kt_56, kt_69, kt_70, kt_76, kt_77, kt_97, kt_107, kt_114, kt_115, kt_127, kt_243, kt_255, kt_256, kt_2048, kt_4094, kt_4095, kt_4096, kt_12288, kt_16384, kt_24576] at q q2
    rw [if_pos (by omega)]
    refine px_aaload e14_18 h3 (by simp only [i_lt, i_le, i_eq, i_cl, vp_in, kt_m6, kt_m4, kt_m1, kt_0, kt_1, kt_2, kt_3, kt_4, kt_5, kt_6, kt_7, kt_8, kt_9, kt_10, kt_11, kt_12, kt_13, kt_14, kt_15, kt_16, kt_17, kt_18, kt_19, kt_20, kt_21, kt_22, kt_23, kt_24, kt_25, kt_26, kt_27, kt_28, kt_29, kt_30, kt_31, kt_32, kt_36, kt_40, kt_42, kt_44, kt_46, kt_52, kt_56, kt_69, kt_70, kt_76, kt_77, kt_97, kt_107, kt_114, kt_115, kt_127, kt_243, kt_255, kt_256, kt_2048, kt_4094, kt_4095, kt_4096, kt_12288, kt_16384, kt_24576]; omega) ?_
    rw [i_cl, h4 _ (by omega)]
    refine px_wp_ok (sp := []) 20 _ _ _ _ _ ?_
    simp only [px_ev_nil, px_ev_i, px_ev_l, px_ev_n, px_ev_r, px_wp, px_step, px_tg, px_i1, px_i2, px_l1, px_l2, px_il, px_a1, px_ia, px_iia, px_lki, px_lkl, px_lka, px_lk, px_sto, px_ins, px_del, px_popn, px_inv, px_cat, px_obj, px_arr, px_arq, px_rfv, px_rok, px_tB, px_tI, px_tZ, px_tG, px_tS, px_S, lv_args, Value.category, List.contains_cons, List.contains_nil, List.getElem?_cons_zero, List.getElem?_cons_succ, List.set_cons_zero, List.set_cons_succ, List.length_cons, List.length_nil, List.map_cons, List.map_nil, List.sum_cons, List.sum_nil, List.cons_append, List.nil_append, Option.toList_some, Option.toList_none, px_hold, Fin.isValue, Fin.val_zero, Fin.val_one, Fin.val_two, Nat.reduceBEq, Nat.reduceAdd, Nat.reduceLT, Nat.reduceLeDiff, Nat.reduceEqDiff, Nat.reduceMod, Int.reduceNeg, Int.reduceAdd, Int.reduceLE, Int.reduceLT, Int.reduceToNat, Int.cast_ofNat_Int, Int.ofNat_eq_natCast, Bool.or_self, Bool.or_false, Bool.false_or, Bool.and_false, Bool.and_self, Bool.false_and, Bool.true_and, Bool.false_eq_true, Bool.true_eq_false, ↓reduceIte, reduceCtorEq, true_and, and_true, false_and, and_false, false_or, or_false, true_or, or_true, ne_eq, not_false_eq_true, not_true_eq_false, px_f0, px_f1, px_f2, px_f3, kc_L0, kc_L1, if_true, if_false, px_10, true_implies, false_implies, implies_true, on_14, mL_14, rt_14, dp_14, lc_14, nr_14, yn_14, rc_1, e14_0, e14_1, e14_4, e14_5, kc_3, e14_6, e14_9, e14_10, e14_13, e14_14, fd_1_11, e14_17, e14_18, e14_19, va_rf]
  · simp only [i_lt, i_le, i_eq, i_cl, vp_in, kt_m6, kt_m4, kt_m1, kt_0, kt_1, kt_2, kt_3, kt_4, kt_5, kt_6, kt_7, kt_8, kt_9, kt_10, kt_11, kt_12, kt_13, kt_14, kt_15, kt_16, kt_17, kt_18, kt_19, kt_20, kt_21, kt_22, kt_23, kt_24, kt_25, kt_26, kt_27, kt_28, kt_29, kt_30, kt_31, kt_32, kt_36, kt_40, kt_42, kt_44, kt_46, kt_52, kt_56, kt_69, kt_70, kt_76, kt_77, kt_97, kt_107, kt_114, kt_115, kt_127, kt_243, kt_255, kt_256, kt_2048, kt_4094, kt_4095, kt_4096, kt_12288, kt_16384, kt_24576] at q q2
    rw [if_neg (by omega)]
/-- an offset that can have a mark -/
def okm (o : Int) : Bool := decide (0 ≤ o ∧ o < 4096 ∧ o % 2 = 0)
set_option maxRecDepth 100000 in
set_option maxHeartbeats 4000000 in
theorem t_Image_canHaveMark (l : Launch) {h : px_H} {o : Int32} : px_rd l 22 [.int o] h (.int (bI (okm o.toInt))) := by
  have e1 := i_andp o (m := 1) 1 (by decide) (by decide)
  refine px_Ct.of (by decide) (Nat.le_of_ble_eq_true rfl) (px_wp_ok (sp := []) 60 _ _ _ _ _ ?_)
  simp only [px_ev_nil, px_ev_i, px_ev_l, px_ev_n, px_ev_r, px_wp, px_step, px_tg, px_i1, px_i2, px_l1, px_l2, px_il, px_a1, px_ia, px_iia, px_lki, px_lkl, px_lka, px_lk, px_sto, px_ins, px_del, px_popn, px_inv, px_cat, px_obj, px_arr, px_arq, px_rfv, px_rok, px_tB, px_tI, px_tZ, px_tG, px_tS, px_S, lv_args, Value.category, List.contains_cons, List.contains_nil, List.getElem?_cons_zero, List.getElem?_cons_succ, List.set_cons_zero, List.set_cons_succ, List.length_cons, List.length_nil, List.map_cons, List.map_nil, List.sum_cons, List.sum_nil, List.cons_append, List.nil_append, Option.toList_some, Option.toList_none, px_hold, Fin.isValue, Fin.val_zero, Fin.val_one, Fin.val_two, Nat.reduceBEq, Nat.reduceAdd, Nat.reduceLT, Nat.reduceLeDiff, Nat.reduceEqDiff, Nat.reduceMod, Int.reduceNeg, Int.reduceAdd, Int.reduceLE, Int.reduceLT, Int.reduceToNat, Int.cast_ofNat_Int, Int.ofNat_eq_natCast, Bool.or_self, Bool.or_false, Bool.false_or, Bool.and_false, Bool.and_self, Bool.false_and, Bool.true_and, Bool.false_eq_true, Bool.true_eq_false, ↓reduceIte, reduceCtorEq, true_and, and_true, false_and, and_false, false_or, or_false, true_or, or_true, ne_eq, not_false_eq_true, not_true_eq_false, px_f0, px_f1, px_f2, px_f3, kc_L0, kc_L1, if_true, if_false, px_10, true_implies, false_implies, implies_true, on_22, mL_22, rt_22, dp_22, lc_22, nr_22, yn_22, rc_1, e22_0, e22_1, e22_4, e22_5, kc_4096, e22_8, e22_11, e22_12, kc_1, e22_13, e22_14, e22_17, e22_18, e22_21, kc_0, e22_22]
  refine ⟨fun q => ?_, fun q => ⟨fun q2 => ?_, fun q2 => ⟨fun q3 => ?_, fun q3 => ?_⟩⟩⟩
  · simp only [i_lt, i_le, i_eq, i_cl, vp_in, kt_m6, kt_m4, kt_m1, kt_0, kt_1, kt_2, kt_3, kt_4, kt_5, kt_6, kt_7, kt_8, kt_9, kt_10, kt_11, kt_12, kt_13, kt_14, kt_15, kt_16, kt_17, kt_18, kt_19, kt_20, kt_21, kt_22, kt_23, kt_24, kt_25, kt_26, kt_27, kt_28, kt_29, kt_30, kt_31, kt_32, kt_36, kt_40, kt_42, kt_44, kt_46, kt_52, kt_56, kt_69, kt_70, kt_76, kt_77, kt_97, kt_107, kt_114, kt_115, kt_127, kt_243, kt_255, kt_256, kt_2048, kt_4094, kt_4095, kt_4096, kt_12288, kt_16384, kt_24576] at q
    rw [okm, decide_eq_false (by omega)]; rfl
  · simp only [i_lt, i_le, i_eq, i_cl, vp_in, kt_m6, kt_m4, kt_m1, kt_0, kt_1, kt_2, kt_3, kt_4, kt_5, kt_6, kt_7, kt_8, kt_9, kt_10, kt_11, kt_12, kt_13, kt_14, kt_15, kt_16, kt_17, kt_18, kt_19, kt_20, kt_21, kt_22, kt_23, kt_24, kt_25, kt_26, kt_27, kt_28, kt_29, kt_30, kt_31, kt_32, kt_36, kt_40, kt_42, kt_44, kt_46, kt_52, kt_56, kt_69, kt_70, kt_76, kt_77, kt_97, kt_107, kt_114, kt_115, kt_127, kt_243, kt_255, kt_256, kt_2048, kt_4094, kt_4095, kt_4096, kt_12288, kt_16384, kt_24576] at q2
    rw [okm, decide_eq_false (by omega)]; rfl
  · simp only [i_lt, i_le, i_eq, i_cl, vp_in, kt_m6, kt_m4, kt_m1, kt_0, kt_1, kt_2, kt_3, kt_4, kt_5, kt_6, kt_7, kt_8, kt_9, kt_10, kt_11, kt_12, kt_13, kt_14, kt_15, kt_16, kt_17, kt_18, kt_19, kt_20, kt_21, kt_22, kt_23, kt_24, kt_25, kt_26, kt_27, kt_28, kt_29, kt_30, kt_31, kt_32, kt_36, kt_40, kt_42, kt_44, kt_46, kt_52, kt_56, kt_69, kt_70, kt_76, kt_77, kt_97, kt_107, kt_114, kt_115, kt_127, kt_243, kt_255, kt_256, kt_2048, kt_4094, kt_4095, kt_4096, kt_12288, kt_16384, kt_24576, e1] at q3
    rw [okm, decide_eq_false (by omega)]; rfl
  · simp only [i_lt, i_le, i_eq, i_cl, vp_in, kt_m6, kt_m4, kt_m1, kt_0, kt_1, kt_2, kt_3, kt_4, kt_5, kt_6, kt_7, kt_8, kt_9, kt_10, kt_11, kt_12, kt_13, kt_14, kt_15, kt_16, kt_17, kt_18, kt_19, kt_20, kt_21, kt_22, kt_23, kt_24, kt_25, kt_26, kt_27, kt_28, kt_29, kt_30, kt_31, kt_32, kt_36, kt_40, kt_42, kt_44, kt_46, kt_52, kt_56, kt_69, kt_70, kt_76, kt_77, kt_97, kt_107, kt_114, kt_115, kt_127, kt_243, kt_255, kt_256, kt_2048, kt_4094, kt_4095, kt_4096, kt_12288, kt_16384, kt_24576, e1] at q q2 q3
    rw [okm, decide_eq_true (by omega)]; rfl
set_option maxRecDepth 100000 in
set_option maxHeartbeats 4000000 in
theorem t_Image_markBit (l : Launch) {h : px_H} {n : Nat} (hn : n < 4096) : px_rd l 24 [.int (nI n)] h (.int (nI (2 ^ (n / 2 % 8)))) := by
  refine px_Ct.of (by decide) (Nat.le_of_ble_eq_true rfl) (px_wp_ok (sp := []) 60 _ _ _ _ _ ?_)
  simp only [px_ev_nil, px_ev_i, px_ev_l, px_ev_n, px_ev_r, px_wp, px_step, px_tg, px_i1, px_i2, px_l1, px_l2, px_il, px_a1, px_ia, px_iia, px_lki, px_lkl, px_lka, px_lk, px_sto, px_ins, px_del, px_popn, px_inv, px_cat, px_obj, px_arr, px_arq, px_rfv, px_rok, px_tB, px_tI, px_tZ, px_tG, px_tS, px_S, lv_args, Value.category, List.contains_cons, List.contains_nil, List.getElem?_cons_zero, List.getElem?_cons_succ, List.set_cons_zero, List.set_cons_succ, List.length_cons, List.length_nil, List.map_cons, List.map_nil, List.sum_cons, List.sum_nil, List.cons_append, List.nil_append, Option.toList_some, Option.toList_none, px_hold, Fin.isValue, Fin.val_zero, Fin.val_one, Fin.val_two, Nat.reduceBEq, Nat.reduceAdd, Nat.reduceLT, Nat.reduceLeDiff, Nat.reduceEqDiff, Nat.reduceMod, Int.reduceNeg, Int.reduceAdd, Int.reduceLE, Int.reduceLT, Int.reduceToNat, Int.cast_ofNat_Int, Int.ofNat_eq_natCast, Bool.or_self, Bool.or_false, Bool.false_or, Bool.and_false, Bool.and_self, Bool.false_and, Bool.true_and, Bool.false_eq_true, Bool.true_eq_false, ↓reduceIte, reduceCtorEq, true_and, and_true, false_and, and_false, false_or, or_false, true_or, or_true, ne_eq, not_false_eq_true, not_true_eq_false, px_f0, px_f1, px_f2, px_f3, kc_L0, kc_L1, if_true, if_false, px_10, true_implies, false_implies, implies_true, on_24, mL_24, rt_24, dp_24, lc_24, nr_24, yn_24, rc_1, e24_0, kc_1, e24_1, e24_2, e24_3, e24_4, kc_7, e24_6, e24_7, e24_8]
  rw [pk_shrN (by omega) _ 1 (by decide), show n / 2 ^ 1 = n / 2 by omega, pk_andN (by omega) (m := 7) 3 (by decide)]
  have hj : n / 2 % 2 ^ 3 < 8 := by omega
  generalize hz : n / 2 % 2 ^ 3 = z at hj ⊢
  have hz2 : n / 2 % 8 = z := by omega
  rcases (show z = 0 ∨ z = 1 ∨ z = 2 ∨ z = 3 ∨ z = 4 ∨ z = 5 ∨ z = 6 ∨ z = 7 by omega) with rfl | rfl | rfl | rfl | rfl | rfl | rfl | rfl <;> rfl
/-- is there a mark at an offset -/
def hmk (I : Im) (o : Int) : Bool := okm o && imK I (o.toNat / 2)
set_option maxRecDepth 100000 in
set_option maxHeartbeats 4000000 in
theorem t_Image_hasMark (l : Launch) {h : px_H} {i : Nat} {ns : Nat → Nat} {I : Im} {o : Int32} (H : ImA h i ns I) : px_rd l 23 [.ref i, .int o] h (.int (bI (hmk I o.toInt))) := by
  obtain ⟨h1, h2, -, -, ⟨f, h6, h7, h8⟩, -⟩ := H
  refine px_Ct.of (by decide) (Nat.le_of_ble_eq_true rfl) (px_wp_ok (sp := []) 60 _ _ _ _ _ ?_)
  simp only [px_ev_nil, px_ev_i, px_ev_l, px_ev_n, px_ev_r, px_wp, px_step, px_tg, px_i1, px_i2, px_l1, px_l2, px_il, px_a1, px_ia, px_iia, px_lki, px_lkl, px_lka, px_lk, px_sto, px_ins, px_del, px_popn, px_inv, px_cat, px_obj, px_arr, px_arq, px_rfv, px_rok, px_tB, px_tI, px_tZ, px_tG, px_tS, px_S, lv_args, Value.category, List.contains_cons, List.contains_nil, List.getElem?_cons_zero, List.getElem?_cons_succ, List.set_cons_zero, List.set_cons_succ, List.length_cons, List.length_nil, List.map_cons, List.map_nil, List.sum_cons, List.sum_nil, List.cons_append, List.nil_append, Option.toList_some, Option.toList_none, px_hold, Fin.isValue, Fin.val_zero, Fin.val_one, Fin.val_two, Nat.reduceBEq, Nat.reduceAdd, Nat.reduceLT, Nat.reduceLeDiff, Nat.reduceEqDiff, Nat.reduceMod, Int.reduceNeg, Int.reduceAdd, Int.reduceLE, Int.reduceLT, Int.reduceToNat, Int.cast_ofNat_Int, Int.ofNat_eq_natCast, Bool.or_self, Bool.or_false, Bool.false_or, Bool.and_false, Bool.and_self, Bool.false_and, Bool.true_and, Bool.false_eq_true, Bool.true_eq_false, ↓reduceIte, reduceCtorEq, true_and, and_true, false_and, and_false, false_or, or_false, true_or, or_true, ne_eq, not_false_eq_true, not_true_eq_false, px_f0, px_f1, px_f2, px_f3, kc_L0, kc_L1, if_true, if_false, px_10, true_implies, false_implies, implies_true, on_23, mL_23, rt_23, dp_23, lc_23, nr_23, yn_23, rc_1, e23_0, e23_1, mt_1_70, kw_22, np_22, on_22, nr_22, fc_23_22, e23_4, e23_7, e23_8, fd_1_28, e23_11, e23_12, kc_4, e23_13, e23_14, e23_15, e23_16, mt_1_73, kw_24, np_24, on_24, nr_24, fc_23_24, e23_19, e23_20, e23_23, kc_1, e23_24, e23_27, kc_0, e23_28, h1]
  refine px_rd.use (t_Image_canHaveMark l) ?_
  cases ho : okm o.toInt with
  | false =>
    refine px_wp_ok (sp := []) 20 _ _ _ _ _ ?_
    simp only [px_ev_nil, px_ev_i, px_ev_l, px_ev_n, px_ev_r, px_wp, px_step, px_tg, px_i1, px_i2, px_l1, px_l2, px_il, px_a1, px_ia, px_iia, px_lki, px_lkl, px_lka, px_lk, px_sto, px_ins, px_del, px_popn, px_inv, px_cat, px_obj, px_arr, px_arq, px_rfv, px_rok, px_tB, px_tI, px_tZ, px_tG, px_tS, px_S, lv_args, Value.category, List.contains_cons, List.contains_nil, List.getElem?_cons_zero, List.getElem?_cons_succ, List.set_cons_zero, List.set_cons_succ, List.length_cons, List.length_nil, List.map_cons, List.map_nil, List.sum_cons, List.sum_nil, List.cons_append, List.nil_append, Option.toList_some, Option.toList_none, px_hold, Fin.isValue, Fin.val_zero, Fin.val_one, Fin.val_two, Nat.reduceBEq, Nat.reduceAdd, Nat.reduceLT, Nat.reduceLeDiff, Nat.reduceEqDiff, Nat.reduceMod, Int.reduceNeg, Int.reduceAdd, Int.reduceLE, Int.reduceLT, Int.reduceToNat, Int.cast_ofNat_Int, Int.ofNat_eq_natCast, Bool.or_self, Bool.or_false, Bool.false_or, Bool.and_false, Bool.and_self, Bool.false_and, Bool.true_and, Bool.false_eq_true, Bool.true_eq_false, ↓reduceIte, reduceCtorEq, true_and, and_true, false_and, and_false, false_or, or_false, true_or, or_true, ne_eq, not_false_eq_true, not_true_eq_false, px_f0, px_f1, px_f2, px_f3, kc_L0, kc_L1, if_true, if_false, px_10, true_implies, false_implies, implies_true, on_23, mL_23, rt_23, dp_23, lc_23, nr_23, yn_23, rc_1, e23_0, e23_1, mt_1_70, kw_22, np_22, on_22, nr_22, fc_23_22, e23_4, e23_7, e23_8, fd_1_28, e23_11, e23_12, kc_4, e23_13, e23_14, e23_15, e23_16, mt_1_73, kw_24, np_24, on_24, nr_24, fc_23_24, e23_19, e23_20, e23_23, kc_1, e23_24, e23_27, kc_0, e23_28, h1, bI_f]
    rw [hmk, ho]; rfl
  | true =>
    have hr : 0 ≤ o.toInt ∧ o.toInt < 4096 ∧ o.toInt % 2 = 0 := by simpa [okm] using ho
    have hk : ∃ n : Nat, o = nI n ∧ n < 4096 ∧ n % 2 = 0 := ⟨o.toInt.toNat, by rw [i_eq, i_n (by omega)]; omega, by omega, by omega⟩
    obtain ⟨n, rfl, hn, hn2⟩ := hk
    have en := i_n (n := n) (by omega)
    have es : nI n >>> ((4 : Int32) &&& 31) = nI (n / 16) := by rw [pk_shrN (by omega) _ 4 (by decide)]
    refine px_wp_ok (sp := []) 20 _ _ _ _ _ ?_
    simp only [px_ev_nil, px_ev_i, px_ev_l, px_ev_n, px_ev_r, px_wp, px_step, px_tg, px_i1, px_i2, px_l1, px_l2, px_il, px_a1, px_ia, px_iia, px_lki, px_lkl, px_lka, px_lk, px_sto, px_ins, px_del, px_popn, px_inv, px_cat, px_obj, px_arr, px_arq, px_rfv, px_rok, px_tB, px_tI, px_tZ, px_tG, px_tS, px_S, lv_args, Value.category, List.contains_cons, List.contains_nil, List.getElem?_cons_zero, List.getElem?_cons_succ, List.set_cons_zero, List.set_cons_succ, List.length_cons, List.length_nil, List.map_cons, List.map_nil, List.sum_cons, List.sum_nil, List.cons_append, List.nil_append, Option.toList_some, Option.toList_none, px_hold, Fin.isValue, Fin.val_zero, Fin.val_one, Fin.val_two, Nat.reduceBEq, Nat.reduceAdd, Nat.reduceLT, Nat.reduceLeDiff, Nat.reduceEqDiff, Nat.reduceMod, Int.reduceNeg, Int.reduceAdd, Int.reduceLE, Int.reduceLT, Int.reduceToNat, Int.cast_ofNat_Int, Int.ofNat_eq_natCast, Bool.or_self, Bool.or_false, Bool.false_or, Bool.and_false, Bool.and_self, Bool.false_and, Bool.true_and, Bool.false_eq_true, Bool.true_eq_false, ↓reduceIte, reduceCtorEq, true_and, and_true, false_and, and_false, false_or, or_false, true_or, or_true, ne_eq, not_false_eq_true, not_true_eq_false, px_f0, px_f1, px_f2, px_f3, kc_L0, kc_L1, if_true, if_false, px_10, true_implies, false_implies, implies_true, on_23, mL_23, rt_23, dp_23, lc_23, nr_23, yn_23, rc_1, e23_0, e23_1, mt_1_70, kw_22, np_22, on_22, nr_22, fc_23_22, e23_4, e23_7, e23_8, fd_1_28, e23_11, e23_12, kc_4, e23_13, e23_14, e23_15, e23_16, mt_1_73, kw_24, np_24, on_24, nr_24, fc_23_24, e23_19, e23_20, e23_23, kc_1, e23_24, e23_27, kc_0, e23_28, h1, h6, bI_t, es]
    refine ⟨pk_in (n / 16) 256 (by omega), px_rd.use (t_Image_markBit l hn) (px_wp_ok (sp := []) 20 _ _ _ _ _ ?_)⟩
    simp only [px_ev_nil, px_ev_i, px_ev_l, px_ev_n, px_ev_r, px_wp, px_step, px_tg, px_i1, px_i2, px_l1, px_l2, px_il, px_a1, px_ia, px_iia, px_lki, px_lkl, px_lka, px_lk, px_sto, px_ins, px_del, px_popn, px_inv, px_cat, px_obj, px_arr, px_arq, px_rfv, px_rok, px_tB, px_tI, px_tZ, px_tG, px_tS, px_S, lv_args, Value.category, List.contains_cons, List.contains_nil, List.getElem?_cons_zero, List.getElem?_cons_succ, List.set_cons_zero, List.set_cons_succ, List.length_cons, List.length_nil, List.map_cons, List.map_nil, List.sum_cons, List.sum_nil, List.cons_append, List.nil_append, Option.toList_some, Option.toList_none, px_hold, Fin.isValue, Fin.val_zero, Fin.val_one, Fin.val_two, Nat.reduceBEq, Nat.reduceAdd, Nat.reduceLT, Nat.reduceLeDiff, Nat.reduceEqDiff, Nat.reduceMod, Int.reduceNeg, Int.reduceAdd, Int.reduceLE, Int.reduceLT, Int.reduceToNat, Int.cast_ofNat_Int, Int.ofNat_eq_natCast, Bool.or_self, Bool.or_false, Bool.false_or, Bool.and_false, Bool.and_self, Bool.false_and, Bool.true_and, Bool.false_eq_true, Bool.true_eq_false, ↓reduceIte, reduceCtorEq, true_and, and_true, false_and, and_false, false_or, or_false, true_or, or_true, ne_eq, not_false_eq_true, not_true_eq_false, px_f0, px_f1, px_f2, px_f3, kc_L0, kc_L1, if_true, if_false, px_10, true_implies, false_implies, implies_true, on_23, mL_23, rt_23, dp_23, lc_23, nr_23, yn_23, rc_1, e23_0, e23_1, mt_1_70, kw_22, np_22, on_22, nr_22, fc_23_22, e23_4, e23_7, e23_8, fd_1_28, e23_11, e23_12, kc_4, e23_13, e23_14, e23_15, e23_16, mt_1_73, kw_24, np_24, on_24, nr_24, fc_23_24, e23_19, e23_20, e23_23, kc_1, e23_24, e23_27, kc_0, e23_28, h1]
    rw [nI_clamp (show n / 16 < 2 ^ 31 by omega)]
    have h9 := h8 (n / 2) (by omega)
    rw [show n / 2 / 8 = n / 16 by omega] at h9
    have h10 := i_bit (f (n / 16)) (j := n / 2 % 8) (by omega)
    rw [h9] at h10
    rw [hmk, ho, en, show ((n : Int).toNat / 2) = n / 2 by omega]
    refine ⟨fun q => ?_, fun q => ?_⟩
    · rw [h10.mp q]; rfl
    · cases hk : imK I (n / 2) with
      | false => exact absurd (h10.mpr hk) q
      | true => rfl
