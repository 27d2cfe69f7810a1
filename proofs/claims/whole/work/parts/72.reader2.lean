/-! ImageFile$Reader: pages, sorts, bytes shared -/
theorem bI_0 {t : Bool} : bI t = 0 ↔ t = false := by cases t <;> decide
theorem l_andN {a b : Nat} (ha : a < 9223372036854775808) (hb : b < 9223372036854775808) : lN a &&& lN b = lN (a &&& b) := by
  have hab : a &&& b ≤ a := Nat.and_le_left
  apply Int64.toBitVec_inj.mp
  apply BitVec.eq_of_toNat_eq
  show ((lN a).toBitVec &&& (lN b).toBitVec).toNat = _
  rw [BitVec.toNat_and, l_tn (by omega), l_tn (by omega), l_tn (by omega)]
theorem l_xorN {a b : Nat} (ha : a < 4294967296) (hb : b < 4294967296) : lN a ^^^ lN b = lN (a ^^^ b) := by
  have hab : a ^^^ b < 2 ^ 32 := Nat.xor_lt_two_pow ha hb
  apply Int64.toBitVec_inj.mp
  apply BitVec.eq_of_toNat_eq
  show ((lN a).toBitVec ^^^ (lN b).toBitVec).toNat = _
  rw [BitVec.toNat_xor, l_tn (by omega), l_tn (by omega), l_tn (by omega)]
def isPg (v : Nat) : Bool := decide (v = 1 ∨ v = 2 ∨ v = 4 ∨ v = 8 ∨ v = 16 ∨ v = 32 ∨ v = 64 ∨ v = 128 ∨ v = 256 ∨ v = 512 ∨ v = 1024 ∨ v = 2048 ∨ v = 4096)
theorem isPg_ok0 : ∀ q, q < 65 → ∀ r, r < 64 → isPg (64 * q + r) = (decide (1 ≤ 64 * q + r) && decide ((64 * q + r) &&& (64 * q + r - 1) = 0)) ∨ 4097 ≤ 64 * q + r := by decide +kernel
theorem isPg_ok (v : Nat) (hv : v < 4097) : isPg v = (decide (1 ≤ v) && decide (v &&& (v - 1) = 0)) := by
  have h := isPg_ok0 (v / 64) (by omega) (v % 64) (by omega)
  rw [show 64 * (v / 64) + v % 64 = v by omega] at h
  exact h.resolve_right (by omega)
theorem xor_0 {a b : Nat} : a ^^^ b = 0 ↔ a = b := by
  constructor
  · intro h
    apply Nat.eq_of_testBit_eq
    intro i
    have t := congrArg (fun x => Nat.testBit x i) h
    simpa [Nat.testBit_xor] using t
  · intro h
    rw [h, Nat.xor_self]
theorem isPg_p {v : Nat} (h : isPg v = true) : pow2 v := by
  have h := of_decide_eq_true h
  rcases h with rfl | rfl | rfl | rfl | rfl | rfl | rfl | rfl | rfl | rfl | rfl | rfl | rfl
  · exact ⟨0, by omega, rfl⟩
  · exact ⟨1, by omega, rfl⟩
  · exact ⟨2, by omega, rfl⟩
  · exact ⟨3, by omega, rfl⟩
  · exact ⟨4, by omega, rfl⟩
  · exact ⟨5, by omega, rfl⟩
  · exact ⟨6, by omega, rfl⟩
  · exact ⟨7, by omega, rfl⟩
  · exact ⟨8, by omega, rfl⟩
  · exact ⟨9, by omega, rfl⟩
  · exact ⟨10, by omega, rfl⟩
  · exact ⟨11, by omega, rfl⟩
  · exact ⟨12, by omega, rfl⟩
theorem isPg_le {v : Nat} (h : isPg v = true) : 1 ≤ v ∧ v ≤ 4096 := by
  have h := of_decide_eq_true h
  omega
set_option maxRecDepth 100000 in
set_option maxHeartbeats 4000000 in
theorem t_Reader_isPage (l : Launch) {h : px_H} {v : Nat} (hv : v < 4294967296) : px_rd l 82 [.long (lN v)] h (.int (bI (isPg v))) := by
  show px_Ct _ _ _ _ (rdRK h (.int (bI (isPg v))))
  refine px_Ct.of (by decide) (Nat.le_of_ble_eq_true rfl) (px_wp_ok (sp := []) 60 _ _ _ _ _ ?_)
  simp only [px_ev_nil, px_ev_i, px_ev_l, px_ev_n, px_ev_r, px_wp, px_step, px_tg, px_i1, px_i2, px_l1, px_l2, px_il, px_a1, px_ia, px_iia, px_lki, px_lkl, px_lka, px_lk, px_sto, px_ins, px_del, px_popn, px_inv, px_cat, px_obj, px_arr, px_arq, px_rfv, px_rok, px_tB, px_tI, px_tZ, px_tG, px_tS, px_S, lv_args, Value.category, List.contains_cons, List.contains_nil, List.getElem?_cons_zero, List.getElem?_cons_succ, List.set_cons_zero, List.set_cons_succ, List.length_cons, List.length_nil, List.map_cons, List.map_nil, List.sum_cons, List.sum_nil, List.cons_append, List.nil_append, Option.toList_some, Option.toList_none, px_hold, Fin.isValue, Fin.val_zero, Fin.val_one, Fin.val_two, Nat.reduceBEq, Nat.reduceAdd, Nat.reduceLT, Nat.reduceLeDiff, Nat.reduceEqDiff, Nat.reduceMod, Int.reduceNeg, Int.reduceAdd, Int.reduceLE, Int.reduceLT, Int.reduceToNat, Int.cast_ofNat_Int, Int.ofNat_eq_natCast, Bool.or_self, Bool.or_false, Bool.false_or, Bool.and_false, Bool.and_self, Bool.false_and, Bool.true_and, Bool.false_eq_true, Bool.true_eq_false, ↓reduceIte, reduceCtorEq, true_and, and_true, false_and, and_false, false_or, or_false, true_or, or_true, ne_eq, not_false_eq_true, not_true_eq_false, px_f0, px_f1, px_f2, px_f3, kc_L0, kc_L1, if_true, if_false, px_10, true_implies, false_implies, implies_true, on_82, mL_82, rt_82, dp_82, lc_82, nr_82, yn_82, rc_3, e82_0, e82_1, e82_2, e82_3, e82_6, e82_7, l2_3_139, e82_10, e82_11, e82_14, e82_15, e82_16, e82_17, e82_18, e82_19, e82_20, e82_21, e82_24, kc_1, e82_25, e82_28, kc_0, e82_29]
  refine ek_if (lq_lt (a := v) (b := 1) (by omega) (by omega)) (fun q => ?_) fun q1 => ?_
  · rw [isPg_ok v (by omega), decide_eq_false (show ¬ 1 ≤ v by omega)]
    exact rdRK.rf
  refine ek_if (lq_gt (a := v) (b := 4096) (by omega) (by omega)) (fun q => ?_) fun q2 => ?_
  · have e : isPg v = false := by
      cases e : isPg v with
      | false => rfl
      | true => have := isPg_le e; omega
    rw [e]
    exact rdRK.rf
  have e1 : lN v &&& (lN v - 1) = lN (v &&& (v - 1)) := by
    rw [show (1 : Int64) = lN 1 from rfl, lN_sub (by omega), l_andN (by omega) (by omega)]
  have e2 : v &&& (v - 1) ≤ v := Nat.and_le_left
  rw [e1]
  refine ek_ifn (lq_eq (a := v &&& (v - 1)) (b := 0) (by omega) (by omega)) (fun q => ?_) fun q => ?_
  · rw [isPg_ok v (by omega), decide_eq_true (show 1 ≤ v by omega), decide_eq_false q]
    exact rdRK.rf
  · rw [isPg_ok v (by omega), decide_eq_true (show 1 ≤ v by omega), decide_eq_true q]
    exact rdRK.rf
/-- same place within the page -/
theorem pg_same {a b v : Nat} (ha : a < 4294967296) (hb : b < 4294967296) (hv : isPg v = true) : ((lN a ^^^ lN b) &&& (lN v - 1)) = lN ((a ^^^ b) % v) ∧ ((a ^^^ b) % v = 0 ↔ a % v = b % v) := by
  obtain ⟨k, hk, rfl⟩ := isPg_p hv
  have hab : a ^^^ b < 2 ^ 32 := Nat.xor_lt_two_pow ha hb
  have h0 : 0 < 2 ^ k := Nat.two_pow_pos k
  have h1 := (isPg_le hv).2
  constructor
  · rw [l_xorN ha hb, show (1 : Int64) = lN 1 from rfl, lN_sub (by omega), l_andN (by omega) (by omega), Nat.and_two_pow_sub_one_eq_mod]
  · rw [Nat.xor_mod_two_pow, xor_0]
def srt (v : Nat) : Option Nat := if v = 5 then some 0 else if v = 4 then some 1 else if v = 6 then some 2 else none
theorem srt_lt {v s : Nat} (h : srt v = some s) : s < 3 := by
  unfold srt at h
  split at h
  · cases h; omega
  · split at h
    · cases h; omega
    · split at h
      · cases h; omega
      · cases h
def srP (v s : Nat) : Bool := decide (prm s = v)
theorem srt_ok (v : Nat) : srch (srP v) 3 0 = srt v := by
  unfold srt
  by_cases e5 : v = 5
  · subst e5; rfl
  · by_cases e4 : v = 4
    · subst e4; rfl
    · by_cases e6 : v = 6
      · subst e6; rfl
      · rw [if_neg e5, if_neg e4, if_neg e6, srch, srch, srch, srch]
        have p0 : srP v 0 = false := decide_eq_false (fun z => e5 z.symm)
        have p1 : srP v 1 = false := decide_eq_false (fun z => e4 z.symm)
        have p2 : srP v 2 = false := decide_eq_false (fun z => e6 z.symm)
        rw [p0, p1, p2]
        rfl
theorem prm_stF : ∀ s, s < 3 → (stF [5, 4, 6] s).toInt64 = lN (prm s) ∧ prm s < 8 := by decide
set_option maxRecDepth 100000 in
set_option maxHeartbeats 4000000 in
theorem lp_with (l : Launch) {h : px_H} {v : Nat} (HS : Stc h) (hv : v < 4294967296) : ∀ (d s : Nat), s + d = 3 → px_P l 84 2 [(0, .long (lN v)), (2, .int (nI s))] [] h (rdRK h (.int (oI (srch (srP v) d s) (fun k => k)))) := by
  intro d
  induction d with
  | zero =>
    intro s hs
    have e : s = 3 := by omega
    subst e
    refine px_go_ok (sp := [2]) 60 ?_
    simp only [px_go, px_ev_nil, px_ev_i, px_ev_l, px_ev_n, px_ev_r, px_wp, px_step, px_tg, px_i1, px_i2, px_l1, px_l2, px_il, px_a1, px_ia, px_iia, px_lki, px_lkl, px_lka, px_lk, px_sto, px_ins, px_del, px_popn, px_inv, px_cat, px_obj, px_arr, px_arq, px_rfv, px_rok, px_tB, px_tI, px_tZ, px_tG, px_tS, px_S, lv_args, Value.category, List.contains_cons, List.contains_nil, List.getElem?_cons_zero, List.getElem?_cons_succ, List.set_cons_zero, List.set_cons_succ, List.length_cons, List.length_nil, List.map_cons, List.map_nil, List.sum_cons, List.sum_nil, List.cons_append, List.nil_append, Option.toList_some, Option.toList_none, px_hold, Fin.isValue, Fin.val_zero, Fin.val_one, Fin.val_two, Nat.reduceBEq, Nat.reduceAdd, Nat.reduceLT, Nat.reduceLeDiff, Nat.reduceEqDiff, Nat.reduceMod, Int.reduceNeg, Int.reduceAdd, Int.reduceLE, Int.reduceLT, Int.reduceToNat, Int.cast_ofNat_Int, Int.ofNat_eq_natCast, Bool.or_self, Bool.or_false, Bool.false_or, Bool.and_false, Bool.and_self, Bool.false_and, Bool.true_and, Bool.false_eq_true, Bool.true_eq_false, ↓reduceIte, reduceCtorEq, true_and, and_true, false_and, and_false, false_or, or_false, true_or, or_true, ne_eq, not_false_eq_true, not_true_eq_false, px_f0, px_f1, px_f2, px_f3, kc_L0, kc_L1, if_true, if_false, px_10, true_implies, false_implies, implies_true, on_84, mL_84, rt_84, dp_84, lc_84, nr_84, yn_84, rc_3, e84_0, kc_0, e84_1, e84_2, e84_3, kc_3, e84_4, e84_7, sg_3_145, e84_10, e84_11, e84_12, e84_13, e84_14, e84_15, e84_18, e84_19, e84_20, kc_1, e84_23, e84_26, kc_m1, e84_27, HS.1]
    exact ⟨fun _ => rdRK.rf, fun q => absurd (by decide) q⟩
  | succ d ih =>
    intro s hs
    have es : (nI s).toNatClampNeg = s := nI_clamp (by omega)
    have hin : vp_in (nI s) 3 := pk_in s 3 (by omega)
    obtain ⟨ep, hp⟩ := prm_stF s (by omega)
    refine px_go_ok (sp := [2]) 60 ?_
    simp only [px_go, px_ev_nil, px_ev_i, px_ev_l, px_ev_n, px_ev_r, px_wp, px_step, px_tg, px_i1, px_i2, px_l1, px_l2, px_il, px_a1, px_ia, px_iia, px_lki, px_lkl, px_lka, px_lk, px_sto, px_ins, px_del, px_popn, px_inv, px_cat, px_obj, px_arr, px_arq, px_rfv, px_rok, px_tB, px_tI, px_tZ, px_tG, px_tS, px_S, lv_args, Value.category, List.contains_cons, List.contains_nil, List.getElem?_cons_zero, List.getElem?_cons_succ, List.set_cons_zero, List.set_cons_succ, List.length_cons, List.length_nil, List.map_cons, List.map_nil, List.sum_cons, List.sum_nil, List.cons_append, List.nil_append, Option.toList_some, Option.toList_none, px_hold, Fin.isValue, Fin.val_zero, Fin.val_one, Fin.val_two, Nat.reduceBEq, Nat.reduceAdd, Nat.reduceLT, Nat.reduceLeDiff, Nat.reduceEqDiff, Nat.reduceMod, Int.reduceNeg, Int.reduceAdd, Int.reduceLE, Int.reduceLT, Int.reduceToNat, Int.cast_ofNat_Int, Int.ofNat_eq_natCast, Bool.or_self, Bool.or_false, Bool.false_or, Bool.and_false, Bool.and_self, Bool.false_and, Bool.true_and, Bool.false_eq_true, Bool.true_eq_false, ↓reduceIte, reduceCtorEq, true_and, and_true, false_and, and_false, false_or, or_false, true_or, or_true, ne_eq, not_false_eq_true, not_true_eq_false, px_f0, px_f1, px_f2, px_f3, kc_L0, kc_L1, if_true, if_false, px_10, true_implies, false_implies, implies_true, on_84, mL_84, rt_84, dp_84, lc_84, nr_84, yn_84, rc_3, e84_0, kc_0, e84_1, e84_2, e84_3, kc_3, e84_4, e84_7, sg_3_145, e84_10, e84_11, e84_12, e84_13, e84_14, e84_15, e84_18, e84_19, e84_20, kc_1, e84_23, e84_26, kc_m1, e84_27, HS.1, hin, es, ep, nI_1]
    refine ek_if (nI_leI (a := 3) (b := s) (by omega) (by omega)) (fun q => absurd q (by omega)) fun q => ?_
    refine ek_ifn (lq_eq (a := prm s) (b := v) (by omega) (by omega)) (fun q => ?_) fun q => ?_
    · have e : srch (srP v) (d + 1) s = srch (srP v) d (s + 1) := by
        rw [srch, srP, decide_eq_false q]; rfl
      rw [e]
      exact ih (s + 1) (by omega)
    · have e : srch (srP v) (d + 1) s = some s := by
        rw [srch, srP, decide_eq_true q]; rfl
      rw [e]
      exact rdRK.rf
set_option maxRecDepth 100000 in
set_option maxHeartbeats 4000000 in
theorem t_Reader_segmentWith (l : Launch) {h : px_H} {v : Nat} (HS : Stc h) (hv : v < 4294967296) : px_rd l 84 [.long (lN v)] h (.int (oI (srt v) (fun k => k))) := by
  show px_Ct _ _ _ _ (rdRK h (.int (oI (srt v) (fun k => k))))
  rw [← srt_ok]
  refine px_Ct.of (by decide) (Nat.le_of_ble_eq_true rfl) (px_wp_ok (sp := [2]) 60 _ _ _ _ _ ?_)
  simp only [px_ev_nil, px_ev_i, px_ev_l, px_ev_n, px_ev_r, px_wp, px_step, px_tg, px_i1, px_i2, px_l1, px_l2, px_il, px_a1, px_ia, px_iia, px_lki, px_lkl, px_lka, px_lk, px_sto, px_ins, px_del, px_popn, px_inv, px_cat, px_obj, px_arr, px_arq, px_rfv, px_rok, px_tB, px_tI, px_tZ, px_tG, px_tS, px_S, lv_args, Value.category, List.contains_cons, List.contains_nil, List.getElem?_cons_zero, List.getElem?_cons_succ, List.set_cons_zero, List.set_cons_succ, List.length_cons, List.length_nil, List.map_cons, List.map_nil, List.sum_cons, List.sum_nil, List.cons_append, List.nil_append, Option.toList_some, Option.toList_none, px_hold, Fin.isValue, Fin.val_zero, Fin.val_one, Fin.val_two, Nat.reduceBEq, Nat.reduceAdd, Nat.reduceLT, Nat.reduceLeDiff, Nat.reduceEqDiff, Nat.reduceMod, Int.reduceNeg, Int.reduceAdd, Int.reduceLE, Int.reduceLT, Int.reduceToNat, Int.cast_ofNat_Int, Int.ofNat_eq_natCast, Bool.or_self, Bool.or_false, Bool.false_or, Bool.and_false, Bool.and_self, Bool.false_and, Bool.true_and, Bool.false_eq_true, Bool.true_eq_false, ↓reduceIte, reduceCtorEq, true_and, and_true, false_and, and_false, false_or, or_false, true_or, or_true, ne_eq, not_false_eq_true, not_true_eq_false, px_f0, px_f1, px_f2, px_f3, kc_L0, kc_L1, if_true, if_false, px_10, true_implies, false_implies, implies_true, on_84, mL_84, rt_84, dp_84, lc_84, nr_84, yn_84, rc_3, e84_0, kc_0, e84_1, e84_2, e84_3, kc_3, e84_4, e84_7, sg_3_145, e84_10, e84_11, e84_12, e84_13, e84_14, e84_15, e84_18, e84_19, e84_20, kc_1, e84_23, e84_26, kc_m1, e84_27]
  exact lp_with l HS hv 3 0 rfl
def shM (a b c d : Nat) : Bool := decide (max a c < min b d)
set_option maxRecDepth 100000 in
set_option maxHeartbeats 4000000 in
theorem t_Reader_meet (l : Launch) {h : px_H} {a b c d : Nat} (ha : a < 9223372036854775808) (hb : b < 9223372036854775808) (hc : c < 9223372036854775808) (hd : d < 9223372036854775808) : px_rd l 86 [.long (lN a), .long (lN b), .long (lN c), .long (lN d)] h (.int (bI (shM a b c d))) := by
  show px_Ct _ _ _ _ (rdRK h (.int (bI (shM a b c d))))
  refine px_Ct.of (by decide) (Nat.le_of_ble_eq_true rfl) (px_wp_ok (sp := []) 60 _ _ _ _ _ ?_)
  simp only [px_ev_nil, px_ev_i, px_ev_l, px_ev_n, px_ev_r, px_wp, px_step, px_tg, px_i1, px_i2, px_l1, px_l2, px_il, px_a1, px_ia, px_iia, px_lki, px_lkl, px_lka, px_lk, px_sto, px_ins, px_del, px_popn, px_inv, px_cat, px_obj, px_arr, px_arq, px_rfv, px_rok, px_tB, px_tI, px_tZ, px_tG, px_tS, px_S, lv_args, Value.category, List.contains_cons, List.contains_nil, List.getElem?_cons_zero, List.getElem?_cons_succ, List.set_cons_zero, List.set_cons_succ, List.length_cons, List.length_nil, List.map_cons, List.map_nil, List.sum_cons, List.sum_nil, List.cons_append, List.nil_append, Option.toList_some, Option.toList_none, px_hold, Fin.isValue, Fin.val_zero, Fin.val_one, Fin.val_two, Nat.reduceBEq, Nat.reduceAdd, Nat.reduceLT, Nat.reduceLeDiff, Nat.reduceEqDiff, Nat.reduceMod, Int.reduceNeg, Int.reduceAdd, Int.reduceLE, Int.reduceLT, Int.reduceToNat, Int.cast_ofNat_Int, Int.ofNat_eq_natCast, Bool.or_self, Bool.or_false, Bool.false_or, Bool.and_false, Bool.and_self, Bool.false_and, Bool.true_and, Bool.false_eq_true, Bool.true_eq_false, ↓reduceIte, reduceCtorEq, true_and, and_true, false_and, and_false, false_or, or_false, true_or, or_true, ne_eq, not_false_eq_true, not_true_eq_false, px_f0, px_f1, px_f2, px_f3, kc_L0, kc_L1, if_true, if_false, px_10, true_implies, false_implies, implies_true, on_86, mL_86, rt_86, dp_86, lc_86, nr_86, yn_86, rc_3, e86_0, e86_1, e86_3, mt_3_152, e86_6, e86_7, e86_9, mt_3_158, e86_12, e86_13, e86_16, kc_1, e86_17, e86_20, kc_0, e86_21]
  have m1 : (if lN c < lN a then lN a else lN c) = lN (max a c) := by
    split
    · rename_i q
      rw [pk_lLT hc ha] at q
      rw [Nat.max_eq_left (by omega)]
    · rename_i q
      rw [pk_lLT hc ha] at q
      rw [Nat.max_eq_right (by omega)]
  have m2 : (if lN d < lN b then lN d else lN b) = lN (min b d) := by
    split
    · rename_i q
      rw [pk_lLT hd hb] at q
      rw [Nat.min_eq_right (by omega)]
    · rename_i q
      rw [pk_lLT hd hb] at q
      rw [Nat.min_eq_left (by omega)]
  rw [m1, m2]
  refine ek_if (lq_ge (a := max a c) (b := min b d) (by omega) (by omega)) (fun q => ?_) fun q => ?_
  · rw [shM, decide_eq_false (by omega)]
    exact rdRK.rf
  · rw [shM, decide_eq_true (by omega)]
    exact rdRK.rf
theorem n_p4 (a : Nat) : nI a + 4 = nI (a + 4) := nI_add a 4
theorem n_p8 (a : Nat) : nI a + 8 = nI (a + 8) := nI_add a 8
theorem n_p12 (a : Nat) : nI a + 12 = nI (a + 12) := nI_add a 12
theorem n_p16 (a : Nat) : nI a + 16 = nI (a + 16) := nI_add a 16
theorem n_p20 (a : Nat) : nI a + 20 = nI (a + 20) := nI_add a 20
theorem n_p24 (a : Nat) : nI a + 24 = nI (a + 24) := nI_add a 24
theorem n_p28 (a : Nat) : nI a + 28 = nI (a + 28) := nI_add a 28
theorem n_p32 (a : Nat) : nI a + 32 = nI (a + 32) := nI_add a 32
theorem n_m32 (a : Nat) : 32 * nI a = nI (32 * a) := pk_mul 32 a
/-- bytes that two rows share -/
def shP (B : Nat → Nat) (row p : Nat) : Bool := !decide (rU4 B p = 0) && shM (rU4 B (row + 4)) (rU4 B (row + 4) + rU4 B (row + 16)) (rU4 B (p + 4)) (rU4 B (p + 4) + rU4 B (p + 16))
def shF (B : Nat → Nat) (tb n row i : Nat) : Bool := shM (rU4 B (row + 4)) (rU4 B (row + 4) + rU4 B (row + 16)) tb (tb + 32 * n) || (srch (fun j => shP B row (tb + 32 * j)) i 0).isSome
set_option maxRecDepth 100000 in
set_option maxHeartbeats 4000000 in
theorem lp_shares (l : Launch) {h : px_H} {nr nb nl fp : Int32} {tb rn m c i : Nat} {B : Nat → Nat} {x6 : Value} (R : rdO h (nI tb) (nI rn) nr nb nl fp) (F : By h 1664 16384 m c B) (hi : i < rn) (hc : tb + 32 * rn ≤ c) : ∀ (d j : Nat), j + d = i → px_P l 85 61 [(0, .ref 1856), (1, .int (nI (tb + 32 * i))), (2, .long (lN (rU4 B (tb + 32 * i + 4)))), (4, .long (lN (rU4 B (tb + 32 * i + 4) + rU4 B (tb + 32 * i + 16)))), (6, .int (nI (tb + 32 * j)))] [] h (rdRK h (.int (bI (srch (fun j => shP B (tb + 32 * i) (tb + 32 * j)) d j).isSome))) := by
  have hc16 := F.c16
  have R0 := R
  unfold rdO at R0
  have v1 := rU4_lt B (tb + 32 * i + 4)
  have v2 := rU4_lt B (tb + 32 * i + 16)
  intro d
  induction d with
  | zero =>
    intro j hj
    have e : j = i := by omega
    subst e
    refine px_go_ok (sp := [61]) 60 ?_
    simp only [px_go, px_ev_nil, px_ev_i, px_ev_l, px_ev_n, px_ev_r, px_wp, px_step, px_tg, px_i1, px_i2, px_l1, px_l2, px_il, px_a1, px_ia, px_iia, px_lki, px_lkl, px_lka, px_lk, px_sto, px_ins, px_del, px_popn, px_inv, px_cat, px_obj, px_arr, px_arq, px_rfv, px_rok, px_tB, px_tI, px_tZ, px_tG, px_tS, px_S, lv_args, Value.category, List.contains_cons, List.contains_nil, List.getElem?_cons_zero, List.getElem?_cons_succ, List.set_cons_zero, List.set_cons_succ, List.length_cons, List.length_nil, List.map_cons, List.map_nil, List.sum_cons, List.sum_nil, List.cons_append, List.nil_append, Option.toList_some, Option.toList_none, px_hold, Fin.isValue, Fin.val_zero, Fin.val_one, Fin.val_two, Nat.reduceBEq, Nat.reduceAdd, Nat.reduceLT, Nat.reduceLeDiff, Nat.reduceEqDiff, Nat.reduceMod, Int.reduceNeg, Int.reduceAdd, Int.reduceLE, Int.reduceLT, Int.reduceToNat, Int.cast_ofNat_Int, Int.ofNat_eq_natCast, Bool.or_self, Bool.or_false, Bool.false_or, Bool.and_false, Bool.and_self, Bool.false_and, Bool.true_and, Bool.false_eq_true, Bool.true_eq_false, ↓reduceIte, reduceCtorEq, true_and, and_true, false_and, and_false, false_or, or_false, true_or, or_true, ne_eq, not_false_eq_true, not_true_eq_false, px_f0, px_f1, px_f2, px_f3, kc_L0, kc_L1, if_true, if_false, px_10, true_implies, false_implies, implies_true, on_85, mL_85, rt_85, dp_85, lc_85, nr_85, yn_85, rc_3, e85_0, e85_1, fd_3_9, e85_4, e85_5, kc_4, e85_6, e85_7, mt_3_80, kw_78, np_78, on_78, nr_78, fc_85_78, rc_0, e85_10, e85_11, e85_12, e85_13, e85_16, e85_17, kc_16, e85_19, e85_20, e85_23, e85_24, e85_26, e85_27, e85_29, e85_30, fd_3_87, e85_33, e85_34, e85_35, e85_38, kc_32, e85_40, e85_41, fd_3_84, e85_44, e85_45, e85_46, e85_47, mt_3_148, kw_86, np_86, on_86, nr_86, fc_85_86, e85_50, e85_53, kc_1, e85_54, e85_55, e85_56, e85_59, e85_61, e85_63, e85_64, e85_67, e85_68, e85_71, e85_73, e85_74, e85_75, e85_78, e85_80, e85_82, e85_83, e85_86, e85_88, e85_90, e85_91, e85_94, e85_95, e85_97, e85_98, e85_101, e85_103, e85_106, e85_107, e85_108, e85_111, e85_112, e85_114, e85_116, e85_118, e85_121, e85_124, e85_125, e85_126, e85_129, e85_132, kc_0, e85_133, R0, F.1]
    exact ek_if (nI_leI (a := tb + 32 * j) (b := tb + 32 * j) (by omega) (by omega)) (fun _ => rdRK.rf) fun q => absurd (Nat.le_refl _) q
  | succ d ih =>
    intro j hj
    have v3 := rU4_lt B (tb + 32 * j + 4)
    have v4 := rU4_lt B (tb + 32 * j + 16)
    have v5 := rU4_lt B (tb + 32 * j)
    refine px_go_ok (sp := [61]) 60 ?_
    simp only [px_go, px_ev_nil, px_ev_i, px_ev_l, px_ev_n, px_ev_r, px_wp, px_step, px_tg, px_i1, px_i2, px_l1, px_l2, px_il, px_a1, px_ia, px_iia, px_lki, px_lkl, px_lka, px_lk, px_sto, px_ins, px_del, px_popn, px_inv, px_cat, px_obj, px_arr, px_arq, px_rfv, px_rok, px_tB, px_tI, px_tZ, px_tG, px_tS, px_S, lv_args, Value.category, List.contains_cons, List.contains_nil, List.getElem?_cons_zero, List.getElem?_cons_succ, List.set_cons_zero, List.set_cons_succ, List.length_cons, List.length_nil, List.map_cons, List.map_nil, List.sum_cons, List.sum_nil, List.cons_append, List.nil_append, Option.toList_some, Option.toList_none, px_hold, Fin.isValue, Fin.val_zero, Fin.val_one, Fin.val_two, Nat.reduceBEq, Nat.reduceAdd, Nat.reduceLT, Nat.reduceLeDiff, Nat.reduceEqDiff, Nat.reduceMod, Int.reduceNeg, Int.reduceAdd, Int.reduceLE, Int.reduceLT, Int.reduceToNat, Int.cast_ofNat_Int, Int.ofNat_eq_natCast, Bool.or_self, Bool.or_false, Bool.false_or, Bool.and_false, Bool.and_self, Bool.false_and, Bool.true_and, Bool.false_eq_true, Bool.true_eq_false, ↓reduceIte, reduceCtorEq, true_and, and_true, false_and, and_false, false_or, or_false, true_or, or_true, ne_eq, not_false_eq_true, not_true_eq_false, px_f0, px_f1, px_f2, px_f3, kc_L0, kc_L1, if_true, if_false, px_10, true_implies, false_implies, implies_true, on_85, mL_85, rt_85, dp_85, lc_85, nr_85, yn_85, rc_3, e85_0, e85_1, fd_3_9, e85_4, e85_5, kc_4, e85_6, e85_7, mt_3_80, kw_78, np_78, on_78, nr_78, fc_85_78, rc_0, e85_10, e85_11, e85_12, e85_13, e85_16, e85_17, kc_16, e85_19, e85_20, e85_23, e85_24, e85_26, e85_27, e85_29, e85_30, fd_3_87, e85_33, e85_34, e85_35, e85_38, kc_32, e85_40, e85_41, fd_3_84, e85_44, e85_45, e85_46, e85_47, mt_3_148, kw_86, np_86, on_86, nr_86, fc_85_86, e85_50, e85_53, kc_1, e85_54, e85_55, e85_56, e85_59, e85_61, e85_63, e85_64, e85_67, e85_68, e85_71, e85_73, e85_74, e85_75, e85_78, e85_80, e85_82, e85_83, e85_86, e85_88, e85_90, e85_91, e85_94, e85_95, e85_97, e85_98, e85_101, e85_103, e85_106, e85_107, e85_108, e85_111, e85_112, e85_114, e85_116, e85_118, e85_121, e85_124, e85_125, e85_126, e85_129, e85_132, kc_0, e85_133, R0, F.1, n_p4]
    refine ek_if (nI_leI (a := tb + 32 * i) (b := tb + 32 * j) (by omega) (by omega)) (fun q => absurd q (by omega)) fun q => ?_
    refine px_rd.use (r_u4 l F (k := tb + 32 * j + 4) (by omega)) (px_wp_ok (sp := [61]) 60 _ _ _ _ _ ?_)
    simp only [px_ev_nil, px_ev_i, px_ev_l, px_ev_n, px_ev_r, px_wp, px_step, px_tg, px_i1, px_i2, px_l1, px_l2, px_il, px_a1, px_ia, px_iia, px_lki, px_lkl, px_lka, px_lk, px_sto, px_ins, px_del, px_popn, px_inv, px_cat, px_obj, px_arr, px_arq, px_rfv, px_rok, px_tB, px_tI, px_tZ, px_tG, px_tS, px_S, lv_args, Value.category, List.contains_cons, List.contains_nil, List.getElem?_cons_zero, List.getElem?_cons_succ, List.set_cons_zero, List.set_cons_succ, List.length_cons, List.length_nil, List.map_cons, List.map_nil, List.sum_cons, List.sum_nil, List.cons_append, List.nil_append, Option.toList_some, Option.toList_none, px_hold, Fin.isValue, Fin.val_zero, Fin.val_one, Fin.val_two, Nat.reduceBEq, Nat.reduceAdd, Nat.reduceLT, Nat.reduceLeDiff, Nat.reduceEqDiff, Nat.reduceMod, Int.reduceNeg, Int.reduceAdd, Int.reduceLE, Int.reduceLT, Int.reduceToNat, Int.cast_ofNat_Int, Int.ofNat_eq_natCast, Bool.or_self, Bool.or_false, Bool.false_or, Bool.and_false, Bool.and_self, Bool.false_and, Bool.true_and, Bool.false_eq_true, Bool.true_eq_false, ↓reduceIte, reduceCtorEq, true_and, and_true, false_and, and_false, false_or, or_false, true_or, or_true, ne_eq, not_false_eq_true, not_true_eq_false, px_f0, px_f1, px_f2, px_f3, kc_L0, kc_L1, if_true, if_false, px_10, true_implies, false_implies, implies_true, on_85, mL_85, rt_85, dp_85, lc_85, nr_85, yn_85, rc_3, e85_0, e85_1, fd_3_9, e85_4, e85_5, kc_4, e85_6, e85_7, mt_3_80, kw_78, np_78, on_78, nr_78, fc_85_78, rc_0, e85_10, e85_11, e85_12, e85_13, e85_16, e85_17, kc_16, e85_19, e85_20, e85_23, e85_24, e85_26, e85_27, e85_29, e85_30, fd_3_87, e85_33, e85_34, e85_35, e85_38, kc_32, e85_40, e85_41, fd_3_84, e85_44, e85_45, e85_46, e85_47, mt_3_148, kw_86, np_86, on_86, nr_86, fc_85_86, e85_50, e85_53, kc_1, e85_54, e85_55, e85_56, e85_59, e85_61, e85_63, e85_64, e85_67, e85_68, e85_71, e85_73, e85_74, e85_75, e85_78, e85_80, e85_82, e85_83, e85_86, e85_88, e85_90, e85_91, e85_94, e85_95, e85_97, e85_98, e85_101, e85_103, e85_106, e85_107, e85_108, e85_111, e85_112, e85_114, e85_116, e85_118, e85_121, e85_124, e85_125, e85_126, e85_129, e85_132, kc_0, e85_133, R0, F.1, n_p4, n_p16, n_p32, n_m32, nI_add, lN_add]
    refine px_rd.use (r_u4 l F (k := tb + 32 * j + 16) (by omega)) (px_wp_ok (sp := [61]) 60 _ _ _ _ _ ?_)
    simp only [px_ev_nil, px_ev_i, px_ev_l, px_ev_n, px_ev_r, px_wp, px_step, px_tg, px_i1, px_i2, px_l1, px_l2, px_il, px_a1, px_ia, px_iia, px_lki, px_lkl, px_lka, px_lk, px_sto, px_ins, px_del, px_popn, px_inv, px_cat, px_obj, px_arr, px_arq, px_rfv, px_rok, px_tB, px_tI, px_tZ, px_tG, px_tS, px_S, lv_args, Value.category, List.contains_cons, List.contains_nil, List.getElem?_cons_zero, List.getElem?_cons_succ, List.set_cons_zero, List.set_cons_succ, List.length_cons, List.length_nil, List.map_cons, List.map_nil, List.sum_cons, List.sum_nil, List.cons_append, List.nil_append, Option.toList_some, Option.toList_none, px_hold, Fin.isValue, Fin.val_zero, Fin.val_one, Fin.val_two, Nat.reduceBEq, Nat.reduceAdd, Nat.reduceLT, Nat.reduceLeDiff, Nat.reduceEqDiff, Nat.reduceMod, Int.reduceNeg, Int.reduceAdd, Int.reduceLE, Int.reduceLT, Int.reduceToNat, Int.cast_ofNat_Int, Int.ofNat_eq_natCast, Bool.or_self, Bool.or_false, Bool.false_or, Bool.and_false, Bool.and_self, Bool.false_and, Bool.true_and, Bool.false_eq_true, Bool.true_eq_false, ↓reduceIte, reduceCtorEq, true_and, and_true, false_and, and_false, false_or, or_false, true_or, or_true, ne_eq, not_false_eq_true, not_true_eq_false, px_f0, px_f1, px_f2, px_f3, kc_L0, kc_L1, if_true, if_false, px_10, true_implies, false_implies, implies_true, on_85, mL_85, rt_85, dp_85, lc_85, nr_85, yn_85, rc_3, e85_0, e85_1, fd_3_9, e85_4, e85_5, kc_4, e85_6, e85_7, mt_3_80, kw_78, np_78, on_78, nr_78, fc_85_78, rc_0, e85_10, e85_11, e85_12, e85_13, e85_16, e85_17, kc_16, e85_19, e85_20, e85_23, e85_24, e85_26, e85_27, e85_29, e85_30, fd_3_87, e85_33, e85_34, e85_35, e85_38, kc_32, e85_40, e85_41, fd_3_84, e85_44, e85_45, e85_46, e85_47, mt_3_148, kw_86, np_86, on_86, nr_86, fc_85_86, e85_50, e85_53, kc_1, e85_54, e85_55, e85_56, e85_59, e85_61, e85_63, e85_64, e85_67, e85_68, e85_71, e85_73, e85_74, e85_75, e85_78, e85_80, e85_82, e85_83, e85_86, e85_88, e85_90, e85_91, e85_94, e85_95, e85_97, e85_98, e85_101, e85_103, e85_106, e85_107, e85_108, e85_111, e85_112, e85_114, e85_116, e85_118, e85_121, e85_124, e85_125, e85_126, e85_129, e85_132, kc_0, e85_133, R0, F.1, n_p4, n_p16, n_p32, n_m32, nI_add, lN_add]
    refine px_rd.use (r_u4 l F (k := tb + 32 * j) (by omega)) (px_wp_ok (sp := [61]) 60 _ _ _ _ _ ?_)
    simp only [px_ev_nil, px_ev_i, px_ev_l, px_ev_n, px_ev_r, px_wp, px_step, px_tg, px_i1, px_i2, px_l1, px_l2, px_il, px_a1, px_ia, px_iia, px_lki, px_lkl, px_lka, px_lk, px_sto, px_ins, px_del, px_popn, px_inv, px_cat, px_obj, px_arr, px_arq, px_rfv, px_rok, px_tB, px_tI, px_tZ, px_tG, px_tS, px_S, lv_args, Value.category, List.contains_cons, List.contains_nil, List.getElem?_cons_zero, List.getElem?_cons_succ, List.set_cons_zero, List.set_cons_succ, List.length_cons, List.length_nil, List.map_cons, List.map_nil, List.sum_cons, List.sum_nil, List.cons_append, List.nil_append, Option.toList_some, Option.toList_none, px_hold, Fin.isValue, Fin.val_zero, Fin.val_one, Fin.val_two, Nat.reduceBEq, Nat.reduceAdd, Nat.reduceLT, Nat.reduceLeDiff, Nat.reduceEqDiff, Nat.reduceMod, Int.reduceNeg, Int.reduceAdd, Int.reduceLE, Int.reduceLT, Int.reduceToNat, Int.cast_ofNat_Int, Int.ofNat_eq_natCast, Bool.or_self, Bool.or_false, Bool.false_or, Bool.and_false, Bool.and_self, Bool.false_and, Bool.true_and, Bool.false_eq_true, Bool.true_eq_false, ↓reduceIte, reduceCtorEq, true_and, and_true, false_and, and_false, false_or, or_false, true_or, or_true, ne_eq, not_false_eq_true, not_true_eq_false, px_f0, px_f1, px_f2, px_f3, kc_L0, kc_L1, if_true, if_false, px_10, true_implies, false_implies, implies_true, on_85, mL_85, rt_85, dp_85, lc_85, nr_85, yn_85, rc_3, e85_0, e85_1, fd_3_9, e85_4, e85_5, kc_4, e85_6, e85_7, mt_3_80, kw_78, np_78, on_78, nr_78, fc_85_78, rc_0, e85_10, e85_11, e85_12, e85_13, e85_16, e85_17, kc_16, e85_19, e85_20, e85_23, e85_24, e85_26, e85_27, e85_29, e85_30, fd_3_87, e85_33, e85_34, e85_35, e85_38, kc_32, e85_40, e85_41, fd_3_84, e85_44, e85_45, e85_46, e85_47, mt_3_148, kw_86, np_86, on_86, nr_86, fc_85_86, e85_50, e85_53, kc_1, e85_54, e85_55, e85_56, e85_59, e85_61, e85_63, e85_64, e85_67, e85_68, e85_71, e85_73, e85_74, e85_75, e85_78, e85_80, e85_82, e85_83, e85_86, e85_88, e85_90, e85_91, e85_94, e85_95, e85_97, e85_98, e85_101, e85_103, e85_106, e85_107, e85_108, e85_111, e85_112, e85_114, e85_116, e85_118, e85_121, e85_124, e85_125, e85_126, e85_129, e85_132, kc_0, e85_133, R0, F.1, n_p4, n_p16, n_p32, n_m32, nI_add, lN_add]
    have hS : srch (fun j => shP B (tb + 32 * i) (tb + 32 * j)) (d + 1) j = if shP B (tb + 32 * i) (tb + 32 * j) = true then some j else srch (fun j => shP B (tb + 32 * i) (tb + 32 * j)) d (j + 1) := by rw [srch]
    have en : tb + 32 * j + 32 = tb + 32 * (j + 1) := by omega
    refine ek_if (lq_eq (a := rU4 B (tb + 32 * j)) (b := 0) (by omega) (by omega)) (fun q => ?_) fun q => ?_
    · rw [hS, if_neg (by simp [shP, q]), en]
      exact px_P.weak (fun q hq => List.mem_append_left [_, _] hq) (ih (j + 1) (by omega))
    · refine px_rd.use (t_Reader_meet l (by omega) (by omega) (by omega) (by omega)) (px_wp_ok (sp := [61]) 60 _ _ _ _ _ ?_)
      simp only [px_ev_nil, px_ev_i, px_ev_l, px_ev_n, px_ev_r, px_wp, px_step, px_tg, px_i1, px_i2, px_l1, px_l2, px_il, px_a1, px_ia, px_iia, px_lki, px_lkl, px_lka, px_lk, px_sto, px_ins, px_del, px_popn, px_inv, px_cat, px_obj, px_arr, px_arq, px_rfv, px_rok, px_tB, px_tI, px_tZ, px_tG, px_tS, px_S, lv_args, Value.category, List.contains_cons, List.contains_nil, List.getElem?_cons_zero, List.getElem?_cons_succ, List.set_cons_zero, List.set_cons_succ, List.length_cons, List.length_nil, List.map_cons, List.map_nil, List.sum_cons, List.sum_nil, List.cons_append, List.nil_append, Option.toList_some, Option.toList_none, px_hold, Fin.isValue, Fin.val_zero, Fin.val_one, Fin.val_two, Nat.reduceBEq, Nat.reduceAdd, Nat.reduceLT, Nat.reduceLeDiff, Nat.reduceEqDiff, Nat.reduceMod, Int.reduceNeg, Int.reduceAdd, Int.reduceLE, Int.reduceLT, Int.reduceToNat, Int.cast_ofNat_Int, Int.ofNat_eq_natCast, Bool.or_self, Bool.or_false, Bool.false_or, Bool.and_false, Bool.and_self, Bool.false_and, Bool.true_and, Bool.false_eq_true, Bool.true_eq_false, ↓reduceIte, reduceCtorEq, true_and, and_true, false_and, and_false, false_or, or_false, true_or, or_true, ne_eq, not_false_eq_true, not_true_eq_false, px_f0, px_f1, px_f2, px_f3, kc_L0, kc_L1, if_true, if_false, px_10, true_implies, false_implies, implies_true, on_85, mL_85, rt_85, dp_85, lc_85, nr_85, yn_85, rc_3, e85_0, e85_1, fd_3_9, e85_4, e85_5, kc_4, e85_6, e85_7, mt_3_80, kw_78, np_78, on_78, nr_78, fc_85_78, rc_0, e85_10, e85_11, e85_12, e85_13, e85_16, e85_17, kc_16, e85_19, e85_20, e85_23, e85_24, e85_26, e85_27, e85_29, e85_30, fd_3_87, e85_33, e85_34, e85_35, e85_38, kc_32, e85_40, e85_41, fd_3_84, e85_44, e85_45, e85_46, e85_47, mt_3_148, kw_86, np_86, on_86, nr_86, fc_85_86, e85_50, e85_53, kc_1, e85_54, e85_55, e85_56, e85_59, e85_61, e85_63, e85_64, e85_67, e85_68, e85_71, e85_73, e85_74, e85_75, e85_78, e85_80, e85_82, e85_83, e85_86, e85_88, e85_90, e85_91, e85_94, e85_95, e85_97, e85_98, e85_101, e85_103, e85_106, e85_107, e85_108, e85_111, e85_112, e85_114, e85_116, e85_118, e85_121, e85_124, e85_125, e85_126, e85_129, e85_132, kc_0, e85_133, n_p32]
      refine ek_if bI_0 (fun p => ?_) fun p => ?_
      · rw [hS, if_neg (by rw [shP, p, Bool.and_false]; decide), en]
        exact px_P.weak (fun q hq => List.mem_append_left [_, _] hq) (ih (j + 1) (by omega))
      · have p : shM (rU4 B (tb + 32 * i + 4)) (rU4 B (tb + 32 * i + 4) + rU4 B (tb + 32 * i + 16)) (rU4 B (tb + 32 * j + 4)) (rU4 B (tb + 32 * j + 4) + rU4 B (tb + 32 * j + 16)) = true := by simpa using p
        rw [hS, if_pos (by rw [shP, p, decide_eq_false q]; decide)]
        exact rdRK.rf
set_option maxRecDepth 100000 in
set_option maxHeartbeats 4000000 in
theorem t_Reader_sharesBytes (l : Launch) {h : px_H} {nr nb nl fp : Int32} {tb rn m c i : Nat} {B : Nat → Nat} (R : rdO h (nI tb) (nI rn) nr nb nl fp) (F : By h 1664 16384 m c B) (hi : i < rn) (hc : tb + 32 * rn ≤ c) : px_rd l 85 [.ref 1856, .int (nI (tb + 32 * i))] h (.int (bI (shF B tb rn (tb + 32 * i) i))) := by
  have hc16 := F.c16
  have R0 := R
  unfold rdO at R0
  have v1 := rU4_lt B (tb + 32 * i + 4)
  have v2 := rU4_lt B (tb + 32 * i + 16)
  have e1 := nI_l (n := tb) (by omega)
  have e2 := nI_l (n := tb + 32 * rn) (by omega)
  show px_Ct _ _ _ _ (rdRK h (.int (bI (shF B tb rn (tb + 32 * i) i))))
  refine px_Ct.of (by decide) (Nat.le_of_ble_eq_true rfl) (px_wp_ok (sp := [61]) 60 _ _ _ _ _ ?_)
  simp only [px_ev_nil, px_ev_i, px_ev_l, px_ev_n, px_ev_r, px_wp, px_step, px_tg, px_i1, px_i2, px_l1, px_l2, px_il, px_a1, px_ia, px_iia, px_lki, px_lkl, px_lka, px_lk, px_sto, px_ins, px_del, px_popn, px_inv, px_cat, px_obj, px_arr, px_arq, px_rfv, px_rok, px_tB, px_tI, px_tZ, px_tG, px_tS, px_S, lv_args, Value.category, List.contains_cons, List.contains_nil, List.getElem?_cons_zero, List.getElem?_cons_succ, List.set_cons_zero, List.set_cons_succ, List.length_cons, List.length_nil, List.map_cons, List.map_nil, List.sum_cons, List.sum_nil, List.cons_append, List.nil_append, Option.toList_some, Option.toList_none, px_hold, Fin.isValue, Fin.val_zero, Fin.val_one, Fin.val_two, Nat.reduceBEq, Nat.reduceAdd, Nat.reduceLT, Nat.reduceLeDiff, Nat.reduceEqDiff, Nat.reduceMod, Int.reduceNeg, Int.reduceAdd, Int.reduceLE, Int.reduceLT, Int.reduceToNat, Int.cast_ofNat_Int, Int.ofNat_eq_natCast, Bool.or_self, Bool.or_false, Bool.false_or, Bool.and_false, Bool.and_self, Bool.false_and, Bool.true_and, Bool.false_eq_true, Bool.true_eq_false, ↓reduceIte, reduceCtorEq, true_and, and_true, false_and, and_false, false_or, or_false, true_or, or_true, ne_eq, not_false_eq_true, not_true_eq_false, px_f0, px_f1, px_f2, px_f3, kc_L0, kc_L1, if_true, if_false, px_10, true_implies, false_implies, implies_true, on_85, mL_85, rt_85, dp_85, lc_85, nr_85, yn_85, rc_3, e85_0, e85_1, fd_3_9, e85_4, e85_5, kc_4, e85_6, e85_7, mt_3_80, kw_78, np_78, on_78, nr_78, fc_85_78, rc_0, e85_10, e85_11, e85_12, e85_13, e85_16, e85_17, kc_16, e85_19, e85_20, e85_23, e85_24, e85_26, e85_27, e85_29, e85_30, fd_3_87, e85_33, e85_34, e85_35, e85_38, kc_32, e85_40, e85_41, fd_3_84, e85_44, e85_45, e85_46, e85_47, mt_3_148, kw_86, np_86, on_86, nr_86, fc_85_86, e85_50, e85_53, kc_1, e85_54, e85_55, e85_56, e85_59, e85_61, e85_63, e85_64, e85_67, e85_68, e85_71, e85_73, e85_74, e85_75, e85_78, e85_80, e85_82, e85_83, e85_86, e85_88, e85_90, e85_91, e85_94, e85_95, e85_97, e85_98, e85_101, e85_103, e85_106, e85_107, e85_108, e85_111, e85_112, e85_114, e85_116, e85_118, e85_121, e85_124, e85_125, e85_126, e85_129, e85_132, kc_0, e85_133, R0, F.1, n_p4]
  refine px_rd.use (r_u4 l F (k := tb + 32 * i + 4) (by omega)) (px_wp_ok (sp := [61]) 60 _ _ _ _ _ ?_)
  simp only [px_ev_nil, px_ev_i, px_ev_l, px_ev_n, px_ev_r, px_wp, px_step, px_tg, px_i1, px_i2, px_l1, px_l2, px_il, px_a1, px_ia, px_iia, px_lki, px_lkl, px_lka, px_lk, px_sto, px_ins, px_del, px_popn, px_inv, px_cat, px_obj, px_arr, px_arq, px_rfv, px_rok, px_tB, px_tI, px_tZ, px_tG, px_tS, px_S, lv_args, Value.category, List.contains_cons, List.contains_nil, List.getElem?_cons_zero, List.getElem?_cons_succ, List.set_cons_zero, List.set_cons_succ, List.length_cons, List.length_nil, List.map_cons, List.map_nil, List.sum_cons, List.sum_nil, List.cons_append, List.nil_append, Option.toList_some, Option.toList_none, px_hold, Fin.isValue, Fin.val_zero, Fin.val_one, Fin.val_two, Nat.reduceBEq, Nat.reduceAdd, Nat.reduceLT, Nat.reduceLeDiff, Nat.reduceEqDiff, Nat.reduceMod, Int.reduceNeg, Int.reduceAdd, Int.reduceLE, Int.reduceLT, Int.reduceToNat, Int.cast_ofNat_Int, Int.ofNat_eq_natCast, Bool.or_self, Bool.or_false, Bool.false_or, Bool.and_false, Bool.and_self, Bool.false_and, Bool.true_and, Bool.false_eq_true, Bool.true_eq_false, ↓reduceIte, reduceCtorEq, true_and, and_true, false_and, and_false, false_or, or_false, true_or, or_true, ne_eq, not_false_eq_true, not_true_eq_false, px_f0, px_f1, px_f2, px_f3, kc_L0, kc_L1, if_true, if_false, px_10, true_implies, false_implies, implies_true, on_85, mL_85, rt_85, dp_85, lc_85, nr_85, yn_85, rc_3, e85_0, e85_1, fd_3_9, e85_4, e85_5, kc_4, e85_6, e85_7, mt_3_80, kw_78, np_78, on_78, nr_78, fc_85_78, rc_0, e85_10, e85_11, e85_12, e85_13, e85_16, e85_17, kc_16, e85_19, e85_20, e85_23, e85_24, e85_26, e85_27, e85_29, e85_30, fd_3_87, e85_33, e85_34, e85_35, e85_38, kc_32, e85_40, e85_41, fd_3_84, e85_44, e85_45, e85_46, e85_47, mt_3_148, kw_86, np_86, on_86, nr_86, fc_85_86, e85_50, e85_53, kc_1, e85_54, e85_55, e85_56, e85_59, e85_61, e85_63, e85_64, e85_67, e85_68, e85_71, e85_73, e85_74, e85_75, e85_78, e85_80, e85_82, e85_83, e85_86, e85_88, e85_90, e85_91, e85_94, e85_95, e85_97, e85_98, e85_101, e85_103, e85_106, e85_107, e85_108, e85_111, e85_112, e85_114, e85_116, e85_118, e85_121, e85_124, e85_125, e85_126, e85_129, e85_132, kc_0, e85_133, R0, F.1, n_p4, n_p16, n_p32, n_m32, nI_add, lN_add]
  refine px_rd.use (r_u4 l F (k := tb + 32 * i + 16) (by omega)) (px_wp_ok (sp := [61]) 60 _ _ _ _ _ ?_)
  simp only [px_ev_nil, px_ev_i, px_ev_l, px_ev_n, px_ev_r, px_wp, px_step, px_tg, px_i1, px_i2, px_l1, px_l2, px_il, px_a1, px_ia, px_iia, px_lki, px_lkl, px_lka, px_lk, px_sto, px_ins, px_del, px_popn, px_inv, px_cat, px_obj, px_arr, px_arq, px_rfv, px_rok, px_tB, px_tI, px_tZ, px_tG, px_tS, px_S, lv_args, Value.category, List.contains_cons, List.contains_nil, List.getElem?_cons_zero, List.getElem?_cons_succ, List.set_cons_zero, List.set_cons_succ, List.length_cons, List.length_nil, List.map_cons, List.map_nil, List.sum_cons, List.sum_nil, List.cons_append, List.nil_append, Option.toList_some, Option.toList_none, px_hold, Fin.isValue, Fin.val_zero, Fin.val_one, Fin.val_two, Nat.reduceBEq, Nat.reduceAdd, Nat.reduceLT, Nat.reduceLeDiff, Nat.reduceEqDiff, Nat.reduceMod, Int.reduceNeg, Int.reduceAdd, Int.reduceLE, Int.reduceLT, Int.reduceToNat, Int.cast_ofNat_Int, Int.ofNat_eq_natCast, Bool.or_self, Bool.or_false, Bool.false_or, Bool.and_false, Bool.and_self, Bool.false_and, Bool.true_and, Bool.false_eq_true, Bool.true_eq_false, ↓reduceIte, reduceCtorEq, true_and, and_true, false_and, and_false, false_or, or_false, true_or, or_true, ne_eq, not_false_eq_true, not_true_eq_false, px_f0, px_f1, px_f2, px_f3, kc_L0, kc_L1, if_true, if_false, px_10, true_implies, false_implies, implies_true, on_85, mL_85, rt_85, dp_85, lc_85, nr_85, yn_85, rc_3, e85_0, e85_1, fd_3_9, e85_4, e85_5, kc_4, e85_6, e85_7, mt_3_80, kw_78, np_78, on_78, nr_78, fc_85_78, rc_0, e85_10, e85_11, e85_12, e85_13, e85_16, e85_17, kc_16, e85_19, e85_20, e85_23, e85_24, e85_26, e85_27, e85_29, e85_30, fd_3_87, e85_33, e85_34, e85_35, e85_38, kc_32, e85_40, e85_41, fd_3_84, e85_44, e85_45, e85_46, e85_47, mt_3_148, kw_86, np_86, on_86, nr_86, fc_85_86, e85_50, e85_53, kc_1, e85_54, e85_55, e85_56, e85_59, e85_61, e85_63, e85_64, e85_67, e85_68, e85_71, e85_73, e85_74, e85_75, e85_78, e85_80, e85_82, e85_83, e85_86, e85_88, e85_90, e85_91, e85_94, e85_95, e85_97, e85_98, e85_101, e85_103, e85_106, e85_107, e85_108, e85_111, e85_112, e85_114, e85_116, e85_118, e85_121, e85_124, e85_125, e85_126, e85_129, e85_132, kc_0, e85_133, R0, F.1, n_p4, n_p16, n_p32, n_m32, nI_add, lN_add, e1, e2]
  refine px_rd.use (t_Reader_meet l (by omega) (by omega) (by omega) (by omega)) (px_wp_ok (sp := [61]) 60 _ _ _ _ _ ?_)
  simp only [px_ev_nil, px_ev_i, px_ev_l, px_ev_n, px_ev_r, px_wp, px_step, px_tg, px_i1, px_i2, px_l1, px_l2, px_il, px_a1, px_ia, px_iia, px_lki, px_lkl, px_lka, px_lk, px_sto, px_ins, px_del, px_popn, px_inv, px_cat, px_obj, px_arr, px_arq, px_rfv, px_rok, px_tB, px_tI, px_tZ, px_tG, px_tS, px_S, lv_args, Value.category, List.contains_cons, List.contains_nil, List.getElem?_cons_zero, List.getElem?_cons_succ, List.set_cons_zero, List.set_cons_succ, List.length_cons, List.length_nil, List.map_cons, List.map_nil, List.sum_cons, List.sum_nil, List.cons_append, List.nil_append, Option.toList_some, Option.toList_none, px_hold, Fin.isValue, Fin.val_zero, Fin.val_one, Fin.val_two, Nat.reduceBEq, Nat.reduceAdd, Nat.reduceLT, Nat.reduceLeDiff, Nat.reduceEqDiff, Nat.reduceMod, Int.reduceNeg, Int.reduceAdd, Int.reduceLE, Int.reduceLT, Int.reduceToNat, Int.cast_ofNat_Int, Int.ofNat_eq_natCast, Bool.or_self, Bool.or_false, Bool.false_or, Bool.and_false, Bool.and_self, Bool.false_and, Bool.true_and, Bool.false_eq_true, Bool.true_eq_false, ↓reduceIte, reduceCtorEq, true_and, and_true, false_and, and_false, false_or, or_false, true_or, or_true, ne_eq, not_false_eq_true, not_true_eq_false, px_f0, px_f1, px_f2, px_f3, kc_L0, kc_L1, if_true, if_false, px_10, true_implies, false_implies, implies_true, on_85, mL_85, rt_85, dp_85, lc_85, nr_85, yn_85, rc_3, e85_0, e85_1, fd_3_9, e85_4, e85_5, kc_4, e85_6, e85_7, mt_3_80, kw_78, np_78, on_78, nr_78, fc_85_78, rc_0, e85_10, e85_11, e85_12, e85_13, e85_16, e85_17, kc_16, e85_19, e85_20, e85_23, e85_24, e85_26, e85_27, e85_29, e85_30, fd_3_87, e85_33, e85_34, e85_35, e85_38, kc_32, e85_40, e85_41, fd_3_84, e85_44, e85_45, e85_46, e85_47, mt_3_148, kw_86, np_86, on_86, nr_86, fc_85_86, e85_50, e85_53, kc_1, e85_54, e85_55, e85_56, e85_59, e85_61, e85_63, e85_64, e85_67, e85_68, e85_71, e85_73, e85_74, e85_75, e85_78, e85_80, e85_82, e85_83, e85_86, e85_88, e85_90, e85_91, e85_94, e85_95, e85_97, e85_98, e85_101, e85_103, e85_106, e85_107, e85_108, e85_111, e85_112, e85_114, e85_116, e85_118, e85_121, e85_124, e85_125, e85_126, e85_129, e85_132, kc_0, e85_133, R0, F.1]
  refine ek_if bI_0 (fun p => ?_) fun p => ?_
  · rw [shF, p, Bool.false_or]
    exact lp_shares l (x6 := .null) R F hi hc i 0 (by omega)
  · have p : shM (rU4 B (tb + 32 * i + 4)) (rU4 B (tb + 32 * i + 4) + rU4 B (tb + 32 * i + 16)) tb (tb + 32 * rn) = true := by simpa using p
    rw [shF, p, Bool.true_or]
    exact rdRK.rf
