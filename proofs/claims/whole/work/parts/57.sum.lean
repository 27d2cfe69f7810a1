/-! the sum -/
def P32 : BitVec 32 := 3988292384#32
def cr1 (x : BitVec 32) : BitVec 32 := (x >>> 1) ^^^ (if x.getLsbD 0 = true then P32 else 0#32)
def crN (n : Nat) (x : BitVec 32) : BitVec 32 := match n with
  | 0 => x
  | n + 1 => cr1 (crN n x)
def cby (r : BitVec 32) (b : Nat) : BitVec 32 := crN 8 (r ^^^ BitVec.ofNat 32 b)
/-- the register behind n bytes -/
def cfold (r : BitVec 32) (n : Nat) (B : Nat → Nat) : BitVec 32 := match n with
  | 0 => r
  | n + 1 => cby (cfold r n B) (B n)
def iB (x : BitVec 32) : Int32 := Int32.ofBitVec x
theorem iB_bv (x : Int32) : iB x.toBitVec = x := rfl
theorem cr1_xor (x y : BitVec 32) : cr1 (x ^^^ y) = cr1 x ^^^ cr1 y := by
  unfold cr1
  rw [BitVec.ushiftRight_xor_distrib, BitVec.getLsbD_xor]
  generalize x >>> 1 = a
  generalize y >>> 1 = b
  cases x.getLsbD 0 <;> cases y.getLsbD 0
  · simp
  · simp [BitVec.xor_assoc]
  · simp only [Bool.xor_false, if_true, Bool.false_eq_true, if_false, BitVec.xor_zero]
    ac_rfl
  · simp only [Bool.xor_self, Bool.false_eq_true, if_false, if_true, BitVec.xor_zero]
    have : a ^^^ P32 ^^^ (b ^^^ P32) = (a ^^^ b) ^^^ (P32 ^^^ P32) := by ac_rfl
    rw [this, BitVec.xor_self, BitVec.xor_zero]
theorem crN_xor (n : Nat) (x y : BitVec 32) : crN n (x ^^^ y) = crN n x ^^^ crN n y := by
  induction n with
  | zero => rfl
  | succ n ih =>
    show cr1 (crN n (x ^^^ y)) = cr1 (crN n x) ^^^ cr1 (crN n y)
    rw [ih, cr1_xor]
theorem cr1_even {x : BitVec 32} (h : x.toNat % 2 = 0) : (cr1 x).toNat = x.toNat / 2 := by
  have h1 : x.getLsbD 0 = false := by
    rw [BitVec.getLsbD, Nat.testBit_zero]
    simp [h]
  unfold cr1
  rw [h1]
  simp [BitVec.toNat_ushiftRight, Nat.shiftRight_eq_div_pow]
theorem crN_16 {x : BitVec 32} {q : Nat} (h : x.toNat = 16 * q) : (crN 4 x).toNat = q := by
  have h1 : (crN 1 x).toNat = 8 * q := by
    show (cr1 x).toNat = _
    rw [cr1_even (by omega)]; omega
  have h2 : (crN 2 x).toNat = 4 * q := by
    show (cr1 (crN 1 x)).toNat = _
    rw [cr1_even (by omega)]; omega
  have h3 : (crN 3 x).toNat = 2 * q := by
    show (cr1 (crN 2 x)).toNat = _
    rw [cr1_even (by omega)]; omega
  show (cr1 (crN 3 x)).toNat = _
  rw [cr1_even (by omega)]; omega
def fourB : List Int32 := [0, 498536548, 997073096, 651767980, 1994146192, 1802195444, 1303535960, 1342533948, -306674912, -267414716, -690576408, -882789492, -1687895376, -2032938284, -1609899400, -1111625188]
def stF (xs : List Int32) : Nat → Int32 := fun j => xs.getD j 0
theorem fourB_ok : ∀ i, i < 16 → (stF fourB i).toBitVec = crN 4 (BitVec.ofNat 32 i) := by decide +kernel
theorem crN_four (x : BitVec 32) : crN 4 x = (x >>> 4) ^^^ (stF fourB (x.toNat % 16)).toBitVec := by
  rw [fourB_ok _ (by omega)]
  have e : x = BitVec.ofNat 32 (16 * (x.toNat / 16)) ^^^ BitVec.ofNat 32 (x.toNat % 16) := by
    apply BitVec.eq_of_toNat_eq
    have hx := x.isLt
    rw [BitVec.toNat_xor, BitVec.toNat_ofNat, BitVec.toNat_ofNat, Nat.mod_eq_of_lt (by omega), Nat.mod_eq_of_lt (by omega)]
    have h1 : 16 * (x.toNat / 16) = (x.toNat / 16) <<< 4 := by rw [Nat.shiftLeft_eq]; omega
    have h2 : (x.toNat / 16) <<< 4 ^^^ x.toNat % 16 = (x.toNat / 16) <<< 4 ||| x.toNat % 16 := by
      apply Nat.eq_of_testBit_eq
      intro i
      rw [Nat.testBit_xor, Nat.testBit_or, Nat.testBit_shiftLeft]
      by_cases hi : 4 ≤ i
      · have h3 : (x.toNat % 16).testBit i = false := Nat.testBit_lt_two_pow (Nat.lt_of_lt_of_le (Nat.mod_lt _ (by decide)) (Nat.pow_le_pow_right (by decide) hi : 2 ^ 4 ≤ 2 ^ i))
        rw [h3]; simp
      · have h4 : decide (i ≥ 4) = false := by simp; omega
        rw [h4]; simp
    rw [h1, h2, ← Nat.shiftLeft_add_eq_or_of_lt (by omega), Nat.shiftLeft_eq]
    omega
  have e2 : crN 4 (BitVec.ofNat 32 (16 * (x.toNat / 16))) = x >>> 4 := by
    apply BitVec.eq_of_toNat_eq
    have hx := x.isLt
    rw [crN_16 (q := x.toNat / 16) (by rw [BitVec.toNat_ofNat, Nat.mod_eq_of_lt (by omega)]), BitVec.toNat_ushiftRight, Nat.shiftRight_eq_div_pow]
  rw [← e2, ← crN_xor, ← e]
theorem i_four (x : Int32) : (x.toUInt32 >>> (Int32.toUInt32 4 &&& Int32.toUInt32 31)).toInt32 ^^^ stF fourB (x &&& 15).toNatClampNeg = iB (crN 4 x.toBitVec) := by
  apply Int32.toBitVec_inj.mp
  show (x.toUInt32 >>> (Int32.toUInt32 4 &&& Int32.toUInt32 31)).toInt32.toBitVec ^^^ (stF fourB (x &&& 15).toNatClampNeg).toBitVec = crN 4 x.toBitVec
  rw [crN_four]
  have h1 : (x.toUInt32 >>> (Int32.toUInt32 4 &&& Int32.toUInt32 31)).toInt32.toBitVec = x.toBitVec >>> 4 := by
    apply BitVec.eq_of_toNat_eq
    rw [pk_ushr x 4 4 (by decide), BitVec.toNat_ushiftRight, Nat.shiftRight_eq_div_pow]
  have h2 : (x &&& 15).toNatClampNeg = x.toBitVec.toNat % 16 := by
    rw [pk_and x (m := 15) 4 (by decide), nI_clamp (by omega)]
  rw [h1, h2]
/-- the static rows of numbers -/
def Stc (h : px_H) : Prop := h 0 = some (.inl (px_tS, 3, .inl (stF [5, 4, 6]))) ∧ h 64 = some (.inl (px_tS, 3, .inl (stF [0, 0, 1]))) ∧ h 128 = some (.inl (px_tS, 3, .inl (stF [1, 2, 2]))) ∧ h 192 = some (.inl (px_tS, 16, .inl (stF [127, 69, 76, 70, 1, 1, 1, 0, 0, 0, 0, 0, 0, 0, 0, 0]))) ∧ h 256 = some (.inl (px_tS, 8, .inl (stF [77, 97, 114, 107, 115, 0, 0, 0]))) ∧ h 320 = some (.inl (px_tS, 16, .inl (stF fourB)))
theorem Stc.fr {P : Nat → Prop} {h h' : px_H} (H : Stc h) (hf : px_fr P h h') (hP : ∀ j, P j → 448 ≤ j) : Stc h' := by
  have e : ∀ j, j < 448 → h' j = h j := fun j hj => hf j (fun q => absurd (hP j q) (by omega))
  unfold Stc
  rw [e 0 (by omega), e 64 (by omega), e 128 (by omega), e 192 (by omega), e 256 (by omega), e 320 (by omega)]
  exact H
set_option maxRecDepth 100000 in
set_option maxHeartbeats 4000000 in
theorem t_Sum_withByte (l : Launch) {h : px_H} {r : BitVec 32} {v : Int32} (H : Stc h) : px_rd l 61 [.int (iB r), .int v] h (.int (iB (cby r (v.toInt % 256).toNat))) := by
  have h3 := H.2.2.2.2.2
  refine px_Ct.of (by decide) (Nat.le_of_ble_eq_true rfl) (px_wp_ok (sp := []) 60 _ _ _ _ _ ?_)
  simp only [px_ev_nil, px_ev_i, px_ev_l, px_ev_n, px_ev_r, px_wp, px_step, px_tg, px_i1, px_i2, px_l1, px_l2, px_il, px_a1, px_ia, px_iia, px_lki, px_lkl, px_lka, px_lk, px_sto, px_ins, px_del, px_popn, px_inv, px_cat, px_obj, px_arr, px_arq, px_rfv, px_rok, px_tB, px_tI, px_tZ, px_tG, px_tS, px_S, lv_args, Value.category, List.contains_cons, List.contains_nil, List.getElem?_cons_zero, List.getElem?_cons_succ, List.set_cons_zero, List.set_cons_succ, List.length_cons, List.length_nil, List.map_cons, List.map_nil, List.sum_cons, List.sum_nil, List.cons_append, List.nil_append, Option.toList_some, Option.toList_none, px_hold, Fin.isValue, Fin.val_zero, Fin.val_one, Fin.val_two, Nat.reduceBEq, Nat.reduceAdd, Nat.reduceLT, Nat.reduceLeDiff, Nat.reduceEqDiff, Nat.reduceMod, Int.reduceNeg, Int.reduceAdd, Int.reduceLE, Int.reduceLT, Int.reduceToNat, Int.cast_ofNat_Int, Int.ofNat_eq_natCast, Bool.or_self, Bool.or_false, Bool.false_or, Bool.and_false, Bool.and_self, Bool.false_and, Bool.true_and, Bool.false_eq_true, Bool.true_eq_false, ↓reduceIte, reduceCtorEq, true_and, and_true, false_and, and_false, false_or, or_false, true_or, or_true, ne_eq, not_false_eq_true, not_true_eq_false, px_f0, px_f1, px_f2, px_f3, kc_L0, kc_L1, if_true, if_false, px_10, true_implies, false_implies, implies_true, on_61, mL_61, rt_61, dp_61, lc_61, nr_61, yn_61, rc_5, e61_0, e61_1, e61_2, kc_255, e61_5, e61_6, e61_7, e61_8, e61_9, kc_4, e61_10, e61_11, sg_5_7, e61_14, e61_15, kc_15, e61_17, e61_18, e61_19, e61_20, e61_21, e61_22, e61_23, e61_24, e61_27, e61_28, e61_30, e61_31, e61_32, e61_33, h3, i_four]
  have e0 : iB r ^^^ (v &&& 255) = iB (r ^^^ BitVec.ofNat 32 (v.toInt % 256).toNat) := by
    apply Int32.toBitVec_inj.mp
    show r ^^^ (v &&& 255).toBitVec = r ^^^ BitVec.ofNat 32 (v.toInt % 256).toNat
    congr 1
    apply BitVec.eq_of_toNat_eq
    rw [pk_and v (m := 255) 8 (by decide), pk_tn (by omega), BitVec.toNat_ofNat]
    have := i_un v
    omega
  refine ⟨pk_andIn _ (m := 15) 4 (by decide) (by decide), pk_andIn _ (m := 15) 4 (by decide) (by decide), ?_⟩
  rw [e0]
  rfl

/-- the register behind a number of four bytes -/
def cnum (r : BitVec 32) (v : Int32) : BitVec 32 := cfold r 4 (nby v)
theorem nby_at (v : Int32) {i : Nat} (hi : i < 4) : (((v.toUInt32 >>> (((8 : Int32) * nI i).toUInt32 &&& Int32.toUInt32 31)).toInt32).toInt % 256).toNat = nby v i := by
  have h2 : ((v.toUInt32 >>> (((8 : Int32) * nI i).toUInt32 &&& Int32.toUInt32 31)).toInt32).toBitVec.toNat = v.toBitVec.toNat / 2 ^ (8 * i) := by
    refine pk_ushr v _ (8 * i) ?_
    rcases (show i = 0 ∨ i = 1 ∨ i = 2 ∨ i = 3 by omega) with rfl | rfl | rfl | rfl <;> decide
  have h3 := i_un ((v.toUInt32 >>> (((8 : Int32) * nI i).toUInt32 &&& Int32.toUInt32 31)).toInt32)
  rw [h2] at h3
  rw [h3]
  unfold nby
  omega
set_option maxRecDepth 100000 in
set_option maxHeartbeats 4000000 in
theorem lp_withNumber (l : Launch) {h : px_H} {r : BitVec 32} {v : Int32} {x0 : Int32} {K : px_K} (H : Stc h) (hK : K (some (.int (iB (cnum r v)))) h 0 0) : ∀ (d i : Nat), i + d = 4 → px_P l 60 4 [(0, .int x0), (1, .int v), (2, .int (iB (cfold r i (nby v)))), (3, .int (nI i))] [] h K := by
  intro d
  induction d with
  | zero =>
    intro i hi
    have e : i = 4 := by omega
    subst e
    refine px_go_ok (sp := [4]) 60 ?_
    simp only [px_go, px_ev_nil, px_ev_i, px_ev_l, px_ev_n, px_ev_r, px_wp, px_step, px_tg, px_i1, px_i2, px_l1, px_l2, px_il, px_a1, px_ia, px_iia, px_lki, px_lkl, px_lka, px_lk, px_sto, px_ins, px_del, px_popn, px_inv, px_cat, px_obj, px_arr, px_arq, px_rfv, px_rok, px_tB, px_tI, px_tZ, px_tG, px_tS, px_S, lv_args, Value.category, List.contains_cons, List.contains_nil, List.getElem?_cons_zero, List.getElem?_cons_succ, List.set_cons_zero, List.set_cons_succ, List.length_cons, List.length_nil, List.map_cons, List.map_nil, List.sum_cons, List.sum_nil, List.cons_append, List.nil_append, Option.toList_some, Option.toList_none, px_hold, Fin.isValue, Fin.val_zero, Fin.val_one, Fin.val_two, Nat.reduceBEq, Nat.reduceAdd, Nat.reduceLT, Nat.reduceLeDiff, Nat.reduceEqDiff, Nat.reduceMod, Int.reduceNeg, Int.reduceAdd, Int.reduceLE, Int.reduceLT, Int.reduceToNat, Int.cast_ofNat_Int, Int.ofNat_eq_natCast, Bool.or_self, Bool.or_false, Bool.false_or, Bool.and_false, Bool.and_self, Bool.false_and, Bool.true_and, Bool.false_eq_true, Bool.true_eq_false, ↓reduceIte, reduceCtorEq, true_and, and_true, false_and, and_false, false_or, or_false, true_or, or_true, ne_eq, not_false_eq_true, not_true_eq_false, px_f0, px_f1, px_f2, px_f3, kc_L0, kc_L1, if_true, if_false, px_10, true_implies, false_implies, implies_true, on_60, mL_60, rt_60, dp_60, lc_60, nr_60, yn_60, rc_5, e60_0, e60_1, e60_2, kc_0, e60_3, e60_4, e60_5, kc_4, e60_6, e60_9, e60_10, e60_11, kc_8, e60_13, e60_14, e60_15, e60_16, mt_5_13, kw_61, np_61, on_61, nr_61, fc_60_61, e60_19, e60_20, kc_1, e60_23, e60_26, e60_27]
    exact ⟨fun _ => hK, fun q => absurd (by decide) q⟩
  | succ d ih =>
    intro i hi
    have h1 := i_n (n := i) (by omega)
    refine px_go_ok (sp := [4]) 60 ?_
    simp only [px_go, px_ev_nil, px_ev_i, px_ev_l, px_ev_n, px_ev_r, px_wp, px_step, px_tg, px_i1, px_i2, px_l1, px_l2, px_il, px_a1, px_ia, px_iia, px_lki, px_lkl, px_lka, px_lk, px_sto, px_ins, px_del, px_popn, px_inv, px_cat, px_obj, px_arr, px_arq, px_rfv, px_rok, px_tB, px_tI, px_tZ, px_tG, px_tS, px_S, lv_args, Value.category, List.contains_cons, List.contains_nil, List.getElem?_cons_zero, List.getElem?_cons_succ, List.set_cons_zero, List.set_cons_succ, List.length_cons, List.length_nil, List.map_cons, List.map_nil, List.sum_cons, List.sum_nil, List.cons_append, List.nil_append, Option.toList_some, Option.toList_none, px_hold, Fin.isValue, Fin.val_zero, Fin.val_one, Fin.val_two, Nat.reduceBEq, Nat.reduceAdd, Nat.reduceLT, Nat.reduceLeDiff, Nat.reduceEqDiff, Nat.reduceMod, Int.reduceNeg, Int.reduceAdd, Int.reduceLE, Int.reduceLT, Int.reduceToNat, Int.cast_ofNat_Int, Int.ofNat_eq_natCast, Bool.or_self, Bool.or_false, Bool.false_or, Bool.and_false, Bool.and_self, Bool.false_and, Bool.true_and, Bool.false_eq_true, Bool.true_eq_false, ↓reduceIte, reduceCtorEq, true_and, and_true, false_and, and_false, false_or, or_false, true_or, or_true, ne_eq, not_false_eq_true, not_true_eq_false, px_f0, px_f1, px_f2, px_f3, kc_L0, kc_L1, if_true, if_false, px_10, true_implies, false_implies, implies_true, on_60, mL_60, rt_60, dp_60, lc_60, nr_60, yn_60, rc_5, e60_0, e60_1, e60_2, kc_0, e60_3, e60_4, e60_5, kc_4, e60_6, e60_9, e60_10, e60_11, kc_8, e60_13, e60_14, e60_15, e60_16, mt_5_13, kw_61, np_61, on_61, nr_61, fc_60_61, e60_19, e60_20, kc_1, e60_23, e60_26, e60_27]
    refine ⟨fun q => ?_, fun _ => ?_⟩
    · rw [i_le, h1, kt_4] at q
      omega
    · refine px_rd.use (t_Sum_withByte l H) (px_wp_ok (sp := [4]) 20 _ _ _ _ _ ?_)
      simp only [px_ev_nil, px_ev_i, px_ev_l, px_ev_n, px_ev_r, px_wp, px_step, px_tg, px_i1, px_i2, px_l1, px_l2, px_il, px_a1, px_ia, px_iia, px_lki, px_lkl, px_lka, px_lk, px_sto, px_ins, px_del, px_popn, px_inv, px_cat, px_obj, px_arr, px_arq, px_rfv, px_rok, px_tB, px_tI, px_tZ, px_tG, px_tS, px_S, lv_args, Value.category, List.contains_cons, List.contains_nil, List.getElem?_cons_zero, List.getElem?_cons_succ, List.set_cons_zero, List.set_cons_succ, List.length_cons, List.length_nil, List.map_cons, List.map_nil, List.sum_cons, List.sum_nil, List.cons_append, List.nil_append, Option.toList_some, Option.toList_none, px_hold, Fin.isValue, Fin.val_zero, Fin.val_one, Fin.val_two, Nat.reduceBEq, Nat.reduceAdd, Nat.reduceLT, Nat.reduceLeDiff, Nat.reduceEqDiff, Nat.reduceMod, Int.reduceNeg, Int.reduceAdd, Int.reduceLE, Int.reduceLT, Int.reduceToNat, Int.cast_ofNat_Int, Int.ofNat_eq_natCast, Bool.or_self, Bool.or_false, Bool.false_or, Bool.and_false, Bool.and_self, Bool.false_and, Bool.true_and, Bool.false_eq_true, Bool.true_eq_false, ↓reduceIte, reduceCtorEq, true_and, and_true, false_and, and_false, false_or, or_false, true_or, or_true, ne_eq, not_false_eq_true, not_true_eq_false, px_f0, px_f1, px_f2, px_f3, kc_L0, kc_L1, if_true, if_false, px_10, true_implies, false_implies, implies_true, on_60, mL_60, rt_60, dp_60, lc_60, nr_60, yn_60, rc_5, e60_0, e60_1, e60_2, kc_0, e60_3, e60_4, e60_5, kc_4, e60_6, e60_9, e60_10, e60_11, kc_8, e60_13, e60_14, e60_15, e60_16, mt_5_13, kw_61, np_61, on_61, nr_61, fc_60_61, e60_19, e60_20, kc_1, e60_23, e60_26, e60_27, nI_1, nby_at v (show i < 4 by omega)]
      exact ih (i + 1) (by omega)
set_option maxRecDepth 100000 in
set_option maxHeartbeats 4000000 in
theorem t_Sum_withNumber (l : Launch) {h : px_H} {r : BitVec 32} {v : Int32} (H : Stc h) : px_rd l 60 [.int (iB r), .int v] h (.int (iB (cnum r v))) := by
  refine px_Ct.of (by decide) (Nat.le_of_ble_eq_true rfl) (px_wp_ok (sp := [4]) 60 _ _ _ _ _ ?_)
  simp only [px_ev_nil, px_ev_i, px_ev_l, px_ev_n, px_ev_r, px_wp, px_step, px_tg, px_i1, px_i2, px_l1, px_l2, px_il, px_a1, px_ia, px_iia, px_lki, px_lkl, px_lka, px_lk, px_sto, px_ins, px_del, px_popn, px_inv, px_cat, px_obj, px_arr, px_arq, px_rfv, px_rok, px_tB, px_tI, px_tZ, px_tG, px_tS, px_S, lv_args, Value.category, List.contains_cons, List.contains_nil, List.getElem?_cons_zero, List.getElem?_cons_succ, List.set_cons_zero, List.set_cons_succ, List.length_cons, List.length_nil, List.map_cons, List.map_nil, List.sum_cons, List.sum_nil, List.cons_append, List.nil_append, Option.toList_some, Option.toList_none, px_hold, Fin.isValue, Fin.val_zero, Fin.val_one, Fin.val_two, Nat.reduceBEq, Nat.reduceAdd, Nat.reduceLT, Nat.reduceLeDiff, Nat.reduceEqDiff, Nat.reduceMod, Int.reduceNeg, Int.reduceAdd, Int.reduceLE, Int.reduceLT, Int.reduceToNat, Int.cast_ofNat_Int, Int.ofNat_eq_natCast, Bool.or_self, Bool.or_false, Bool.false_or, Bool.and_false, Bool.and_self, Bool.false_and, Bool.true_and, Bool.false_eq_true, Bool.true_eq_false, ↓reduceIte, reduceCtorEq, true_and, and_true, false_and, and_false, false_or, or_false, true_or, or_true, ne_eq, not_false_eq_true, not_true_eq_false, px_f0, px_f1, px_f2, px_f3, kc_L0, kc_L1, if_true, if_false, px_10, true_implies, false_implies, implies_true, on_60, mL_60, rt_60, dp_60, lc_60, nr_60, yn_60, rc_5, e60_0, e60_1, e60_2, kc_0, e60_3, e60_4, e60_5, kc_4, e60_6, e60_9, e60_10, e60_11, kc_8, e60_13, e60_14, e60_15, e60_16, mt_5_13, kw_61, np_61, on_61, nr_61, fc_60_61, e60_19, e60_20, kc_1, e60_23, e60_26, e60_27]
  exact lp_withNumber l H ⟨rfl, rfl, rfl, rfl⟩ 4 0 rfl
set_option maxRecDepth 100000 in
set_option maxHeartbeats 4000000 in
theorem lp_withBytes (l : Launch) {h : px_H} {r : BitVec 32} {b lim n c : Nat} {B : Nat → Nat} {x0 : Int32} {K : px_K} (H : Stc h) (HB : By h b lim n c B) (hK : K (some (.int (iB (cfold r c B)))) h 0 0) : ∀ (d i : Nat), i + d = c → px_P l 62 4 [(0, .int x0), (1, .ref b), (2, .int (iB (cfold r i B))), (3, .int (nI i))] [] h K := by
  have hc : c ≤ 16384 := Nat.le_trans (Nat.le_trans HB.2.2.1 HB.2.2.2.1) HB.2.2.2.2.1
  intro d
  induction d with
  | zero =>
    intro i hi
    have e : i = c := by omega
    subst e
    refine px_go_ok (sp := [4]) 60 ?_
    simp only [px_go, px_ev_nil, px_ev_i, px_ev_l, px_ev_n, px_ev_r, px_wp, px_step, px_tg, px_i1, px_i2, px_l1, px_l2, px_il, px_a1, px_ia, px_iia, px_lki, px_lkl, px_lka, px_lk, px_sto, px_ins, px_del, px_popn, px_inv, px_cat, px_obj, px_arr, px_arq, px_rfv, px_rok, px_tB, px_tI, px_tZ, px_tG, px_tS, px_S, lv_args, Value.category, List.contains_cons, List.contains_nil, List.getElem?_cons_zero, List.getElem?_cons_succ, List.set_cons_zero, List.set_cons_succ, List.length_cons, List.length_nil, List.map_cons, List.map_nil, List.sum_cons, List.sum_nil, List.cons_append, List.nil_append, Option.toList_some, Option.toList_none, px_hold, Fin.isValue, Fin.val_zero, Fin.val_one, Fin.val_two, Nat.reduceBEq, Nat.reduceAdd, Nat.reduceLT, Nat.reduceLeDiff, Nat.reduceEqDiff, Nat.reduceMod, Int.reduceNeg, Int.reduceAdd, Int.reduceLE, Int.reduceLT, Int.reduceToNat, Int.cast_ofNat_Int, Int.ofNat_eq_natCast, Bool.or_self, Bool.or_false, Bool.false_or, Bool.and_false, Bool.and_self, Bool.false_and, Bool.true_and, Bool.false_eq_true, Bool.true_eq_false, ↓reduceIte, reduceCtorEq, true_and, and_true, false_and, and_false, false_or, or_false, true_or, or_true, ne_eq, not_false_eq_true, not_true_eq_false, px_f0, px_f1, px_f2, px_f3, kc_L0, kc_L1, if_true, if_false, px_10, true_implies, false_implies, implies_true, on_62, mL_62, rt_62, dp_62, lc_62, nr_62, yn_62, rc_5, e62_0, e62_1, e62_2, kc_0, e62_3, e62_4, e62_5, e62_6, fd_5_17, e62_9, e62_12, e62_13, e62_14, e62_15, mt_5_23, kw_37, np_37, on_37, nr_37, fc_62_37, rc_0, e62_18, mt_5_13, kw_61, np_61, on_61, nr_61, fc_62_61, e62_21, e62_22, kc_1, e62_25, e62_28, e62_29, HB.1]
    exact ⟨fun _ => hK, fun q => absurd (i_le.mpr (Int.le_refl _)) q⟩
  | succ d ih =>
    intro i hi
    have h1 := i_n (n := i) (by omega)
    have h2 := i_n (n := c) (by omega)
    refine px_go_ok (sp := [4]) 60 ?_
    simp only [px_go, px_ev_nil, px_ev_i, px_ev_l, px_ev_n, px_ev_r, px_wp, px_step, px_tg, px_i1, px_i2, px_l1, px_l2, px_il, px_a1, px_ia, px_iia, px_lki, px_lkl, px_lka, px_lk, px_sto, px_ins, px_del, px_popn, px_inv, px_cat, px_obj, px_arr, px_arq, px_rfv, px_rok, px_tB, px_tI, px_tZ, px_tG, px_tS, px_S, lv_args, Value.category, List.contains_cons, List.contains_nil, List.getElem?_cons_zero, List.getElem?_cons_succ, List.set_cons_zero, List.set_cons_succ, List.length_cons, List.length_nil, List.map_cons, List.map_nil, List.sum_cons, List.sum_nil, List.cons_append, List.nil_append, Option.toList_some, Option.toList_none, px_hold, Fin.isValue, Fin.val_zero, Fin.val_one, Fin.val_two, Nat.reduceBEq, Nat.reduceAdd, Nat.reduceLT, Nat.reduceLeDiff, Nat.reduceEqDiff, Nat.reduceMod, Int.reduceNeg, Int.reduceAdd, Int.reduceLE, Int.reduceLT, Int.reduceToNat, Int.cast_ofNat_Int, Int.ofNat_eq_natCast, Bool.or_self, Bool.or_false, Bool.false_or, Bool.and_false, Bool.and_self, Bool.false_and, Bool.true_and, Bool.false_eq_true, Bool.true_eq_false, ↓reduceIte, reduceCtorEq, true_and, and_true, false_and, and_false, false_or, or_false, true_or, or_true, ne_eq, not_false_eq_true, not_true_eq_false, px_f0, px_f1, px_f2, px_f3, kc_L0, kc_L1, if_true, if_false, px_10, true_implies, false_implies, implies_true, on_62, mL_62, rt_62, dp_62, lc_62, nr_62, yn_62, rc_5, e62_0, e62_1, e62_2, kc_0, e62_3, e62_4, e62_5, e62_6, fd_5_17, e62_9, e62_12, e62_13, e62_14, e62_15, mt_5_23, kw_37, np_37, on_37, nr_37, fc_62_37, rc_0, e62_18, mt_5_13, kw_61, np_61, on_61, nr_61, fc_62_61, e62_21, e62_22, kc_1, e62_25, e62_28, e62_29, HB.1]
    refine ⟨fun q => ?_, fun _ => ?_⟩
    · rw [i_le, h1, h2] at q
      omega
    · refine px_rd.use (t_Bytes_at l HB) (px_wp_ok (sp := [4]) 20 _ _ _ _ _ ?_)
      simp only [px_ev_nil, px_ev_i, px_ev_l, px_ev_n, px_ev_r, px_wp, px_step, px_tg, px_i1, px_i2, px_l1, px_l2, px_il, px_a1, px_ia, px_iia, px_lki, px_lkl, px_lka, px_lk, px_sto, px_ins, px_del, px_popn, px_inv, px_cat, px_obj, px_arr, px_arq, px_rfv, px_rok, px_tB, px_tI, px_tZ, px_tG, px_tS, px_S, lv_args, Value.category, List.contains_cons, List.contains_nil, List.getElem?_cons_zero, List.getElem?_cons_succ, List.set_cons_zero, List.set_cons_succ, List.length_cons, List.length_nil, List.map_cons, List.map_nil, List.sum_cons, List.sum_nil, List.cons_append, List.nil_append, Option.toList_some, Option.toList_none, px_hold, Fin.isValue, Fin.val_zero, Fin.val_one, Fin.val_two, Nat.reduceBEq, Nat.reduceAdd, Nat.reduceLT, Nat.reduceLeDiff, Nat.reduceEqDiff, Nat.reduceMod, Int.reduceNeg, Int.reduceAdd, Int.reduceLE, Int.reduceLT, Int.reduceToNat, Int.cast_ofNat_Int, Int.ofNat_eq_natCast, Bool.or_self, Bool.or_false, Bool.false_or, Bool.and_false, Bool.and_self, Bool.false_and, Bool.true_and, Bool.false_eq_true, Bool.true_eq_false, ↓reduceIte, reduceCtorEq, true_and, and_true, false_and, and_false, false_or, or_false, true_or, or_true, ne_eq, not_false_eq_true, not_true_eq_false, px_f0, px_f1, px_f2, px_f3, kc_L0, kc_L1, if_true, if_false, px_10, true_implies, false_implies, implies_true, on_62, mL_62, rt_62, dp_62, lc_62, nr_62, yn_62, rc_5, e62_0, e62_1, e62_2, kc_0, e62_3, e62_4, e62_5, e62_6, fd_5_17, e62_9, e62_12, e62_13, e62_14, e62_15, mt_5_23, kw_37, np_37, on_37, nr_37, fc_62_37, rc_0, e62_18, mt_5_13, kw_61, np_61, on_61, nr_61, fc_62_61, e62_21, e62_22, kc_1, e62_25, e62_28, e62_29]
      refine px_rd.use (t_Sum_withByte l H) (px_wp_ok (sp := [4]) 20 _ _ _ _ _ ?_)
      have hb := HB.lt (j := i) (by omega)
      have e : ((byAt c B (nI i)).toInt % 256).toNat = B i := by
        rw [byAt_in (by omega) (by omega), h1, i_n (by simp; omega)]
        simp
        omega
      simp only [px_ev_nil, px_ev_i, px_ev_l, px_ev_n, px_ev_r, px_wp, px_step, px_tg, px_i1, px_i2, px_l1, px_l2, px_il, px_a1, px_ia, px_iia, px_lki, px_lkl, px_lka, px_lk, px_sto, px_ins, px_del, px_popn, px_inv, px_cat, px_obj, px_arr, px_arq, px_rfv, px_rok, px_tB, px_tI, px_tZ, px_tG, px_tS, px_S, lv_args, Value.category, List.contains_cons, List.contains_nil, List.getElem?_cons_zero, List.getElem?_cons_succ, List.set_cons_zero, List.set_cons_succ, List.length_cons, List.length_nil, List.map_cons, List.map_nil, List.sum_cons, List.sum_nil, List.cons_append, List.nil_append, Option.toList_some, Option.toList_none, px_hold, Fin.isValue, Fin.val_zero, Fin.val_one, Fin.val_two, Nat.reduceBEq, Nat.reduceAdd, Nat.reduceLT, Nat.reduceLeDiff, Nat.reduceEqDiff, Nat.reduceMod, Int.reduceNeg, Int.reduceAdd, Int.reduceLE, Int.reduceLT, Int.reduceToNat, Int.cast_ofNat_Int, Int.ofNat_eq_natCast, Bool.or_self, Bool.or_false, Bool.false_or, Bool.and_false, Bool.and_self, Bool.false_and, Bool.true_and, Bool.false_eq_true, Bool.true_eq_false, ↓reduceIte, reduceCtorEq, true_and, and_true, false_and, and_false, false_or, or_false, true_or, or_true, ne_eq, not_false_eq_true, not_true_eq_false, px_f0, px_f1, px_f2, px_f3, kc_L0, kc_L1, if_true, if_false, px_10, true_implies, false_implies, implies_true, on_62, mL_62, rt_62, dp_62, lc_62, nr_62, yn_62, rc_5, e62_0, e62_1, e62_2, kc_0, e62_3, e62_4, e62_5, e62_6, fd_5_17, e62_9, e62_12, e62_13, e62_14, e62_15, mt_5_23, kw_37, np_37, on_37, nr_37, fc_62_37, rc_0, e62_18, mt_5_13, kw_61, np_61, on_61, nr_61, fc_62_61, e62_21, e62_22, kc_1, e62_25, e62_28, e62_29, nI_1, e]
      exact ih (i + 1) (by omega)
set_option maxRecDepth 100000 in
set_option maxHeartbeats 4000000 in
theorem t_Sum_withBytes (l : Launch) {h : px_H} {r : BitVec 32} {b lim n c : Nat} {B : Nat → Nat} (H : Stc h) (HB : By h b lim n c B) : px_rd l 62 [.int (iB r), .ref b] h (.int (iB (cfold r c B))) := by
  refine px_Ct.of (by decide) (Nat.le_of_ble_eq_true rfl) (px_wp_ok (sp := [4]) 60 _ _ _ _ _ ?_)
  simp only [px_ev_nil, px_ev_i, px_ev_l, px_ev_n, px_ev_r, px_wp, px_step, px_tg, px_i1, px_i2, px_l1, px_l2, px_il, px_a1, px_ia, px_iia, px_lki, px_lkl, px_lka, px_lk, px_sto, px_ins, px_del, px_popn, px_inv, px_cat, px_obj, px_arr, px_arq, px_rfv, px_rok, px_tB, px_tI, px_tZ, px_tG, px_tS, px_S, lv_args, Value.category, List.contains_cons, List.contains_nil, List.getElem?_cons_zero, List.getElem?_cons_succ, List.set_cons_zero, List.set_cons_succ, List.length_cons, List.length_nil, List.map_cons, List.map_nil, List.sum_cons, List.sum_nil, List.cons_append, List.nil_append, Option.toList_some, Option.toList_none, px_hold, Fin.isValue, Fin.val_zero, Fin.val_one, Fin.val_two, Nat.reduceBEq, Nat.reduceAdd, Nat.reduceLT, Nat.reduceLeDiff, Nat.reduceEqDiff, Nat.reduceMod, Int.reduceNeg, Int.reduceAdd, Int.reduceLE, Int.reduceLT, Int.reduceToNat, Int.cast_ofNat_Int, Int.ofNat_eq_natCast, Bool.or_self, Bool.or_false, Bool.false_or, Bool.and_false, Bool.and_self, Bool.false_and, Bool.true_and, Bool.false_eq_true, Bool.true_eq_false, ↓reduceIte, reduceCtorEq, true_and, and_true, false_and, and_false, false_or, or_false, true_or, or_true, ne_eq, not_false_eq_true, not_true_eq_false, px_f0, px_f1, px_f2, px_f3, kc_L0, kc_L1, if_true, if_false, px_10, true_implies, false_implies, implies_true, on_62, mL_62, rt_62, dp_62, lc_62, nr_62, yn_62, rc_5, e62_0, e62_1, e62_2, kc_0, e62_3, e62_4, e62_5, e62_6, fd_5_17, e62_9, e62_12, e62_13, e62_14, e62_15, mt_5_23, kw_37, np_37, on_37, nr_37, fc_62_37, rc_0, e62_18, mt_5_13, kw_61, np_61, on_61, nr_61, fc_62_61, e62_21, e62_22, kc_1, e62_25, e62_28, e62_29]
  exact lp_withBytes l H HB ⟨rfl, rfl, rfl, rfl⟩ c 0 (by omega)
