/-! ImageFile$Bytes: c bytes, B their values 0 .. 255, in a row of n places -/
def By (h : px_H) (b lim n c : Nat) (B : Nat → Nat) : Prop :=
  h b = some (.inr (0, [.int (nI lim), .ref (b + 2), .int (nI c)])) ∧ b % 64 = 0 ∧ c ≤ n ∧ n ≤ lim ∧ lim ≤ 16384 ∧ ∃ f : Nat → Int32, h (b + 2) = some (.inl (px_tB, n, .inl f)) ∧ (∀ j, j < n → -128 ≤ (f j).toInt ∧ (f j).toInt ≤ 127) ∧ ∀ j, j < c → (B j : Int) = (f j).toInt % 256
/-- byte k, or -1 -/
def byAt (c : Nat) (B : Nat → Nat) (k : Int32) : Int32 := if 0 ≤ k.toInt ∧ k.toInt < c then nI (B k.toInt.toNat) else -1
theorem By.lt {h : px_H} {b lim n c : Nat} {B : Nat → Nat} (H : By h b lim n c B) {j : Nat} (hj : j < c) : B j < 256 := by
  obtain ⟨-, -, -, -, -, f, -, -, h3⟩ := H
  have := h3 j hj
  omega
set_option maxHeartbeats 4000000 in
theorem t_Bytes_at (l : Launch) {h : px_H} {b lim n c : Nat} {B : Nat → Nat} {k : Int32} (H : By h b lim n c B) : px_rd l 37 [.ref b, .int k] h (.int (byAt c B k)) := by
  obtain ⟨hb, hb0, hcn, hnl, hl, f, hr, hf, hB⟩ := H
  refine px_Ct.of (by decide) (Nat.le_of_ble_eq_true rfl) (px_wp_ok (sp := []) 60 _ _ _ _ _ ?_)
  simp only [px_wp, px_step, px_kont, px_tg, px_i1, px_i2, px_l1, px_l2, px_il, px_a1, px_ia, px_iia, px_lki, px_lkl, px_lka, px_lk, px_sto, px_ins, px_del, px_popn, px_inv, px_cat, px_obj, px_arr, px_arq, px_rfv, px_rok, px_tB, px_tI, px_tZ, px_tG, px_tS, px_S, lv_args, Value.category, List.contains_cons, List.contains_nil, List.getElem?_cons_zero, List.getElem?_cons_succ, List.set_cons_zero, List.set_cons_succ, List.length_cons, List.length_nil, List.map_cons, List.map_nil, List.sum_cons, List.sum_nil, List.cons_append, List.nil_append, Option.toList_some, Option.toList_none, px_hold, Fin.isValue, Fin.val_zero, Fin.val_one, Fin.val_two, Nat.reduceBEq, Nat.reduceAdd, Nat.reduceLT, Nat.reduceLeDiff, Nat.reduceEqDiff, Nat.reduceMod, Int.reduceNeg, Int.reduceAdd, Int.reduceLE, Int.reduceLT, Int.reduceToNat, Int.cast_ofNat_Int, Int.ofNat_eq_natCast, Bool.or_self, Bool.or_false, Bool.false_or, Bool.and_false, Bool.and_self, Bool.false_and, Bool.true_and, Bool.false_eq_true, Bool.true_eq_false, ↓reduceIte, reduceCtorEq, true_and, and_true, false_or, or_false, true_or, or_true, ne_eq, not_false_eq_true, not_true_eq_false, kc_L0, kc_L1, if_true, if_false, on_37, mL_37, rt_37, dp_37, lc_37, nr_37, yn_37, rc_0, e37_0, e37_1, e37_4, e37_5, e37_6, fd_0_19, e37_9, e37_12, kc_m1, e37_13, e37_16, e37_17, fd_0_15, e37_20, e37_21, e37_22, kc_255, e37_25, e37_26, hb, hr]
  have hc := i_n (n := c) (by omega)
  refine ⟨fun h1 => ?_, fun h1 => ⟨fun h2 => ⟨?_, ?_⟩, fun h2 => ?_⟩⟩
  · rw [i_lt] at h1
    have h1 : k.toInt < 0 := h1
    simp only [byAt]
    rw [if_neg (by omega)]
  · simp only [vp_in, i_lt, i_cl] at h1 h2 ⊢
    have h1 : ¬ k.toInt < 0 := h1
    intro q
    rcases q with q | q
    · exact h1 q
    · omega
  · rw [i_lt] at h1 h2
    have h1 : ¬ k.toInt < 0 := h1
    simp only [byAt]
    rw [if_pos (by omega)]
    simp only [and_true, Option.some.injEq, Value.int.injEq, i_eq, i_and255, i_cl]
    have h3 := hB k.toInt.toNat (by omega)
    rw [i_n (by omega)]
    omega
  · rw [i_lt] at h1 h2
    have h1 : ¬ k.toInt < 0 := h1
    simp only [byAt]
    rw [if_neg (by omega)]
