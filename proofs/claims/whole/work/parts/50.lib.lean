/-! small rows that runs use -/
theorem kc_m6 : Int32.ofInt (-6) = -6 := rfl
theorem kc_m4 : Int32.ofInt (-4) = -4 := rfl
theorem kc_m1 : Int32.ofInt (-1) = -1 := rfl
theorem kc_0 : Int32.ofInt (0) = 0 := rfl
theorem kc_1 : Int32.ofInt (1) = 1 := rfl
theorem kc_2 : Int32.ofInt (2) = 2 := rfl
theorem kc_3 : Int32.ofInt (3) = 3 := rfl
theorem kc_4 : Int32.ofInt (4) = 4 := rfl
theorem kc_5 : Int32.ofInt (5) = 5 := rfl
theorem kc_6 : Int32.ofInt (6) = 6 := rfl
theorem kc_7 : Int32.ofInt (7) = 7 := rfl
theorem kc_8 : Int32.ofInt (8) = 8 := rfl
theorem kc_9 : Int32.ofInt (9) = 9 := rfl
theorem kc_10 : Int32.ofInt (10) = 10 := rfl
theorem kc_11 : Int32.ofInt (11) = 11 := rfl
theorem kc_12 : Int32.ofInt (12) = 12 := rfl
theorem kc_13 : Int32.ofInt (13) = 13 := rfl
theorem kc_14 : Int32.ofInt (14) = 14 := rfl
theorem kc_15 : Int32.ofInt (15) = 15 := rfl
theorem kc_16 : Int32.ofInt (16) = 16 := rfl
theorem kc_17 : Int32.ofInt (17) = 17 := rfl
theorem kc_18 : Int32.ofInt (18) = 18 := rfl
theorem kc_19 : Int32.ofInt (19) = 19 := rfl
theorem kc_20 : Int32.ofInt (20) = 20 := rfl
theorem kc_21 : Int32.ofInt (21) = 21 := rfl
theorem kc_22 : Int32.ofInt (22) = 22 := rfl
theorem kc_23 : Int32.ofInt (23) = 23 := rfl
theorem kc_24 : Int32.ofInt (24) = 24 := rfl
theorem kc_25 : Int32.ofInt (25) = 25 := rfl
theorem kc_26 : Int32.ofInt (26) = 26 := rfl
theorem kc_27 : Int32.ofInt (27) = 27 := rfl
theorem kc_28 : Int32.ofInt (28) = 28 := rfl
theorem kc_29 : Int32.ofInt (29) = 29 := rfl
theorem kc_30 : Int32.ofInt (30) = 30 := rfl
theorem kc_31 : Int32.ofInt (31) = 31 := rfl
theorem kc_32 : Int32.ofInt (32) = 32 := rfl
theorem kc_36 : Int32.ofInt (36) = 36 := rfl
theorem kc_40 : Int32.ofInt (40) = 40 := rfl
theorem kc_42 : Int32.ofInt (42) = 42 := rfl
theorem kc_44 : Int32.ofInt (44) = 44 := rfl
theorem kc_46 : Int32.ofInt (46) = 46 := rfl
theorem kc_52 : Int32.ofInt (52) = 52 := rfl
theorem kc_56 : Int32.ofInt (56) = 56 := rfl
theorem kc_69 : Int32.ofInt (69) = 69 := rfl
theorem kc_70 : Int32.ofInt (70) = 70 := rfl
theorem kc_76 : Int32.ofInt (76) = 76 := rfl
theorem kc_77 : Int32.ofInt (77) = 77 := rfl
theorem kc_97 : Int32.ofInt (97) = 97 := rfl
theorem kc_107 : Int32.ofInt (107) = 107 := rfl
theorem kc_114 : Int32.ofInt (114) = 114 := rfl
theorem kc_115 : Int32.ofInt (115) = 115 := rfl
theorem kc_127 : Int32.ofInt (127) = 127 := rfl
theorem kc_243 : Int32.ofInt (243) = 243 := rfl
theorem kc_255 : Int32.ofInt (255) = 255 := rfl
theorem kc_256 : Int32.ofInt (256) = 256 := rfl
theorem kc_2048 : Int32.ofInt (2048) = 2048 := rfl
theorem kc_4094 : Int32.ofInt (4094) = 4094 := rfl
theorem kc_4095 : Int32.ofInt (4095) = 4095 := rfl
theorem kc_4096 : Int32.ofInt (4096) = 4096 := rfl
theorem kc_12288 : Int32.ofInt (12288) = 12288 := rfl
theorem kc_16384 : Int32.ofInt (16384) = 16384 := rfl
theorem kc_24576 : Int32.ofInt (24576) = 24576 := rfl
theorem kt_m6 : Int32.toInt (-6) = -6 := rfl
theorem kt_m4 : Int32.toInt (-4) = -4 := rfl
theorem kt_m1 : Int32.toInt (-1) = -1 := rfl
theorem kt_0 : Int32.toInt (0) = 0 := rfl
theorem kt_1 : Int32.toInt (1) = 1 := rfl
theorem kt_2 : Int32.toInt (2) = 2 := rfl
theorem kt_3 : Int32.toInt (3) = 3 := rfl
theorem kt_4 : Int32.toInt (4) = 4 := rfl
theorem kt_5 : Int32.toInt (5) = 5 := rfl
theorem kt_6 : Int32.toInt (6) = 6 := rfl
theorem kt_7 : Int32.toInt (7) = 7 := rfl
theorem kt_8 : Int32.toInt (8) = 8 := rfl
theorem kt_9 : Int32.toInt (9) = 9 := rfl
theorem kt_10 : Int32.toInt (10) = 10 := rfl
theorem kt_11 : Int32.toInt (11) = 11 := rfl
theorem kt_12 : Int32.toInt (12) = 12 := rfl
theorem kt_13 : Int32.toInt (13) = 13 := rfl
theorem kt_14 : Int32.toInt (14) = 14 := rfl
theorem kt_15 : Int32.toInt (15) = 15 := rfl
theorem kt_16 : Int32.toInt (16) = 16 := rfl
theorem kt_17 : Int32.toInt (17) = 17 := rfl
theorem kt_18 : Int32.toInt (18) = 18 := rfl
theorem kt_19 : Int32.toInt (19) = 19 := rfl
theorem kt_20 : Int32.toInt (20) = 20 := rfl
theorem kt_21 : Int32.toInt (21) = 21 := rfl
theorem kt_22 : Int32.toInt (22) = 22 := rfl
theorem kt_23 : Int32.toInt (23) = 23 := rfl
theorem kt_24 : Int32.toInt (24) = 24 := rfl
theorem kt_25 : Int32.toInt (25) = 25 := rfl
theorem kt_26 : Int32.toInt (26) = 26 := rfl
theorem kt_27 : Int32.toInt (27) = 27 := rfl
theorem kt_28 : Int32.toInt (28) = 28 := rfl
theorem kt_29 : Int32.toInt (29) = 29 := rfl
theorem kt_30 : Int32.toInt (30) = 30 := rfl
theorem kt_31 : Int32.toInt (31) = 31 := rfl
theorem kt_32 : Int32.toInt (32) = 32 := rfl
theorem kt_36 : Int32.toInt (36) = 36 := rfl
theorem kt_40 : Int32.toInt (40) = 40 := rfl
theorem kt_42 : Int32.toInt (42) = 42 := rfl
theorem kt_44 : Int32.toInt (44) = 44 := rfl
theorem kt_46 : Int32.toInt (46) = 46 := rfl
theorem kt_52 : Int32.toInt (52) = 52 := rfl
theorem kt_56 : Int32.toInt (56) = 56 := rfl
theorem kt_69 : Int32.toInt (69) = 69 := rfl
theorem kt_70 : Int32.toInt (70) = 70 := rfl
theorem kt_76 : Int32.toInt (76) = 76 := rfl
theorem kt_77 : Int32.toInt (77) = 77 := rfl
theorem kt_97 : Int32.toInt (97) = 97 := rfl
theorem kt_107 : Int32.toInt (107) = 107 := rfl
theorem kt_114 : Int32.toInt (114) = 114 := rfl
theorem kt_115 : Int32.toInt (115) = 115 := rfl
theorem kt_127 : Int32.toInt (127) = 127 := rfl
theorem kt_243 : Int32.toInt (243) = 243 := rfl
theorem kt_255 : Int32.toInt (255) = 255 := rfl
theorem kt_256 : Int32.toInt (256) = 256 := rfl
theorem kt_2048 : Int32.toInt (2048) = 2048 := rfl
theorem kt_4094 : Int32.toInt (4094) = 4094 := rfl
theorem kt_4095 : Int32.toInt (4095) = 4095 := rfl
theorem kt_4096 : Int32.toInt (4096) = 4096 := rfl
theorem kt_12288 : Int32.toInt (12288) = 12288 := rfl
theorem kt_16384 : Int32.toInt (16384) = 16384 := rfl
theorem kt_24576 : Int32.toInt (24576) = 24576 := rfl
theorem kc_L0 : Int64.ofNat (0 : Nat) = 0 := rfl
theorem kc_L1 : Int64.ofNat (1 : Nat) = 1 := rfl
/-- a method that answers v and changes nothing -/
def px_rd (l : Launch) (y : Nat) (as : List Value) (h : px_H) (v : Value) : Prop := px_Ct l y as h (fun r h' mc ms => r = some v ∧ h' = h ∧ mc = 0 ∧ ms = 0)
theorem px_rd.use {l : Launch} {y y0 pc : Nat} {as rest : List Value} {h : px_H} {v : Value} {K : px_K} {L : px_L} (c : px_rd l y as h v) (w : px_P l y0 pc L (v :: rest) h K) : px_Ct l y as h (px_kont l y0 pc L rest K) := by
  refine px_Ct.mono c ?_
  rintro _ _ _ _ ⟨rfl, rfl, rfl, rfl⟩
  show px_P l y0 pc L (v :: rest) _ (fun r2 h2 a b => K r2 h2 (0 + a) (0 + b))
  simp only [Nat.zero_add]
  exact w
theorem px_Ct.use {l : Launch} {y y0 pc : Nat} {as rest : List Value} {h : px_H} {Q K : px_K} {L : px_L} (c : px_Ct l y as h Q) (w : ∀ r h1 mc ms, Q r h1 mc ms → px_P l y0 pc L (r.toList ++ rest) h1 (fun r2 h2 a b => K r2 h2 (mc + a) (ms + b))) : px_Ct l y as h (px_kont l y0 pc L rest K) := px_Ct.mono c w
/-- only these keys have changed -/
def px_fr (P : Nat → Prop) (h h' : px_H) : Prop := ∀ j, ¬ P j → h' j = h j
theorem px_fr.rf {P : Nat → Prop} {h : px_H} : px_fr P h h := fun _ _ => rfl
theorem px_fr.tr {P : Nat → Prop} {h h1 h2 : px_H} (a : px_fr P h h1) (b : px_fr P h1 h2) : px_fr P h h2 := fun j hj => (b j hj).trans (a j hj)
theorem px_fr.mono {P Q : Nat → Prop} {h h' : px_H} (a : px_fr P h h') (hPQ : ∀ j, P j → Q j) : px_fr Q h h' := fun j hj => a j (fun q => hj (hPQ j q))
theorem px_fr.up {P : Nat → Prop} {h h' : px_H} {k : Nat} {c : px_C} (a : px_fr P h h') (hk : P k) : px_fr P h (px_up h' k c) := fun j hj => (px_up_ne (show j ≠ k from fun e => hj (by rw [e]; exact hk))).trans (a j hj)
/-! numbers -/
theorem i_lt {a b : Int32} : a < b ↔ a.toInt < b.toInt := Int32.lt_iff_toInt_lt
theorem i_le {a b : Int32} : a ≤ b ↔ a.toInt ≤ b.toInt := Int32.le_iff_toInt_le
theorem i_eq {a b : Int32} : a = b ↔ a.toInt = b.toInt := Int32.toInt_inj.symm
theorem l_lt {a b : Int64} : a < b ↔ a.toInt < b.toInt := Int64.lt_iff_toInt_lt
theorem l_le {a b : Int64} : a ≤ b ↔ a.toInt ≤ b.toInt := Int64.le_iff_toInt_le
theorem l_eq {a b : Int64} : a = b ↔ a.toInt = b.toInt := Int64.toInt_inj.symm
theorem i_cl (a : Int32) : a.toNatClampNeg = a.toInt.toNat := rfl
theorem i_lo (a : Int32) : -2147483648 ≤ a.toInt := Int32.le_toInt a
theorem i_hi (a : Int32) : a.toInt < 2147483648 := Int32.toInt_lt a
theorem i_n {n : Nat} (h : n < 2147483648) : (nI n).toInt = n := nI_toInt h
theorem i_bm (x : Int) (h1 : -2147483648 ≤ x) (h2 : x < 2147483648) : x.bmod 4294967296 = x := Int.bmod_eq_of_le (by omega) (by omega)
theorem i_add {a b : Int32} (h1 : -2147483648 ≤ a.toInt + b.toInt) (h2 : a.toInt + b.toInt < 2147483648) : (a + b).toInt = a.toInt + b.toInt := by rw [Int32.toInt_add]; exact i_bm _ h1 h2
theorem i_sub {a b : Int32} (h1 : -2147483648 ≤ a.toInt - b.toInt) (h2 : a.toInt - b.toInt < 2147483648) : (a - b).toInt = a.toInt - b.toInt := by rw [Int32.toInt_sub]; exact i_bm _ h1 h2
theorem i_mul {a b : Int32} (h1 : -2147483648 ≤ a.toInt * b.toInt) (h2 : a.toInt * b.toInt < 2147483648) : (a * b).toInt = a.toInt * b.toInt := by rw [Int32.toInt_mul]; exact i_bm _ h1 h2
theorem l_bm (x : Int) (h1 : -9223372036854775808 ≤ x) (h2 : x < 9223372036854775808) : x.bmod 18446744073709551616 = x := Int.bmod_eq_of_le (by omega) (by omega)
theorem l_add {a b : Int64} (h1 : -9223372036854775808 ≤ a.toInt + b.toInt) (h2 : a.toInt + b.toInt < 9223372036854775808) : (a + b).toInt = a.toInt + b.toInt := by rw [Int64.toInt_add]; exact l_bm _ h1 h2
theorem l_sub {a b : Int64} (h1 : -9223372036854775808 ≤ a.toInt - b.toInt) (h2 : a.toInt - b.toInt < 9223372036854775808) : (a - b).toInt = a.toInt - b.toInt := by rw [Int64.toInt_sub]; exact l_bm _ h1 h2
theorem l_mul {a b : Int64} (h1 : -9223372036854775808 ≤ a.toInt * b.toInt) (h2 : a.toInt * b.toInt < 9223372036854775808) : (a * b).toInt = a.toInt * b.toInt := by rw [Int64.toInt_mul]; exact l_bm _ h1 h2
theorem i_and255 (a : Int32) : (a &&& 255).toInt = a.toInt % 256 := by
  have h1 : (a &&& 255).toBitVec = a.toBitVec &&& 255#32 := rfl
  have h2 : (a &&& 255).toInt = (a.toBitVec &&& 255#32).toInt := by rw [← h1]; rfl
  have h3 : a.toInt = a.toBitVec.toInt := rfl
  rw [h2, h3]
  have h4 : (a.toBitVec &&& 255#32).toNat = a.toBitVec.toNat % 256 := by
    rw [BitVec.toNat_and]
    exact Nat.and_two_pow_sub_one_eq_mod _ 8
  rw [BitVec.toInt_eq_toNat_cond, BitVec.toInt_eq_toNat_cond, h4]
  have := a.toBitVec.isLt
  split <;> split <;> omega
theorem px_f0 : ((0 : Fin 4) : Nat) = 0 := rfl
theorem px_f1 : ((1 : Fin 4) : Nat) = 1 := rfl
theorem px_f2 : ((2 : Fin 4) : Nat) = 2 := rfl
theorem px_f3 : ((3 : Fin 4) : Nat) = 3 := rfl
theorem px_10 : ((1 : Int32) = 0) = False := by decide
theorem mt_9_310 : px_mt 9 310 = none := by decide +kernel
/-! values that can't move -/
theorem px_ev_nil : px_ev [] = True := eq_true (fun _ h => by cases h)
theorem px_ev_i (x : Int32) (vs : List Value) : px_ev (.int x :: vs) = px_ev vs := propext ⟨fun h k hk => h k (List.mem_cons_of_mem _ hk), fun h k hk => h k (by simpa using hk)⟩
theorem px_ev_l (x : Int64) (vs : List Value) : px_ev (.long x :: vs) = px_ev vs := propext ⟨fun h k hk => h k (List.mem_cons_of_mem _ hk), fun h k hk => h k (by simpa using hk)⟩
theorem px_ev_n (vs : List Value) : px_ev (.null :: vs) = px_ev vs := propext ⟨fun h k hk => h k (List.mem_cons_of_mem _ hk), fun h k hk => h k (by simpa using hk)⟩
theorem px_ev_r (x : Nat) (vs : List Value) : px_ev (.ref x :: vs) = (x % 64 = 0 ∧ px_ev vs) := propext ⟨fun h => ⟨h x List.mem_cons_self, fun k hk => h k (List.mem_cons_of_mem _ hk)⟩, fun h k hk => by
  rcases List.mem_cons.mp hk with e | e
  · cases e; exact h.1
  · exact h.2 k e⟩
theorem px_up_up {h : px_H} {k : Nat} {c d : px_C} : px_up (px_up h k c) k d = px_up h k d := by
  funext j
  by_cases e : j = k
  · subst e; rw [px_up_self, px_up_self]
  · rw [px_up_ne e, px_up_ne e, px_up_ne e]
theorem px_up_id {h : px_H} {k : Nat} {c : px_C} (hk : h k = some c) : px_up h k c = h := by
  funext j
  by_cases e : j = k
  · subst e; rw [px_up_self, hk]
  · rw [px_up_ne e]
theorem px_up_comm {h : px_H} {k m : Nat} {c d : px_C} (hne : k ≠ m) : px_up (px_up h k c) m d = px_up (px_up h m d) k c := by
  funext j
  by_cases e : j = k
  · subst e; rw [px_up_ne hne, px_up_self, px_up_self]
  · rw [px_up_ne e]
    by_cases e2 : j = m
    · subst e2; rw [px_up_self, px_up_self]
    · rw [px_up_ne e2, px_up_ne e2, px_up_ne e]
/-- the keys from 100000 on are free -/
def px_top (h : px_H) : Prop := ∀ j, 100000 ≤ j → h j = none
theorem px_top.up {h : px_H} {k : Nat} {c : px_C} (ht : px_top h) (hk : k < 100000) : px_top (px_up h k c) := fun j hj => (px_up_ne (by omega)).trans (ht j hj)
theorem px_top.fr {P : Nat → Prop} {h h' : px_H} (ht : px_top h) (hf : px_fr P h h') (hP : ∀ j, P j → j < 100000) : px_top h' := fun j hj => (hf j (fun q => absurd (hP j q) (by omega))).trans (ht j hj)
/-- what the room of a row may have cost -/
def phi (lim n : Nat) : Nat := if n = lim then 3 * lim else 2 * n
theorem phi_le {lim n : Nat} (h : n ≤ lim) : phi lim n ≤ 3 * lim := by unfold phi; split <;> omega
theorem i_fits {x : Int32} (h1 : -128 ≤ x.toInt) (h2 : x.toInt ≤ 127) : fits .byte (.int x) = true := by
  have e1 : (-128 : Int32) ≤ x := by rw [i_le]; exact h1
  have e2 : x ≤ 127 := by rw [i_le]; exact h2
  simp [fits, e1, e2]
theorem i_nb (x : Int32) : vp_nar .byte x = x.toInt8.toInt32 := rfl
theorem i_nb_rg (x : Int32) : -128 ≤ (x.toInt8.toInt32).toInt ∧ (x.toInt8.toInt32).toInt ≤ 127 := by have := lg_i2b_range x; omega
theorem i_nb_mod (x : Int32) : (x.toInt8.toInt32).toInt % 256 = x.toInt % 256 := by
  rw [lg_i2b_toInt]
  exact Int.bmod_emod

theorem l_tn {n : Nat} (h : n < 2 ^ 64) : (lN n).toBitVec.toNat = n := Nat.mod_eq_of_lt h
theorem l_shlN {n : Nat} (s : Int64) (k : Nat) (hs : (s.toBitVec.smod 64).toNat = k) (h : n * 2 ^ k < 2 ^ 64) : lN n <<< s = lN (n * 2 ^ k) := by
  apply Int64.toBitVec_inj.mp
  apply BitVec.eq_of_toNat_eq
  have hn : n < 2 ^ 64 := Nat.lt_of_le_of_lt (Nat.le_mul_of_pos_right n (Nat.two_pow_pos k)) h
  show ((lN n).toBitVec <<< (s.toBitVec.smod 64).toNat).toNat = _
  rw [hs, BitVec.toNat_shiftLeft, Nat.shiftLeft_eq, l_tn hn, l_tn h, Nat.mod_eq_of_lt h]
theorem n_orS {a b k : Nat} (s : Int32) (hs : (s.toBitVec.smod 32).toNat = k) (ha : a < 2 ^ k) (hb : b * 2 ^ k < 2 ^ 32) (hk : 2 ^ k ≤ 2 ^ 32) : nI a ||| nI b <<< s = nI (a + 2 ^ k * b) := by
  rw [pk_shlN (n := b) _ k hs hb]
  have hlt : b * 2 ^ k + a < 2 ^ 32 := by
    have h1 : (b + 1) * 2 ^ k ≤ 2 ^ 32 := by
      rcases Nat.lt_or_ge 32 k with h | h
      · have h5 : 2 ^ 33 ≤ 2 ^ k := Nat.pow_le_pow_right (by decide) h
        omega
      · have hd : 2 ^ 32 = 2 ^ (32 - k) * 2 ^ k := by rw [← Nat.pow_add]; congr 1; omega
        rw [hd] at hb ⊢
        exact Nat.mul_le_mul_right _ (Nat.lt_of_mul_lt_mul_right hb)
    rw [Nat.add_mul] at h1
    omega
  apply Int32.toBitVec_inj.mp
  apply BitVec.eq_of_toNat_eq
  show ((nI a).toBitVec ||| (nI (b * 2 ^ k)).toBitVec).toNat = _
  rw [BitVec.toNat_or, pk_tn (by omega), pk_tn (by omega), pk_tn (by rw [Nat.mul_comm]; omega), Nat.or_comm, ← Nat.shiftLeft_eq, ← Nat.shiftLeft_add_eq_or_of_lt ha, Nat.shiftLeft_eq, Nat.mul_comm]
  omega
theorem l_orS {a b k : Nat} (s : Int64) (hs : (s.toBitVec.smod 64).toNat = k) (ha : a < 2 ^ k) (hb : b * 2 ^ k + 2 ^ k < 2 ^ 64) : lN a ||| lN b <<< s = lN (a + 2 ^ k * b) := by
  rw [l_shlN (n := b) _ k hs (by omega)]
  apply Int64.toBitVec_inj.mp
  apply BitVec.eq_of_toNat_eq
  show ((lN a).toBitVec ||| (lN (b * 2 ^ k)).toBitVec).toNat = _
  rw [BitVec.toNat_or, l_tn (by omega), l_tn (by omega), l_tn (by rw [Nat.mul_comm]; omega), Nat.or_comm, ← Nat.shiftLeft_eq, ← Nat.shiftLeft_add_eq_or_of_lt ha, Nat.shiftLeft_eq, Nat.mul_comm]
  omega
