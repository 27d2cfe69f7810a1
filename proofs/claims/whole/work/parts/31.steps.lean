/-! one row an instruction, over the judgement -/
def px_lk (L : px_L) (i : Nat) : Option Value := match L with
  | [] => none
  | (j, v) :: t => if j = i then some v else px_lk t i
theorem px_lk_mem : ∀ {L : px_L} {i : Nat} {v : Value}, px_lk L i = some v → (i, v) ∈ L
  | [], _, _, h => by cases h
  | (j, w) :: t, i, v, h => by
    unfold px_lk at h
    by_cases e : j = i
    · rw [if_pos e] at h
      cases h
      subst e
      exact List.mem_cons_self
    · rw [if_neg e] at h
      exact List.mem_cons_of_mem _ (px_lk_mem h)
theorem px_lk_at {ad : Nat → Nat} {L : px_L} {i n : Nat} {v : Value} {ls : Array Slot} (hl : lv_has ls n (px_Lm ad L)) (h : px_lk L i = some v) : ls[i]? = some (.val (px_v ad v)) :=
  hl.2.2 (i, px_v ad v) (List.mem_map.mpr ⟨(i, v), px_lk_mem h, rfl⟩)
/-- locals are kept in the order of their numbers -/
def px_del (i : Nat) (two : Bool) (L : px_L) : px_L := match L with
  | [] => []
  | (j, v) :: t => if (j == i || (two && j == i + 1) || (j + 1 == i && v.category == 2)) = true then px_del i two t else (j, v) :: px_del i two t
def px_ins (i : Nat) (v : Value) (L : px_L) : px_L := match L with
  | [] => [(i, v)]
  | (j, w) :: t => if i < j then (i, v) :: (j, w) :: t else (j, w) :: px_ins i v t
def px_sto (i : Nat) (v : Value) (two : Bool) (L : px_L) : px_L := px_ins i v (px_del i two L)
theorem px_ins_mem {i : Nat} {v : Value} : ∀ {L : px_L} {q : Nat × Value}, q ∈ px_ins i v L → q = (i, v) ∨ q ∈ L
  | [], q, h => by
    left
    simpa [px_ins] using h
  | (j, w) :: t, q, h => by
    unfold px_ins at h
    by_cases e : i < j
    · rw [if_pos e] at h
      exact List.mem_cons.mp h
    · rw [if_neg e] at h
      rcases List.mem_cons.mp h with h1 | h1
      · right; rw [h1]; exact List.mem_cons_self
      · rcases px_ins_mem h1 with h2 | h2
        · exact Or.inl h2
        · exact Or.inr (List.mem_cons_of_mem _ h2)
theorem px_del_mem {i : Nat} {two : Bool} : ∀ {L : px_L} {q : Nat × Value}, q ∈ px_del i two L → q ∈ L ∧ (q.1 == i || (two && q.1 == i + 1) || (q.1 + 1 == i && q.2.category == 2)) = false
  | [], q, h => by cases h
  | (j, w) :: t, q, h => by
    unfold px_del at h
    by_cases e : (j == i || (two && j == i + 1) || (j + 1 == i && w.category == 2)) = true
    · rw [if_pos e] at h
      exact ⟨List.mem_cons_of_mem _ (px_del_mem h).1, (px_del_mem h).2⟩
    · rw [if_neg e] at h
      rcases List.mem_cons.mp h with h1 | h1
      · subst h1
        exact ⟨List.mem_cons_self, by simpa using e⟩
      · exact ⟨List.mem_cons_of_mem _ (px_del_mem h1).1, (px_del_mem h1).2⟩
theorem px_sto_has1 {ad : Nat → Nat} {L : px_L} {i n : Nat} {v : Value} {ls : Array Slot} (h : lv_has ls n ((i, px_v ad v) :: (px_Lm ad L).filter (fun q => !(q.1 == i) && !(q.1 + 1 == i && q.2.category == 2)))) : lv_has ls n (px_Lm ad (px_sto i v false L)) := by
  refine ⟨h.1, h.2.1, fun q hq => ?_⟩
  obtain ⟨q0, h0, rfl⟩ := List.mem_map.mp hq
  rcases px_ins_mem h0 with rfl | h1
  · exact h.2.2 _ List.mem_cons_self
  · obtain ⟨h2, h3⟩ := px_del_mem h1
    refine h.2.2 _ (List.mem_cons_of_mem _ (List.mem_filter.mpr ⟨List.mem_map.mpr ⟨q0, h2, rfl⟩, ?_⟩))
    simp only [px_v_cat]
    simp only [Bool.false_and, Bool.or_false, Bool.or_eq_false_iff] at h3
    simp [h3.1, h3.2]
theorem px_sto_has2 {ad : Nat → Nat} {L : px_L} {i n : Nat} {v : Value} {ls : Array Slot} (h : lv_has ls n ((i, px_v ad v) :: (px_Lm ad L).filter (fun q => !(q.1 == i) && (!(q.1 == i + 1) && !(q.1 + 1 == i && q.2.category == 2))))) : lv_has ls n (px_Lm ad (px_sto i v true L)) := by
  refine ⟨h.1, h.2.1, fun q hq => ?_⟩
  obtain ⟨q0, h0, rfl⟩ := List.mem_map.mp hq
  rcases px_ins_mem h0 with rfl | h1
  · exact h.2.2 _ List.mem_cons_self
  · obtain ⟨h2, h3⟩ := px_del_mem h1
    refine h.2.2 _ (List.mem_cons_of_mem _ (List.mem_filter.mpr ⟨List.mem_map.mpr ⟨q0, h2, rfl⟩, ?_⟩))
    simp only [px_v_cat]
    simp only [Bool.true_and, Bool.or_eq_false_iff] at h3
    simp [h3.1.1, h3.1.2, h3.2]
theorem px_vs_sto {st st' : List Value} {L : px_L} {i : Nat} {v : Value} {two : Bool} (hst : ∀ k, Value.ref k ∈ st' → Value.ref k ∈ st) (hv : ∀ k, v = .ref k → Value.ref k ∈ px_vs st L) : ∀ k, Value.ref k ∈ px_vs st' (px_sto i v two L) → Value.ref k ∈ px_vs st L := by
  intro k hk
  rcases List.mem_append.mp hk with h | h
  · exact List.mem_append_left _ (hst k h)
  · obtain ⟨q, hq, e⟩ := List.mem_map.mp h
    rcases px_ins_mem hq with rfl | h1
    · exact hv k e
    · exact List.mem_append_right _ (List.mem_map.mpr ⟨q, (px_del_mem h1).1, e⟩)
section PXP
variable {l : Launch} {y pc pc' : Nat} {L L' : px_L} {st st' : List Value} {h : px_H} {K : px_K}
theorem px_P.pure (hv : ∀ k, Value.ref k ∈ px_vs st' L' → Value.ref k ∈ px_vs st L)
    (step : ∀ (p : Program) (e : Env) (R : Room) (s : State) (m : MethodId) (args : Array Value) (below : List Frame) (meth : Method) (c : Code) (H : Heap) (locs : List Loc) (cells slots : Nat) (Q : State → Prop) (ls : Array Slot) (ad : Nat → Nat) (g : px_G), px_Cx y g p R s m args meth c → lv_has ls (px_mL y) (px_Lm ad L) →
      (∀ ls' : Array Slot, lv_has ls' (px_mL y) (px_Lm ad L') → W p l e R s m args below meth c H locs cells slots Q (F0 m pc' ls' (st'.map (px_v ad)))) → W p l e R s m args below meth c H locs cells slots Q (F0 m pc ls (st.map (px_v ad))))
    (k : px_P l y pc' L' st' h K) : px_P l y pc L st h K := by
  obtain ⟨r, h', mc, ms, hK, w⟩ := k
  refine ⟨r, h', mc, ms, hK, ?_⟩
  intro g h0 ad0 ad p e R s m args below meth c ls H locs cells slots Q hc hi hl h1 h2 hr
  exact step p e R s m args below meth c H locs cells slots Q ls ad g hc hl fun ls' hl' => w g h0 ad0 ad p e R s m args below meth c ls' H locs cells slots Q hc ⟨hi.1, hi.2.1, hi.2.2.1, hi.2.2.2.1, hi.2.2.2.2.1.sub hv, hi.2.2.2.2.2⟩ hl' h1 h2 hr
/-- fewer locals known -/
theorem px_P.weak (hL : ∀ q ∈ L', q ∈ L) (k : px_P l y pc L' st h K) : px_P l y pc L st h K :=
  px_P.pure (fun k hk => by
    rcases List.mem_append.mp hk with h | h
    · exact List.mem_append_left _ h
    · obtain ⟨q, hq, e⟩ := List.mem_map.mp h
      exact List.mem_append_right _ (List.mem_map.mpr ⟨q, hL q hq, e⟩))
    (fun _ _ _ _ _ _ _ _ _ _ _ _ _ _ _ _ _ _ hl w => w _ ⟨hl.1, hl.2.1, fun q hq => by
      obtain ⟨q0, h0, e⟩ := List.mem_map.mp hq
      exact hl.2.2 q (List.mem_map.mpr ⟨q0, hL q0 h0, e⟩)⟩) k
theorem px_iconst {n : Int} (hd : decode (px_cd y) pc = .ok (.iconst n, 1)) (k : px_P l y (pc + 1) L (.int (Int32.ofInt n) :: st) h K) : px_P l y pc L (st) h K :=
  px_P.pure (fun k hk => by simpa [px_vs] using hk) (fun _ _ _ _ _ _ _ _ _ _ _ _ _ _ _ _ _ hc hl w => lv_iconst hc.1 hc.2.1 hd rfl (w _ hl)) k
theorem px_i8 {n : Int} (h1 : -128 ≤ n) (h2 : n < 128) : (Int8.ofInt n).toInt32 = Int32.ofInt n := by
  apply Int32.toInt_inj.mp
  rw [Int8.toInt_toInt32, Int8.toInt_ofInt_of_le (by omega) (by omega), Int32.toInt_ofInt_of_le (by omega) (by omega)]
theorem px_i16 {n : Int} (h1 : -32768 ≤ n) (h2 : n < 32768) : (Int16.ofInt n).toInt32 = Int32.ofInt n := by
  apply Int32.toInt_inj.mp
  rw [Int16.toInt_toInt32, Int16.toInt_ofInt_of_le (by omega) (by omega), Int32.toInt_ofInt_of_le (by omega) (by omega)]
theorem px_bipush {n : Int} (hd : decode (px_cd y) pc = .ok (.bipush n, 2)) (h1 : -128 ≤ n) (h2 : n < 128) (k : px_P l y (pc + 2) L (.int (Int32.ofInt n) :: st) h K) : px_P l y pc L (st) h K :=
  px_P.pure (fun k hk => by simpa [px_vs] using hk) (fun _ _ _ _ _ _ _ _ _ _ _ _ _ _ _ _ _ hc hl w => lv_bipush hc.1 hc.2.1 hd (px_i8 h1 h2) (w _ hl)) k
theorem px_sipush {n : Int} (hd : decode (px_cd y) pc = .ok (.sipush n, 3)) (h1 : -32768 ≤ n) (h2 : n < 32768) (k : px_P l y (pc + 3) L (.int (Int32.ofInt n) :: st) h K) : px_P l y pc L (st) h K :=
  px_P.pure (fun k hk => by simpa [px_vs] using hk) (fun _ _ _ _ _ _ _ _ _ _ _ _ _ _ _ _ _ hc hl w => lv_sipush hc.1 hc.2.1 hd (px_i16 h1 h2) (w _ hl)) k
theorem px_lconst {n : Fin 2} (hd : decode (px_cd y) pc = .ok (.lconst n, 1)) (k : px_P l y (pc + 1) L (.long (Int64.ofNat (n : Nat)) :: st) h K) : px_P l y pc L (st) h K :=
  px_P.pure (fun k hk => by simpa [px_vs] using hk) (fun _ _ _ _ _ _ _ _ _ _ _ _ _ _ _ _ _ hc hl w => lv_lconst hc.1 hc.2.1 hd rfl (w _ hl)) k
theorem px_null  (hd : decode (px_cd y) pc = .ok (.aconst_null, 1)) (k : px_P l y (pc + 1) L (.null :: st) h K) : px_P l y pc L (st) h K :=
  px_P.pure (fun k hk => by simpa [px_vs] using hk) (fun _ _ _ _ _ _ _ _ _ _ _ _ _ _ _ _ _ hc hl w => lv_null hc.1 hc.2.1 hd (w _ hl)) k
theorem px_iload_n {n : Fin 4} {x : Int32} (hd : decode (px_cd y) pc = .ok (.iload_n n, 1)) (hk0 : px_lk L n = some (.int x)) (k : px_P l y (pc + 1) L (.int x :: st) h K) : px_P l y pc L (st) h K :=
  px_P.pure (fun k hk => by simpa [px_vs] using hk) (fun _ _ _ _ _ _ _ _ _ _ _ _ _ _ _ _ _ hc hl w => lv_iload_n hc.1 hc.2.1 hd rfl (px_lk_at hl hk0) (w _ hl)) k
theorem px_iload {i : Nat} {x : Int32} (hd : decode (px_cd y) pc = .ok (.iload i, 2)) (hk0 : px_lk L i = some (.int x)) (k : px_P l y (pc + 2) L (.int x :: st) h K) : px_P l y pc L (st) h K :=
  px_P.pure (fun k hk => by simpa [px_vs] using hk) (fun _ _ _ _ _ _ _ _ _ _ _ _ _ _ _ _ _ hc hl w => lv_iload hc.1 hc.2.1 hd (px_lk_at hl hk0) (w _ hl)) k
theorem px_lload_n {n : Fin 4} {x : Int64} (hd : decode (px_cd y) pc = .ok (.lload_n n, 1)) (hk0 : px_lk L n = some (.long x)) (k : px_P l y (pc + 1) L (.long x :: st) h K) : px_P l y pc L (st) h K :=
  px_P.pure (fun k hk => by simpa [px_vs] using hk) (fun _ _ _ _ _ _ _ _ _ _ _ _ _ _ _ _ _ hc hl w => lv_lload_n hc.1 hc.2.1 hd rfl (px_lk_at hl hk0) (w _ hl)) k
theorem px_lload {i : Nat} {x : Int64} (hd : decode (px_cd y) pc = .ok (.lload i, 2)) (hk0 : px_lk L i = some (.long x)) (k : px_P l y (pc + 2) L (.long x :: st) h K) : px_P l y pc L (st) h K :=
  px_P.pure (fun k hk => by simpa [px_vs] using hk) (fun _ _ _ _ _ _ _ _ _ _ _ _ _ _ _ _ _ hc hl w => lv_lload hc.1 hc.2.1 hd (px_lk_at hl hk0) (w _ hl)) k
theorem px_aload_n {n : Fin 4} {x : Nat} (hd : decode (px_cd y) pc = .ok (.aload_n n, 1)) (hk0 : px_lk L n = some (.ref x)) (k : px_P l y (pc + 1) L (.ref x :: st) h K) : px_P l y pc L (st) h K :=
  px_P.pure (fun k hk => by
    rcases List.mem_append.mp hk with h1 | h1
    · rcases List.mem_cons.mp h1 with h2 | h2
      · cases h2; exact List.mem_append_right _ (List.mem_map.mpr ⟨_, px_lk_mem hk0, rfl⟩)
      · exact List.mem_append_left _ h2
    · exact List.mem_append_right _ h1) (fun _ _ _ _ _ _ _ _ _ _ _ _ _ _ _ _ _ hc hl w => lv_aload_n hc.1 hc.2.1 hd rfl (px_lk_at hl hk0) (w _ hl)) k
theorem px_aload {i : Nat} {x : Nat} (hd : decode (px_cd y) pc = .ok (.aload i, 2)) (hk0 : px_lk L i = some (.ref x)) (k : px_P l y (pc + 2) L (.ref x :: st) h K) : px_P l y pc L (st) h K :=
  px_P.pure (fun k hk => by
    rcases List.mem_append.mp hk with h1 | h1
    · rcases List.mem_cons.mp h1 with h2 | h2
      · cases h2; exact List.mem_append_right _ (List.mem_map.mpr ⟨_, px_lk_mem hk0, rfl⟩)
      · exact List.mem_append_left _ h2
    · exact List.mem_append_right _ h1) (fun _ _ _ _ _ _ _ _ _ _ _ _ _ _ _ _ _ hc hl w => lv_aload hc.1 hc.2.1 hd (px_lk_at hl hk0) (w _ hl)) k
theorem px_aload_nN {n : Fin 4} (hd : decode (px_cd y) pc = .ok (.aload_n n, 1)) (hk0 : px_lk L n = some .null) (k : px_P l y (pc + 1) L (.null :: st) h K) : px_P l y pc L (st) h K :=
  px_P.pure (fun k hk => by simpa [px_vs] using hk) (fun _ _ _ _ _ _ _ _ _ _ _ _ _ _ _ _ _ hc hl w => lv_aload_nN hc.1 hc.2.1 hd rfl (px_lk_at hl hk0) (w _ hl)) k
theorem px_aloadN {i : Nat} (hd : decode (px_cd y) pc = .ok (.aload i, 2)) (hk0 : px_lk L i = some .null) (k : px_P l y (pc + 2) L (.null :: st) h K) : px_P l y pc L (st) h K :=
  px_P.pure (fun k hk => by simpa [px_vs] using hk) (fun _ _ _ _ _ _ _ _ _ _ _ _ _ _ _ _ _ hc hl w => lv_aloadN hc.1 hc.2.1 hd (px_lk_at hl hk0) (w _ hl)) k
theorem px_istore_n {n : Fin 4} {x : Int32} (hd : decode (px_cd y) pc = .ok (.istore_n n, 1)) (hn : (n : Nat) < px_mL y) (k : px_P l y (pc + 1) (px_sto n (.int x) false L) st h K) : px_P l y pc L (.int x :: st) h K :=
  px_P.pure (px_vs_sto (fun k hk => List.mem_cons_of_mem _ hk) (fun k e => by rw [e]; exact List.mem_append_left _ List.mem_cons_self)) (fun _ _ _ _ _ _ _ _ _ _ _ _ _ _ _ _ _ hc hl w => lv_istore_n hc.1 hc.2.1 hd rfl hl hn rfl fun ls' hl' => w ls' (px_sto_has1 hl')) k
theorem px_istore {i : Nat} {x : Int32} (hd : decode (px_cd y) pc = .ok (.istore i, 2)) (hn : i < px_mL y) (k : px_P l y (pc + 2) (px_sto i (.int x) false L) st h K) : px_P l y pc L (.int x :: st) h K :=
  px_P.pure (px_vs_sto (fun k hk => List.mem_cons_of_mem _ hk) (fun k e => by rw [e]; exact List.mem_append_left _ List.mem_cons_self)) (fun _ _ _ _ _ _ _ _ _ _ _ _ _ _ _ _ _ hc hl w => lv_istore hc.1 hc.2.1 hd hl hn rfl fun ls' hl' => w ls' (px_sto_has1 hl')) k
theorem px_lstore_n {n : Fin 4} {x : Int64} (hd : decode (px_cd y) pc = .ok (.lstore_n n, 1)) (hn : (n : Nat) + 1 < px_mL y) (k : px_P l y (pc + 1) (px_sto n (.long x) true L) st h K) : px_P l y pc L (.long x :: st) h K :=
  px_P.pure (px_vs_sto (fun k hk => List.mem_cons_of_mem _ hk) (fun k e => by rw [e]; exact List.mem_append_left _ List.mem_cons_self)) (fun _ _ _ _ _ _ _ _ _ _ _ _ _ _ _ _ _ hc hl w => lv_lstore_n hc.1 hc.2.1 hd rfl hl hn rfl fun ls' hl' => w ls' (px_sto_has2 hl')) k
theorem px_lstore {i : Nat} {x : Int64} (hd : decode (px_cd y) pc = .ok (.lstore i, 2)) (hn : i + 1 < px_mL y) (k : px_P l y (pc + 2) (px_sto i (.long x) true L) st h K) : px_P l y pc L (.long x :: st) h K :=
  px_P.pure (px_vs_sto (fun k hk => List.mem_cons_of_mem _ hk) (fun k e => by rw [e]; exact List.mem_append_left _ List.mem_cons_self)) (fun _ _ _ _ _ _ _ _ _ _ _ _ _ _ _ _ _ hc hl w => lv_lstore hc.1 hc.2.1 hd hl hn rfl fun ls' hl' => w ls' (px_sto_has2 hl')) k
theorem px_astore_n {n : Fin 4} {x : Nat} (hd : decode (px_cd y) pc = .ok (.astore_n n, 1)) (hn : (n : Nat) < px_mL y) (k : px_P l y (pc + 1) (px_sto n (.ref x) false L) st h K) : px_P l y pc L (.ref x :: st) h K :=
  px_P.pure (px_vs_sto (fun k hk => List.mem_cons_of_mem _ hk) (fun k e => by rw [e]; exact List.mem_append_left _ List.mem_cons_self)) (fun _ _ _ _ _ _ _ _ _ _ _ _ _ _ _ _ _ hc hl w => lv_astore_n hc.1 hc.2.1 hd rfl hl hn rfl fun ls' hl' => w ls' (px_sto_has1 hl')) k
theorem px_astore {i : Nat} {x : Nat} (hd : decode (px_cd y) pc = .ok (.astore i, 2)) (hn : i < px_mL y) (k : px_P l y (pc + 2) (px_sto i (.ref x) false L) st h K) : px_P l y pc L (.ref x :: st) h K :=
  px_P.pure (px_vs_sto (fun k hk => List.mem_cons_of_mem _ hk) (fun k e => by rw [e]; exact List.mem_append_left _ List.mem_cons_self)) (fun _ _ _ _ _ _ _ _ _ _ _ _ _ _ _ _ _ hc hl w => lv_astore hc.1 hc.2.1 hd hl hn rfl fun ls' hl' => w ls' (px_sto_has1 hl')) k
theorem px_astore_nN {n : Fin 4} (hd : decode (px_cd y) pc = .ok (.astore_n n, 1)) (hn : (n : Nat) < px_mL y) (k : px_P l y (pc + 1) (px_sto n (.null) false L) st h K) : px_P l y pc L (.null :: st) h K :=
  px_P.pure (px_vs_sto (fun k hk => List.mem_cons_of_mem _ hk) (fun k e => by rw [e]; exact List.mem_append_left _ List.mem_cons_self)) (fun _ _ _ _ _ _ _ _ _ _ _ _ _ _ _ _ _ hc hl w => lv_astore_nN hc.1 hc.2.1 hd rfl hl hn rfl fun ls' hl' => w ls' (px_sto_has1 hl')) k
theorem px_astoreN {i : Nat} (hd : decode (px_cd y) pc = .ok (.astore i, 2)) (hn : i < px_mL y) (k : px_P l y (pc + 2) (px_sto i (.null) false L) st h K) : px_P l y pc L (.null :: st) h K :=
  px_P.pure (px_vs_sto (fun k hk => List.mem_cons_of_mem _ hk) (fun k e => by rw [e]; exact List.mem_append_left _ List.mem_cons_self)) (fun _ _ _ _ _ _ _ _ _ _ _ _ _ _ _ _ _ hc hl w => lv_astoreN hc.1 hc.2.1 hd hl hn rfl fun ls' hl' => w ls' (px_sto_has1 hl')) k
theorem px_iinc {i : Nat} {n : Int} {x : Int32} (hd : decode (px_cd y) pc = .ok (.iinc i n, 3)) (hk0 : px_lk L i = some (.int x)) (hn : i < px_mL y) (k : px_P l y (pc + 3) (px_sto i (.int (x + Int32.ofInt n)) false L) st h K) : px_P l y pc L st h K :=
  px_P.pure (px_vs_sto (fun k hk => hk) (fun k e => by cases e)) (fun _ _ _ _ _ _ _ _ _ _ _ _ _ _ _ ad _ hc hl w => by
    obtain ⟨j, hj⟩ := List.getElem?_of_mem (px_lk_mem hk0)
    exact lv_iinc hc.1 hc.2.1 hd hl (k := j) (x := x) (by unfold px_Lm; rw [List.getElem?_map, hj]; rfl) rfl hn rfl fun ls' hl' => w ls' (px_sto_has1 (v := .int (x + Int32.ofInt n)) hl')) k
theorem px_iadd {a b : Int32} (hd : decode (px_cd y) pc = .ok (.iadd, 1)) (k : px_P l y (pc + 1) L (.int (a + b) :: st) h K) : px_P l y pc L (.int b :: .int a :: st) h K :=
  px_P.pure (fun k hk => by simpa [px_vs] using hk) (fun _ _ _ _ _ _ _ _ _ _ _ _ _ _ _ _ _ hc hl w => lv_iadd hc.1 hc.2.1 hd (w _ hl)) k
theorem px_isub {a b : Int32} (hd : decode (px_cd y) pc = .ok (.isub, 1)) (k : px_P l y (pc + 1) L (.int (a - b) :: st) h K) : px_P l y pc L (.int b :: .int a :: st) h K :=
  px_P.pure (fun k hk => by simpa [px_vs] using hk) (fun _ _ _ _ _ _ _ _ _ _ _ _ _ _ _ _ _ hc hl w => lv_isub hc.1 hc.2.1 hd (w _ hl)) k
theorem px_imul {a b : Int32} (hd : decode (px_cd y) pc = .ok (.imul, 1)) (k : px_P l y (pc + 1) L (.int (a * b) :: st) h K) : px_P l y pc L (.int b :: .int a :: st) h K :=
  px_P.pure (fun k hk => by simpa [px_vs] using hk) (fun _ _ _ _ _ _ _ _ _ _ _ _ _ _ _ _ _ hc hl w => lv_imul hc.1 hc.2.1 hd (w _ hl)) k
theorem px_iand {a b : Int32} (hd : decode (px_cd y) pc = .ok (.iand, 1)) (k : px_P l y (pc + 1) L (.int (a &&& b) :: st) h K) : px_P l y pc L (.int b :: .int a :: st) h K :=
  px_P.pure (fun k hk => by simpa [px_vs] using hk) (fun _ _ _ _ _ _ _ _ _ _ _ _ _ _ _ _ _ hc hl w => lv_iand hc.1 hc.2.1 hd (w _ hl)) k
theorem px_ior {a b : Int32} (hd : decode (px_cd y) pc = .ok (.ior, 1)) (k : px_P l y (pc + 1) L (.int (a ||| b) :: st) h K) : px_P l y pc L (.int b :: .int a :: st) h K :=
  px_P.pure (fun k hk => by simpa [px_vs] using hk) (fun _ _ _ _ _ _ _ _ _ _ _ _ _ _ _ _ _ hc hl w => lv_ior hc.1 hc.2.1 hd (w _ hl)) k
theorem px_ixor {a b : Int32} (hd : decode (px_cd y) pc = .ok (.ixor, 1)) (k : px_P l y (pc + 1) L (.int (a ^^^ b) :: st) h K) : px_P l y pc L (.int b :: .int a :: st) h K :=
  px_P.pure (fun k hk => by simpa [px_vs] using hk) (fun _ _ _ _ _ _ _ _ _ _ _ _ _ _ _ _ _ hc hl w => lv_ixor hc.1 hc.2.1 hd (w _ hl)) k
theorem px_ishl {a b : Int32} (hd : decode (px_cd y) pc = .ok (.ishl, 1)) (k : px_P l y (pc + 1) L (.int (a <<< (b &&& 31)) :: st) h K) : px_P l y pc L (.int b :: .int a :: st) h K :=
  px_P.pure (fun k hk => by simpa [px_vs] using hk) (fun _ _ _ _ _ _ _ _ _ _ _ _ _ _ _ _ _ hc hl w => lv_ishl hc.1 hc.2.1 hd (w _ hl)) k
theorem px_ishr {a b : Int32} (hd : decode (px_cd y) pc = .ok (.ishr, 1)) (k : px_P l y (pc + 1) L (.int (a >>> (b &&& 31)) :: st) h K) : px_P l y pc L (.int b :: .int a :: st) h K :=
  px_P.pure (fun k hk => by simpa [px_vs] using hk) (fun _ _ _ _ _ _ _ _ _ _ _ _ _ _ _ _ _ hc hl w => lv_ishr hc.1 hc.2.1 hd (w _ hl)) k
theorem px_iushr {a b : Int32} (hd : decode (px_cd y) pc = .ok (.iushr, 1)) (k : px_P l y (pc + 1) L (.int (a.toUInt32 >>> (b.toUInt32 &&& Int32.toUInt32 31)).toInt32 :: st) h K) : px_P l y pc L (.int b :: .int a :: st) h K :=
  px_P.pure (fun k hk => by simpa [px_vs] using hk) (fun _ _ _ _ _ _ _ _ _ _ _ _ _ _ _ _ _ hc hl w => lv_iushr hc.1 hc.2.1 hd rfl (w _ hl)) k
theorem px_idiv {a b : Int32} (hd : decode (px_cd y) pc = .ok (.idiv, 1)) (hne : ¬ b = 0) (k : px_P l y (pc + 1) L (.int (a / b) :: st) h K) : px_P l y pc L (.int b :: .int a :: st) h K :=
  px_P.pure (fun k hk => by simpa [px_vs] using hk) (fun _ _ _ _ _ _ _ _ _ _ _ _ _ _ _ _ _ hc hl w => lv_idiv hc.1 hc.2.1 hd hne (w _ hl)) k
theorem px_irem {a b : Int32} (hd : decode (px_cd y) pc = .ok (.irem, 1)) (hne : ¬ b = 0) (k : px_P l y (pc + 1) L (.int (a - a / b * b) :: st) h K) : px_P l y pc L (.int b :: .int a :: st) h K :=
  px_P.pure (fun k hk => by simpa [px_vs] using hk) (fun _ _ _ _ _ _ _ _ _ _ _ _ _ _ _ _ _ hc hl w => lv_irem hc.1 hc.2.1 hd hne (w _ hl)) k
theorem px_lrem {a b : Int64} (hd : decode (px_cd y) pc = .ok (.lrem, 1)) (hne : ¬ b = 0) (k : px_P l y (pc + 1) L (.long (a - a / b * b) :: st) h K) : px_P l y pc L (.long b :: .long a :: st) h K :=
  px_P.pure (fun k hk => by simpa [px_vs] using hk) (fun _ _ _ _ _ _ _ _ _ _ _ _ _ _ _ _ _ hc hl w => lv_lrem hc.1 hc.2.1 hd hne (w _ hl)) k
theorem px_ineg {a : Int32} (hd : decode (px_cd y) pc = .ok (.ineg, 1)) (k : px_P l y (pc + 1) L (.int (-a) :: st) h K) : px_P l y pc L (.int a :: st) h K :=
  px_P.pure (fun k hk => by simpa [px_vs] using hk) (fun _ _ _ _ _ _ _ _ _ _ _ _ _ _ _ _ _ hc hl w => lv_ineg hc.1 hc.2.1 hd (w _ hl)) k
theorem px_ladd {a b : Int64} (hd : decode (px_cd y) pc = .ok (.ladd, 1)) (k : px_P l y (pc + 1) L (.long (a + b) :: st) h K) : px_P l y pc L (.long b :: .long a :: st) h K :=
  px_P.pure (fun k hk => by simpa [px_vs] using hk) (fun _ _ _ _ _ _ _ _ _ _ _ _ _ _ _ _ _ hc hl w => lv_ladd hc.1 hc.2.1 hd (w _ hl)) k
theorem px_lsub {a b : Int64} (hd : decode (px_cd y) pc = .ok (.lsub, 1)) (k : px_P l y (pc + 1) L (.long (a - b) :: st) h K) : px_P l y pc L (.long b :: .long a :: st) h K :=
  px_P.pure (fun k hk => by simpa [px_vs] using hk) (fun _ _ _ _ _ _ _ _ _ _ _ _ _ _ _ _ _ hc hl w => lv_lsub hc.1 hc.2.1 hd (w _ hl)) k
theorem px_lmul {a b : Int64} (hd : decode (px_cd y) pc = .ok (.lmul, 1)) (k : px_P l y (pc + 1) L (.long (a * b) :: st) h K) : px_P l y pc L (.long b :: .long a :: st) h K :=
  px_P.pure (fun k hk => by simpa [px_vs] using hk) (fun _ _ _ _ _ _ _ _ _ _ _ _ _ _ _ _ _ hc hl w => lv_lmul hc.1 hc.2.1 hd (w _ hl)) k
theorem px_land {a b : Int64} (hd : decode (px_cd y) pc = .ok (.land, 1)) (k : px_P l y (pc + 1) L (.long (a &&& b) :: st) h K) : px_P l y pc L (.long b :: .long a :: st) h K :=
  px_P.pure (fun k hk => by simpa [px_vs] using hk) (fun _ _ _ _ _ _ _ _ _ _ _ _ _ _ _ _ _ hc hl w => lv_land hc.1 hc.2.1 hd (w _ hl)) k
theorem px_lor {a b : Int64} (hd : decode (px_cd y) pc = .ok (.lor, 1)) (k : px_P l y (pc + 1) L (.long (a ||| b) :: st) h K) : px_P l y pc L (.long b :: .long a :: st) h K :=
  px_P.pure (fun k hk => by simpa [px_vs] using hk) (fun _ _ _ _ _ _ _ _ _ _ _ _ _ _ _ _ _ hc hl w => lv_lor hc.1 hc.2.1 hd (w _ hl)) k
theorem px_lxor {a b : Int64} (hd : decode (px_cd y) pc = .ok (.lxor, 1)) (k : px_P l y (pc + 1) L (.long (a ^^^ b) :: st) h K) : px_P l y pc L (.long b :: .long a :: st) h K :=
  px_P.pure (fun k hk => by simpa [px_vs] using hk) (fun _ _ _ _ _ _ _ _ _ _ _ _ _ _ _ _ _ hc hl w => lv_lxor hc.1 hc.2.1 hd (w _ hl)) k
theorem px_lshl {a : Int64} {b : Int32} (hd : decode (px_cd y) pc = .ok (.lshl, 1)) (k : px_P l y (pc + 1) L (.long (a <<< (b.toInt64 &&& 63)) :: st) h K) : px_P l y pc L (.int b :: .long a :: st) h K :=
  px_P.pure (fun k hk => by simpa [px_vs] using hk) (fun _ _ _ _ _ _ _ _ _ _ _ _ _ _ _ _ _ hc hl w => lv_lshl hc.1 hc.2.1 hd rfl (w _ hl)) k
theorem px_lshr {a : Int64} {b : Int32} (hd : decode (px_cd y) pc = .ok (.lshr, 1)) (k : px_P l y (pc + 1) L (.long (a >>> (b.toInt64 &&& 63)) :: st) h K) : px_P l y pc L (.int b :: .long a :: st) h K :=
  px_P.pure (fun k hk => by simpa [px_vs] using hk) (fun _ _ _ _ _ _ _ _ _ _ _ _ _ _ _ _ _ hc hl w => lv_lshr hc.1 hc.2.1 hd rfl (w _ hl)) k
theorem px_lushr {a : Int64} {b : Int32} (hd : decode (px_cd y) pc = .ok (.lushr, 1)) (k : px_P l y (pc + 1) L (.long (a.toUInt64 >>> (b.toInt64.toUInt64 &&& Int64.toUInt64 63)).toInt64 :: st) h K) : px_P l y pc L (.int b :: .long a :: st) h K :=
  px_P.pure (fun k hk => by simpa [px_vs] using hk) (fun _ _ _ _ _ _ _ _ _ _ _ _ _ _ _ _ _ hc hl w => lv_lushr hc.1 hc.2.1 hd rfl (w _ hl)) k
theorem px_i2l {a : Int32} (hd : decode (px_cd y) pc = .ok (.i2l, 1)) (k : px_P l y (pc + 1) L (.long a.toInt64 :: st) h K) : px_P l y pc L (.int a :: st) h K :=
  px_P.pure (fun k hk => by simpa [px_vs] using hk) (fun _ _ _ _ _ _ _ _ _ _ _ _ _ _ _ _ _ hc hl w => lv_i2l hc.1 hc.2.1 hd rfl (w _ hl)) k
theorem px_l2i {a : Int64} (hd : decode (px_cd y) pc = .ok (.l2i, 1)) (k : px_P l y (pc + 1) L (.int a.toInt32 :: st) h K) : px_P l y pc L (.long a :: st) h K :=
  px_P.pure (fun k hk => by simpa [px_vs] using hk) (fun _ _ _ _ _ _ _ _ _ _ _ _ _ _ _ _ _ hc hl w => lv_l2i hc.1 hc.2.1 hd rfl (w _ hl)) k
theorem px_i2b {a : Int32} (hd : decode (px_cd y) pc = .ok (.i2b, 1)) (k : px_P l y (pc + 1) L (.int a.toInt8.toInt32 :: st) h K) : px_P l y pc L (.int a :: st) h K :=
  px_P.pure (fun k hk => by simpa [px_vs] using hk) (fun _ _ _ _ _ _ _ _ _ _ _ _ _ _ _ _ _ hc hl w => lv_i2b hc.1 hc.2.1 hd rfl (w _ hl)) k
theorem px_lcmp {a b : Int64} (hd : decode (px_cd y) pc = .ok (.lcmp, 1)) (k : px_P l y (pc + 1) L (.int (lg_cmp a b) :: st) h K) : px_P l y pc L (.long b :: .long a :: st) h K :=
  px_P.pure (fun k hk => by simpa [px_vs] using hk) (fun _ _ _ _ _ _ _ _ _ _ _ _ _ _ _ _ _ hc hl w => W.lcmp hc.1 hc.2.1 hd (w _ hl)) k
theorem px_dup {a : Value} (hd : decode (px_cd y) pc = .ok (.dup, 1)) (ha : a.category = 1) (k : px_P l y (pc + 1) L (a :: a :: st) h K) : px_P l y pc L (a :: st) h K :=
  px_P.pure (fun k hk => by simp [px_vs] at hk ⊢; grind) (fun _ _ _ _ _ _ _ _ _ _ _ _ _ _ _ _ _ hc hl w => lv_dup hc.1 hc.2.1 hd (by rw [px_v_cat]; exact ha) (w _ hl)) k
theorem px_pop {a : Value} (hd : decode (px_cd y) pc = .ok (.pop, 1)) (ha : a.category = 1) (k : px_P l y (pc + 1) L (st) h K) : px_P l y pc L (a :: st) h K :=
  px_P.pure (fun k hk => by simp [px_vs] at hk ⊢; grind) (fun _ _ _ _ _ _ _ _ _ _ _ _ _ _ _ _ _ hc hl w => lv_pop hc.1 hc.2.1 hd (by rw [px_v_cat]; exact ha) (w _ hl)) k
theorem px_dup2 {a b : Value} (hd : decode (px_cd y) pc = .ok (.dup2, 1)) (ha : a.category = 1) (hb : b.category = 1) (k : px_P l y (pc + 1) L (a :: b :: a :: b :: st) h K) : px_P l y pc L (a :: b :: st) h K :=
  px_P.pure (fun k hk => by simp [px_vs] at hk ⊢; grind) (fun _ _ _ _ _ _ _ _ _ _ _ _ _ _ _ _ _ hc hl w => lv_dup2_11 hc.1 hc.2.1 hd (by rw [px_v_cat]; exact ha) (by rw [px_v_cat]; exact hb) (w _ hl)) k
theorem px_dup2L {a : Value} (hd : decode (px_cd y) pc = .ok (.dup2, 1)) (ha : a.category = 2) (k : px_P l y (pc + 1) L (a :: a :: st) h K) : px_P l y pc L (a :: st) h K :=
  px_P.pure (fun k hk => by simp [px_vs] at hk ⊢; grind) (fun _ _ _ _ _ _ _ _ _ _ _ _ _ _ _ _ _ hc hl w => lv_dup2_2 hc.1 hc.2.1 hd (by rw [px_v_cat]; exact ha) (w _ hl)) k
theorem px_if_eq {x : Int32} {off : Int} {tgt : Nat} (hd : decode (px_cd y) pc = .ok (.ifCond .eq off, 3)) (ht : (pc : Int) + off = (tgt : Int)) (kt : x = 0 → px_P l y tgt L st h K) (kf : ¬ (x = 0) → px_P l y (pc + 3) L st h K) : px_P l y pc L (.int x :: st) h K := by
  by_cases hP : x = 0
  · exact px_P.pure (fun k hk => by simpa [px_vs] using hk) (fun _ _ _ _ _ _ _ _ _ _ _ _ _ _ _ _ _ hc hl w => lv_if_eq hc.1 hc.2.1 hd ht (fun _ => w _ hl) (fun q => absurd hP q)) (kt hP)
  · exact px_P.pure (fun k hk => by simpa [px_vs] using hk) (fun _ _ _ _ _ _ _ _ _ _ _ _ _ _ _ _ _ hc hl w => lv_if_eq hc.1 hc.2.1 hd ht (fun q => absurd q hP) (fun _ => w _ hl)) (kf hP)
theorem px_if_ne {x : Int32} {off : Int} {tgt : Nat} (hd : decode (px_cd y) pc = .ok (.ifCond .ne off, 3)) (ht : (pc : Int) + off = (tgt : Int)) (kt : ¬ (x = 0) → px_P l y tgt L st h K) (kf : x = 0 → px_P l y (pc + 3) L st h K) : px_P l y pc L (.int x :: st) h K := by
  by_cases hP : x = 0
  · exact px_P.pure (fun k hk => by simpa [px_vs] using hk) (fun _ _ _ _ _ _ _ _ _ _ _ _ _ _ _ _ _ hc hl w => lv_if_ne hc.1 hc.2.1 hd ht (fun q => absurd hP q) (fun _ => w _ hl)) (kf hP)
  · exact px_P.pure (fun k hk => by simpa [px_vs] using hk) (fun _ _ _ _ _ _ _ _ _ _ _ _ _ _ _ _ _ hc hl w => lv_if_ne hc.1 hc.2.1 hd ht (fun _ => w _ hl) (fun q => absurd q hP)) (kt hP)
theorem px_if_lt {x : Int32} {off : Int} {tgt : Nat} (hd : decode (px_cd y) pc = .ok (.ifCond .lt off, 3)) (ht : (pc : Int) + off = (tgt : Int)) (kt : x < 0 → px_P l y tgt L st h K) (kf : ¬ (x < 0) → px_P l y (pc + 3) L st h K) : px_P l y pc L (.int x :: st) h K := by
  by_cases hP : x < 0
  · exact px_P.pure (fun k hk => by simpa [px_vs] using hk) (fun _ _ _ _ _ _ _ _ _ _ _ _ _ _ _ _ _ hc hl w => lv_if_lt hc.1 hc.2.1 hd ht (fun _ => w _ hl) (fun q => absurd hP q)) (kt hP)
  · exact px_P.pure (fun k hk => by simpa [px_vs] using hk) (fun _ _ _ _ _ _ _ _ _ _ _ _ _ _ _ _ _ hc hl w => lv_if_lt hc.1 hc.2.1 hd ht (fun q => absurd q hP) (fun _ => w _ hl)) (kf hP)
theorem px_if_ge {x : Int32} {off : Int} {tgt : Nat} (hd : decode (px_cd y) pc = .ok (.ifCond .ge off, 3)) (ht : (pc : Int) + off = (tgt : Int)) (kt : 0 ≤ x → px_P l y tgt L st h K) (kf : ¬ (0 ≤ x) → px_P l y (pc + 3) L st h K) : px_P l y pc L (.int x :: st) h K := by
  by_cases hP : 0 ≤ x
  · exact px_P.pure (fun k hk => by simpa [px_vs] using hk) (fun _ _ _ _ _ _ _ _ _ _ _ _ _ _ _ _ _ hc hl w => lv_if_ge hc.1 hc.2.1 hd ht (fun _ => w _ hl) (fun q => absurd hP q)) (kt hP)
  · exact px_P.pure (fun k hk => by simpa [px_vs] using hk) (fun _ _ _ _ _ _ _ _ _ _ _ _ _ _ _ _ _ hc hl w => lv_if_ge hc.1 hc.2.1 hd ht (fun q => absurd q hP) (fun _ => w _ hl)) (kf hP)
theorem px_if_gt {x : Int32} {off : Int} {tgt : Nat} (hd : decode (px_cd y) pc = .ok (.ifCond .gt off, 3)) (ht : (pc : Int) + off = (tgt : Int)) (kt : 0 < x → px_P l y tgt L st h K) (kf : ¬ (0 < x) → px_P l y (pc + 3) L st h K) : px_P l y pc L (.int x :: st) h K := by
  by_cases hP : 0 < x
  · exact px_P.pure (fun k hk => by simpa [px_vs] using hk) (fun _ _ _ _ _ _ _ _ _ _ _ _ _ _ _ _ _ hc hl w => lv_if_gt hc.1 hc.2.1 hd ht (fun _ => w _ hl) (fun q => absurd hP q)) (kt hP)
  · exact px_P.pure (fun k hk => by simpa [px_vs] using hk) (fun _ _ _ _ _ _ _ _ _ _ _ _ _ _ _ _ _ hc hl w => lv_if_gt hc.1 hc.2.1 hd ht (fun q => absurd q hP) (fun _ => w _ hl)) (kf hP)
theorem px_if_le {x : Int32} {off : Int} {tgt : Nat} (hd : decode (px_cd y) pc = .ok (.ifCond .le off, 3)) (ht : (pc : Int) + off = (tgt : Int)) (kt : x ≤ 0 → px_P l y tgt L st h K) (kf : ¬ (x ≤ 0) → px_P l y (pc + 3) L st h K) : px_P l y pc L (.int x :: st) h K := by
  by_cases hP : x ≤ 0
  · exact px_P.pure (fun k hk => by simpa [px_vs] using hk) (fun _ _ _ _ _ _ _ _ _ _ _ _ _ _ _ _ _ hc hl w => lv_if_le hc.1 hc.2.1 hd ht (fun _ => w _ hl) (fun q => absurd hP q)) (kt hP)
  · exact px_P.pure (fun k hk => by simpa [px_vs] using hk) (fun _ _ _ _ _ _ _ _ _ _ _ _ _ _ _ _ _ hc hl w => lv_if_le hc.1 hc.2.1 hd ht (fun q => absurd q hP) (fun _ => w _ hl)) (kf hP)
theorem px_icmp_eq {a b : Int32} {off : Int} {tgt : Nat} (hd : decode (px_cd y) pc = .ok (.if_icmp .eq off, 3)) (ht : (pc : Int) + off = (tgt : Int)) (kt : a = b → px_P l y tgt L st h K) (kf : ¬ (a = b) → px_P l y (pc + 3) L st h K) : px_P l y pc L (.int b :: .int a :: st) h K := by
  by_cases hP : a = b
  · exact px_P.pure (fun k hk => by simpa [px_vs] using hk) (fun _ _ _ _ _ _ _ _ _ _ _ _ _ _ _ _ _ hc hl w => lv_icmp_eq hc.1 hc.2.1 hd ht (fun _ => w _ hl) (fun q => absurd hP q)) (kt hP)
  · exact px_P.pure (fun k hk => by simpa [px_vs] using hk) (fun _ _ _ _ _ _ _ _ _ _ _ _ _ _ _ _ _ hc hl w => lv_icmp_eq hc.1 hc.2.1 hd ht (fun q => absurd q hP) (fun _ => w _ hl)) (kf hP)
theorem px_icmp_ne {a b : Int32} {off : Int} {tgt : Nat} (hd : decode (px_cd y) pc = .ok (.if_icmp .ne off, 3)) (ht : (pc : Int) + off = (tgt : Int)) (kt : ¬ (a = b) → px_P l y tgt L st h K) (kf : a = b → px_P l y (pc + 3) L st h K) : px_P l y pc L (.int b :: .int a :: st) h K := by
  by_cases hP : a = b
  · exact px_P.pure (fun k hk => by simpa [px_vs] using hk) (fun _ _ _ _ _ _ _ _ _ _ _ _ _ _ _ _ _ hc hl w => lv_icmp_ne hc.1 hc.2.1 hd ht (fun q => absurd hP q) (fun _ => w _ hl)) (kf hP)
  · exact px_P.pure (fun k hk => by simpa [px_vs] using hk) (fun _ _ _ _ _ _ _ _ _ _ _ _ _ _ _ _ _ hc hl w => lv_icmp_ne hc.1 hc.2.1 hd ht (fun _ => w _ hl) (fun q => absurd q hP)) (kt hP)
theorem px_icmp_lt {a b : Int32} {off : Int} {tgt : Nat} (hd : decode (px_cd y) pc = .ok (.if_icmp .lt off, 3)) (ht : (pc : Int) + off = (tgt : Int)) (kt : a < b → px_P l y tgt L st h K) (kf : ¬ (a < b) → px_P l y (pc + 3) L st h K) : px_P l y pc L (.int b :: .int a :: st) h K := by
  by_cases hP : a < b
  · exact px_P.pure (fun k hk => by simpa [px_vs] using hk) (fun _ _ _ _ _ _ _ _ _ _ _ _ _ _ _ _ _ hc hl w => lv_icmp_lt hc.1 hc.2.1 hd ht (fun _ => w _ hl) (fun q => absurd hP q)) (kt hP)
  · exact px_P.pure (fun k hk => by simpa [px_vs] using hk) (fun _ _ _ _ _ _ _ _ _ _ _ _ _ _ _ _ _ hc hl w => lv_icmp_lt hc.1 hc.2.1 hd ht (fun q => absurd q hP) (fun _ => w _ hl)) (kf hP)
theorem px_icmp_ge {a b : Int32} {off : Int} {tgt : Nat} (hd : decode (px_cd y) pc = .ok (.if_icmp .ge off, 3)) (ht : (pc : Int) + off = (tgt : Int)) (kt : b ≤ a → px_P l y tgt L st h K) (kf : ¬ (b ≤ a) → px_P l y (pc + 3) L st h K) : px_P l y pc L (.int b :: .int a :: st) h K := by
  by_cases hP : b ≤ a
  · exact px_P.pure (fun k hk => by simpa [px_vs] using hk) (fun _ _ _ _ _ _ _ _ _ _ _ _ _ _ _ _ _ hc hl w => lv_icmp_ge hc.1 hc.2.1 hd ht (fun _ => w _ hl) (fun q => absurd hP q)) (kt hP)
  · exact px_P.pure (fun k hk => by simpa [px_vs] using hk) (fun _ _ _ _ _ _ _ _ _ _ _ _ _ _ _ _ _ hc hl w => lv_icmp_ge hc.1 hc.2.1 hd ht (fun q => absurd q hP) (fun _ => w _ hl)) (kf hP)
theorem px_icmp_gt {a b : Int32} {off : Int} {tgt : Nat} (hd : decode (px_cd y) pc = .ok (.if_icmp .gt off, 3)) (ht : (pc : Int) + off = (tgt : Int)) (kt : b < a → px_P l y tgt L st h K) (kf : ¬ (b < a) → px_P l y (pc + 3) L st h K) : px_P l y pc L (.int b :: .int a :: st) h K := by
  by_cases hP : b < a
  · exact px_P.pure (fun k hk => by simpa [px_vs] using hk) (fun _ _ _ _ _ _ _ _ _ _ _ _ _ _ _ _ _ hc hl w => lv_icmp_gt hc.1 hc.2.1 hd ht (fun _ => w _ hl) (fun q => absurd hP q)) (kt hP)
  · exact px_P.pure (fun k hk => by simpa [px_vs] using hk) (fun _ _ _ _ _ _ _ _ _ _ _ _ _ _ _ _ _ hc hl w => lv_icmp_gt hc.1 hc.2.1 hd ht (fun q => absurd q hP) (fun _ => w _ hl)) (kf hP)
theorem px_icmp_le {a b : Int32} {off : Int} {tgt : Nat} (hd : decode (px_cd y) pc = .ok (.if_icmp .le off, 3)) (ht : (pc : Int) + off = (tgt : Int)) (kt : a ≤ b → px_P l y tgt L st h K) (kf : ¬ (a ≤ b) → px_P l y (pc + 3) L st h K) : px_P l y pc L (.int b :: .int a :: st) h K := by
  by_cases hP : a ≤ b
  · exact px_P.pure (fun k hk => by simpa [px_vs] using hk) (fun _ _ _ _ _ _ _ _ _ _ _ _ _ _ _ _ _ hc hl w => lv_icmp_le hc.1 hc.2.1 hd ht (fun _ => w _ hl) (fun q => absurd hP q)) (kt hP)
  · exact px_P.pure (fun k hk => by simpa [px_vs] using hk) (fun _ _ _ _ _ _ _ _ _ _ _ _ _ _ _ _ _ hc hl w => lv_icmp_le hc.1 hc.2.1 hd ht (fun q => absurd q hP) (fun _ => w _ hl)) (kf hP)
theorem px_goto {off : Int} {tgt : Nat} (hd : decode (px_cd y) pc = .ok (.goto off, 3)) (ht : (pc : Int) + off = (tgt : Int)) (k : px_P l y tgt L st h K) : px_P l y pc L st h K :=
  px_P.pure (fun k hk => hk) (fun _ _ _ _ _ _ _ _ _ _ _ _ _ _ _ _ _ hc hl w => lv_goto hc.1 hc.2.1 hd ht (w _ hl)) k
theorem px_ifnull {x : Nat} {off : Int} (hd : decode (px_cd y) pc = .ok (.ifnull off, 3)) (k : px_P l y (pc + 3) L st h K) : px_P l y pc L (.ref x :: st) h K :=
  px_P.pure (fun k hk => by simp [px_vs] at hk ⊢; grind) (fun _ _ _ _ _ _ _ _ _ _ _ _ _ _ _ _ _ hc hl w => lv_ifnull hc.1 hc.2.1 hd (w _ hl)) k
theorem px_ifnullN {off : Int} {tgt : Nat} (hd : decode (px_cd y) pc = .ok (.ifnull off, 3)) (ht : (pc : Int) + off = (tgt : Int)) (k : px_P l y tgt L st h K) : px_P l y pc L (.null :: st) h K :=
  px_P.pure (fun k hk => by simp [px_vs] at hk ⊢; grind) (fun _ _ _ _ _ _ _ _ _ _ _ _ _ _ _ _ _ hc hl w => lv_ifnullN hc.1 hc.2.1 hd ht (w _ hl)) k
theorem px_ifnonnull {x : Nat} {off : Int} {tgt : Nat} (hd : decode (px_cd y) pc = .ok (.ifnonnull off, 3)) (ht : (pc : Int) + off = (tgt : Int)) (k : px_P l y tgt L st h K) : px_P l y pc L (.ref x :: st) h K :=
  px_P.pure (fun k hk => by simp [px_vs] at hk ⊢; grind) (fun _ _ _ _ _ _ _ _ _ _ _ _ _ _ _ _ _ hc hl w => lv_ifnonnull hc.1 hc.2.1 hd ht (w _ hl)) k
theorem px_ifnonnullN {off : Int} (hd : decode (px_cd y) pc = .ok (.ifnonnull off, 3)) (k : px_P l y (pc + 3) L st h K) : px_P l y pc L (.null :: st) h K :=
  px_P.pure (fun k hk => by simp [px_vs] at hk ⊢; grind) (fun _ _ _ _ _ _ _ _ _ _ _ _ _ _ _ _ _ hc hl w => lv_ifnonnullN hc.1 hc.2.1 hd (w _ hl)) k
theorem px_tableOut {dflt lo hi : Int} {offs : Array Int} {len : Nat} {x : Int32} {tgt : Nat} (hd : decode (px_cd y) pc = .ok (.tableswitch dflt lo hi offs, len)) (hx : x.toInt < lo ∨ hi < x.toInt) (ht : (pc : Int) + dflt = (tgt : Int)) (k : px_P l y tgt L st h K) : px_P l y pc L (.int x :: st) h K :=
  px_P.pure (fun k hk => by simp [px_vs] at hk ⊢; grind) (fun _ _ _ _ _ _ _ _ _ _ _ _ _ _ _ _ _ hc hl w => lv_tableOut hc.1 hc.2.1 hd hx ht (w _ hl)) k
theorem px_tableIn {dflt lo hi : Int} {offs : Array Int} {len : Nat} {x : Int32} {off : Int} {tgt : Nat} (hd : decode (px_cd y) pc = .ok (.tableswitch dflt lo hi offs, len)) (h1 : ¬ x.toInt < lo) (h2 : ¬ hi < x.toInt) (ho : offs[(x.toInt - lo).toNat]? = some off) (ht : (pc : Int) + off = (tgt : Int)) (k : px_P l y tgt L st h K) : px_P l y pc L (.int x :: st) h K :=
  px_P.pure (fun k hk => by simp [px_vs] at hk ⊢; grind) (fun _ _ _ _ _ _ _ _ _ _ _ _ _ _ _ _ _ hc hl w => lv_tableIn hc.1 hc.2.1 hd h1 h2 ho ht (w _ hl)) k
theorem px_ildc {i ps : Nat} {v : Int32} (hd : decode (px_cd y) pc = .ok (.ldc i, 2)) (hv : px_ldc (px_on y) i = some (v, ps)) (k : px_P l y (pc + 2) L (.int v :: st) h K) : px_P l y pc L st h K :=
  px_P.pure (fun k hk => by simp [px_vs] at hk ⊢; grind) (fun _ _ _ _ _ _ _ _ _ _ _ _ _ _ _ _ _ hc hl w => lv_ldc hc.1 hc.2.1 hc.2.2.2.1 (hc.2.2.2.2.1 _ (px_hw_mem (List.all_eq_true.mp px_all_Ld _ (px_lkp hv)))) hd (w _ hl)) k
theorem px_ildc2 {i ps : Nat} {v : Int64} (hd : decode (px_cd y) pc = .ok (.ldc2_w i, 3)) (hv : px_l2c (px_on y) i = some (v, ps)) (k : px_P l y (pc + 3) L (.long v :: st) h K) : px_P l y pc L st h K :=
  px_P.pure (fun k hk => by simp [px_vs] at hk ⊢; grind) (fun _ _ _ _ _ _ _ _ _ _ _ _ _ _ _ _ _ hc hl w => lv_ldc2 hc.1 hc.2.1 hc.2.2.2.1 (hc.2.2.2.2.1 _ (px_hw_mem (List.all_eq_true.mp px_all_L2 _ (px_lkp hv)))) hd (w _ hl)) k
/-- the end -/
theorem px_ret {r : Option Value} (hr : px_rI y pc r) (hst : r.toList = st) (k : K r h 0 0) : px_P l y pc L st h K := by
  subst hst
  refine ⟨r, h, 0, 0, k, ?_⟩
  intro g h0 ad0 ad p e R s m args below meth c ls H locs cells slots Q hc hi hl h1 h2 hret
  exact hret pc ls ad H locs hr ⟨hi.1, hi.2.1, hi.2.2.1, hi.2.2.2.1, hi.2.2.2.2.1.sub (fun k hk => List.mem_append_left _ hk), hi.2.2.2.2.2⟩
end PXP
