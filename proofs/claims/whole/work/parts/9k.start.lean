/-! the law from its entry, and the claim -/
def R_law : String := "ImageFileLaw"
def lw_P (b : Addr) (xs : List Int32) (args : Array Value) (s : State) : Prop := args = #[.ref b] ∧ s.IntsAt b xs ∧ xs.length ≤ 2560 ∧ (Jvm.Cond.and given_1 narrow_1).before args s = true
def lw_Q (_ : Array Value) (s : State) (o : Outcome) (t : State) : Prop := o = .returned (some (.int 1)) ∧ Framed s o t [] 600000 7302249
def lw_Z (below : List Frame) (a : Array Value) (s : State) : State → Prop := fun t => ∃ o, t.status = .running ∧ Ended t below o ∧ lw_Q a s o t
/-- the law's own end, with 1 on the stack, nothing written that was there before, its room as the claim has it -/
theorem lw_ret {p : Program} {l : Launch} {e : Env} {s : State} {m : MethodId} {below : List Frame} {meth : Method} {c : Code} {b : Nat} (hx : p.tables.exec = Jvm.exec) (hb : c.code = code) (hr : meth.sig.returnType = ret) (hlocks : meth.locks = false) {pc : Nat} {H : Heap} {ls : Array Slot} (hdg : decode code pc = .ok (.ireturn, 1)) : W p l e room_1 s m #[Value.ref b] below meth c H [] 600000 7302249 (lw_Z below #[Value.ref b] s) (F0 m pc ls [.int 1]) := by
  intro T hT X
  obtain ⟨fs, hret, hrun, hended, hW, hframe⟩ := X.leave (v := some (.int 1)) (hlocks := hlocks) (fun h => by rw [hr] at h; cases h)
  have hmeth' : T.vm.method? m = some meth := X.method'
  refine ⟨T.setFrames fs, ?_, .returned (some (.int 1)), hrun, hended, rfl, ⟨_, rfl⟩, hW, hframe⟩
  jvm_step X.here [X.here.top, hx, hb, hdg, hmeth', hr, ret, narrow_b1]
  (try refine ⟨rfl, ?_⟩); (try refine ⟨rfl, ?_⟩)
  first | (intro acts; rw [hret _ acts rfl rfl rfl]) | rw [hret _ _ rfl rfl rfl]
  exact Steps.refl _
def lw_At (p : Program) (s : State) (m : MethodId) (meth : Method) (c : Code) (b L : Nat) (xs : Nat → Int32) : Prop :=
  p.tables.exec = Jvm.exec ∧ c.code = code ∧ meth.sig.returnType = ret ∧ c.maxLocals = 4 ∧ s.vm.findClass R_law = some m.cls ∧ (∀ w ∈ lw_tbl, w.before #[Value.ref b] s = true) ∧ va_X b L xs s s.heap ∧ b < s.heap.size ∧ meth.locks = false ∧ (Jvm.Cond.and given_1 narrow_1).before #[Value.ref b] s = true
/-! the law's entry: the heap's picture, what the tables say of it -/
def w_h (L : Nat) (xs : Nat → Int32) : px_H := fun k => if k = 0 then some (.inl (px_tS, 3, .inl (stF [5, 4, 6]))) else if k = 64 then some (.inl (px_tS, 3, .inl (stF [0, 0, 1]))) else if k = 128 then some (.inl (px_tS, 3, .inl (stF [1, 2, 2]))) else if k = 192 then some (.inl (px_tS, 16, .inl (stF [127, 69, 76, 70, 1, 1, 1, 0, 0, 0, 0, 0, 0, 0, 0, 0]))) else if k = 256 then some (.inl (px_tS, 8, .inl (stF [77, 97, 114, 107, 115, 0, 0, 0]))) else if k = 320 then some (.inl (px_tS, 16, .inl (stF fourB))) else if k = 384 then some (.inl (px_tS, L, .inl xs)) else none
def w_ad (t0 t1 t2 t3 t4 t5 b : Nat) : Nat → Nat := fun k => if k = 0 then t0 else if k = 64 then t1 else if k = 128 then t2 else if k = 192 then t3 else if k = 256 then t4 else if k = 320 then t5 else b
theorem w_h_of {L : Nat} {xs : Nat → Int32} {j : Nat} {c : px_C} (h : w_h L xs j = some c) : (j = 0 ∧ c = .inl (px_tS, 3, .inl (stF [5, 4, 6]))) ∨ (j = 64 ∧ c = .inl (px_tS, 3, .inl (stF [0, 0, 1]))) ∨ (j = 128 ∧ c = .inl (px_tS, 3, .inl (stF [1, 2, 2]))) ∨ (j = 192 ∧ c = .inl (px_tS, 16, .inl (stF [127, 69, 76, 70, 1, 1, 1, 0, 0, 0, 0, 0, 0, 0, 0, 0]))) ∨ (j = 256 ∧ c = .inl (px_tS, 8, .inl (stF [77, 97, 114, 107, 115, 0, 0, 0]))) ∨ (j = 320 ∧ c = .inl (px_tS, 16, .inl (stF fourB))) ∨ (j = 384 ∧ c = .inl (px_tS, L, .inl xs)) := by
  unfold w_h at h
  by_cases e0 : j = 0
  · rw [if_pos e0] at h; exact Or.inl ⟨e0, (Option.some.inj h).symm⟩
  rw [if_neg e0] at h
  by_cases e1 : j = 64
  · rw [if_pos e1] at h; exact Or.inr (Or.inl ⟨e1, (Option.some.inj h).symm⟩)
  rw [if_neg e1] at h
  by_cases e2 : j = 128
  · rw [if_pos e2] at h; exact Or.inr (Or.inr (Or.inl ⟨e2, (Option.some.inj h).symm⟩))
  rw [if_neg e2] at h
  by_cases e3 : j = 192
  · rw [if_pos e3] at h; exact Or.inr (Or.inr (Or.inr (Or.inl ⟨e3, (Option.some.inj h).symm⟩)))
  rw [if_neg e3] at h
  by_cases e4 : j = 256
  · rw [if_pos e4] at h; exact Or.inr (Or.inr (Or.inr (Or.inr (Or.inl ⟨e4, (Option.some.inj h).symm⟩))))
  rw [if_neg e4] at h
  by_cases e5 : j = 320
  · rw [if_pos e5] at h; exact Or.inr (Or.inr (Or.inr (Or.inr (Or.inr (Or.inl ⟨e5, (Option.some.inj h).symm⟩)))))
  rw [if_neg e5] at h
  by_cases e6 : j = 384
  · rw [if_pos e6] at h; exact Or.inr (Or.inr (Or.inr (Or.inr (Or.inr (Or.inr ⟨e6, (Option.some.inj h).symm⟩)))))
  rw [if_neg e6] at h
  cases h
theorem w_h_free {L : Nat} {xs : Nat → Int32} {j : Nat} (hj : 448 ≤ j) : w_h L xs j = none := by
  cases h : w_h L xs j with
  | none => rfl
  | some c =>
    have := w_h_of h
    omega
theorem w_h_ty (L : Nat) (xs : Nat → Int32) : px_ty (w_h L xs) := by
  intro j c h
  rcases w_h_of h with ⟨-, rfl⟩ | ⟨-, rfl⟩ | ⟨-, rfl⟩ | ⟨-, rfl⟩ | ⟨-, rfl⟩ | ⟨-, rfl⟩ | ⟨-, rfl⟩ <;> trivial
/-- a static row of numbers, out of what the Statement gives of the start -/
theorem w_row {s : State} {args : Array Value} {F : List Cond} (hs : ∀ w ∈ F, w.before args s = true) {C n d : String} (N : Nat) (vs : List Int32) (hN : N < 2 ^ 31) (h1 : Cond.arrayOf (.static C n d) .int ∈ F) (h2 : Cond.eq (.length (.static C n d)) (.int (Int32.ofNat N)) ∈ F) (h3 : ∀ j, j < N → Cond.eq (.elem (.static C n d) (.int (Int32.ofNat j))) (.int (stF vs j)) ∈ F) (hl : (Cond.laysStatic C n d).before args s = true) (hi : (Cond.initialized C).before args s = true) : ∃ t : Nat, va_Z C n d (.ref t) (fun q : Nat => s.heap.size ≤ q) s s.heap ∧ va_T .int t N (fun j => .int (stF vs j)) (fun q : Nat => s.heap.size ≤ q) s s.heap := by
  have hA : ∀ a : Nat, a < s.heap.size → ¬ (fun q : Nat => s.heap.size ≤ q) a := fun a ha => Nat.not_le.mpr ha
  obtain ⟨t, ht, hT⟩ := va_Tof (f := fun j => .int (stF vs j)) hN (hs _ h1) (va_eqt (hs _ h2)) (fun j hj => va_eqt (hs _ (h3 j hj))) hA
  exact ⟨t, va_Zref hl hi ht hA, hT⟩
/-- an array's class, out of its word -/
theorem w_arr {s : State} {args : Array Value} {ty : FieldType} (h : (Cond.arrayClass ty).before args s = true) : ∃ cA : ClassId, ArrOfT s cA ty ∧ s.vm.findClass ("[" ++ ty.toString) = some cA := by
  obtain ⟨cA, kA, comp, h1, h2, h3⟩ := Cond.arrayClass_spec h
  exact ⟨cA, fun n z => ⟨fun k h => (by cases h), kA, h2, comp, h3⟩, h1⟩
theorem w_over {s : State} {args : Array Value} {C : String} (h : (Cond.arrayOver (.object C)).before args s = true) : ∃ cA : ClassId, ArrOfT s cA (.object C) ∧ va_RA s cA (.object C) := by
  obtain ⟨comp, cA, kA, h1, h2, h3, h4, h5⟩ := Cond.arrayOver_spec h
  exact ⟨cA, fun n z => ⟨fun k h => (by cases h), kA, h3, comp, h4⟩, kA, comp, h3, h4, h1, h5⟩
set_option maxRecDepth 100000 in
theorem cd_law : px_cd 181 = code := rfl
/-- the classes -/
theorem w_known {s : State} {args : Array Value} (hts : ∀ w ∈ lw_tbl, w.before args s = true) : ∃ (dC : Nat → ClassId) (dI : Nat → Nat → Nat), ∀ (k : Nat) (q : vw_C), px_cl[k]? = some q → u_Kn s q.1 q.2.1 q.2.2 (dC k) (dI k) := by
  have htb : ∀ w ∈ px_tb, w.before args s = true := fun w hw => hts w (List.mem_filter.mp hw).1
  obtain ⟨c0, i0, h0⟩ := u_known (C := RX0) (T := TX0) (N := 3) (n := 3) htb px_in0 (hts (.instantiable RX0 3) (by decide +kernel))
  obtain ⟨c1, i1, h1⟩ := u_known (C := RX1) (T := TX1) (N := 5) (n := 5) htb px_in1 (hts (.instantiable RX1 5) (by decide +kernel))
  obtain ⟨c2, i2, h2⟩ := u_known (C := RX3) (T := TX3) (N := 9) (n := 9) htb px_in2 (hts (.instantiable RX3 9) (by decide +kernel))
  obtain ⟨c3, i3, h3⟩ := u_known (C := RX4) (T := TX4) (N := 5) (n := 5) htb px_in3 (hts (.instantiable RX4 5) (by decide +kernel))
  obtain ⟨c4, i4, h4⟩ := u_known (C := RX6) (T := TX6) (N := 4) (n := 4) htb px_in4 (hts (.instantiable RX6 4) (by decide +kernel))
  obtain ⟨c5, i5, h5⟩ := u_known (C := RX7) (T := TX7) (N := 5) (n := 5) htb px_in5 (hts (.instantiable RX7 5) (by decide +kernel))
  obtain ⟨c6, i6, h6⟩ := u_known (C := RX8) (T := TX8) (N := 16) (n := 16) htb px_in6 (hts (.instantiable RX8 16) (by decide +kernel))
  refine ⟨fun k => ([c0, c1, c2, c3, c4, c5, c6] : List ClassId).getD k c0, fun k => ([i0, i1, i2, i3, i4, i5, i6] : List (Nat → Nat)).getD k i0, ?_⟩
  intro k q hq
  match k, hq with
  | 0, hq => cases hq; exact h0
  | 1, hq => cases hq; exact h1
  | 2, hq => cases hq; exact h2
  | 3, hq => cases hq; exact h3
  | 4, hq => cases hq; exact h4
  | 5, hq => cases hq; exact h5
  | 6, hq => cases hq; exact h6
  | k + 7, hq => simp [px_cl] at hq
theorem px_nw_on : px_nw.all (fun w => w.onTables) = true := by decide +kernel
/-- what the tables say, at the start -/
theorem w_Kn {s : State} {args : Array Value} (hts : ∀ w ∈ lw_tbl, w.before args s = true) : ∃ (D : va_G) (aT : Nat → ClassId), ∀ z : Nat, px_Kn (D, aT, z) s := by
  obtain ⟨dC, dI, hKc⟩ := w_known hts
  have htb : ∀ w ∈ px_tb, w.before args s = true := fun w hw => hts w (List.mem_filter.mp hw).1
  obtain ⟨a0, b0, f0⟩ := w_arr (htb _ px_ac_byte)
  obtain ⟨a1, b1, f1⟩ := w_arr (htb _ px_ac_int)
  obtain ⟨a2, b2, f2⟩ := w_arr (htb _ px_ac_boolean)
  have hov : (Cond.arrayOver (.object "ImageFile$Segment")).before args s = true := hts _ (by decide +kernel)
  obtain ⟨a3, b3, f3⟩ := w_over hov
  refine ⟨(dC, dI), fun k => ([a0, a1, a2, a3] : List ClassId).getD k a0, fun z => ⟨⟨hKc, ?_⟩, ?_, va_AO.of hov⟩⟩
  · intro k q hq
    match k, hq with
    | 0, hq => cases hq; exact ⟨b0, f0⟩
    | 1, hq => cases hq; exact ⟨b1, f1⟩
    | 2, hq => cases hq; exact ⟨b2, f2⟩
    | 3, hq => cases hq; exact ⟨b3, f3⟩
    | k + 4, hq => simp [px_tys] at hq
  · intro w hw
    exact va_Nw.of (List.all_eq_true.mp px_nw_on w hw) (hts w (List.mem_filter.mp hw).1)
set_option maxHeartbeats 4000000 in
set_option maxRecDepth 100000 in
/-- from the entry, for every script of at most 2560 ints, the law comes to its end with true -/
theorem whole_start {p : Program} {e : Env} {s : State} {m : MethodId} {below : List Frame} {meth : Method} {c : Code} (l : Launch) {b L : Nat} {xs : Nat → Int32} (hL : L ≤ 2560) (hnm : meth.name = (px_yn 181).name) (C0 : lw_At p s m meth c b L xs) : W p l e room_1 s m #[Value.ref b] below meth c s.heap [] 0 0 (lw_Z below #[Value.ref b] s) (entryFrame m ([Value.ref b] : List Value).toArray 4) := by
  obtain ⟨hx, hb, hr, hml, hown, hts, hX, hbl, hlocks, hgv⟩ := C0
  obtain ⟨D, aT, hKn⟩ := w_Kn hts
  have hs := flat_of_before _ hgv
  have hI : (Cond.initialized "ImageFile").before #[Value.ref b] s = true := hts _ (by decide +kernel)
  have hU : (Cond.initialized "ImageFile$Sum").before #[Value.ref b] s = true := hts _ (by decide +kernel)
  obtain ⟨t0, z0, r0⟩ := w_row (C := "ImageFile") (n := "RIGHTS") (d := "[I") hs 3 [5, 4, 6] (by decide) (by decide +kernel) (by decide +kernel) (by decide +kernel) (hts _ (by decide +kernel)) hI
  obtain ⟨t1, z1, r1⟩ := w_row (C := "ImageFile") (n := "PAIR_LOWER") (d := "[I") hs 3 [0, 0, 1] (by decide) (by decide +kernel) (by decide +kernel) (by decide +kernel) (hts _ (by decide +kernel)) hI
  obtain ⟨t2, z2, r2⟩ := w_row (C := "ImageFile") (n := "PAIR_UPPER") (d := "[I") hs 3 [1, 2, 2] (by decide) (by decide +kernel) (by decide +kernel) (by decide +kernel) (hts _ (by decide +kernel)) hI
  obtain ⟨t3, z3, r3⟩ := w_row (C := "ImageFile") (n := "HEAD") (d := "[I") hs 16 [127, 69, 76, 70, 1, 1, 1, 0, 0, 0, 0, 0, 0, 0, 0, 0] (by decide) (by decide +kernel) (by decide +kernel) (by decide +kernel) (hts _ (by decide +kernel)) hI
  obtain ⟨t4, z4, r4⟩ := w_row (C := "ImageFile") (n := "NOTE_NAME") (d := "[I") hs 8 [77, 97, 114, 107, 115, 0, 0, 0] (by decide) (by decide +kernel) (by decide +kernel) (by decide +kernel) (hts _ (by decide +kernel)) hI
  obtain ⟨t5, z5, r5⟩ := w_row (C := "ImageFile$Sum") (n := "FOUR_BITS") (d := "[I") hs 16 fourB (by decide) (by decide +kernel) (by decide +kernel) (by decide +kernel) (hts _ (by decide +kernel)) hU
  have r6 : va_T .int b L (fun j => .int (xs j)) (fun q : Nat => s.heap.size ≤ q) s s.heap := by
    obtain ⟨scr, h1, h2, h3, h4, h5⟩ := hX
    exact ⟨scr, h1, h2, h3, by omega, by rw [h4] <;> rfl, h5, Nat.not_le.mpr hbl⟩
  have hl := lv_entry ([.ref b]) (n := 4) (Nat.le_of_ble_eq_true rfl)
  rw [lg_entry_eq]
  generalize (lg_sl ([.ref b]) ++ List.replicate (4 - (lg_sl ([.ref b])).length) Slot.unset).toArray = ls at hl ⊢
  have hl : lv_has ls 4 [(0, .ref b)] := hl
  obtain ⟨r, h', mc, ms, ⟨rfl, hmc, hms⟩, w⟩ := t_law l (h := w_h L xs) (n := L) (f := xs) rfl (by omega) ⟨rfl, rfl, rfl, rfl, rfl, rfl⟩ (fun j hj => w_h_free hj)
  refine w (D, aT, s.heap.size) (w_h L xs) (w_ad t0 t1 t2 t3 t4 t5 b) (w_ad t0 t1 t2 t3 t4 t5 b) p e room_1 s m #[Value.ref b] below meth c ls s.heap [] 0 0 (lw_Z below #[Value.ref b] s) ⟨hx, hb.trans cd_law.symm, hml, hown, fun w hw => hts w (List.mem_filter.mp hw).1, hKn _, by decide, by decide, Nat.le_refl _, hnm⟩ ⟨px_Mo.rf, ⟨?_, ?_⟩, ⟨[], List.nodup_nil, ?_, ?_, ?_⟩, w_h_ty L xs, ?_, va_S.rf⟩ hl (by show 0 + mc ≤ 600000; omega) (by show 0 + ms ≤ 7302249; omega) ?_
  · intro z hz
    simp only [px_zs, List.mem_cons, List.not_mem_nil, or_false] at hz
    rcases hz with rfl | rfl | rfl | rfl | rfl | rfl
    · exact ⟨by simp [w_h], z0⟩
    · exact ⟨by simp [w_h], z1⟩
    · exact ⟨by simp [w_h], z2⟩
    · exact ⟨by simp [w_h], z3⟩
    · exact ⟨by simp [w_h], z4⟩
    · exact ⟨by simp [w_h], z5⟩
  · intro k hk c hc
    rcases w_h_of hc with ⟨rfl, rfl⟩ | ⟨rfl, rfl⟩ | ⟨rfl, rfl⟩ | ⟨rfl, rfl⟩ | ⟨rfl, rfl⟩ | ⟨rfl, rfl⟩ | ⟨rfl, rfl⟩
    · exact ⟨_, _, rfl, r0⟩
    · exact ⟨_, _, rfl, r1⟩
    · exact ⟨_, _, rfl, r2⟩
    · exact ⟨_, _, rfl, r3⟩
    · exact ⟨_, _, rfl, r4⟩
    · exact ⟨_, _, rfl, r5⟩
    · exact ⟨_, _, rfl, r6⟩
  · intro k
    exact ⟨fun h => (by cases h), fun h => absurd (w_h_free h.1) h.2⟩
  · intro k q h
    cases h
  · exact ⟨fun i j p q h => (by cases h), fun k q h => (by cases h)⟩
  · intro k hk
    simp [px_vs] at hk
    subst hk
    simp [w_h]
  · intro pc' ls' ad' H' locs' hri hi
    have hd : decode code pc' = .ok (.ireturn, 1) := by
      rw [← cd_law]
      exact hri.2
    refine va_forget (fun q hq => hi.2.2.2.2.2.2.2 q hq) ?_
    refine W.widen (k := 600000) (n := 7302249) (by omega) (by omega) ?_
    exact lw_ret hx hb hr hlocks hd
set_option maxHeartbeats 4000000 in
theorem lw_walk (l : Launch) (b : Addr) (xs : List Int32) : MetFree l x (headSpec (Jvm.Cond.code x code maxLocals ret :: tables_1) room_1) (lw_P b xs) (fun _ _ _ _ _ => True) lw_Q := by
  refine MetFree.of_bodyS (code := code) (maxLocals := maxLocals) (ret := ret) (by decide) ?_ ?_
  · intro args s m h hn
    obtain ⟨meth, c, h1, h2, h3, h4, h5, h6, -, -⟩ := Cond.code_spec hn (atoms_spec (ws := Jvm.Cond.code x code maxLocals ret :: tables_1) h _ List.mem_cons_self)
    exact ⟨meth, c, h1, h2, h3, h4, h5, h6⟩
  · intro p e s m args below meth c s₁ B hml0 hP _
    obtain ⟨rfl, hx, hbd, hgv⟩ := hP
    obtain ⟨scr, harrAt, hlist, hof, hsmall⟩ := hx
    obtain ⟨hcb, hkn, -, -⟩ := State.arrayAt?_spec harrAt
    have hown : s.vm.findClass R_law = some m.cls := findClass_of_methodNamed B.named
    have hts0 : ∀ c ∈ (Jvm.Cond.code x code maxLocals ret :: tables_1), c.before #[Value.ref b] s = true := atoms_spec (ws := Jvm.Cond.code x code maxLocals ret :: tables_1) B.pre
    have hts : ∀ w ∈ lw_tbl, w.before #[Value.ref b] s = true := k2_hts_sels lw_privs (fun w hw => hts0 w (List.mem_cons_of_mem _ hw)) lw_privs_ok
    have hml : c.maxLocals = 4 := B.maxLocals_eq (hts0 _ List.mem_cons_self)
    have X₀ : Stand p l e room_1 s m #[Value.ref b] below meth c s₁ [] 0 0 := Stand.of_body B
    have hh0 : s₁.heap = s.heap := by rw [B.state]; rfl
    have hsz : scr.slots.size = xs.length := by rw [← Array.length_toList, hlist, List.length_map]
    have hval : ∀ j : Nat, j < xs.length → scr.slots[j]? = some (.int (xs.getD j 0)) := fun j hj => by
      rw [← Array.getElem?_toList, hlist]
      simp [hj]
    have hbl : b < s.heap.size := (Array.getElem?_eq_some_iff.mp hcb).1
    have hX : va_X b xs.length (fun j => xs.getD j 0) s s.heap := ⟨scr, hcb, hof, hkn, hsz, hval⟩
    have K : W p l e room_1 s m #[Value.ref b] below meth c s₁.heap [] 0 0 (lw_Z below #[Value.ref b] s) (entryFrame m ([Value.ref b] : List Value).toArray 4) := by
      rw [hh0]
      exact whole_start l hbd (name_of_methodNamed B.named B.method).1 ⟨B.exec, B.bytes, B.returns, hml, hown, hts, hX, hbl, B.notSynchronized, hgv⟩
    obtain ⟨t, a1, o, b1, b2, b3⟩ := K s₁ rfl X₀
    exact ⟨t, o, a1, b1, b2, b3⟩
theorem lw_pre_spec {args : Array Value} {s : State} (h : (Jvm.Cond.and given_1 narrow_1).before args s = true) (hr : rest_1_c.before args s = true) : ∃ (b : Addr) (xs : List Int32), lw_P b xs args s := by
  have hs := flat_of_before _ h
  have hq := flat_of_before _ hr
  have hc : (Cond.count 1).before args s = true := hs _ (by decide +kernel)
  have harr : (Cond.arrayOf (.arg 0) .int).before args s = true := hs _ (by decide +kernel)
  have hle : (Cond.le (.length (.arg 0)) (.int 2560)).before args s = true := hs _ (by decide +kernel)
  have hlen : (Cond.isInt (.length (.arg 0))).before args s = true := hq _ (by decide +kernel)
  have hall : (Cond.all (.arg 0) (.isInt (.elem (.arg 0) (.index 0)))).before args s = true := hq _ (by decide +kernel)
  obtain ⟨b, xs, hb, hx⟩ := State.ints_of_pre rfl harr hlen hall
  have hsm : xs.length < 2 ^ 31 := hx.choose_spec.2.2.2
  have hev : (Term.length (.arg 0)).eval args s none [] s = some (.int xs.length.toInt32) := hx.length_eval hb
  have hv := Cond.le_ints hev (show (Term.int 2560).eval args s none [] s = some (.int 2560) from rfl)
  have hd : xs.length.toInt32 ≤ 2560 := by
    simpa [Cond.before, Cond.holds, hv] using hle
  have hN : xs.length ≤ 2560 := (Int32.ofNat_le_ofNat hsm (by decide)).mp (show Int32.ofNat xs.length ≤ Int32.ofNat 2560 from hd)
  exact ⟨b, xs, Cond.one_arg hc (show args[0]? = some (.ref b) from hb), hx, hN, h⟩
theorem lw_comes (l : Launch) : Comes l x (Jvm.Cond.code x code maxLocals ret :: tables_1) room_1 (fun tb e args s => Calls_1 tb e args s ∧ rest_1 tb e args s ∧ Pre_1 tb e args s)
    (fun _ _ args s o t => lw_Q args s o t) := by
  intro p e ha hc hk s m args below hf hfit hheap happ hpre
  obtain ⟨b, xs, hP⟩ := lw_pre_spec hpre.2.2 hpre.2.1
  obtain ⟨k, o, h1, h2, h3, hQ⟩ := lw_walk l b xs p e ha hc hk s m args below hf ((Spec.applies_iff_loose hf).mp happ).1 hP trivial
  exact ⟨k, o, h1, h2, h3, hQ⟩
theorem lw_frame {s t : State} {o : Outcome} {args : Array Value} (h : Framed s o t [] 600000 7302249) :
    Framed s o t (fieldLocs frame_1_writes args s ++ arrayLocs frame_1_arrays args s ++ staticLocs frame_1_statics s) 600000 7302249 := h
theorem lw_limb (L : Cond) (hL : ∀ (args : Array Value) (s t : State), L.after args s (.returned (some (.int 1))) t = true) :
    ArmFor flags0 classFile x code maxLocals ret World_1 tables_1 room_1 Calls_1 rest_1 Pre_1
      (fun tb e a s o t => postC L tb e a s o t ∧ Framed s o t (fieldLocs frame_1_writes a s ++ arrayLocs frame_1_arrays a s ++ staticLocs frame_1_statics s) 600000 7302249) := by
  intro l _ _ _ p e ha hc hk s m args below hf hfit hheap happ hpre
  obtain ⟨k, o, h1, h2, h3, rfl, hF⟩ := lw_comes l p e ha hc hk s m args below hf hfit hheap happ hpre
  exact ⟨k, _, h1, h2, h3, hL args s _, lw_frame hF⟩
theorem i_vc : Claimed_1_1 ∧ Claimed_1_2 := ⟨lw_limb limb_1_1 (fun args s t => by simp [limb_1_1, Cond.after, Cond.holds, Cond.value]), lw_limb limb_1_2 (fun args s t => Cond.after_iff.mpr (by
  first | (rw [show limb_1_2 = Cond.eq .result (.int 1) from rfl, Cond.eq_ints (x := 1) (y := 1) rfl rfl]; simp; done) | (simp [limb_1_2, Cond.value, Term.eval]; done)))⟩
