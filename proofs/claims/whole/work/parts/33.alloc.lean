/-! making cells; the constructor of Object; Math; arraycopy; a row that moves -/
section PXA
variable {l : Launch} {y pc pc' : Nat} {L : px_L} {st st' : List Value} {h h1 : px_H} {K : px_K}
theorem px_P.alloc {q n : Nat} {c0 : px_C} (hq : px_S ≤ q) (hn : h q = none) (hok : px_okc (px_up h q c0) q c0) (hst : st' = .ref q :: st)
    {st0 : List Value} (hsub : ∀ k, Value.ref k ∈ px_vs st L → Value.ref k ∈ px_vs st0 L)
    (step : ∀ (g : px_G) (ad : Nat → Nat) (p : Program) (e : Env) (R : Room) (s : State) (m : MethodId) (args : Array Value) (below : List Frame) (meth : Method) (c : Code) (ls : Array Slot) (H : Heap) (locs : List Loc) (cells slots : Nat) (Q : State → Prop) (ks : List Nat), px_Cx y g p R s m args meth c → va_P g.1 px_cl (px_ws g ad h ks) H → va_D (px_A g) (px_ws g ad h ks) → va_S (px_A g) s.heap H locs → lv_has ls (px_mL y) (px_Lm ad L) → cells + 1 ≤ R.cells → slots + n ≤ R.slots →
      (∀ (a : Nat) (H1 : Heap), (∀ ad', va_P g.1 px_cl (px_ws g ad h ks ++ [(a, px_e g.2.1 ad' c0)]) H1 ∧ va_D (px_A g) (px_ws g ad h ks ++ [(a, px_e g.2.1 ad' c0)])) → va_S (px_A g) s.heap H1 locs → W p l e R s m args below meth c H1 locs (cells + 1) (slots + n) Q (F0 m pc' ls (.ref a :: st.map (px_v ad)))) → W p l e R s m args below meth c H locs cells slots Q (F0 m pc ls (st0.map (px_v ad))))
    (k : px_P l y pc' L st' (px_up h q c0) (fun r h' mc ms => K r h' (mc + 1) (ms + n))) : px_P l y pc L st0 h K := by
  subst hst
  obtain ⟨r, h', mc, ms, hK, w⟩ := k
  refine ⟨r, h', mc + 1, ms + n, hK, ?_⟩
  intro g h0 ad0 ad p e R s m args below meth c ls H locs cells slots Q hc hi hl hc1 hc2 hr
  obtain ⟨hmo, hSt, ⟨ks, hnd, hm, hP, hD⟩, hty, hcv, hS⟩ := hi
  refine step g ad p e R s m args below meth c ls H locs cells slots Q ks hc hP hD hS hl (by omega) (by omega) fun a H1 hPD hS1 => ?_
  have hne : ∀ k, Value.ref k ∈ px_vs st L → k ≠ q := fun k hk e => hcv k (hsub k hk) (e ▸ hn)
  have hL : px_Lm (px_ad ad q a) L = px_Lm ad L := by
    unfold px_Lm
    apply List.map_congr_left
    intro z hz
    rw [px_v_congr fun k e => px_ad_ne (hne k (List.mem_append_right _ (List.mem_map.mpr ⟨z, hz, e⟩)))]
  have hst : (Value.ref q :: st).map (px_v (px_ad ad q a)) = .ref a :: st.map (px_v ad) := by
    rw [List.map_cons, px_vs_congr fun k hk => px_ad_ne (hne k (List.mem_append_left _ hk))]
    show Value.ref (px_ad ad q a q) :: _ = _
    rw [px_ad_self]
  have hw := w g h0 ad0 (px_ad ad q a) p e R s m args below meth c ls H1 locs (cells + 1) (slots + n) Q hc
    ⟨hmo.new hq hn, hSt.new hq, px_R.new hnd hm hty hq hn (hPD _).1 (hPD _).2, hty.up hok, fun k hk => by
      rcases List.mem_append.mp hk with h2 | h2
      · rcases List.mem_cons.mp h2 with h3 | h3
        · cases h3; rw [px_up_self]; simp
        · exact px_up_some (hcv k (hsub k (List.mem_append_left _ h3)))
      · exact px_up_some (hcv k (hsub k (List.mem_append_right _ h2))), hS1⟩ (by rw [hL]; exact hl) (by omega) (by omega)
    (fun pc' ls' ad' H' locs' h1 h2 => by
      have := hr pc' ls' ad' H' locs' h1 h2
      rwa [show cells + 1 + mc = cells + (mc + 1) by omega, show slots + n + ms = slots + (ms + n) by omega])
  rw [hst] at hw
  exact hw
theorem px_arr_id {g : px_G} {s : State} {t : Nat} {ty : FieldType} {cA : ClassId} (hK : va_K g.1 px_cl (px_tys g.2.1 ++ [(cA, ty)]) s) (ht : (px_tys g.2.1)[t]? = some (g.2.1 t, ty)) (hf : ∀ U c, va_RA U c ty → U.vm.findClass ("[" ++ ty.toString) = some c) : cA = g.2.1 t := by
  have h1 := (hK.2 t (g.2.1 t, ty) (by rw [List.getElem?_append_left (List.getElem?_eq_some_iff.mp ht).1]; exact ht)).2
  have h2 := (hK.2 (px_tys g.2.1).length (cA, ty) (by rw [List.getElem?_append_right (Nat.le_refl _)]; simp)).2
  have e1 := hf s _ h1
  have e2 := hf s _ h2
  exact Option.some.inj (e2.symm.trans e1)
theorem px_newarr {at_ : ArrayType} {ty : FieldType} {t : Nat} (hty : newarray.typeOf at_ = ty) (hcb : componentBytes ty ≤ 4) (hac : Cond.arrayClass ty ∈ px_tb) (htt : ∀ aT : Nat → ClassId, (px_tys aT)[t]? = some (aT t, ty)) (hf : ∀ U c, va_RA U c ty → U.vm.findClass ("[" ++ ty.toString) = some c) (hdv : defaultValue ty = .int 0)
    {n : Int32} {q : Nat} (hd : decode (px_cd y) pc = .ok (.newarray at_, 2)) (hn0 : ¬ n < 0) (hn1 : n.toNatClampNeg ≤ 100000) (hq : px_S ≤ q) (hn : h q = none) (k : px_P l y (pc + 2) L (.ref q :: st) (px_up h q (.inl (t, n.toNatClampNeg, .inl (fun _ => 0)))) (fun r h' mc ms => K r h' (mc + 1) (ms + n.toNatClampNeg))) : px_P l y pc L (.int n :: st) h K := by
  subst hty
  refine px_P.alloc (c0 := .inl (t, n.toNatClampNeg, .inl (fun _ => 0))) (st0 := .int n :: st) hq hn trivial rfl (fun k hk => by simp [px_vs] at hk ⊢; grind) (fun g ad p e R s m args below meth c ls H locs cells slots Q ks hc hP hD hS hl h1 h2 w => ?_) k
  refine va_newa (a0 := (n.toNatClampNeg, .inl (fun _ => 0))) hc.1 hc.2.1 (hc.2.2.2.2.1 _ hac) rfl hc.2.2.2.2.2.1.1 hP hD hS (fun q hq => Nat.le_trans hc.2.2.2.2.2.2.2.2.1 hq) (fun cA => by rw [vp_cell_i, hdv]) hn0 rfl (by
    have := Nat.mul_le_mul hn1 hcb
    omega) h1 h2 hd fun a cA H1 hK1 hP1 hD1 hS1 => ?_
  have e := px_arr_id hK1 (htt _) hf
  subst e
  exact w a H1 (fun ad' => ⟨hP1, hD1⟩) hS1
theorem px_newB {n : Int32} {q : Nat} (hd : decode (px_cd y) pc = .ok (.newarray .byte, 2)) (hn0 : ¬ n < 0) (hn1 : n.toNatClampNeg ≤ 100000) (hq : px_S ≤ q) (hn : h q = none) (k : px_P l y (pc + 2) L (.ref q :: st) (px_up h q (.inl (px_tB, n.toNatClampNeg, .inl (fun _ => 0)))) (fun r h' mc ms => K r h' (mc + 1) (ms + n.toNatClampNeg))) : px_P l y pc L (.int n :: st) h K :=
  px_newarr (t := px_tB) (ty := .byte) rfl (by decide) px_ac_byte (fun _ => rfl) (fun _ _ h => h) rfl hd hn0 hn1 hq hn k
theorem px_newI {n : Int32} {q : Nat} (hd : decode (px_cd y) pc = .ok (.newarray .int, 2)) (hn0 : ¬ n < 0) (hn1 : n.toNatClampNeg ≤ 100000) (hq : px_S ≤ q) (hn : h q = none) (k : px_P l y (pc + 2) L (.ref q :: st) (px_up h q (.inl (px_tI, n.toNatClampNeg, .inl (fun _ => 0)))) (fun r h' mc ms => K r h' (mc + 1) (ms + n.toNatClampNeg))) : px_P l y pc L (.int n :: st) h K :=
  px_newarr (t := px_tI) (ty := .int) rfl (by decide) px_ac_int (fun _ => rfl) (fun _ _ h => h) rfl hd hn0 hn1 hq hn k
theorem px_newZ {n : Int32} {q : Nat} (hd : decode (px_cd y) pc = .ok (.newarray .boolean, 2)) (hn0 : ¬ n < 0) (hn1 : n.toNatClampNeg ≤ 100000) (hq : px_S ≤ q) (hn : h q = none) (k : px_P l y (pc + 2) L (.ref q :: st) (px_up h q (.inl (px_tZ, n.toNatClampNeg, .inl (fun _ => 0)))) (fun r h' mc ms => K r h' (mc + 1) (ms + n.toNatClampNeg))) : px_P l y pc L (.int n :: st) h K :=
  px_newarr (t := px_tZ) (ty := .boolean) rfl (by decide) px_ac_boolean (fun _ => rfl) (fun _ _ h => h) rfl hd hn0 hn1 hq hn k
theorem px_newG {i ps q : Nat} {n : Int32} (hd : decode (px_cd y) pc = .ok (.anewarray i, 3)) (han : px_anc (px_on y) i = some ps) (hn0 : ¬ n < 0) (hn1 : n.toNatClampNeg ≤ 100000) (hq : px_S ≤ q) (hn : h q = none) (k : px_P l y (pc + 3) L (.ref q :: st) (px_up h q (.inl (px_tG, n.toNatClampNeg, .inr (.inr (.inr (.inr (fun _ => none))))))) (fun r h' mc ms => K r h' (mc + 1) (ms + n.toNatClampNeg))) : px_P l y pc L (.int n :: st) h K := by
  refine px_P.alloc (c0 := .inl (px_tG, n.toNatClampNeg, .inr (.inr (.inr (.inr (fun _ => none)))))) (st0 := .int n :: st) hq hn (fun i k e => by cases e) rfl (fun k hk => by simp [px_vs] at hk ⊢; grind) (fun g ad p e R s m args below meth c ls H locs cells slots Q ks hc hP hD hS hl h1 h2 w => ?_) k
  refine va_newq (C := "ImageFile$Segment") hc.1 hc.2.1 hc.2.2.2.1 (hc.2.2.2.2.1 _ (px_hw_mem (List.all_eq_true.mp px_all_An _ (px_lkp han)))) hc.2.2.2.2.2.1.2.2 hc.2.2.2.2.2.1.1 hP hD hS (fun q hq => Nat.le_trans hc.2.2.2.2.2.2.2.2.1 hq) hn0 rfl (by omega) h1 h2 hd fun a cA H1 hK1 hP1 hD1 hS1 => ?_
  have e := px_arr_id (t := 3) (ty := .object "ImageFile$Segment") hK1 rfl (fun U c hh => by obtain ⟨_, _, _, _, _, h5⟩ := hh; exact h5)
  subst e
  exact w a H1 (fun ad' => ⟨hP1, hD1⟩) hS1
/-- a new object's fields -/
def px_df (ci : Nat) : List Value := match px_cl[ci]? with
  | some (_, _, N) => (List.range N).map (fun j => defaultValue (px_ft ci j))
  | none => []
def px_nf (ci : Nat) : Nat := match px_cl[ci]? with
  | some (_, _, N) => N
  | none => 0
theorem px_dv_ref (t : FieldType) (k : Nat) : defaultValue t ≠ .ref k := by cases t <;> exact fun h => by cases h
theorem px_new {i ci p1 p2 p3 q : Nat} (hd : decode (px_cd y) pc = .ok (.new i, 3)) (hnw : px_nwc (px_on y) i = some (ci, p1, p2, p3)) (hq : px_S ≤ q) (hq0 : q % 64 = 0) (hlen : (px_df ci).length ≤ 63) (hn : h q = none) (k : px_P l y (pc + 3) L (.ref q :: st) (px_up h q (.inr (ci, px_df ci))) (fun r h' mc ms => K r h' (mc + 1) (ms + px_nf ci))) : px_P l y pc L st h K := by
  have h1 := List.all_eq_true.mp px_all_Nw _ (px_lkp hnw)
  unfold px_okNw at h1
  dsimp only at h1
  cases hcl : px_cl[ci]? with
  | none => rw [hcl] at h1; cases h1
  | some z =>
    obtain ⟨C, T, N⟩ := z
    rw [hcl] at h1
    simp only [Bool.and_eq_true] at h1
    have hdf : px_df ci = (List.range N).map (fun j => defaultValue (px_ft ci j)) := by unfold px_df; rw [hcl]
    have hnf : px_nf ci = N := by unfold px_nf; rw [hcl]
    refine px_P.alloc (c0 := .inr (ci, px_df ci)) (st0 := st) hq hn ⟨hq0, hlen, fun i k e => ?_⟩ rfl (fun k hk => hk) (fun g ad p e R s m args below meth c ls H locs cells slots Q ks hc hP hD hS hl h2 h3 w => ?_) k
    · rw [hdf, List.getElem?_map] at e
      cases hr : (List.range N)[i]? with
      | none => rw [hr] at e; cases e
      | some j => rw [hr] at e; exact absurd (Option.some.inj e) (px_dv_ref _ _)
    · rw [hnf] at h3 w
      have hmap : ∀ ad' : Nat → Nat, (px_df ci).map (px_v ad') = px_df ci := by
        intro ad'
        rw [hdf, List.map_map]
        apply List.map_congr_left
        intro j _
        show px_v ad' (defaultValue (px_ft ci j)) = _
        cases px_ft ci j <;> rfl
      refine va_new (fs := px_df ci) hc.1 hc.2.1 (Ts := px_tb) hc.2.2.2.2.1 (px_in hcl) (px_ft ci) (px_tyok hcl).1 hc.2.2.2.1 (hc.2.2.2.2.1 _ (px_hw_mem h1.1.1)) (hc.2.2.2.2.1 _ (px_hw_mem h1.1.2)) (hc.2.2.2.2.1 _ (px_hw_mem h1.2)) hc.2.2.2.2.2.1.1 hP hD hS (fun q hq => Nat.le_trans hc.2.2.2.2.2.2.2.2.1 hq) hcl (fun j hj => by
        rw [hdf]
        simp [vp_V, hj]) h2 h3 hd fun a H1 hP1 hD1 hS1 => w a H1 (fun ad' => ?_) hS1
      show va_P _ _ (_ ++ [(a, Sum.inr (ci, (px_df ci).map (px_v ad')))]) _ ∧ va_D _ (_ ++ [(a, Sum.inr (ci, (px_df ci).map (px_v ad')))])
      rw [hmap]
      exact ⟨hP1, hD1⟩
theorem px_cats (ad : Nat → Nat) (st : List Value) : (st.map (px_v ad)).map (fun v => v.category) = st.map (fun v => v.category) := by
  rw [List.map_map]
  apply List.map_congr_left
  intro v _
  exact px_v_cat ad v
theorem px_mt_ok {o i y' ps : Nat} (hm : px_mt o i = some (y', ps)) : px_okL ((o, i), (y', ps)) = true := List.all_eq_true.mp px_all_L _ (px_lkp hm)
theorem px_objInit {i b ps : Nat} (hd : decode (px_cd y) pc = .ok (.invokespecial i, 3)) (hm : px_mt (px_on y) i = some (901, ps)) (hfr : 1 ≤ px_dp y) (hlo : 20 ≤ px_lc y) (hcat : (st.map fun v => v.category).sum ≤ 8) (k : px_P l y (pc + 3) L st h K) : px_P l y pc L (.ref b :: st) h K := by
  have h1 := px_mt_ok hm
  refine px_P.pure (fun k hk => by simp [px_vs] at hk ⊢; grind) (fun p e R s m args below meth c H locs cells slots Q ls ad g hc hl w => ?_) k
  have hlk : Cond.methodLink (px_cn (px_on y)) i Lib.objectInit ∈ px_tb := px_hw_mem h1
  refine W.objInit (rest := st.map (px_v ad)) hc.1 hc.2.1 hc.2.2.2.1 (hc.2.2.2.2.1 _ hlk) (hc.2.2.2.2.1 _ px_oiI) (hc.2.2.2.2.1 _ px_oiC) rfl (by rw [hc.2.2.1]; exact hl.1) rfl hd (by have := hc.2.2.2.2.2.2.1; omega) ?_ (w ls hl)
  rw [px_cats]
  have := hc.2.2.2.2.2.2.2.1
  show 2 * 0 + _ + 12 ≤ _
  omega
theorem px_mmax {i ps : Nat} {a b : Int32} (hd : decode (px_cd y) pc = .ok (.invokestatic i, 3)) (hm : px_mt (px_on y) i = some (902, ps)) (hfr : 1 ≤ px_dp y) (hlo : 23 ≤ px_lc y) (hcat : (st.map fun v => v.category).sum ≤ 8) (k : px_P l y (pc + 3) L (.int (if a < b then b else a) :: st) h K) : px_P l y pc L (.int b :: .int a :: st) h K := by
  have h1 := px_mt_ok hm
  refine px_P.heap (fun g h0 ad0 ad p e R s m args below meth c ls H locs cells slots Q hc hi hl hcl hsl w => ?_) k
  have hlk : Cond.methodLink (px_cn (px_on y)) i Lib.Math.max.name ∈ px_tb := px_hw_mem h1
  exact va_mmax hc.1 hc.2.1 (by rw [hc.2.2.1]; exact hl.1.symm) hc.2.2.2.1 (hc.2.2.2.2.1 _ hlk) (hc.2.2.2.2.1 _ px_ma902S) (hc.2.2.2.2.1 _ px_maI) (hc.2.2.2.2.1 _ px_ma902C) (by have := hc.2.2.2.2.2.2.1; omega) (by rw [px_cats]; have := hc.2.2.2.2.2.2.2.1; omega) hcl hsl hd (w H locs (px_keepI hi (fun k hk => by simp [px_vs] at hk ⊢; grind)))
theorem px_mmin {i ps : Nat} {a b : Int32} (hd : decode (px_cd y) pc = .ok (.invokestatic i, 3)) (hm : px_mt (px_on y) i = some (903, ps)) (hfr : 1 ≤ px_dp y) (hlo : 23 ≤ px_lc y) (hcat : (st.map fun v => v.category).sum ≤ 8) (k : px_P l y (pc + 3) L (.int (if b < a then b else a) :: st) h K) : px_P l y pc L (.int b :: .int a :: st) h K := by
  have h1 := px_mt_ok hm
  refine px_P.heap (fun g h0 ad0 ad p e R s m args below meth c ls H locs cells slots Q hc hi hl hcl hsl w => ?_) k
  have hlk : Cond.methodLink (px_cn (px_on y)) i Lib.Math.min.name ∈ px_tb := px_hw_mem h1
  exact va_mmin hc.1 hc.2.1 (by rw [hc.2.2.1]; exact hl.1.symm) hc.2.2.2.1 (hc.2.2.2.2.1 _ hlk) (hc.2.2.2.2.1 _ px_ma903S) (hc.2.2.2.2.1 _ px_maI) (hc.2.2.2.2.1 _ px_ma903C) (by have := hc.2.2.2.2.2.2.1; omega) (by rw [px_cats]; have := hc.2.2.2.2.2.2.2.1; omega) hcl hsl hd (w H locs (px_keepI hi (fun k hk => by simp [px_vs] at hk ⊢; grind)))
theorem px_mmaxL {i ps : Nat} {a b : Int64} (hd : decode (px_cd y) pc = .ok (.invokestatic i, 3)) (hm : px_mt (px_on y) i = some (904, ps)) (hfr : 1 ≤ px_dp y) (hlo : 23 ≤ px_lc y) (hcat : (st.map fun v => v.category).sum ≤ 8) (k : px_P l y (pc + 3) L (.long (if b < a then a else b) :: st) h K) : px_P l y pc L (.long b :: .long a :: st) h K := by
  have h1 := px_mt_ok hm
  refine px_P.heap (fun g h0 ad0 ad p e R s m args below meth c ls H locs cells slots Q hc hi hl hcl hsl w => ?_) k
  have hlk : Cond.methodLink (px_cn (px_on y)) i Lib.MathLoose.max_long.x ∈ px_tb := px_hw_mem h1
  exact va_mmax_long hc.1 hc.2.1 (by rw [hc.2.2.1]; exact hl.1.symm) hc.2.2.2.1 (hc.2.2.2.2.1 _ hlk) (hc.2.2.2.2.1 _ px_ma904S) (hc.2.2.2.2.1 _ px_maI) (hc.2.2.2.2.1 _ px_ma904C) (by have := hc.2.2.2.2.2.2.1; omega) (by rw [px_cats]; have := hc.2.2.2.2.2.2.2.1; omega) hcl hsl hd (w H locs (px_keepI hi (fun k hk => by simp [px_vs] at hk ⊢; grind)))
theorem px_mminL {i ps : Nat} {a b : Int64} (hd : decode (px_cd y) pc = .ok (.invokestatic i, 3)) (hm : px_mt (px_on y) i = some (905, ps)) (hfr : 1 ≤ px_dp y) (hlo : 23 ≤ px_lc y) (hcat : (st.map fun v => v.category).sum ≤ 8) (k : px_P l y (pc + 3) L (.long (if b < a then b else a) :: st) h K) : px_P l y pc L (.long b :: .long a :: st) h K := by
  have h1 := px_mt_ok hm
  refine px_P.heap (fun g h0 ad0 ad p e R s m args below meth c ls H locs cells slots Q hc hi hl hcl hsl w => ?_) k
  have hlk : Cond.methodLink (px_cn (px_on y)) i Lib.MathLoose.min_long.x ∈ px_tb := px_hw_mem h1
  exact va_mmin_long hc.1 hc.2.1 (by rw [hc.2.2.1]; exact hl.1.symm) hc.2.2.2.1 (hc.2.2.2.2.1 _ hlk) (hc.2.2.2.2.1 _ px_ma905S) (hc.2.2.2.2.1 _ px_maI) (hc.2.2.2.2.1 _ px_ma905C) (by have := hc.2.2.2.2.2.2.1; omega) (by rw [px_cats]; have := hc.2.2.2.2.2.2.2.1; omega) hcl hsl hd (w H locs (px_keepI hi (fun k hk => by simp [px_vs] at hk ⊢; grind)))
/-- System.arraycopy between byte arrays -/
theorem px_copyB {i ps b0 b1 n0 n1 : Nat} {f g0 : Nat → Int32} {sp dp n : Int32} (hd : decode (px_cd y) pc = .ok (.invokestatic i, 3)) (hm : px_mt (px_on y) i = some (900, ps)) (hfr : 1 ≤ px_dp y) (hlo : 26 ≤ px_lc y) (hcat : (st.map fun v => v.category).sum ≤ 8) (hb0 : h b0 = some (.inl (px_tB, n0, .inl f))) (hb1 : h b1 = some (.inl (px_tB, n1, .inl g0)))
    (h1 : ¬ sp < 0) (h2 : ¬ dp < 0) (h3 : ¬ n < 0) (h4 : sp.toNatClampNeg + n.toNatClampNeg ≤ n0) (h5 : dp.toNatClampNeg + n.toNatClampNeg ≤ n1) (hfit : ∀ j, j < n.toNatClampNeg → fits .byte (.int (f (sp.toNatClampNeg + j))) = true)
    (k : px_P l y (pc + 3) L st (px_up h b1 (.inl (px_tB, n1, .inl (va_cpy f g0 sp.toNatClampNeg dp.toNatClampNeg n.toNatClampNeg)))) K) : px_P l y pc L (.int n :: .int dp :: .ref b1 :: .int sp :: .ref b0 :: st) h K := by
  have hm1 := px_mt_ok hm
  have hlk : Cond.methodLink (px_cn (px_on y)) i arraycopyName ∈ px_tb := px_hw_mem hm1
  refine px_P.heap (fun g h0 ad0 ad p e R s m args below meth c ls H locs cells slots Q hc hi hl _ _ w => ?_) k
  obtain ⟨hmo, hst, ⟨ks, hn, hmm, hP, hD⟩, hty, hcv, hS⟩ := hi
  have hbS := px_arr_S (by decide) hst hb1
  obtain ⟨q0, hq0, hws0⟩ := px_R.pos (g := g) (ad := ad) hmm (px_arr_S (by decide) hst hb0) hb0
  obtain ⟨q1, hq1, hws1⟩ := px_R.pos (g := g) (ad := ad) hmm hbS hb1
  exact va_copyi (ty := .byte) hc.1 hc.2.1 (by rw [hc.2.2.1]; exact hl.1.symm) hc.2.2.2.1 (hc.2.2.2.2.1 _ hlk) (hc.2.2.2.2.1 _ px_acN) (hc.2.2.2.2.1 _ px_acS) (hc.2.2.2.2.1 _ px_acI) hc.2.2.2.2.2.1.1 hP hD hS q0 q1 0 0 hws0 hws1 rfl rfl rfl h1 h2 h3 h4 h5 hfit (by have := hc.2.2.2.2.2.2.1; omega) (by rw [px_cats]; have := hc.2.2.2.2.2.2.2.1; show _ + (7 + 11) ≤ _; omega) hd fun H1 locs1 hP1 hD1 hS1 => w H1 locs1 (px_astI hmo hst hn hmm hty hcv hb1 hbS (fun k hk => by simp [px_vs] at hk ⊢; grind) hq1 hP1 hD1 hS1)
/-- the row of an object is another one from now on: the new cell takes the old one's key -/
theorem px_putmove {i b ci f kd ps t n n0 : Nat} {fs : List Value} {f1 f0 : Nat → Int32} (hd : decode (px_cd y) pc = .ok (.putfield i, 3)) (hfd : px_fd (px_on y) i = some (ci, f, kd, ps)) (hfin : px_fin ci f = false) (hnr : px_nr y = false) (hb : h b = some (.inr (ci, fs))) (hf : fs[f]? = some (.ref (b + 1 + f))) (hfit : px_fit (px_ft ci f) (.ref t)) (hrow : h (b + 1 + f) = some (.inl (px_tB, n0, .inl f0))) (ht : h t = some (.inl (px_tB, n, .inl f1))) (htm : t % 64 ≠ 0) (hto : h (t - t % 64) = none)
    (hes : px_ev st) (heL : px_ev (L.map Prod.snd)) (k : px_P l y (pc + 3) L st (px_rm (px_up h (b + 1 + f) (.inl (px_tB, n, .inl f1))) t) K) : px_P l y pc L (.ref t :: .ref b :: st) h K := by
  obtain ⟨r, h', mc, ms, hK, w⟩ := k
  refine ⟨r, h', mc, ms, hK, ?_⟩
  intro g h0 ad0 ad p e R s m args below meth c ls H locs cells slots Q hc hi hl hc1 hc2 hr
  obtain ⟨hmo, hst, ⟨ks, hn, hm, hP, hD⟩, hty, hcv, hS⟩ := hi
  obtain ⟨C, T, N, hcl, hfN, hTC, hlk⟩ := px_fd_ok hfd
  have hbS := px_obj_S hst hb
  have hob := hty b _ hb
  have hb0 : b % 64 = 0 := hob.1
  have hfl : f < fs.length := (List.getElem?_eq_some_iff.mp hf).1
  have hf63 : f < 63 := Nat.lt_of_lt_of_le hfl hob.2.1
  obtain ⟨q0, hq0, hws⟩ := px_R.pos (g := g) (ad := ad) hm hbS hb
  have hfin' : (T f).2.2.2 = false := by unfold px_fin at hfin; rw [hcl] at hfin; exact hfin
  have hln : f < (fs.map (px_v ad)).length := by rw [List.length_map]; exact hfl
  have hrS := px_arr_S (h := h) (by decide) hst hrow
  have htS := px_arr_S (h := h) (by decide) hst ht
  have key : ∀ (H1 : Heap) (locs1 : List Loc), va_P g.1 px_cl ((px_ws g ad h ks).set q0 (ad b, .inr (ci, (fs.map (px_v ad)).set f (px_v ad (.ref t))))) H1 → va_D (px_A g) ((px_ws g ad h ks).set q0 (ad b, .inr (ci, (fs.map (px_v ad)).set f (px_v ad (.ref t))))) → va_S (px_A g) s.heap H1 locs1 → W p l e R s m args below meth c H1 locs1 cells slots Q (F0 m (pc + 3) ls (st.map (px_v ad))) := by
    intro H1 locs1 hP1 hD1 hS1
    rw [show (fs.map (px_v ad)).set f (px_v ad (.ref t)) = (fs.set f (.ref t)).map (px_v ad) from List.map_set.symm] at hP1 hD1
    have hR1 := px_R.put (c := .inr (ci, fs.set f (.ref t))) hn hm hq0 hb hP1 hD1
    have hR2 := px_R.move hty hb hbS hf rfl hrS htS (by rw [hrow]; simp) ht htm hto (fun _ => rfl) hR1
    have hne : ∀ k : Nat, Value.ref k ∈ px_vs st L → k ≠ b + 1 + f ∧ k ≠ t := by
      intro k hk
      have hk0 : k % 64 = 0 := by
        rcases List.mem_append.mp hk with h2 | h2
        · exact hes k h2
        · exact heL k h2
      exact ⟨by omega, fun e => htm (e ▸ hk0)⟩
    have hL : px_Lm (px_ad ad (b + 1 + f) (ad t)) L = px_Lm ad L := by
      unfold px_Lm
      apply List.map_congr_left
      intro z hz
      rw [px_v_congr fun k e => px_ad_ne (hne k (List.mem_append_right _ (List.mem_map.mpr ⟨z, hz, e⟩))).1]
    have hstm : st.map (px_v (px_ad ad (b + 1 + f) (ad t))) = st.map (px_v ad) := px_vs_congr fun k hk => px_ad_ne (hne k (List.mem_append_left _ hk)).1
    have hw := w g h0 ad0 (px_ad ad (b + 1 + f) (ad t)) p e R s m args below meth c ls H1 locs1 cells slots Q hc
      ⟨⟨fun k hk => ⟨by rw [px_rm_ne (by omega), px_up_ne (by omega)]; exact (hmo.1 k hk).1, by rw [px_ad_ne (by omega)]; exact (hmo.1 k hk).2⟩, fun k hk hor => by
        rw [hnr] at hor
        rcases hor with hor | hor
        · cases hor
        · have h2 := hmo.2 k hk (Or.inr hor)
          have n1 : k ≠ b + 1 + f := by omega
          have n2 : k ≠ t := fun e => htm (e ▸ hor)
          exact ⟨by rw [px_rm_ne n2, px_up_ne n1]; exact h2.1, by rw [px_ad_ne n1]; exact h2.2⟩⟩,
        hst.eq fun k hk => ⟨by rw [px_rm_ne (by omega), px_up_ne (by omega)], px_ad_ne (by omega)⟩, hR2, hty.move hb hf rfl htm hto (fun _ _ => trivial), fun k hk => by
          have h2 := hne k hk
          rw [px_rm_ne h2.2, px_up_ne h2.1]
          refine hcv k ?_
          rcases List.mem_append.mp hk with h3 | h3
          · exact List.mem_append_left _ (List.mem_cons_of_mem _ (List.mem_cons_of_mem _ h3))
          · exact List.mem_append_right _ h3, hS1⟩ (by rw [hL]; exact hl) hc1 hc2 hr
    rw [hstm] at hw
    exact hw
  rcases hlk with ⟨-, hlk⟩ | ⟨-, hlk⟩
  · exact va_put hc.1 hc.2.1 (Ts := px_tb) hc.2.2.2.2.1 (px_in hcl) (px_ft ci) (px_tyok hcl).1 (px_tyok hcl).2 hc.2.2.2.1 hc.2.2.2.2.2.1.1 hP hD hS q0 hws hcl f hfN (hc.2.2.2.2.1 _ hlk) (by rw [hTC]; exact fun x hx => hx) hfin' ((px_tyok hcl).1 f hfN) (hfit ad).1 (hfit ad).2 hln hd key
  · exact va_putN hc.1 hc.2.1 (Ts := px_tb) hc.2.2.2.2.1 (px_in hcl) (px_ft ci) (px_tyok hcl).1 (px_tyok hcl).2 hc.2.2.2.1 hc.2.2.2.2.2.1.1 hP hD hS q0 hws hcl f hfN (va_Nw.use rfl (hc.2.2.2.2.2.1.2.1 _ hlk)) (by rw [hTC]; exact fun x hx => hx) hfin' ((px_tyok hcl).1 f hfN) (hfit ad).1 (hfit ad).2 hln hd key
end PXA
