/-! instructions that read or write the heap -/
theorem px_in {ci : Nat} {C : String} {T : u_T} {N : Nat} (h : px_cl[ci]? = some (C, T, N)) : ∀ w ∈ u_ws C T N, w ∈ px_tb := by
  match ci, h with
  | 0, h => cases h; exact px_in0
  | 1, h => cases h; exact px_in1
  | 2, h => cases h; exact px_in2
  | 3, h => cases h; exact px_in3
  | 4, h => cases h; exact px_in4
  | 5, h => cases h; exact px_in5
  | 6, h => cases h; exact px_in6
  | n + 7, h => exact absurd h (by simp [px_cl])
theorem px_tyok {ci : Nat} {C : String} {T : u_T} {N : Nat} (h : px_cl[ci]? = some (C, T, N)) : (∀ k, k < N → parseFieldDescriptor (T k).2.2.1 = some (px_ft ci k)) ∧ ∀ a, a < N → ∀ b, b < N → a ≠ b → (T a).2.1 ≠ (T b).2.1 := by
  match ci, h with
  | 0, h => cases h; exact ⟨tyX0_ok, nmX0⟩
  | 1, h => cases h; exact ⟨tyX1_ok, nmX1⟩
  | 2, h => cases h; exact ⟨tyX3_ok, nmX3⟩
  | 3, h => cases h; exact ⟨tyX4_ok, nmX4⟩
  | 4, h => cases h; exact ⟨tyX6_ok, nmX6⟩
  | 5, h => cases h; exact ⟨tyX7_ok, nmX7⟩
  | 6, h => cases h; exact ⟨tyX8_ok, nmX8⟩
  | n + 7, h => exact absurd h (by simp [px_cl])
def px_fin (ci f : Nat) : Bool := match px_cl[ci]? with
  | some (_, T, _) => (T f).2.2.2
  | none => true
def px_fit (ty : FieldType) (v : Value) : Prop := ∀ ad : Nat → Nat, narrow ty (px_v ad v) = px_v ad v ∧ fits ty (px_v ad v) = true
theorem px_fit_int (x : Int32) : px_fit .int (.int x) := fun _ => ⟨rfl, rfl⟩
theorem px_fit_z0 : px_fit .boolean (.int 0) := fun _ => ⟨rfl, rfl⟩
theorem px_fit_z1 : px_fit .boolean (.int 1) := fun _ => ⟨rfl, rfl⟩
theorem px_fit_z {x : Int32} (h : x = 0 ∨ x = 1) : px_fit .boolean (.int x) := by
  rcases h with rfl | rfl
  · exact px_fit_z0
  · exact px_fit_z1
theorem px_fit_o (C : String) (k : Nat) : px_fit (.object C) (.ref k) := fun _ => ⟨rfl, rfl⟩
theorem px_fit_a (t : FieldType) (k : Nat) : px_fit (.array t) (.ref k) := fun _ => ⟨rfl, rfl⟩
/-- what the table of fields says -/
theorem px_fd_ok {o i ci f kd ps : Nat} (h : px_fd o i = some (ci, f, kd, ps)) : ∃ (C : String) (T : u_T) (N : Nat), px_cl[ci]? = some (C, T, N) ∧ f < N ∧ (T f).1 = C ∧ ((kd = 0 ∧ Cond.fieldLink (px_cn o) i C (T f).2.1 (T f).2.2.1 ∈ px_tb) ∨ (¬ kd = 0 ∧ Cond.fieldLinkNest (px_cn o) i C (T f).2.1 (T f).2.2.1 "ImageFile" ∈ px_nw)) := by
  have h1 := List.all_eq_true.mp px_all_F _ (px_lkp h)
  unfold px_okF at h1
  dsimp only at h1
  split at h1
  · rename_i C T N hc
    simp only [Bool.and_eq_true, decide_eq_true_eq] at h1
    refine ⟨C, T, N, hc, h1.1.1, h1.1.2, ?_⟩
    have h2 := h1.2
    cases kd with
    | zero => exact Or.inl ⟨rfl, px_hw_mem h2⟩
    | succ n => exact Or.inr ⟨by omega, px_hN_mem h2⟩
  · cases h1
section PXH
variable {l : Launch} {y pc pc' : Nat} {L : px_L} {st st' : List Value} {h h1 : px_H} {K : px_K}
theorem px_P.heap
    (step : ∀ (g : px_G) (h0 : px_H) (ad0 ad : Nat → Nat) (p : Program) (e : Env) (R : Room) (s : State) (m : MethodId) (args : Array Value) (below : List Frame) (meth : Method) (c : Code) (ls : Array Slot) (H : Heap) (locs : List Loc) (cells slots : Nat) (Q : State → Prop), px_Cx y g p R s m args meth c → px_I y g h0 ad0 ad s H locs h (px_vs st L) → lv_has ls (px_mL y) (px_Lm ad L) → cells ≤ R.cells → slots ≤ R.slots →
      (∀ (H1 : Heap) (locs1 : List Loc), px_I y g h0 ad0 ad s H1 locs1 h1 (px_vs st' L) → W p l e R s m args below meth c H1 locs1 cells slots Q (F0 m pc' ls (st'.map (px_v ad)))) → W p l e R s m args below meth c H locs cells slots Q (F0 m pc ls (st.map (px_v ad))))
    (k : px_P l y pc' L st' h1 K) : px_P l y pc L st h K := by
  obtain ⟨r, h', mc, ms, hK, w⟩ := k
  refine ⟨r, h', mc, ms, hK, ?_⟩
  intro g h0 ad0 ad p e R s m args below meth c ls H locs cells slots Q hc hi hl hc1 hc2 hr
  exact step g h0 ad0 ad p e R s m args below meth c ls H locs cells slots Q hc hi hl (by omega) (by omega) fun H1 locs1 hi1 => w g h0 ad0 ad p e R s m args below meth c ls H1 locs1 cells slots Q hc hi1 hl hc1 hc2 hr
theorem px_obj_S {g : px_G} {ad : Nat → Nat} {s : State} {b ci : Nat} {fs : List Value} (hSt : px_St g ad h s) (hb : h b = some (.inr (ci, fs))) : px_S ≤ b := by
  apply Nat.le_of_not_lt
  intro hlt
  obtain ⟨N, f, e, -⟩ := hSt.2 b hlt _ hb
  cases e
theorem px_arr_S {g : px_G} {ad : Nat → Nat} {s : State} {b t : Nat} {a : vp_A} (ht : t ≠ px_tS) (hSt : px_St g ad h s) (hb : h b = some (.inl (t, a))) : px_S ≤ b := by
  apply Nat.le_of_not_lt
  intro hlt
  obtain ⟨N, f, e, -⟩ := hSt.2 b hlt _ hb
  cases e
  exact ht rfl
theorem px_getfield {i b ci f kd ps : Nat} {fs : List Value} {v : Value} (hd : decode (px_cd y) pc = .ok (.getfield i, 3)) (hfd : px_fd (px_on y) i = some (ci, f, kd, ps)) (hb : h b = some (.inr (ci, fs))) (hf : fs[f]? = some v) (k : px_P l y (pc + 3) L (v :: st) h K) : px_P l y pc L (.ref b :: st) h K := by
  refine px_P.heap (fun g h0 ad0 ad p e R s m args below meth c ls H locs cells slots Q hc hi hl _ _ w => ?_) k
  obtain ⟨hmo, hst, ⟨ks, hn, hm, hP, hD⟩, hty, hcv, hS⟩ := hi
  obtain ⟨C, T, N, hcl, hfN, hTC, hlk⟩ := px_fd_ok hfd
  obtain ⟨q0, hq0, hws⟩ := px_R.pos (g := g) (ad := ad) hm (px_obj_S hst hb) hb
  have hw := w H locs ⟨hmo, hst, ⟨ks, hn, hm, hP, hD⟩, hty, fun k hk => by
    rcases List.mem_append.mp hk with h1 | h1
    · rcases List.mem_cons.mp h1 with h2 | h2
      · exact ((hty b _ hb).2.2 f k (h2 ▸ hf)).1
      · exact hcv k (List.mem_append_left _ (List.mem_cons_of_mem _ h2))
    · exact hcv k (List.mem_append_right _ h1), hS⟩
  have hv' : (fs.map (px_v ad))[f]? = some (px_v ad v) := by rw [List.getElem?_map, hf]; rfl
  rcases hlk with ⟨-, hlk⟩ | ⟨-, hlk⟩
  · exact va_get hc.1 hc.2.1 (Ts := px_tb) hc.2.2.2.2.1 (px_in hcl) hc.2.2.2.1 hc.2.2.2.2.2.1.1 hP q0 hws hcl f hfN (hc.2.2.2.2.1 _ hlk) (by rw [hTC]; exact fun x hx => hx) hv' hd hw
  · exact va_getN hc.1 hc.2.1 (Ts := px_tb) hc.2.2.2.2.1 (px_in hcl) hc.2.2.2.1 hc.2.2.2.2.2.1.1 hP q0 hws hcl f hfN (va_Nw.use rfl (hc.2.2.2.2.2.1.2.1 _ hlk)) (by rw [hTC]; exact fun x hx => hx) hv' hd hw
theorem px_putI {g : px_G} {h0 : px_H} {ad0 ad : Nat → Nat} {s : State} {H1 : Heap} {locs1 : List Loc} {ks : List Nat} {q0 b ci f : Nat} {fs : List Value} {v : Value} (hmo : px_Mo (px_nr y) h0 ad0 h ad) (hst : px_St g ad h s) (hn : ks.Nodup) (hm : ∀ k, k ∈ ks ↔ px_S ≤ k ∧ h k ≠ none) (hty : px_ty h) (hcv : px_cv h (px_vs (v :: .ref b :: st) L)) (hb : h b = some (.inr (ci, fs))) (hrf : ∀ k, v = .ref k → k % 64 = 0 ∨ k = b + 1 + f) (hq0 : ks[q0]? = some b)
    (hP1 : va_P g.1 px_cl ((px_ws g ad h ks).set q0 (ad b, .inr (ci, (fs.map (px_v ad)).set f (px_v ad v)))) H1) (hD1 : va_D (px_A g) ((px_ws g ad h ks).set q0 (ad b, .inr (ci, (fs.map (px_v ad)).set f (px_v ad v))))) (hS1 : va_S (px_A g) s.heap H1 locs1) : px_I y g h0 ad0 ad s H1 locs1 (px_up h b (.inr (ci, fs.set f v))) (px_vs st L) := by
  have e : (fs.map (px_v ad)).set f (px_v ad v) = (fs.set f v).map (px_v ad) := List.map_set.symm
  rw [e] at hP1 hD1
  have hbS := px_obj_S hst hb
  refine ⟨hmo.up hbS, hst.up hbS, px_R.put (c := .inr (ci, fs.set f v)) hn hm hq0 hb hP1 hD1, hty.fld hb (fun k ek => ⟨hcv k (by rw [ek]; exact List.mem_append_left _ List.mem_cons_self), hrf k ek⟩), px_cv.up (hcv.sub fun k hk => ?_), hS1⟩
  rcases List.mem_append.mp hk with h2 | h2
  · exact List.mem_append_left _ (List.mem_cons_of_mem _ (List.mem_cons_of_mem _ h2))
  · exact List.mem_append_right _ h2
theorem px_putfield {i b ci f kd ps : Nat} {fs : List Value} {v : Value} (hd : decode (px_cd y) pc = .ok (.putfield i, 3)) (hfd : px_fd (px_on y) i = some (ci, f, kd, ps)) (hfin : px_fin ci f = false) (hb : h b = some (.inr (ci, fs))) (hl : f < fs.length) (hfit : px_fit (px_ft ci f) v) (hrf : ∀ k, v = .ref k → k % 64 = 0 ∨ k = b + 1 + f) (k : px_P l y (pc + 3) L st (px_up h b (.inr (ci, fs.set f v))) K) : px_P l y pc L (v :: .ref b :: st) h K := by
  refine px_P.heap (fun g h0 ad0 ad p e R s m args below meth c ls H locs cells slots Q hc hi hl' _ _ w => ?_) k
  obtain ⟨hmo, hst, ⟨ks, hn, hm, hP, hD⟩, hty, hcv, hS⟩ := hi
  obtain ⟨C, T, N, hcl, hfN, hTC, hlk⟩ := px_fd_ok hfd
  obtain ⟨q0, hq0, hws⟩ := px_R.pos (g := g) (ad := ad) hm (px_obj_S hst hb) hb
  have hfin' : (T f).2.2.2 = false := by unfold px_fin at hfin; rw [hcl] at hfin; exact hfin
  have hln : f < (fs.map (px_v ad)).length := by rw [List.length_map]; exact hl
  rcases hlk with ⟨-, hlk⟩ | ⟨-, hlk⟩
  · exact va_put hc.1 hc.2.1 (Ts := px_tb) hc.2.2.2.2.1 (px_in hcl) (px_ft ci) (px_tyok hcl).1 (px_tyok hcl).2 hc.2.2.2.1 hc.2.2.2.2.2.1.1 hP hD hS q0 hws hcl f hfN (hc.2.2.2.2.1 _ hlk) (by rw [hTC]; exact fun x hx => hx) hfin' ((px_tyok hcl).1 f hfN) (hfit ad).1 (hfit ad).2 hln hd fun H1 locs1 hP1 hD1 hS1 => w H1 locs1 (px_putI hmo hst hn hm hty hcv hb hrf hq0 hP1 hD1 hS1)
  · exact va_putN hc.1 hc.2.1 (Ts := px_tb) hc.2.2.2.2.1 (px_in hcl) (px_ft ci) (px_tyok hcl).1 (px_tyok hcl).2 hc.2.2.2.1 hc.2.2.2.2.2.1.1 hP hD hS q0 hws hcl f hfN (va_Nw.use rfl (hc.2.2.2.2.2.1.2.1 _ hlk)) (by rw [hTC]; exact fun x hx => hx) hfin' ((px_tyok hcl).1 f hfN) (hfit ad).1 (hfit ad).2 hln hd fun H1 locs1 hP1 hD1 hS1 => w H1 locs1 (px_putI hmo hst hn hm hty hcv hb hrf hq0 hP1 hD1 hS1)
/-- a final field, in its own class's constructor -/
theorem px_putfieldF {i b ci f kd ps : Nat} {fs : List Value} {v : Value} (hd : decode (px_cd y) pc = .ok (.putfield i, 3)) (hfd : px_fd (px_on y) i = some (ci, f, kd, ps)) (hfin : px_fin ci f = true) (hkd : kd = 0) (hin : (px_yn y).name = "<init>") (hcn : ∀ C T N, px_cl[ci]? = some (C, T, N) → C = px_cn (px_on y)) (hb : h b = some (.inr (ci, fs))) (hl : f < fs.length) (hfit : px_fit (px_ft ci f) v) (hrf : ∀ k, v = .ref k → k % 64 = 0 ∨ k = b + 1 + f) (k : px_P l y (pc + 3) L st (px_up h b (.inr (ci, fs.set f v))) K) : px_P l y pc L (v :: .ref b :: st) h K := by
  refine px_P.heap (fun g h0 ad0 ad p e R s m args below meth c ls H locs cells slots Q hc hi hl' _ _ w => ?_) k
  obtain ⟨hmo, hst, ⟨ks, hn, hm, hP, hD⟩, hty, hcv, hS⟩ := hi
  obtain ⟨C, T, N, hcl, hfN, hTC, hlk⟩ := px_fd_ok hfd
  obtain ⟨q0, hq0, hws⟩ := px_R.pos (g := g) (ad := ad) hm (px_obj_S hst hb) hb
  have hfin' : (T f).2.2.2 = true := by unfold px_fin at hfin; rw [hcl] at hfin; exact hfin
  have hln : f < (fs.map (px_v ad)).length := by rw [List.length_map]; exact hl
  rcases hlk with ⟨-, hlk⟩ | ⟨hz, -⟩
  · exact va_putF hc.1 hc.2.1 (Ts := px_tb) hc.2.2.2.2.1 (px_in hcl) (px_ft ci) (px_tyok hcl).1 (px_tyok hcl).2 hc.2.2.2.1 hc.2.2.2.2.2.1.1 hP hD hS q0 hws hcl f hfN (hc.2.2.2.2.1 _ hlk) (by rw [hTC]; exact fun x hx => hx) hfin' (by rw [hc.2.2.2.2.2.2.2.2.2]; exact hin) (by rw [hTC]; exact hcn C T N hcl) ((px_tyok hcl).1 f hfN) (hfit ad).1 (hfit ad).2 hln hd fun H1 locs1 hP1 hD1 hS1 => w H1 locs1 (px_putI hmo hst hn hm hty hcv hb hrf hq0 hP1 hD1 hS1)
  · exact absurd hkd hz
theorem px_getstatic {i key kd ps : Nat} (hd : decode (px_cd y) pc = .ok (.getstatic i, 3)) (hsg : px_sg (px_on y) i = some (key, kd, ps)) (k : px_P l y (pc + 3) L (.ref key :: st) h K) : px_P l y pc L st h K := by
  refine px_P.heap (fun g h0 ad0 ad p e R s m args below meth c ls H locs cells slots Q hc hi hl' _ _ w => ?_) k
  obtain ⟨hmo, hst, hR, hty, hcv, hS⟩ := hi
  have h1 := List.all_eq_true.mp px_all_S _ (px_lkp hsg)
  unfold px_okS at h1
  obtain ⟨z, hz, h2⟩ := List.any_eq_true.mp h1
  simp only [Bool.and_eq_true, decide_eq_true_eq] at h2
  obtain ⟨h3, h4⟩ := h2
  have hZ := hst.1 z hz
  rw [h3] at hZ
  have hw := w H locs ⟨hmo, hst, hR, hty, fun k hk => by
    rcases List.mem_append.mp hk with h1 | h1
    · rcases List.mem_cons.mp h1 with h2 | h2
      · cases h2; exact hZ.1
      · exact hcv k (List.mem_append_left _ h2)
    · exact hcv k (List.mem_append_right _ h1), hS⟩
  cases kd with
  | zero => exact va_gets hc.1 hc.2.1 hZ.2 hS hc.2.2.2.1 (hc.2.2.2.2.1 _ (px_hw_mem h4)) (fun x hx => hx) hd hw
  | succ n => exact va_getsN hc.1 hc.2.1 hZ.2 hS hc.2.2.2.1 (va_Nw.use rfl (hc.2.2.2.2.2.1.2.1 _ (px_hN_mem h4))) (fun x hx => hx) hd hw
theorem px_keepI {g : px_G} {h0 : px_H} {ad0 ad : Nat → Nat} {s : State} {H : Heap} {locs : List Loc} {vs vs' : List Value} (hi : px_I y g h0 ad0 ad s H locs h vs) (hv : ∀ k, Value.ref k ∈ vs' → Value.ref k ∈ vs) : px_I y g h0 ad0 ad s H locs h vs' := ⟨hi.1, hi.2.1, hi.2.2.1, hi.2.2.2.1, hi.2.2.2.2.1.sub hv, hi.2.2.2.2.2⟩
theorem px_alen {b t n : Nat} {x : (Nat → Int32) ⊕ (Nat → Int64) ⊕ (Nat → UInt32) ⊕ (Nat → UInt64) ⊕ (Nat → Option Nat)} (hd : decode (px_cd y) pc = .ok (.arraylength, 1)) (hb : h b = some (.inl (t, n, x))) (ht : t < 4) (k : px_P l y (pc + 1) L (.int (Int32.ofNat n) :: st) h K) : px_P l y pc L (.ref b :: st) h K := by
  refine px_P.heap (fun g h0 ad0 ad p e R s m args below meth c ls H locs cells slots Q hc hi hl' _ _ w => ?_) k
  have hw := w H locs (px_keepI hi (fun k hk => by simp [px_vs] at hk ⊢; grind))
  obtain ⟨hmo, hst, ⟨ks, hn, hm, hP, hD⟩, hty, hcv, hS⟩ := hi
  obtain ⟨q0, hq0, hws⟩ := px_R.pos (g := g) (ad := ad) hm (px_arr_S (by unfold px_tS; omega) hst hb) hb
  have hsz : (px_a ad (n, x)).1 = n := by rcases x with f | f | f | f | f <;> rfl
  have htt : ∃ ty, (px_tys g.2.1)[t]? = some (g.2.1 t, ty) := by
    match t, ht with
    | 0, _ => exact ⟨_, rfl⟩
    | 1, _ => exact ⟨_, rfl⟩
    | 2, _ => exact ⟨_, rfl⟩
    | 3, _ => exact ⟨_, rfl⟩
  obtain ⟨ty, hty2⟩ := htt
  exact va_alen hc.1 hc.2.1 hc.2.2.2.2.2.1.1 hP q0 t hws hty2 (by rw [hsz]) hd hw
theorem px_alenS {b n : Nat} {f : Nat → Int32} (hd : decode (px_cd y) pc = .ok (.arraylength, 1)) (hb : h b = some (.inl (px_tS, n, .inl f))) (hbs : b < px_S) (k : px_P l y (pc + 1) L (.int (Int32.ofNat n) :: st) h K) : px_P l y pc L (.ref b :: st) h K := by
  refine px_P.heap (fun g h0 ad0 ad p e R s m args below meth c ls H locs cells slots Q hc hi hl' _ _ w => ?_) k
  have hw := w H locs (px_keepI hi (fun k hk => by simp [px_vs] at hk ⊢; grind))
  obtain ⟨hmo, hst, hR, hty, hcv, hS⟩ := hi
  obtain ⟨N, f', e, hT⟩ := hst.2 b hbs _ hb
  cases e
  exact va_tlen hc.1 hc.2.1 hT hS rfl hd hw
theorem px_iaload {b n : Nat} {f : Nat → Int32} {i : Int32} (hd : decode (px_cd y) pc = .ok (.iaload, 1)) (hb : h b = some (.inl (px_tI, n, .inl f))) (hin : vp_in i n) (k : px_P l y (pc + 1) L (.int (f i.toNatClampNeg) :: st) h K) : px_P l y pc L (.int i :: .ref b :: st) h K := by
  refine px_P.heap (fun g h0 ad0 ad p e R s m args below meth c ls H locs cells slots Q hc hi hl' _ _ w => ?_) k
  have hw := w H locs (px_keepI hi (fun k hk => by simp [px_vs] at hk ⊢; grind))
  obtain ⟨hmo, hst, ⟨ks, hn, hm, hP, hD⟩, hty, hcv, hS⟩ := hi
  obtain ⟨q0, hq0, hws⟩ := px_R.pos (g := g) (ad := ad) hm (px_arr_S (by decide) hst hb) hb
  exact va_iald hc.1 hc.2.1 hc.2.2.2.2.2.1.1 hP q0 1 hws rfl hin hd hw
theorem px_ialoadS {b n : Nat} {f : Nat → Int32} {i : Int32} (hd : decode (px_cd y) pc = .ok (.iaload, 1)) (hb : h b = some (.inl (px_tS, n, .inl f))) (hbs : b < px_S) (hin : vp_in i n) (k : px_P l y (pc + 1) L (.int (f i.toNatClampNeg) :: st) h K) : px_P l y pc L (.int i :: .ref b :: st) h K := by
  refine px_P.heap (fun g h0 ad0 ad p e R s m args below meth c ls H locs cells slots Q hc hi hl' _ _ w => ?_) k
  have hw := w H locs (px_keepI hi (fun k hk => by simp [px_vs] at hk ⊢; grind))
  obtain ⟨hmo, hst, hR, hty, hcv, hS⟩ := hi
  obtain ⟨N, f', e, hT⟩ := hst.2 b hbs _ hb
  cases e
  exact va_ti hc.1 hc.2.1 hT hS hin rfl hd hw
theorem px_baload {b n : Nat} {f : Nat → Int32} {i : Int32} (hd : decode (px_cd y) pc = .ok (.baload, 1)) (hb : h b = some (.inl (px_tB, n, .inl f))) (hin : vp_in i n) (k : px_P l y (pc + 1) L (.int (f i.toNatClampNeg) :: st) h K) : px_P l y pc L (.int i :: .ref b :: st) h K := by
  refine px_P.heap (fun g h0 ad0 ad p e R s m args below meth c ls H locs cells slots Q hc hi hl' _ _ w => ?_) k
  have hw := w H locs (px_keepI hi (fun k hk => by simp [px_vs] at hk ⊢; grind))
  obtain ⟨hmo, hst, ⟨ks, hn, hm, hP, hD⟩, hty, hcv, hS⟩ := hi
  obtain ⟨q0, hq0, hws⟩ := px_R.pos (g := g) (ad := ad) hm (px_arr_S (by decide) hst hb) hb
  exact va_bald hc.1 hc.2.1 hc.2.2.2.2.2.1.1 hP q0 0 hws rfl hin hd hw
theorem px_zaload {b n : Nat} {f : Nat → Int32} {i : Int32} (hd : decode (px_cd y) pc = .ok (.baload, 1)) (hb : h b = some (.inl (px_tZ, n, .inl f))) (hin : vp_in i n) (k : px_P l y (pc + 1) L (.int (f i.toNatClampNeg) :: st) h K) : px_P l y pc L (.int i :: .ref b :: st) h K := by
  refine px_P.heap (fun g h0 ad0 ad p e R s m args below meth c ls H locs cells slots Q hc hi hl' _ _ w => ?_) k
  have hw := w H locs (px_keepI hi (fun k hk => by simp [px_vs] at hk ⊢; grind))
  obtain ⟨hmo, hst, ⟨ks, hn, hm, hP, hD⟩, hty, hcv, hS⟩ := hi
  obtain ⟨q0, hq0, hws⟩ := px_R.pos (g := g) (ad := ad) hm (px_arr_S (by decide) hst hb) hb
  exact va_zald hc.1 hc.2.1 hc.2.2.2.2.2.1.1 hP q0 2 hws rfl hin hd hw
theorem px_rf_v (ad : Nat → Nat) (o : Option Nat) : px_v ad (va_rf o) = va_rf (o.map ad) := by cases o <;> rfl
theorem px_aaload {b n : Nat} {f : Nat → Option Nat} {i : Int32} (hd : decode (px_cd y) pc = .ok (.aaload, 1)) (hb : h b = some (.inl (px_tG, n, .inr (.inr (.inr (.inr f)))))) (hin : vp_in i n) (k : px_P l y (pc + 1) L (va_rf (f i.toNatClampNeg) :: st) h K) : px_P l y pc L (.int i :: .ref b :: st) h K := by
  refine px_P.heap (fun g h0 ad0 ad p e R s m args below meth c ls H locs cells slots Q hc hi hl' _ _ w => ?_) k
  obtain ⟨hmo, hst, ⟨ks, hn, hm, hP, hD⟩, hty, hcv, hS⟩ := hi
  obtain ⟨q0, hq0, hws⟩ := px_R.pos (g := g) (ad := ad) hm (px_arr_S (by decide) hst hb) hb
  have hw := w H locs ⟨hmo, hst, ⟨ks, hn, hm, hP, hD⟩, hty, fun k hk => by
    rcases List.mem_append.mp hk with h1 | h1
    · rcases List.mem_cons.mp h1 with h2 | h2
      · cases hf : f i.toNatClampNeg with
        | none => rw [hf] at h2; cases h2
        | some k2 => rw [hf] at h2; cases h2; exact (hty b _ hb _ _ hf).1
      · exact hcv k (List.mem_append_left _ (List.mem_cons_of_mem _ (List.mem_cons_of_mem _ h2)))
    · exact hcv k (List.mem_append_right _ h1), hS⟩
  refine va_aldq (C := "ImageFile$Segment") hc.1 hc.2.1 hc.2.2.2.2.2.1.1 hP q0 3 hws rfl hin hd ?_
  rw [List.map_cons, px_rf_v] at hw
  exact hw
theorem px_astI {g : px_G} {h0 : px_H} {ad0 ad : Nat → Nat} {s : State} {H1 : Heap} {locs1 : List Loc} {ks : List Nat} {q0 b t n : Nat} {f f' : Nat → Int32} {vs : List Value} (hmo : px_Mo (px_nr y) h0 ad0 h ad) (hst : px_St g ad h s) (hn : ks.Nodup) (hm : ∀ k, k ∈ ks ↔ px_S ≤ k ∧ h k ≠ none) (hty : px_ty h) (hcv : px_cv h vs) (hb : h b = some (.inl (t, n, .inl f))) (hbS : px_S ≤ b) (hvs : ∀ k, Value.ref k ∈ px_vs st L → Value.ref k ∈ vs) (hq0 : ks[q0]? = some b)
    (hP1 : va_P g.1 px_cl ((px_ws g ad h ks).set q0 (ad b, .inl (g.2.1 t, n, .inl f'))) H1) (hD1 : va_D (px_A g) ((px_ws g ad h ks).set q0 (ad b, .inl (g.2.1 t, n, .inl f')))) (hS1 : va_S (px_A g) s.heap H1 locs1) : px_I y g h0 ad0 ad s H1 locs1 (px_up h b (.inl (t, n, .inl f'))) (px_vs st L) :=
  ⟨hmo.up hbS, hst.up hbS, px_R.put (c := .inl (t, n, .inl f')) hn hm hq0 hb hP1 hD1, hty.up trivial, px_cv.up (hcv.sub hvs), hS1⟩
theorem px_iastore {b n : Nat} {f : Nat → Int32} {i x : Int32} (hd : decode (px_cd y) pc = .ok (.iastore, 1)) (hb : h b = some (.inl (px_tI, n, .inl f))) (hin : vp_in i n) (k : px_P l y (pc + 1) L st (px_up h b (.inl (px_tI, n, .inl (upd f i.toNatClampNeg x)))) K) : px_P l y pc L (.int x :: .int i :: .ref b :: st) h K := by
  refine px_P.heap (fun g h0 ad0 ad p e R s m args below meth c ls H locs cells slots Q hc hi hl' _ _ w => ?_) k
  obtain ⟨hmo, hst, ⟨ks, hn, hm, hP, hD⟩, hty, hcv, hS⟩ := hi
  have hbS := px_arr_S (by decide) hst hb
  obtain ⟨q0, hq0, hws⟩ := px_R.pos (g := g) (ad := ad) hm hbS hb
  exact va_iast hc.1 hc.2.1 hc.2.2.2.2.2.1.1 hP hD hS q0 1 hws rfl hin hd fun H1 locs1 hP1 hD1 hS1 => w H1 locs1 (px_astI hmo hst hn hm hty hcv hb hbS (fun k hk => by simp [px_vs] at hk ⊢; grind) hq0 hP1 hD1 hS1)
theorem px_bastore {b n : Nat} {f : Nat → Int32} {i x : Int32} (hd : decode (px_cd y) pc = .ok (.bastore, 1)) (hb : h b = some (.inl (px_tB, n, .inl f))) (hin : vp_in i n) (k : px_P l y (pc + 1) L st (px_up h b (.inl (px_tB, n, .inl (upd f i.toNatClampNeg (vp_nar .byte x))))) K) : px_P l y pc L (.int x :: .int i :: .ref b :: st) h K := by
  refine px_P.heap (fun g h0 ad0 ad p e R s m args below meth c ls H locs cells slots Q hc hi hl' _ _ w => ?_) k
  obtain ⟨hmo, hst, ⟨ks, hn, hm, hP, hD⟩, hty, hcv, hS⟩ := hi
  have hbS := px_arr_S (by decide) hst hb
  obtain ⟨q0, hq0, hws⟩ := px_R.pos (g := g) (ad := ad) hm hbS hb
  exact va_bast hc.1 hc.2.1 hc.2.2.2.2.2.1.1 hP hD hS q0 0 hws rfl hin hd fun H1 locs1 hP1 hD1 hS1 => w H1 locs1 (px_astI hmo hst hn hm hty hcv hb hbS (fun k hk => by simp [px_vs] at hk ⊢; grind) hq0 hP1 hD1 hS1)
theorem px_zastore {b n : Nat} {f : Nat → Int32} {i x : Int32} (hd : decode (px_cd y) pc = .ok (.bastore, 1)) (hb : h b = some (.inl (px_tZ, n, .inl f))) (hin : vp_in i n) (k : px_P l y (pc + 1) L st (px_up h b (.inl (px_tZ, n, .inl (upd f i.toNatClampNeg (vp_nar .boolean x))))) K) : px_P l y pc L (.int x :: .int i :: .ref b :: st) h K := by
  refine px_P.heap (fun g h0 ad0 ad p e R s m args below meth c ls H locs cells slots Q hc hi hl' _ _ w => ?_) k
  obtain ⟨hmo, hst, ⟨ks, hn, hm, hP, hD⟩, hty, hcv, hS⟩ := hi
  have hbS := px_arr_S (by decide) hst hb
  obtain ⟨q0, hq0, hws⟩ := px_R.pos (g := g) (ad := ad) hm hbS hb
  exact va_zast hc.1 hc.2.1 hc.2.2.2.2.2.1.1 hP hD hS q0 2 hws rfl hin hd fun H1 locs1 hP1 hD1 hS1 => w H1 locs1 (px_astI hmo hst hn hm hty hcv hb hbS (fun k hk => by simp [px_vs] at hk ⊢; grind) hq0 hP1 hD1 hS1)
theorem px_aastore {b n v : Nat} {vs : List Value} {f : Nat → Option Nat} {i : Int32} (hd : decode (px_cd y) pc = .ok (.aastore, 1)) (hb : h b = some (.inl (px_tG, n, .inr (.inr (.inr (.inr f)))))) (hv : h v = some (.inr (3, vs))) (hv0 : v % 64 = 0) (hin : vp_in i n) (k : px_P l y (pc + 1) L st (px_up h b (.inl (px_tG, n, .inr (.inr (.inr (.inr (va_up f i.toNatClampNeg (some v)))))))) K) : px_P l y pc L (.ref v :: .int i :: .ref b :: st) h K := by
  refine px_P.heap (fun g h0 ad0 ad p e R s m args below meth c ls H locs cells slots Q hc hi hl' _ _ w => ?_) k
  obtain ⟨hmo, hst, ⟨ks, hn, hm, hP, hD⟩, hty, hcv, hS⟩ := hi
  have hbS := px_arr_S (by decide) hst hb
  obtain ⟨q0, hq0, hws⟩ := px_R.pos (g := g) (ad := ad) hm hbS hb
  obtain ⟨q1, hq1, hws1⟩ := px_R.pos (g := g) (ad := ad) hm (px_obj_S hst hv) hv
  refine va_astq (r := (RX4, TX4, 5)) hc.1 hc.2.1 hc.2.2.2.2.2.1.1 hP hD hS q0 3 q1 3 hws rfl hws1 rfl hin hd fun H1 locs1 hP1 hD1 hS1 => ?_
  have e : va_up (fun j => (f j).map ad) i.toNatClampNeg (some (ad v)) = fun j => (va_up f i.toNatClampNeg (some v) j).map ad := by
    funext j
    by_cases hj : j = i.toNatClampNeg
    · simp [va_up, hj]
    · simp [va_up, hj]
  rw [e] at hP1 hD1
  refine w H1 locs1 ⟨hmo.up hbS, hst.up hbS, px_R.put (c := .inl (px_tG, n, .inr (.inr (.inr (.inr (va_up f i.toNatClampNeg (some v))))))) hn hm hq0 hb hP1 hD1, hty.up ?_, px_cv.up (hcv.sub fun k hk => by simp [px_vs] at hk ⊢; grind), hS1⟩
  intro j k hk
  by_cases hj : j = i.toNatClampNeg
  · simp [va_up, hj] at hk
    subst hk
    exact ⟨px_up_some (by rw [hv]; simp), hv0⟩
  · simp [va_up, hj] at hk
    have := hty b _ hb j k hk
    exact ⟨px_up_some this.1, this.2⟩
end PXH
