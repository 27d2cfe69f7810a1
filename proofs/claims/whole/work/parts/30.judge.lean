/-! the judgement: from pc with these locals, this stack and this heap, the method returns r with the heap h', making mc cells of ms slots -/
def px_Kn (g : px_G) (U : State) : Prop := va_K g.1 px_cl (px_tys g.2.1) U ∧ (∀ w ∈ px_nw, va_Nw w U) ∧ va_AO "ImageFile$Segment" U
theorem px_Kn.warm {g : px_G} {s U : State} (hW : s.WarmedH U.vm) (h : px_Kn g s) : px_Kn g U := by
  refine ⟨va_K.moved hW.alike h.1, fun w hw => ?_, va_AO.moved hW.alike h.2.2⟩
  have h1 := h.2.1 w hw
  have h2 : px_isN w = true := (List.mem_filter.mp hw).2
  cases w with
  | fieldLinkNest a i b n d hst => exact va_Nw.warmF hW h1
  | _ => simp [px_isN] at h2
theorem px_Kn.same {g : px_G} {s U : State} (hv : s.vm = U.vm) (h : px_Kn g s) : px_Kn g U := by
  have ha : s.vm.Alike U.vm := hv ▸ Vm.Alike.refl s.vm
  refine ⟨va_K.moved ha h.1, fun w hw => ?_, va_AO.moved ha h.2.2⟩
  have h1 := h.2.1 w hw
  have h2 : px_isN w = true := (List.mem_filter.mp hw).2
  cases w with
  | fieldLinkNest a i b n d hst => exact va_Nw.same rfl hv h1
  | _ => simp [px_isN] at h2
def px_Cx (y : Nat) (g : px_G) (p : Program) (R : Room) (s : State) (m : MethodId) (args : Array Value) (meth : Method) (c : Code) : Prop :=
  p.tables.exec = Jvm.exec ∧ c.code = px_cd y ∧ c.maxLocals = px_mL y ∧ s.vm.findClass (px_cn (px_on y)) = some m.cls ∧ (∀ w ∈ px_tb, w.before args s = true) ∧ px_Kn g s ∧ px_dp y ≤ R.frames ∧ px_lc y ≤ R.locals ∧ g.2.2 ≤ s.heap.size ∧ meth.name = (px_yn y).name
def px_I (y : Nat) (g : px_G) (h0 : px_H) (ad0 ad : Nat → Nat) (s : State) (H : Heap) (locs : List Loc) (h : px_H) (vs : List Value) : Prop :=
  px_Mo (px_nr y) h0 ad0 h ad ∧ px_St g ad h s ∧ px_R g ad h H ∧ px_ty h ∧ px_cv h vs ∧ va_S (px_A g) s.heap H locs
def px_Lm (ad : Nat → Nat) (L : px_L) : List (Nat × Value) := L.map fun q => (q.1, px_v ad q.2)
def px_vs (st : List Value) (L : px_L) : List Value := st ++ L.map Prod.snd
/-- what a method of this answer's type may answer -/
def px_rok (t : Option FieldType) (r : Option Value) : Prop := match t, r with
  | none, none => True
  | some .int, some (.int _) => True
  | some .boolean, some (.int v) => v = 0 ∨ v = 1
  | some .long, some (.long _) => True
  | some (.object _), some (.ref _) => True
  | some (.object _), some .null => True
  | some (.array _), some (.ref _) => True
  | _, _ => False
def px_rI (y pc : Nat) (r : Option Value) : Prop := px_rok (px_rt y) r ∧ match r with
  | none => decode (px_cd y) pc = .ok (.return_, 1)
  | some (.int _) => decode (px_cd y) pc = .ok (.ireturn, 1)
  | some (.long _) => decode (px_cd y) pc = .ok (.lreturn, 1)
  | some (.ref _) => decode (px_cd y) pc = .ok (.areturn, 1)
  | some .null => decode (px_cd y) pc = .ok (.areturn, 1)
  | _ => False
def px_W (l : Launch) (y pc : Nat) (L : px_L) (st : List Value) (h : px_H) (r : Option Value) (h' : px_H) (mc ms : Nat) : Prop :=
  ∀ (g : px_G) (h0 : px_H) (ad0 ad : Nat → Nat) (p : Program) (e : Env) (R : Room) (s : State) (m : MethodId) (args : Array Value) (below : List Frame) (meth : Method) (c : Code) (ls : Array Slot) (H : Heap) (locs : List Loc) (cells slots : Nat) (Q : State → Prop),
    px_Cx y g p R s m args meth c → px_I y g h0 ad0 ad s H locs h (px_vs st L) → lv_has ls (px_mL y) (px_Lm ad L) → cells + mc ≤ R.cells → slots + ms ≤ R.slots →
    (∀ (pc' : Nat) (ls' : Array Slot) (ad' : Nat → Nat) (H' : Heap) (locs' : List Loc), px_rI y pc' r → px_I y g h0 ad0 ad' s H' locs' h' r.toList → W p l e R s m args below meth c H' locs' (cells + mc) (slots + ms) Q (F0 m pc' ls' (r.toList.map (px_v ad')))) →
    W p l e R s m args below meth c H locs cells slots Q (F0 m pc ls (st.map (px_v ad)))
def px_P (l : Launch) (y pc : Nat) (L : px_L) (st : List Value) (h : px_H) (K : px_K) : Prop := ∃ (r : Option Value) (h' : px_H) (mc ms : Nat), K r h' mc ms ∧ px_W l y pc L st h r h' mc ms
theorem px_P.mono {l : Launch} {y pc : Nat} {L : px_L} {st : List Value} {h : px_H} {K K' : px_K} (k : px_P l y pc L st h K) (hk : ∀ r h' mc ms, K r h' mc ms → K' r h' mc ms) : px_P l y pc L st h K' := by
  obtain ⟨r, h', mc, ms, a, b⟩ := k
  exact ⟨r, h', mc, ms, hk _ _ _ _ a, b⟩
def px_ro (y mc ms : Nat) : Room := { frames := px_dp y, cells := mc, slots := ms, locals := px_lc y }
def px_wds (y : Nat) : List Cond := .code (px_yn y) (px_cd y) (px_mL y) (px_rt y) :: px_tb
def px_Pc (g : px_G) (ad : Nat → Nat) (as : List Value) (h : px_H) : Array Value → State → Prop := fun v U => v = (as.map (px_v ad)).toArray ∧ px_Kn g U ∧ px_St g ad h U ∧ px_R g ad h U.heap ∧ px_ty h ∧ px_cv h as ∧ g.2.2 ≤ U.heap.size
def px_Qc (nr : Bool) (g : px_G) (h0 : px_H) (ad0 : Nat → Nat) (r : Option Value) (h' : px_H) : Array Value → State → Outcome → State → Prop := fun _ st o t => ∃ ad' : Nat → Nat, o = .returned (r.map (px_v ad')) ∧ px_Mo nr h0 ad0 h' ad' ∧ px_R g ad' h' t.heap ∧ px_ty h' ∧ px_cv h' r.toList ∧ va_F (px_A g) st t
/-- a method's contract: called with these arguments in this heap it comes back, with K of what it answers -/
def px_Ct (l : Launch) (y : Nat) (as : List Value) (h : px_H) (K : px_K) : Prop := ∃ (r : Option Value) (h' : px_H) (mc ms : Nat), K r h' mc ms ∧ ∀ (g : px_G) (ad : Nat → Nat), Met l (px_yn y) (px_wds y) (px_ro y mc ms) (px_Pc g ad as h) (px_Qc (px_nr y) g h ad r h') mc ms (px_A g)
theorem px_Ct.mono {l : Launch} {y : Nat} {as : List Value} {h : px_H} {K K' : px_K} (k : px_Ct l y as h K) (hk : ∀ r h' mc ms, K r h' mc ms → K' r h' mc ms) : px_Ct l y as h K' := by
  obtain ⟨r, h', mc, ms, a, b⟩ := k
  exact ⟨r, h', mc, ms, hk _ _ _ _ a, b⟩
theorem px_v_cat (ad : Nat → Nat) (v : Value) : (px_v ad v).category = v.category := by cases v <;> rfl
theorem px_args_map (ad : Nat → Nat) : ∀ (i : Nat) (vs : List Value), lv_args i (vs.map (px_v ad)) = px_Lm ad (lv_args i vs)
  | _, [] => rfl
  | i, v :: vs => by
    show (i, px_v ad v) :: lv_args _ (vs.map (px_v ad)) = (i, px_v ad v) :: px_Lm ad (lv_args _ vs)
    rw [px_v_cat, px_args_map ad _ vs]
theorem px_args_snd : ∀ (i : Nat) (vs : List Value), (lv_args i vs).map Prod.snd = vs
  | _, [] => rfl
  | i, v :: vs => by
    show v :: (lv_args _ vs).map Prod.snd = v :: vs
    rw [px_args_snd _ vs]
theorem px_sl_len (ad : Nat → Nat) : ∀ (vs : List Value), (lg_sl (vs.map (px_v ad))).length = (lg_sl vs).length
  | [] => rfl
  | v :: vs => by
    have ih := px_sl_len ad vs
    cases v <;> simp_all [lg_sl, px_v, Value.category]
theorem px_tb_good : ∀ w ∈ px_tb, goodWord w = true := fun w hw => (List.mem_filter.mp hw).2
theorem px_goodIn {ws : List Cond} (h : ∀ w ∈ ws, w ∈ px_tb) : GoodIn px_tb ws := fun w hw => ⟨h w hw, good_of_word (px_tb_good w (h w hw))⟩
theorem px_okM_plain {y : Nat} (h : y < px_nM) : Jvm.plainName (px_yn y).cls = true := by
  have h1 := px_okM_of h
  simp only [px_okM, Bool.and_eq_true] at h1
  exact h1.1.1.1.1.1
theorem px_okM_cn {y : Nat} (h : y < px_nM) : (px_yn y).cls = px_cn (px_on y) := by
  have h1 := px_okM_of h
  simp only [px_okM, Bool.and_eq_true, decide_eq_true_eq] at h1
  exact h1.1.1.1.1.2
theorem px_okM_mh {y : Nat} (h : y < px_nM) : (px_yn y).cls ≠ "java/lang/invoke/MethodHandle" ∧ (px_yn y).cls ≠ "java/lang/invoke/VarHandle" ∧ (parseMethodDescriptor (px_yn y).desc).map (fun d => d.parameters.length) = some (px_np y) := by
  have h1 := px_okM_of h
  simp only [px_okM, Bool.and_eq_true, decide_eq_true_eq] at h1
  exact ⟨h1.1.1.1.2, h1.1.1.2, h1.1.2⟩
/-- a method's body gives its contract -/
theorem px_Ct.of {l : Launch} {y : Nat} {as : List Value} {h : px_H} {K : px_K} (hy : y < px_nM) (hw : (lg_sl as).length ≤ px_mL y) (k : px_P l y 0 (lv_args 0 as) [] h K) : px_Ct l y as h K := by
  obtain ⟨r, h', mc, ms, hK, w⟩ := k
  refine ⟨r, h', mc, ms, hK, fun g ad => ?_⟩
  refine Met.ofW (cc := px_cd y) (maxL := px_mL y) (ret := px_rt y) (px_okM_plain hy) rfl ?_
  intro p e s m args below meth c s₁ B hml hv
  obtain ⟨rfl, hKn, hSt, hR, hty, hcv, hbase⟩ := hv
  have hts := atoms_spec (ws := px_wds y) B.pre
  have hown : s.vm.findClass (px_yn y).cls = some m.cls := findClass_of_methodNamed B.named
  have hl := lv_entry (as.map (px_v ad)) (n := px_mL y) (by rw [px_sl_len]; exact hw)
  rw [px_args_map] at hl
  rw [lg_entry_eq]
  generalize (lg_sl (as.map (px_v ad)) ++ List.replicate (px_mL y - (lg_sl (as.map (px_v ad))).length) Slot.unset).toArray = ls at hl ⊢
  have hr := B.returns
  have hx := B.exec
  have hb := B.bytes
  have hlocks := B.notSynchronized
  have K := w g h ad ad p e (px_ro y mc ms) s m (as.map (px_v ad)).toArray below meth c ls s.heap [] 0 0 (MQ below (px_Qc (px_nr y) g h ad r h') (as.map (px_v ad)).toArray s mc ms (px_A g))
    ⟨hx, hb, hml, by rw [← px_okM_cn hy]; exact hown, fun w hw => hts w (List.mem_cons_of_mem _ hw), hKn, Nat.le_refl _, Nat.le_refl _, hbase, (name_of_methodNamed B.named B.method).1⟩
    ⟨px_Mo.rf, hSt, hR, hty, by rw [px_vs, px_args_snd]; exact hcv, va_S.rf⟩ hl (by show 0 + mc ≤ mc; omega) (by show 0 + ms ≤ ms; omega) ?_
  · exact K
  · intro pc' ls' ad' H' locs' hri hi
    obtain ⟨hok, hdec⟩ := hri
    obtain ⟨hmo, hst, hR', hty', hcv', hS'⟩ := hi
    have hq : ∀ t : State, t.heap = H' → s.WarmedH t.vm → px_Qc (px_nr y) g h ad r h' (as.map (px_v ad)).toArray s (.returned (r.map (px_v ad'))) t := fun t ht _ => ⟨ad', rfl, hmo, by rw [ht]; exact hR', hty', hcv', hS'.F ht⟩
    rw [Nat.zero_add, Nat.zero_add]
    generalize hrt : px_rt y = rt at hok hr
    cases r with
    | none =>
      cases rt with
      | none => exact W.vret hx hb hr hq hS'.2.2 hdec hlocks
      | some t => exact absurd hok (by cases t <;> simp [px_rok])
    | some v =>
      cases v with
      | int v =>
        cases rt with
        | none => exact absurd hok (by simp [px_rok])
        | some t =>
          cases t with
          | int => exact W.iret hx hb hr hq hS'.2.2 hdec hlocks
          | boolean => exact W.zret hx hb hr (by rcases hok with h1 | h1 <;> subst h1 <;> rfl) hq hS'.2.2 hdec hlocks
          | _ => exact absurd hok (by simp [px_rok])
      | long v =>
        cases rt with
        | none => exact absurd hok (by simp [px_rok])
        | some t =>
          cases t with
          | long => exact W.lret hx hb hr hq hS'.2.2 hdec hlocks
          | _ => exact absurd hok (by simp [px_rok])
      | ref v =>
        cases rt with
        | none => exact absurd hok (by simp [px_rok])
        | some t =>
          cases t with
          | object n => exact W.aret hx hb hr (Or.inl ⟨n, rfl⟩) (Or.inr ⟨_, rfl⟩) hq hS'.2.2 hdec hlocks
          | array n => exact W.aret hx hb hr (Or.inr ⟨n, rfl⟩) (Or.inr ⟨_, rfl⟩) hq hS'.2.2 hdec hlocks
          | _ => exact absurd hok (by simp [px_rok])
      | null =>
        cases rt with
        | none => exact absurd hok (by simp [px_rok])
        | some t =>
          cases t with
          | object n => exact W.aret hx hb hr (Or.inl ⟨n, rfl⟩) (Or.inl rfl) hq hS'.2.2 hdec hlocks
          | _ => exact absurd hok (by simp [px_rok])
      | _ => exact absurd hdec (by simp)
