/-! calls by contract -/
def px_rcL : List Nat := [0, 1, 99, 2, 3, 99, 4, 5, 6, 99, 99]
def px_rc (o : Nat) : Nat := px_rcL.getD o 99
theorem px_rc_ok : ∀ o, o < 11 → px_rc o ≠ 99 → (px_cl[px_rc o]?).map (fun q => q.1) = some (px_cn o) := by decide +kernel
/-- the callee fits into the caller's room -/
def px_fitc (y y' : Nat) : Bool := decide (y' < px_nM) && decide (px_dp y' + 1 ≤ px_dp y) && decide (19 + px_mL y' + px_lc y' ≤ px_lc y) && (!px_nr y || px_nr y') && decide (px_on y' < 11)
/-- the frame's values survive the call: the callee moves nothing, or none of them can move -/
def px_hold (y' : Nat) (st : List Value) (L : px_L) : Prop := px_nr y' = true ∨ (px_ev st ∧ px_ev (L.map Prod.snd))
theorem px_Pc_blind (g : px_G) (ad : Nat → Nat) (as : List Value) (h : px_H) : FrameBlind (px_Pc g ad as h) := by
  intro a U gg mk q
  obtain ⟨q1, q2, q3, q4, q5, q6, q7⟩ := q
  exact ⟨q1, px_Kn.same (s := U) (U := U.calling gg mk a) rfl q2, q3.to (U := U.calling gg mk a) (Vm.Alike.refl U.vm) (fun _ _ _ => rfl), q4, q5, q6, q7⟩
def px_irt (y : Nat) : Bool := if (px_yn y).name = "<init>" then decide (px_rt y = none) else true
theorem px_all_irt : (List.range px_nM).all px_irt = true := by decide +kernel
theorem px_init_rt (y : Nat) (hy : y < px_nM) (hn : (px_yn y).name = "<init>") : px_rt y = none := by
  have h1 := List.all_eq_true.mp px_all_irt y (List.mem_range.mpr hy)
  unfold px_irt at h1
  rw [if_pos hn] at h1
  simpa using h1
section PXC
variable {l : Launch} {y y' pc : Nat} {L : px_L} {as rest : List Value} {h : px_H} {K : px_K}
theorem px_P.call (st0 : List Value) (hfit : px_fitc y y' = true) (hold : px_hold y' rest L) (hsub : ∀ k, Value.ref k ∈ as ++ rest → Value.ref k ∈ st0)
    (run : ∀ (r : Option Value) (h1 : px_H) (mc ms : Nat), (∀ (g : px_G) (ad : Nat → Nat), Met l (px_yn y') (px_wds y') (px_ro y' mc ms) (px_Pc g ad as h) (px_Qc (px_nr y') g h ad r h1) mc ms (px_A g)) →
      ∀ (g : px_G) (ad : Nat → Nat) (p : Program) (e : Env) (R : Room) (s : State) (m : MethodId) (args : Array Value) (below : List Frame) (meth : Method) (c : Code) (ls : Array Slot) (H : Heap) (locs : List Loc) (cells slots : Nat), px_Cx y g p R s m args meth c → lv_has ls (px_mL y) (px_Lm ad L) → px_R g ad h H → px_St g ad h s → (∀ U : State, U.heap = H → s.WarmedH U.vm → px_Pc g ad as h (as.map (px_v ad)).toArray U) → px_dp y' + 1 ≤ R.frames ∧ 8 + (px_mL y' + 11) + px_lc y' ≤ R.locals → cells + mc ≤ R.cells ∧ slots + ms ≤ R.slots →
        va_Run p l e R s m args below meth c H locs cells slots mc ms (F0 m pc ls (st0.map (px_v ad))) (rest.map (px_v ad)) (px_Qc (px_nr y') g h ad r h1 (as.map (px_v ad)).toArray) (px_A g))
    (k : px_Ct l y' as h (fun r h1 mc ms => px_P l y (pc + 3) L (r.toList ++ rest) h1 (fun r2 h2 a b => K r2 h2 (mc + a) (ms + b)))) : px_P l y pc L st0 h K := by
  obtain ⟨r, h1, mc, ms, ⟨r2, h2, mc2, ms2, hK, w⟩, hM⟩ := k
  simp only [px_fitc, Bool.and_eq_true, decide_eq_true_eq, Bool.or_eq_true, Bool.not_eq_true'] at hfit
  obtain ⟨⟨⟨⟨hy', hdp⟩, hlc⟩, hnr⟩, hon⟩ := hfit
  refine ⟨r2, h2, mc + mc2, ms + ms2, hK, ?_⟩
  intro g h0 ad0 ad p e R s m args below meth c ls H locs cells slots Q hc hi hl hc1 hc2 hr
  obtain ⟨hmo, hst, hR, hty, hcv, hS⟩ := hi
  have hru := run r h1 mc ms hM g ad p e R s m args below meth c ls H locs cells slots hc hl hR hst (fun U hU hW => ⟨rfl, px_Kn.warm hW hc.2.2.2.2.2.1, hst.to hW.alike (fun q h3 h4 => by rw [hU]; exact hS.2.1 q h3 h4), by rw [hU]; exact hR, hty, fun k hk => hcv k (List.mem_append_left _ (hsub k (List.mem_append_left _ hk))), by rw [hU]; exact Nat.le_trans hc.2.2.2.2.2.2.2.2.1 hS.1⟩)
    ⟨by have := hc.2.2.2.2.2.2.1; omega, by have := hc.2.2.2.2.2.2.2.1; omega⟩ ⟨by omega, by omega⟩
  intro T hT X
  obtain ⟨v, st₀, t, T', L', e0, X', hL', e1, e2, ⟨ad', ho, hmo1, hR1, hty1, hcv1, hF⟩, hgo⟩ := hru T hT X
  have hv : v = r.map (px_v ad') := by cases ho; rfl
  subst hv
  -- what the frame holds is where it was
  have hkeep : ∀ k : Nat, Value.ref k ∈ px_vs rest L → h1 k ≠ none ∧ ad' k = ad k := by
    intro k hk
    have hk1 : h k ≠ none := by
      rcases List.mem_append.mp hk with h3 | h3
      · exact hcv k (List.mem_append_left _ (hsub k (List.mem_append_right _ h3)))
      · exact hcv k (List.mem_append_right _ h3)
    refine hmo1.2 k hk1 ?_
    rcases hold with h3 | ⟨h3, h4⟩
    · exact Or.inl h3
    · rcases List.mem_append.mp hk with h5 | h5
      · exact Or.inr (h3 k h5)
      · exact Or.inr (h4 k h5)
  have hLm : px_Lm ad' L = px_Lm ad L := by
    unfold px_Lm
    apply List.map_congr_left
    intro z hz
    rw [px_v_congr fun k e => (hkeep k (List.mem_append_right _ (List.mem_map.mpr ⟨z, hz, e⟩))).2]
  have hrm : rest.map (px_v ad') = rest.map (px_v ad) := px_vs_congr fun k hk => (hkeep k (List.mem_append_left _ hk)).2
  have hS' : va_S (px_A g) s.heap T'.heap (locs ++ L') := by
    refine ⟨?_, fun q h3 h4 => ?_, fun q hq => ?_⟩
    · rw [e1]
      have := hF.1
      rw [e0] at this
      exact Nat.le_trans hS.1 this
    · rw [e1, hF.2 q (by rw [e0]; exact Nat.lt_of_lt_of_le h3 hS.1) h4, e0]
      exact hS.2.1 q h3 h4
    · rcases List.mem_append.mp hq with h5 | h5
      · exact hS.2.2 q h5
      · exact hL' q h5
  have hw := w g h0 ad0 ad' p e R s m args below meth c ls T'.heap (locs ++ L') (cells + mc) (slots + ms) Q hc
    ⟨⟨fun k hk => ⟨(hmo1.1 k hk).1.trans (hmo.1 k hk).1, (hmo1.1 k hk).2.trans (hmo.1 k hk).2⟩, fun k hk hor => by
        have h3 := hmo.2 k hk hor
        have h4 := hmo1.2 k h3.1 (by
          rcases hor with h5 | h5
          · left
            rcases hnr with h6 | h6
            · rw [h5] at h6; cases h6
            · exact h6
          · exact Or.inr h5)
        exact ⟨h4.1, h4.2.trans h3.2⟩⟩,
      hst.eq (fun k hk => hmo1.1 k hk), by rw [e1]; exact hR1, hty1, fun k hk => by
        rcases List.mem_append.mp hk with h3 | h3
        · rcases List.mem_append.mp h3 with h4 | h4
          · exact hcv1 k h4
          · exact (hkeep k (List.mem_append_left _ h4)).1
        · exact (hkeep k (List.mem_append_right _ h3)).1, hS'⟩ (by rw [hLm]; exact hl) (by omega) (by omega)
    (fun pc' ls' ad2 H' locs' h3 h4 => by
      have := hr pc' ls' ad2 H' locs' h3 h4
      rwa [show cells + mc + mc2 = cells + (mc + mc2) by omega, show slots + ms + ms2 = slots + (ms + ms2) by omega])
  obtain ⟨t2, a1, b1⟩ := hw T' rfl X'
  refine ⟨t2, hgo t2 ?_, b1⟩
  have est : (r.toList ++ rest).map (px_v ad') = (r.map (px_v ad')).toList ++ rest.map (px_v ad) := by
    rw [List.map_append, hrm]
    cases r <;> rfl
  rw [est] at a1
  exact a1
theorem px_kw_ok (hy : y' < px_nM) : match px_kw y' with
   | (0, _, _, _) => Cond.static (px_yn y') ∈ px_tb ∧ Cond.initialized (px_yn y').cls ∈ px_tb
   | (1, _, _, _) => Cond.instanceMethod (px_yn y') ∈ px_tb ∧ Cond.selects (px_yn y').cls (px_yn y') (px_yn y') ∈ px_tb ∧ Cond.initialized (px_yn y').cls ∈ px_tb
   | (2, _, _, _) => Cond.instanceMethod (px_yn y') ∈ px_tb ∧ Cond.initialized (px_yn y').cls ∈ px_tb ∧ (px_yn y').name = "<init>"
   | _ => False := by
  have h1 := px_okM_of hy
  simp only [px_okM, Bool.and_eq_true] at h1
  have h2 := h1.2
  revert h2
  generalize px_kw y' = kw
  intro h2
  split at h2
  · simp only [Bool.and_eq_true] at h2; exact ⟨px_hw_mem h2.1, px_hw_mem h2.2⟩
  · simp only [Bool.and_eq_true] at h2; exact ⟨px_hw_mem h2.1.1, px_hw_mem h2.1.2, px_hw_mem h2.2⟩
  · simp only [Bool.and_eq_true, decide_eq_true_eq] at h2; exact ⟨px_hw_mem h2.1.1, px_hw_mem h2.1.2, h2.2⟩
  · cases h2
theorem px_wds_in (hy : y' < px_nM) : ∀ w ∈ px_wds y', w ∈ px_tb := by
  intro w hw
  rcases List.mem_cons.mp hw with rfl | h1
  · exact px_code_in y' hy
  · exact h1
theorem px_link_in {o i ps : Nat} (hy : y' < px_nM) (hm : px_mt o i = some (y', ps)) : Cond.methodLink (px_cn o) i (px_yn y') ∈ px_tb := by
  have h1 := px_mt_ok hm
  unfold px_okL at h1
  rw [if_pos hy] at h1
  exact px_hw_mem h1
theorem px_callS {i ps a b c : Nat} (hd : decode (px_cd y) pc = .ok (.invokestatic i, 3)) (hm : px_mt (px_on y) i = some (y', ps)) (hkw : px_kw y' = (0, a, b, c)) (hfit : px_fitc y y' = true) (hlen : as.length = px_np y') (hold : px_hold y' rest L) (hcat : (rest.map fun v => v.category).sum ≤ 8)
    {st0 : List Value} (hst0 : st0 = as.reverse ++ rest)
    (k : px_Ct l y' as h (fun r h1 mc ms => px_P l y (pc + 3) L (r.toList ++ rest) h1 (fun r2 h2 a b => K r2 h2 (mc + a) (ms + b)))) : px_P l y pc L st0 h K := by
  subst hst0
  have hy' : y' < px_nM := by
    have h1 := hfit
    simp only [px_fitc, Bool.and_eq_true, decide_eq_true_eq] at h1
    exact h1.1.1.1.1
  have hkk := px_kw_ok hy'
  rw [hkw] at hkk
  refine px_P.call (as.reverse ++ rest) hfit hold (fun k hk => by simpa using hk) ?_ k
  intro r h1 mc ms hM g ad p e R s m args below meth cc ls H locs cells slots hc hl hR hSt hPc hroom hcs
  refine va_runS (As := as.map (px_v ad)) (rest := rest.map (px_v ad)) (n := px_np y') ⟨hc.1, hc.2.1, hc.2.2.1, hc.2.2.2.1, hc.2.2.2.2.1⟩ (hM g ad)
    (va_cwS (px_np y') hc.2.2.2.2.1 (px_goodIn ?_) rfl rfl rfl (px_okM_mh hy') hroom) ⟨px_Pc_blind g ad as h, hPc⟩ rfl (by rw [List.length_map]; exact hlen) hl.1 (by rw [List.map_append, List.map_reverse]) (by rw [px_cats]; show 2 * 0 + _ ≤ 8; omega) hd hcs
  intro w hw
  rcases List.mem_append.mp hw with h3 | h3
  · simp only [List.mem_cons, List.not_mem_nil, or_false] at h3
    rcases h3 with rfl | rfl | rfl
    · exact px_link_in hy' hm
    · exact hkk.1
    · exact hkk.2
  · exact px_wds_in hy' w h3
theorem px_callI {i ps a b c b0 : Nat} (hd : decode (px_cd y) pc = .ok (.invokespecial i, 3)) (hm : px_mt (px_on y) i = some (y', ps)) (hkw : px_kw y' = (2, a, b, c)) (hfit : px_fitc y y' = true) (hlen : as.length = px_np y') (hold : px_hold y' rest L) (hcat : (rest.map fun v => v.category).sum ≤ 8)
    {st0 : List Value} (hst0 : st0 = as.reverse ++ .ref b0 :: rest)
    (k : px_Ct l y' (.ref b0 :: as) h (fun r h1 mc ms => px_P l y (pc + 3) L (r.toList ++ rest) h1 (fun r2 h2 a b => K r2 h2 (mc + a) (ms + b)))) : px_P l y pc L st0 h K := by
  subst hst0
  have hy' : y' < px_nM := by
    have h1 := hfit
    simp only [px_fitc, Bool.and_eq_true, decide_eq_true_eq] at h1
    exact h1.1.1.1.1
  have hkk := px_kw_ok hy'
  rw [hkw] at hkk
  refine px_P.call (as.reverse ++ .ref b0 :: rest) hfit hold (fun k hk => by simp at hk ⊢; grind) ?_ k
  intro r h1 mc ms hM g ad p e R s m args below meth cc ls H locs cells slots hc hl hR hSt hPc hroom hcs
  by_cases hrn : px_rt y' = none
  · refine va_runI (As := as.map (px_v ad)) (b := ad b0) (rest := rest.map (px_v ad)) (n := px_np y') (bytes := px_cd y') (maxL := px_mL y') ⟨hc.1, hc.2.1, hc.2.2.1, hc.2.2.2.1, hc.2.2.2.2.1⟩ (hM g ad)
      (cwI (ws' := px_tb) (px_np y') hc.2.2.2.2.1 (px_goodIn (px_wds_in hy')) (by unfold px_wds; rw [hrn]) rfl rfl (hc.2.2.2.2.1 _ hkk.2.1) (hc.2.2.2.2.1 _ (px_link_in hy' hm)) (hc.2.2.2.2.1 _ hkk.1) hkk.2.2 (px_okM_mh hy') hroom) ⟨px_Pc_blind g ad _ h, hPc⟩ rfl (by rw [List.length_map]; exact hlen) hl.1 (by rw [List.map_append, List.map_reverse]; rfl) (by rw [px_cats]; show 2 * 0 + _ ≤ 8; omega) hd hcs
  · exact absurd (px_init_rt y' hy' hkk.2.2) hrn
theorem px_callV {i ps a b c b0 : Nat} {fs : List Value} (hd : decode (px_cd y) pc = .ok (.invokevirtual i, 3)) (hm : px_mt (px_on y) i = some (y', ps)) (hkw : px_kw y' = (1, a, b, c)) (hfit : px_fitc y y' = true) (hlen : as.length = px_np y') (hb : h b0 = some (.inr (px_rc (px_on y'), fs))) (hrc : px_rc (px_on y') ≠ 99) (hold : px_hold y' rest L) (hcat : (rest.map fun v => v.category).sum ≤ 8)
    {st0 : List Value} (hst0 : st0 = as.reverse ++ .ref b0 :: rest)
    (k : px_Ct l y' (.ref b0 :: as) h (fun r h1 mc ms => px_P l y (pc + 3) L (r.toList ++ rest) h1 (fun r2 h2 a b => K r2 h2 (mc + a) (ms + b)))) : px_P l y pc L st0 h K := by
  subst hst0
  have hy0 := hfit
  simp only [px_fitc, Bool.and_eq_true, decide_eq_true_eq] at hy0
  have hy' : y' < px_nM := hy0.1.1.1.1
  have hkk := px_kw_ok hy'
  rw [hkw] at hkk
  have hcls := px_rc_ok (px_on y') hy0.2 hrc
  rw [← px_okM_cn hy'] at hcls
  refine px_P.call (as.reverse ++ .ref b0 :: rest) hfit hold (fun k hk => by simp at hk ⊢; grind) ?_ k
  intro r h1 mc ms hM g ad p e R s m args below meth cc ls H locs cells slots hc hl hR hSt hPc hroom hcs
  cases hcl : px_cl[px_rc (px_on y')]? with
  | none => rw [hcl] at hcls; cases hcls
  | some q =>
    rw [hcl] at hcls
    have hq : q.1 = (px_yn y').cls := Option.some.inj hcls
    obtain ⟨ks, hn, hmm, hP, hD⟩ := hR
    obtain ⟨q0, hq0, hws⟩ := px_R.pos (g := g) (ad := ad) hmm (px_obj_S hSt hb) hb
    have hrecv := va_recv hc.2.2.2.2.2.1.1 hP hcl hws
    rw [hq] at hrecv
    refine va_runV (As := as.map (px_v ad)) (b := ad b0) (C := (px_yn y').cls) (rest := rest.map (px_v ad)) (n := px_np y') ⟨hc.1, hc.2.1, hc.2.2.1, hc.2.2.2.1, hc.2.2.2.2.1⟩ (hM g ad)
      (cwV (px_np y') hc.2.2.2.2.1 (px_goodIn ?_) rfl rfl rfl ⟨rfl, px_okM_mh hy'⟩ hroom) ⟨px_Pc_blind g ad _ h, hrecv, hPc⟩ rfl (by rw [List.length_map]; exact hlen) hl.1 (by rw [List.map_append, List.map_reverse]; rfl) (by rw [px_cats]; show 2 * 0 + _ ≤ 8; omega) hd hcs
    intro w hw
    rcases List.mem_append.mp hw with h3 | h3
    · simp only [List.mem_cons, List.not_mem_nil, or_false] at h3
      rcases h3 with rfl | rfl | rfl | rfl
      · exact px_link_in hy' hm
      · exact hkk.1
      · exact hkk.2.1
      · exact hkk.2.2
    · exact px_wds_in hy' w h3
end PXC
