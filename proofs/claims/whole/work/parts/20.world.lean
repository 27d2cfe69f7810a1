/-! the pure picture: a heap is a function from keys to cells; references are keys; 'ad' says where a key's cell lies -/
abbrev px_C : Type := (Nat × vp_A) ⊕ (Nat × List Value)
abbrev px_H : Type := Nat → Option px_C
abbrev px_L : Type := List (Nat × Value)
abbrev px_K : Type := Option Value → px_H → Nat → Nat → Prop
abbrev px_G : Type := va_G × (Nat → ClassId) × Nat
def px_v (ad : Nat → Nat) (v : Value) : Value := match v with
  | .ref k => .ref (ad k)
  | .int x => .int x
  | .long x => .long x
  | .float x => .float x
  | .double x => .double x
  | .null => .null
  | .retAddr x => .retAddr x
def px_a (ad : Nat → Nat) (a : vp_A) : vp_A := match a with
  | (n, .inl f) => (n, .inl f)
  | (n, .inr (.inl f)) => (n, .inr (.inl f))
  | (n, .inr (.inr (.inl f))) => (n, .inr (.inr (.inl f)))
  | (n, .inr (.inr (.inr (.inl f)))) => (n, .inr (.inr (.inr (.inl f))))
  | (n, .inr (.inr (.inr (.inr f)))) => (n, .inr (.inr (.inr (.inr (fun j => (f j).map ad)))))
def px_e (aT : Nat → ClassId) (ad : Nat → Nat) (c : px_C) : va_E := match c with
  | .inl (t, a) => .inl (aT t, px_a ad a)
  | .inr (ci, fs) => .inr (ci, fs.map (px_v ad))
def px_f (aT : Nat → ClassId) (ad : Nat → Nat) (h : px_H) (k : Nat) : Nat × va_E := (ad k, px_e aT ad ((h k).getD (.inr (0, []))))
def px_up (h : px_H) (k : Nat) (c : px_C) : px_H := fun j => if j = k then some c else h j
def px_rm (h : px_H) (k : Nat) : px_H := fun j => if j = k then none else h j
theorem px_up_self {h : px_H} {k : Nat} {c : px_C} : px_up h k c k = some c := if_pos rfl
theorem px_up_ne {h : px_H} {k j : Nat} {c : px_C} (hj : j ≠ k) : px_up h k c j = h j := if_neg hj
theorem px_rm_self {h : px_H} {k : Nat} : px_rm h k k = none := if_pos rfl
theorem px_rm_ne {h : px_H} {k j : Nat} (hj : j ≠ k) : px_rm h k j = h j := if_neg hj
/-- the values that a frame holds name cells that are there -/
def px_cv (h : px_H) (vs : List Value) : Prop := ∀ k, Value.ref k ∈ vs → h k ≠ none
/-- .. and none of the moving ones -/
def px_ev (vs : List Value) : Prop := ∀ k, Value.ref k ∈ vs → k % 64 = 0
def px_okc (h : px_H) (j : Nat) (c : px_C) : Prop := match c with
  | .inl (_, (_, .inr (.inr (.inr (.inr f))))) => ∀ i k, f i = some k → h k ≠ none ∧ k % 64 = 0
  | .inl _ => True
  | .inr (_, fs) => j % 64 = 0 ∧ fs.length ≤ 63 ∧ ∀ i k, fs[i]? = some (.ref k) → h k ≠ none ∧ (k % 64 = 0 ∨ k = j + 1 + i)
def px_ty (h : px_H) : Prop := ∀ j c, h j = some c → px_okc h j c
/-- since the start: the statics stand, what was there is there, and lies where it lay (but for the moving ones, if they may move) -/
def px_Mo (nr : Bool) (h0 : px_H) (ad0 : Nat → Nat) (h : px_H) (ad : Nat → Nat) : Prop :=
  (∀ k, k < px_S → h k = h0 k ∧ ad k = ad0 k) ∧ ∀ k, h0 k ≠ none → (nr = true ∨ k % 64 = 0) → h k ≠ none ∧ ad k = ad0 k
def px_A (g : px_G) : Nat → Prop := fun q => g.2.2 ≤ q
def px_St (g : px_G) (ad : Nat → Nat) (h : px_H) (U : State) : Prop :=
  (∀ z ∈ px_zs, h z.2.2.2 ≠ none ∧ va_Z z.1 z.2.1 z.2.2.1 (.ref (ad z.2.2.2)) (px_A g) U U.heap) ∧
  ∀ (k : Nat), k < px_S → ∀ c, h k = some c → ∃ (N : Nat) (f : Nat → Int32), c = .inl (px_tS, N, .inl f) ∧ va_T .int (ad k) N (fun j => .int (f j)) (px_A g) U U.heap
def px_ws (g : px_G) (ad : Nat → Nat) (h : px_H) (ks : List Nat) : va_W := ks.map (px_f g.2.1 ad h)
def px_R (g : px_G) (ad : Nat → Nat) (h : px_H) (H : Heap) : Prop :=
  ∃ ks : List Nat, ks.Nodup ∧ (∀ k, k ∈ ks ↔ px_S ≤ k ∧ h k ≠ none) ∧ va_P g.1 px_cl (px_ws g ad h ks) H ∧ va_D (px_A g) (px_ws g ad h ks)
theorem px_getD {h : px_H} {k : Nat} {c : px_C} (hk : h k = some c) (d : px_C) : (h k).getD d = c := by rw [hk]; rfl
theorem px_f_of {aT : Nat → ClassId} {ad : Nat → Nat} {h : px_H} {k : Nat} {c : px_C} (hk : h k = some c) : px_f aT ad h k = (ad k, px_e aT ad c) := by unfold px_f; rw [px_getD hk]
theorem px_ws_at {g : px_G} {ad : Nat → Nat} {h : px_H} {ks : List Nat} {i k : Nat} {c : px_C} (hi : ks[i]? = some k) (hk : h k = some c) : (px_ws g ad h ks)[i]? = some (ad k, px_e g.2.1 ad c) := by
  unfold px_ws
  rw [List.getElem?_map, hi]
  show some (px_f g.2.1 ad h k) = _
  rw [px_f_of hk]
theorem px_nd {ks : List Nat} (hn : ks.Nodup) {i j k : Nat} (hi : ks[i]? = some k) (hj : ks[j]? = some k) : i = j := by
  obtain ⟨l1, e1⟩ := List.getElem?_eq_some_iff.mp hi
  obtain ⟨l2, e2⟩ := List.getElem?_eq_some_iff.mp hj
  exact (List.getElem_inj hn).mp (e1.trans e2.symm)
theorem px_ws_set {g : px_G} {ad : Nat → Nat} {h : px_H} {ks : List Nat} {i k : Nat} (hn : ks.Nodup) (hi : ks[i]? = some k) (c : px_C) : (px_ws g ad h ks).set i (ad k, px_e g.2.1 ad c) = px_ws g ad (px_up h k c) ks := by
  apply List.ext_getElem?
  intro j
  unfold px_ws
  by_cases hj : j = i
  · subst hj
    have hl := (List.getElem?_eq_some_iff.mp hi).1
    rw [List.getElem?_set_self (by rw [List.length_map]; exact hl), List.getElem?_map, hi]
    show _ = some (px_f g.2.1 ad (px_up h k c) k)
    rw [px_f_of px_up_self]
  · rw [List.getElem?_set_ne (Ne.symm hj), List.getElem?_map, List.getElem?_map]
    cases hk : ks[j]? with
    | none => rfl
    | some k2 =>
      have hne : k2 ≠ k := fun e => hj (px_nd hn (e ▸ hk) hi)
      show some (px_f g.2.1 ad h k2) = some (px_f g.2.1 ad (px_up h k c) k2)
      unfold px_f
      rw [px_up_ne hne]
theorem px_mem_up {h : px_H} {k : Nat} {c c0 : px_C} (hk : h k = some c0) (j : Nat) : px_up h k c j ≠ none ↔ h j ≠ none := by
  by_cases e : j = k
  · subst e
    rw [px_up_self, hk]
    simp
  · rw [px_up_ne e]
theorem px_R.pos {g : px_G} {ad : Nat → Nat} {h : px_H} {ks : List Nat} (hm : ∀ k, k ∈ ks ↔ px_S ≤ k ∧ h k ≠ none) {k : Nat} {c : px_C} (hs : px_S ≤ k) (hk : h k = some c) : ∃ i : Nat, ks[i]? = some k ∧ (px_ws g ad h ks)[i]? = some (ad k, px_e g.2.1 ad c) := by
  obtain ⟨i, hi⟩ := List.getElem?_of_mem ((hm k).mpr ⟨hs, by rw [hk]; simp⟩)
  exact ⟨i, hi, px_ws_at hi hk⟩
/-- a cell's new contents -/
theorem px_R.put {g : px_G} {ad : Nat → Nat} {h : px_H} {ks : List Nat} {H1 : Heap} {i k : Nat} {c c0 : px_C} (hn : ks.Nodup) (hm : ∀ k, k ∈ ks ↔ px_S ≤ k ∧ h k ≠ none) (hi : ks[i]? = some k) (hk : h k = some c0)
    (hP : va_P g.1 px_cl ((px_ws g ad h ks).set i (ad k, px_e g.2.1 ad c)) H1) (hD : va_D (px_A g) ((px_ws g ad h ks).set i (ad k, px_e g.2.1 ad c))) : px_R g ad (px_up h k c) H1 := by
  rw [px_ws_set hn hi] at hP hD
  exact ⟨ks, hn, fun j => by rw [hm j, px_mem_up hk], hP, hD⟩
theorem px_v_congr {ad ad' : Nat → Nat} {v : Value} (h : ∀ k, v = .ref k → ad' k = ad k) : px_v ad' v = px_v ad v := by
  cases v with
  | ref k => show Value.ref (ad' k) = Value.ref (ad k); rw [h k rfl]
  | _ => rfl
theorem px_vs_congr {ad ad' : Nat → Nat} {vs : List Value} (h : ∀ k, Value.ref k ∈ vs → ad' k = ad k) : vs.map (px_v ad') = vs.map (px_v ad) := by
  apply List.map_congr_left
  intro v hv
  exact px_v_congr fun k e => h k (e ▸ hv)
theorem px_e_congr {aT : Nat → ClassId} {ad ad' : Nat → Nat} {h : px_H} {j : Nat} {c : px_C} (ho : px_okc h j c) (hh : ∀ k, h k ≠ none → (k % 64 = 0 ∨ ∃ (fs : List Value) (ci i : Nat), c = .inr (ci, fs) ∧ fs[i]? = some (Value.ref k)) → ad' k = ad k) : px_e aT ad' c = px_e aT ad c := by
  rcases c with ⟨t, n, f | f | f | f | f⟩ | ⟨ci, fs⟩
  · rfl
  · rfl
  · rfl
  · rfl
  · show Sum.inl (aT t, n, _) = Sum.inl (aT t, n, _)
    congr 4
    simp only [Sum.inr.injEq]
    funext q
    cases hf : f q with
    | none => rfl
    | some k =>
      have := ho q k hf
      show some (ad' k) = some (ad k)
      rw [hh k this.1 (Or.inl this.2)]
  · show Sum.inr (ci, fs.map (px_v ad')) = Sum.inr (ci, fs.map (px_v ad))
    congr 2
    apply px_vs_congr
    intro k hk
    obtain ⟨i, hi⟩ := List.getElem?_of_mem hk
    exact hh k (ho.2.2 i k hi).1 (Or.inr ⟨fs, ci, i, rfl, hi⟩)
def px_ad (ad : Nat → Nat) (k q : Nat) : Nat → Nat := fun j => if j = k then q else ad j
theorem px_ad_self {ad : Nat → Nat} {k q : Nat} : px_ad ad k q k = q := if_pos rfl
theorem px_ad_ne {ad : Nat → Nat} {k q j : Nat} (h : j ≠ k) : px_ad ad k q j = ad j := if_neg h
theorem px_ws_new {g : px_G} {ad : Nat → Nat} {h : px_H} {ks : List Nat} {k q : Nat} {c : px_C} (ht : px_ty h) (hm : ∀ k, k ∈ ks ↔ px_S ≤ k ∧ h k ≠ none) (hk : h k = none) : px_ws g (px_ad ad k q) (px_up h k c) (ks ++ [k]) = px_ws g ad h ks ++ [(q, px_e g.2.1 (px_ad ad k q) c)] := by
  unfold px_ws
  rw [List.map_append]
  congr 1
  · apply List.map_congr_left
    intro j hj
    have h1 := ((hm j).mp hj).2
    have hne : j ≠ k := fun e => h1 (e ▸ hk)
    obtain ⟨c1, hc1⟩ := Option.ne_none_iff_exists'.mp h1
    rw [px_f_of (c := c1) (by rw [px_up_ne hne]; exact hc1), px_f_of hc1, px_ad_ne hne]
    congr 1
    refine px_e_congr (ht j c1 hc1) ?_
    intro k2 h2 _
    exact px_ad_ne fun e => h2 (e ▸ hk)
  · show [px_f g.2.1 (px_ad ad k q) (px_up h k c) k] = _
    rw [px_f_of px_up_self, px_ad_self]
/-- a new cell, under a key of our choice -/
theorem px_R.new {g : px_G} {ad : Nat → Nat} {h : px_H} {ks : List Nat} {H1 : Heap} {k q : Nat} {c : px_C} (hn : ks.Nodup) (hm : ∀ k, k ∈ ks ↔ px_S ≤ k ∧ h k ≠ none) (ht : px_ty h) (hs : px_S ≤ k) (hk : h k = none)
    (hP : va_P g.1 px_cl (px_ws g ad h ks ++ [(q, px_e g.2.1 (px_ad ad k q) c)]) H1) (hD : va_D (px_A g) (px_ws g ad h ks ++ [(q, px_e g.2.1 (px_ad ad k q) c)])) : px_R g (px_ad ad k q) (px_up h k c) H1 := by
  rw [← px_ws_new ht hm hk] at hP hD
  refine ⟨ks ++ [k], ?_, fun j => ?_, hP, hD⟩
  · rw [List.nodup_append]
    refine ⟨hn, by simp, ?_⟩
    intro a ha b hb
    rw [List.mem_singleton.mp hb]
    intro e
    exact ((hm a).mp ha).2 (e ▸ hk)
  · rw [List.mem_append, hm j, List.mem_singleton]
    by_cases e : j = k
    · subst e
      rw [px_up_self]
      simp [hs]
    · rw [px_up_ne e]
      simp [e]
