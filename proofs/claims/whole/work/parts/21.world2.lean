theorem px_okc_mono {h h' : px_H} (hh : ∀ k, h k ≠ none → h' k ≠ none) {j : Nat} {c : px_C} (ho : px_okc h j c) : px_okc h' j c := by
  rcases c with ⟨t, n, f | f | f | f | f⟩ | ⟨ci, fs⟩
  · trivial
  · trivial
  · trivial
  · trivial
  · exact fun i k e => ⟨hh k (ho i k e).1, (ho i k e).2⟩
  · exact ⟨ho.1, ho.2.1, fun i k e => ⟨hh k (ho.2.2 i k e).1, (ho.2.2 i k e).2⟩⟩
theorem px_up_some {h : px_H} {k : Nat} {c : px_C} {j : Nat} (hj : h j ≠ none) : px_up h k c j ≠ none := by
  by_cases e : j = k
  · subst e; rw [px_up_self]; simp
  · rw [px_up_ne e]; exact hj
theorem px_ty.up {h : px_H} {j : Nat} {c : px_C} (ht : px_ty h) (ho : px_okc (px_up h j c) j c) : px_ty (px_up h j c) := by
  intro j2 c2 h2
  by_cases e : j2 = j
  · subst e
    rw [px_up_self] at h2
    cases h2
    exact ho
  · rw [px_up_ne e] at h2
    exact px_okc_mono (fun k hk => px_up_some hk) (ht j2 c2 h2)
theorem px_ty.fld {h : px_H} {j ci i : Nat} {fs : List Value} {v : Value} (ht : px_ty h) (hj : h j = some (.inr (ci, fs))) (hv : ∀ k, v = .ref k → h k ≠ none ∧ (k % 64 = 0 ∨ k = j + 1 + i)) : px_ty (px_up h j (.inr (ci, fs.set i v))) := by
  have h0 := ht j _ hj
  refine ht.up ⟨h0.1, by rw [List.length_set]; exact h0.2.1, fun i2 k e => ?_⟩
  by_cases e2 : i2 = i
  · subst e2
    have hl : i2 < fs.length := by
      have := (List.getElem?_eq_some_iff.mp e).1
      rwa [List.length_set] at this
    rw [List.getElem?_set_self hl] at e
    have := hv k (Option.some.inj e)
    exact ⟨px_up_some this.1, this.2⟩
  · rw [List.getElem?_set_ne (Ne.symm e2)] at e
    have := h0.2.2 i2 k e
    exact ⟨px_up_some this.1, this.2⟩
theorem px_Mo.rf {nr : Bool} {h : px_H} {ad : Nat → Nat} : px_Mo nr h ad h ad := ⟨fun _ _ => ⟨rfl, rfl⟩, fun _ h _ => ⟨h, rfl⟩⟩
theorem px_Mo.up {nr : Bool} {h0 h : px_H} {ad0 ad : Nat → Nat} {k : Nat} {c : px_C} (m : px_Mo nr h0 ad0 h ad) (hs : px_S ≤ k) : px_Mo nr h0 ad0 (px_up h k c) ad :=
  ⟨fun j hj => ⟨by rw [px_up_ne (by omega)]; exact (m.1 j hj).1, (m.1 j hj).2⟩, fun j hj hc => ⟨px_up_some (m.2 j hj hc).1, (m.2 j hj hc).2⟩⟩
theorem px_Mo.new {nr : Bool} {h0 h : px_H} {ad0 ad : Nat → Nat} {k q : Nat} {c : px_C} (m : px_Mo nr h0 ad0 h ad) (hs : px_S ≤ k) (hk : h k = none) : px_Mo nr h0 ad0 (px_up h k c) (px_ad ad k q) :=
  ⟨fun j hj => ⟨by rw [px_up_ne (by omega)]; exact (m.1 j hj).1, by rw [px_ad_ne (by omega)]; exact (m.1 j hj).2⟩, fun j hj hc => ⟨px_up_some (m.2 j hj hc).1, (px_ad_ne (show j ≠ k from fun e => (m.2 j hj hc).1 (by rw [e]; exact hk))).trans (m.2 j hj hc).2⟩⟩
theorem px_St.eq {g : px_G} {h h' : px_H} {ad ad' : Nat → Nat} {U : State} (m : px_St g ad h U) (hh : ∀ k, k < px_S → h' k = h k ∧ ad' k = ad k) : px_St g ad' h' U := by
  refine ⟨fun z hz => ?_, fun k hk c e => ?_⟩
  · rw [(hh _ (px_zs_lt z hz)).2, (hh _ (px_zs_lt z hz)).1]
    exact m.1 z hz
  · rw [(hh k hk).2]
    rw [(hh k hk).1] at e
    exact m.2 k hk c e
theorem px_St.up {g : px_G} {h : px_H} {ad : Nat → Nat} {U : State} {k : Nat} {c : px_C} (m : px_St g ad h U) (hs : px_S ≤ k) : px_St g ad (px_up h k c) U := m.eq fun j hj => ⟨px_up_ne (by omega), rfl⟩
theorem px_St.new {g : px_G} {h : px_H} {ad : Nat → Nat} {U : State} {k q : Nat} {c : px_C} (m : px_St g ad h U) (hs : px_S ≤ k) : px_St g (px_ad ad k q) (px_up h k c) U := m.eq fun j hj => ⟨px_up_ne (by omega), px_ad_ne (by omega)⟩
theorem px_cv.up {h : px_H} {vs : List Value} {k : Nat} {c : px_C} (m : px_cv h vs) : px_cv (px_up h k c) vs := fun j hj => px_up_some (m j hj)
theorem px_cv.sub {h : px_H} {vs vs' : List Value} (m : px_cv h vs) (hs : ∀ k, Value.ref k ∈ vs' → Value.ref k ∈ vs) : px_cv h vs' := fun j hj => m j (hs j hj)
theorem px_St.to {g : px_G} {ad : Nat → Nat} {h : px_H} {s U : State} (m : px_St g ad h s) (hvm : s.vm.Alike U.vm) (hS : ∀ q : Nat, q < s.heap.size → ¬ px_A g q → U.heap[q]? = s.heap[q]?) : px_St g ad h U :=
  ⟨fun z hz => ⟨(m.1 z hz).1, ((m.1 z hz).2.kept hS).moved hvm⟩, fun k hk c e => by
    obtain ⟨N, f, e1, e2⟩ := m.2 k hk c e
    exact ⟨N, f, e1, (e2.kept hS).moved hvm⟩⟩
/-- a moving cell's new place: the cell under t comes to stand under rk; field i of b named t, and names rk now -/
theorem px_R.move {g : px_G} {ad : Nat → Nat} {h : px_H} {H : Heap} {b ci i rk t : Nat} {fs : List Value} {c : px_C} (ht : px_ty h) (hb : h b = some (.inr (ci, fs))) (hbS : px_S ≤ b) (hi : fs[i]? = some (.ref rk)) (hrk : rk = b + 1 + i) (hrS : px_S ≤ rk) (htS : px_S ≤ t) (hrn : h rk ≠ none) (htc : h t = some c) (htm : t % 64 ≠ 0) (hto : h (t - t % 64) = none) (hc : ∀ ad', px_e g.2.1 ad' c = px_e g.2.1 ad c)
    (hR : px_R g ad (px_up h b (.inr (ci, fs.set i (.ref t)))) H) : px_R g (px_ad ad rk (ad t)) (px_rm (px_up h rk c) t) H := by
  obtain ⟨ks, hn, hm, hP, hD⟩ := hR
  have hob := ht b _ hb
  have hil : i < fs.length := (List.getElem?_eq_some_iff.mp hi).1
  have hil63 : i < 63 := Nat.lt_of_lt_of_le hil hob.2.1
  have hb0 : b % 64 = 0 := hob.1
  have hrm : rk % 64 ≠ 0 := by omega
  have hbt : b ≠ t := fun e => htm (e ▸ hb0)
  have hbr : b ≠ rk := by omega
  have htr : t ≠ rk := by
    intro e
    have : t - t % 64 = b := by omega
    rw [this, hb] at hto
    cases hto
  have dom : ∀ k, px_up h b (.inr (ci, fs.set i (.ref t))) k ≠ none ↔ h k ≠ none := fun k => px_mem_up hb k
  have dom2 : ∀ k, px_rm (px_up h rk c) t k ≠ none ↔ (k ≠ t ∧ h k ≠ none) := by
    intro k
    by_cases e : k = t
    · subst e; rw [px_rm_self]; simp
    · rw [px_rm_ne e]
      by_cases e2 : k = rk
      · subst e2; rw [px_up_self]; simp [e, hrn]
      · rw [px_up_ne e2]; simp [e]
  -- which old entry a new one is
  have old : ∀ k, k ∈ ks → k ≠ t → px_f g.2.1 (px_ad ad rk (ad t)) (px_rm (px_up h rk c) t) k = px_f g.2.1 ad (px_up h b (.inr (ci, fs.set i (.ref t)))) (if k = rk then t else k) := by
    intro k hk hkt
    have hkn : h k ≠ none := (dom k).mp ((hm k).mp hk).2
    by_cases e : k = rk
    · subst e
      rw [if_pos rfl, px_f_of (c := c) (by rw [px_rm_ne hkt, px_up_self]), px_f_of (c := c) (by rw [px_up_ne (Ne.symm hbt)]; exact htc), px_ad_self, hc]
    · rw [if_neg e]
      by_cases e2 : k = b
      · subst e2
        rw [px_f_of (c := .inr (ci, fs)) (by rw [px_rm_ne hkt, px_up_ne e]; exact hb), px_f_of (c := .inr (ci, fs.set i (.ref t))) px_up_self, px_ad_ne e]
        show (ad k, Sum.inr (ci, _)) = (ad k, Sum.inr (ci, _))
        congr 3
        apply List.ext_getElem?
        intro i2
        rw [List.getElem?_map, List.getElem?_map]
        by_cases e3 : i2 = i
        · subst e3
          rw [List.getElem?_set_self hil, hi]
          show some (Value.ref (px_ad ad rk (ad t) rk)) = some (Value.ref (ad t))
          rw [px_ad_self]
        · rw [List.getElem?_set_ne (Ne.symm e3)]
          cases hf : fs[i2]? with
          | none => rfl
          | some v =>
            show some (px_v (px_ad ad rk (ad t)) v) = some (px_v ad v)
            rw [px_v_congr fun k3 e4 => px_ad_ne fun e5 => ?_]
            have := hob.2.2 i2 k3 (by rw [hf, e4])
            omega
      · obtain ⟨c1, hc1⟩ := Option.ne_none_iff_exists'.mp hkn
        rw [px_f_of (c := c1) (by rw [px_rm_ne hkt, px_up_ne e]; exact hc1), px_f_of (c := c1) (by rw [px_up_ne e2]; exact hc1), px_ad_ne e]
        congr 1
        refine px_e_congr (ht k c1 hc1) ?_
        intro k3 h3 hor
        refine px_ad_ne fun e5 => ?_
        rcases hor with h0 | ⟨fs3, ci3, i3, rfl, h3f⟩
        · omega
        · have hok := ht k _ hc1
          have h5 := hok.2.2 i3 k3 h3f
          have hl3 : i3 < fs3.length := (List.getElem?_eq_some_iff.mp h3f).1
          have h6 := hok.1
          have h7 := hok.2.1
          omega
  have tin : t ∈ ks := (hm t).mpr ⟨htS, (dom t).mpr (by rw [htc]; simp)⟩
  refine ⟨ks.filter (fun k => decide (k ≠ t)), hn.filter _, fun k => ?_, ?_, ?_⟩
  · rw [List.mem_filter, hm k, dom k, dom2 k]
    simp only [decide_eq_true_eq]
    exact ⟨fun ⟨⟨a1, a2⟩, a3⟩ => ⟨a1, a3, a2⟩, fun ⟨a1, a3, a2⟩ => ⟨⟨a1, a2⟩, a3⟩⟩
  · intro j q hj
    unfold px_ws at hj
    rw [List.getElem?_map] at hj
    cases hk : (ks.filter (fun k => decide (k ≠ t)))[j]? with
    | none => rw [hk] at hj; cases hj
    | some k =>
      rw [hk] at hj
      have hmem := List.mem_filter.mp (List.mem_of_getElem? hk)
      have hkt : k ≠ t := by simpa using hmem.2
      have e := old k hmem.1 hkt
      have hq : px_f g.2.1 (px_ad ad rk (ad t)) (px_rm (px_up h rk c) t) k = q := Option.some.inj hj
      rw [e] at hq
      have hin : (if k = rk then t else k) ∈ ks := by
        by_cases e2 : k = rk
        · rw [if_pos e2]; exact tin
        · rw [if_neg e2]; exact hmem.1
      obtain ⟨j2, hj2⟩ := List.getElem?_of_mem hin
      refine hP j2 q ?_
      unfold px_ws
      rw [List.getElem?_map, hj2, ← hq]
      rfl
  · have at' : ∀ (j : Nat) (q : Nat × va_E), (px_ws g (px_ad ad rk (ad t)) (px_rm (px_up h rk c) t) (ks.filter (fun k => decide (k ≠ t))))[j]? = some q → ∃ (k j2 : Nat), (ks.filter (fun k => decide (k ≠ t)))[j]? = some k ∧ k ≠ t ∧ ks[j2]? = some (if k = rk then t else k) ∧ (px_ws g ad (px_up h b (.inr (ci, fs.set i (.ref t)))) ks)[j2]? = some q := by
      intro j q hj
      unfold px_ws at hj
      rw [List.getElem?_map] at hj
      cases hk : (ks.filter (fun k => decide (k ≠ t)))[j]? with
      | none => rw [hk] at hj; cases hj
      | some k =>
        rw [hk] at hj
        have hmem := List.mem_filter.mp (List.mem_of_getElem? hk)
        have hkt : k ≠ t := by simpa using hmem.2
        have e := old k hmem.1 hkt
        have hq : px_f g.2.1 (px_ad ad rk (ad t)) (px_rm (px_up h rk c) t) k = q := Option.some.inj hj
        rw [e] at hq
        have hin : (if k = rk then t else k) ∈ ks := by
          by_cases e2 : k = rk
          · rw [if_pos e2]; exact tin
          · rw [if_neg e2]; exact hmem.1
        obtain ⟨j2, hj2⟩ := List.getElem?_of_mem hin
        refine ⟨k, j2, rfl, hkt, hj2, ?_⟩
        unfold px_ws
        rw [List.getElem?_map, hj2, ← hq]
        rfl
    refine ⟨fun j1 j2 q1 q2 h1 h2 he => ?_, fun j q hj => ?_⟩
    · obtain ⟨k1, a1, b1, n1, c1, d1⟩ := at' j1 q1 h1
      obtain ⟨k2, a2, b2, n2, c2, d2⟩ := at' j2 q2 h2
      have hh := hD.1 a1 a2 q1 q2 d1 d2 he
      subst hh
      have e1 : (if k1 = rk then t else k1) = (if k2 = rk then t else k2) := Option.some.inj (c1.symm.trans c2)
      have e2 : k1 = k2 := by
        by_cases x1 : k1 = rk
        · by_cases x2 : k2 = rk
          · rw [x1, x2]
          · rw [if_pos x1, if_neg x2] at e1
            exact absurd e1.symm n2
        · by_cases x2 : k2 = rk
          · rw [if_neg x1, if_pos x2] at e1
            exact absurd e1 n1
          · rw [if_neg x1, if_neg x2] at e1
            exact e1
      subst e2
      exact px_nd (hn.filter _) b1 b2
    · obtain ⟨k1, a1, b1, n1, c1, d1⟩ := at' j q hj
      exact hD.2 a1 q d1
theorem px_ty.move {h : px_H} {b ci i rk t : Nat} {fs : List Value} {c : px_C} (ht : px_ty h) (hb : h b = some (.inr (ci, fs))) (hi : fs[i]? = some (.ref rk)) (hrk : rk = b + 1 + i) (htm : t % 64 ≠ 0) (hto : h (t - t % 64) = none) (hc : ∀ h' j, px_okc h' j c) : px_ty (px_rm (px_up h rk c) t) := by
  have hob := ht b _ hb
  intro j c1 hj
  by_cases e : j = t
  · subst e; rw [px_rm_self] at hj; cases hj
  · rw [px_rm_ne e] at hj
    by_cases e2 : j = rk
    · subst e2; rw [px_up_self] at hj; cases hj; exact hc _ _
    · rw [px_up_ne e2] at hj
      have ho := ht j c1 hj
      have dom : ∀ k, h k ≠ none → k ≠ t → px_rm (px_up h rk c) t k ≠ none := by
        intro k hk hkt
        rw [px_rm_ne hkt]
        exact px_up_some hk
      rcases c1 with ⟨t1, n, f | f | f | f | f⟩ | ⟨ci1, fs1⟩
      · trivial
      · trivial
      · trivial
      · trivial
      · intro i1 k hk
        have := ho i1 k hk
        exact ⟨dom k this.1 (fun e3 => htm (e3 ▸ this.2)), this.2⟩
      · refine ⟨ho.1, ho.2.1, fun i1 k hk => ?_⟩
        have h1 := ho.2.2 i1 k hk
        refine ⟨dom k h1.1 (fun e3 => ?_), h1.2⟩
        subst e3
        rcases h1.2 with h2 | h2
        · exact htm h2
        · have hl3 : i1 < fs1.length := (List.getElem?_eq_some_iff.mp hk).1
          have h7 := ho.2.1
          have h6 := ho.1
          have : k - k % 64 = j := by omega
          rw [this, hj] at hto
          cases hto
