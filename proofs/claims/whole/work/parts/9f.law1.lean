/-! ImageFileLaw: the law -/
theorem Mdw.fr {h h' : px_H} {I J : Im} {c : Nat} {B : Nat → Nat} {pl : Int32} (X : Mdw h I J c B pl) (hf : px_fr IFk h h') : Mdw h' I J c B pl := by
  obtain ⟨ft, fa, fm, fc, fb, fk, fe, fp, ff, fr, fg, tb, rw, sm, M, r⟩ := X
  have e : ∀ j, 2560 ≤ j → h' j = h j := fun j hj => hf j (fun z => by unfold IFk at z; omega)
  exact ⟨ft, fa, fm, fc, fb, fk, fe, fp, ff, fr, fg, tb, rw, sm, ⟨(e _ (by omega)).trans M.o, (e _ (by omega)).trans M.t, (e _ (by omega)).trans M.a, (e _ (by omega)).trans M.m, (e _ (by omega)).trans M.c, (e _ (by omega)).trans M.b, (e _ (by omega)).trans M.k, (e _ (by omega)).trans M.e, (e _ (by omega)).trans M.p, (e _ (by omega)).trans M.f, (e _ (by omega)).trans M.r, (e _ (by omega)).trans M.g⟩, r⟩
theorem IFw.frm {h h' : px_H} {nM nS nD : Nat → Nat} {nF : Nat} {I J : Im} {c : Nat} {B : Nat → Nat} {pl : Int32} (X : IFw h I J c B pl nM nS nD nF) (hf : px_fr MDk h h') : IFw h' I J c B pl nM nS nD nF := by
  obtain ⟨ht, HS, h0, HM, HJ, F, ⟨nb, rw, bg, W⟩, ⟨tb, rw', nr, nb', nl, R⟩, ⟨g, hg⟩, ⟨D, HD⟩, p1, p2⟩ := X
  have e : ∀ j, j < 2560 → h' j = h j := fun j hj => hf j (fun z => by unfold MDk at z; omega)
  have ht' : px_top h' := ht.fr hf (fun j hj => by unfold MDk at hj; omega)
  have HS' : Stc h' := HS.fr hf (fun j hj => by unfold MDk at hj; omega)
  have HM' := HM.fr hf (fun j hj => by unfold imQ at hj; unfold MDk; omega)
  obtain ⟨-, -, w1, ⟨gw, w2, w3⟩, -⟩ := W
  exact ⟨ht', HS', (e _ (by omega)).trans h0, HM', HJ.fr hf (fun j hj => by unfold imQ at hj; unfold MDk; omega), F.fr hf (by unfold MDk; omega) (by unfold MDk; omega), ⟨nb, rw, bg, ht', HS', (e _ (by omega)).trans w1, ⟨gw, (e _ (by omega)).trans w2, w3⟩, HM'⟩, ⟨tb, rw', nr, nb', nl, (e _ (by omega)).trans R⟩, ⟨g, (e _ (by omega)).trans hg⟩, ⟨D, HD.fr hf (fun j hj => by unfold imQ at hj; unfold MDk; omega)⟩, p1, p2⟩
theorem reJ_mk {c : Nat} {B : Nat → Nat} {J : Im} (hm : imMk J) (hb : ∀ j, j < c → B j < 256) : imMk (reJ c B J) := by
  unfold reJ
  cases e : exF c B with
  | some x => exact hm
  | none =>
    unfold exF at e
    obtain ⟨e1, e⟩ := or_no e
    obtain ⟨e2, e⟩ := or_no e
    obtain ⟨e3, e⟩ := or_no e
    obtain ⟨e4, e⟩ := or_no e
    obtain ⟨e5, e⟩ := or_no e
    have KT : Tok c B (rU4 B 28) (rU2 B 44) (exT c B) := tbF_ok (by omega) (fun s p hs hp => by cases hp) e3
    obtain ⟨⟨p0, h0⟩, hC, hC2⟩ := meF_w e4
    obtain ⟨p3, h3, hL⟩ := noF_p e5
    rw [rwv_some h0] at hC hC2
    exact (mk_in KT hb h0 h3 hC hC2 e5).1
def LwW (h : px_H) (I J : Im) (c : Nat) (B : Nat → Nat) (pl : Int32) (nM nS nD : Nat → Nat) (nF n : Nat) (f : Nat → Int32) : Prop := IFw h I J c B pl nM nS nD nF ∧ Mdw h I J c B pl ∧ imMk J ∧ h 384 = some (.inl (px_tS, n, .inl f))
def lwK (nM nS nD : Nat → Nat) (nF : Nat) : px_K := fun r _ mc ms => r = some (.int 1) ∧ mc + Ps nM nS nD nF ≤ 159744 ∧ ms + Ps nM nS nD nF ≤ 159744
theorem Phi_le {h : px_H} {i : Nat} {ns : Nat → Nat} {I : Im} (H : ImA h i ns I) : Phi ns ≤ 36864 := by
  have q : ∀ s, s < 3 → ns s ≤ 4096 := fun s hs => (H.sg hs).2.2.1.2.2.2.1
  have := phi_le (q 0 (by omega))
  have := phi_le (q 1 (by omega))
  have := phi_le (q 2 (by omega))
  unfold Phi
  omega
theorem IFw.ps {h : px_H} {nM nS nD : Nat → Nat} {nF : Nat} {I J : Im} {c : Nat} {B : Nat → Nat} {pl : Int32} (X : IFw h I J c B pl nM nS nD nF) : Ps nM nS nD nF ≤ 159744 := by
  obtain ⟨D, HD⟩ := X.2.2.2.2.2.2.2.2.2.1
  have a1 := Phi_le X.2.2.2.1
  have a2 := Phi_le X.2.2.2.2.1
  have a3 := Phi_le HD
  have a4 := phi_le (X.2.2.2.2.2.1.2.2.2.1)
  unfold Ps
  omega
