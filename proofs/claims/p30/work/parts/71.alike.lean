/-! ===== alike: charges and kilns, where it counts ===== -/
def cEq (x y : CV) : Prop := (∀ k, k < 6 → x.1 k = y.1 k) ∧ (∀ k, k < 4 → x.2.1 k = y.2.1 k) ∧ ∀ k, k < 6 → x.2.2 k = y.2.2 k
def cEqP (x y : CV) : Prop := x.1 0 = y.1 0 ∧ (¬ x.1 0 = 0 → cEq x y)
theorem cEq_rf {x : CV} : cEq x x := ⟨fun _ _ => rfl, fun _ _ => rfl, fun _ _ => rfl⟩
theorem cEq_sy {x y : CV} (h : cEq x y) : cEq y x := ⟨fun k hk => (h.1 k hk).symm, fun k hk => (h.2.1 k hk).symm, fun k hk => (h.2.2 k hk).symm⟩
theorem cEq_tr {x y z : CV} (h : cEq x y) (g : cEq y z) : cEq x z := ⟨fun k hk => (h.1 k hk).trans (g.1 k hk), fun k hk => (h.2.1 k hk).trans (g.2.1 k hk), fun k hk => (h.2.2 k hk).trans (g.2.2 k hk)⟩
theorem cEq_p {x y : CV} (h : cEq x y) : cEqP x y := ⟨h.1 0 (by decide), fun _ => h⟩
theorem cEqP_rf {x : CV} : cEqP x x := cEq_p cEq_rf
theorem cEqP_sy {x y : CV} (h : cEqP x y) : cEqP y x := ⟨h.1.symm, fun q => cEq_sy (h.2 (fun z => q (h.1.symm.trans z)))⟩
theorem cEqP_tr {x y z : CV} (h : cEqP x y) (g : cEqP y z) : cEqP x z := ⟨h.1.trans g.1, fun q => cEq_tr (h.2 q) (g.2 (fun w => q (h.1.trans w)))⟩
theorem mel_c {f g : Nat → Int32} (h : ∀ k, k < 4 → f k = g k) : mxMelt f = mxMelt g := by
  unfold mxMelt
  rw [h 2 (by decide), h 3 (by decide)]
theorem mixR_c {f g : Nat → Int32} (h : ∀ k, k < 4 → f k = g k) : mxSat f = mxSat g ∧ mxSil f = mxSil g ∧ mxAlu f = mxAlu g ∧ mxRight f = mxRight g := by
  have e1 : mxSat f = mxSat g := by
    unfold mxSat
    rw [h 0 (by decide), h 1 (by decide), h 2 (by decide), h 3 (by decide)]
  have e2 : mxSil f = mxSil g := by
    unfold mxSil
    rw [h 1 (by decide), mel_c h]
  have e3 : mxAlu f = mxAlu g := by
    unfold mxAlu
    rw [h 2 (by decide), h 3 (by decide)]
  refine ⟨e1, e2, e3, ?_⟩
  unfold mxRight
  rw [e1, e2, e3]
theorem chCopy_e (y x : CV) : cEq (chCopy y x) x := by
  refine ⟨fun k hk => ?_, fun k hk => ?_, fun k hk => ?_⟩
  · match k, hk with
    | 0, _ => rfl
    | 1, _ => rfl
    | 2, _ => rfl
    | 3, _ => rfl
    | 4, _ => rfl
    | 5, _ => rfl
  · match k, hk with
    | 0, _ => rfl
    | 1, _ => rfl
    | 2, _ => rfl
    | 3, _ => rfl
  · match k, hk with
    | 0, _ => rfl
    | 1, _ => rfl
    | 2, _ => rfl
    | 3, _ => rfl
    | 4, _ => rfl
    | 5, _ => rfl
theorem chBurn_c {w : Int32} {x y : CV} (h : cEq x y) : cEq (chBurn w x) (chBurn w y) := by
  obtain ⟨h1, h2, h3⟩ := h
  refine ⟨fun k hk => ?_, h2, h3⟩
  have e0 := h1 0 (by decide)
  have e1 := h1 1 (by decide)
  have e2 := h1 2 (by decide)
  have e3 := h1 3 (by decide)
  have e4 := h1 4 (by decide)
  have e5 := h1 5 (by decide)
  have em := mel_c h2
  unfold chBurn
  dsimp only
  rw [e0, e1, e2, e3, e4, e5, em]
theorem stC_c {w : Int32} {x y : CV} (h : cEqP x y) : cEqP (stC w x) (stC w y) := by
  unfold stC
  by_cases e : x.1 0 = 0
  · rw [if_pos e, if_pos (h.1.symm.trans e)]
    exact h
  · rw [if_neg e, if_neg (fun q => e (h.1.trans q))]
    exact cEq_p (chBurn_c (h.2 e))
theorem wmC_c {x y : CV} {a b : Int32} (h : cEqP x y) : wmCell x a b = wmCell y a b := by
  unfold wmCell
  by_cases e : x.1 0 = 0
  · rw [if_pos e, if_pos (h.1.symm.trans e)]
  · rw [if_neg e, if_neg (fun q => e (h.1.trans q)), (h.2 e).1 1 (by decide)]
theorem wm_eqs (v : Nat → CV) (w : Nat → Int32) (b : Int32) : wm0 v w b 4 = (w 4 + 3 * b) / 2 ∧ wm0 v w b 3 = wmCell (v 3) (w 3) (wm0 v w b 4) ∧ wm0 v w b 2 = wmCell (v 2) (w 2) (wm0 v w b 3) ∧ wm0 v w b 1 = wmCell (v 1) (w 1) (wm0 v w b 2) ∧ wm0 v w b 0 = wmCell (v 0) (w 0) (wm0 v w b 1) := by
  have k4 : wm0 v w b 4 = wm4 w b 4 := (pk_un (by decide)).trans ((pk_un (by decide)).trans ((pk_un (by decide)).trans (pk_un (by decide))))
  have k3 : wm0 v w b 3 = wm3 v w b 3 := (pk_un (by decide)).trans ((pk_un (by decide)).trans (pk_un (by decide)))
  have k2 : wm0 v w b 2 = wm2 v w b 2 := (pk_un (by decide)).trans (pk_un (by decide))
  have k1 : wm0 v w b 1 = wm1 v w b 1 := pk_un (by decide)
  have g3 : wm4 w b 3 = w 3 := pk_un (by decide)
  have g2 : wm3 v w b 2 = w 2 := (pk_un (by decide)).trans (pk_un (by decide))
  have g1 : wm2 v w b 1 = w 1 := (pk_un (by decide)).trans ((pk_un (by decide)).trans (pk_un (by decide)))
  have g0 : wm1 v w b 0 = w 0 := (pk_un (by decide)).trans ((pk_un (by decide)).trans ((pk_un (by decide)).trans (pk_un (by decide))))
  have h4 : wm4 w b 4 = (w 4 + 3 * b) / 2 := pk_us
  have h3 : wm3 v w b 3 = wmCell (v 3) (wm4 w b 3) (wm4 w b 4) := pk_us
  have h2 : wm2 v w b 2 = wmCell (v 2) (wm3 v w b 2) (wm3 v w b 3) := pk_us
  have h1 : wm1 v w b 1 = wmCell (v 1) (wm2 v w b 1) (wm2 v w b 2) := pk_us
  have h0 : wm0 v w b 0 = wmCell (v 0) (wm1 v w b 0) (wm1 v w b 1) := pk_us
  refine ⟨k4.trans h4, ?_, ?_, ?_, ?_⟩
  · rw [k3, h3, g3, k4]
  · rw [k2, h2, g2, k3]
  · rw [k1, h1, g1, k2]
  · rw [h0, g0, k1]
theorem wm_c {v v' : Nat → CV} {w w' : Nat → Int32} {b : Int32} (hv : ∀ k, k < 5 → cEqP (v k) (v' k)) (hw : ∀ k, k < 5 → w k = w' k) : ∀ k, k < 5 → wm0 v w b k = wm0 v' w' b k := by
  obtain ⟨a4, a3, a2, a1, a0⟩ := wm_eqs v w b
  obtain ⟨b4, b3, b2, b1, b0⟩ := wm_eqs v' w' b
  have e4 : wm0 v w b 4 = wm0 v' w' b 4 := by rw [a4, b4, hw 4 (by decide)]
  have e3 : wm0 v w b 3 = wm0 v' w' b 3 := by rw [a3, b3, e4, hw 3 (by decide), wmC_c (hv 3 (by decide))]
  have e2 : wm0 v w b 2 = wm0 v' w' b 2 := by rw [a2, b2, e3, hw 2 (by decide), wmC_c (hv 2 (by decide))]
  have e1 : wm0 v w b 1 = wm0 v' w' b 1 := by rw [a1, b1, e2, hw 1 (by decide), wmC_c (hv 1 (by decide))]
  have e0 : wm0 v w b 0 = wm0 v' w' b 0 := by rw [a0, b0, e1, hw 0 (by decide), wmC_c (hv 0 (by decide))]
  intro k hk
  match k, hk with
  | 0, _ => exact e0
  | 1, _ => exact e1
  | 2, _ => exact e2
  | 3, _ => exact e3
  | 4, _ => exact e4
theorem kcF_c {w w' : Nat → Int32} {v v' : Nat → CV} {N : Nat} {ca : Int32} (hw : ∀ k, k < N → w k = w' k) (hv : ∀ k, k < N → cEqP (v k) (v' k)) : ∀ t, t ≤ N → kcF w v ca t = kcF w' v' ca t
  | 0, _ => rfl
  | t + 1, ht => by
    show (if (v t).1 0 = 0 then kcF w v ca t else kcF w v ca t + bnA (w t) ((v t).1 1)) = if (v' t).1 0 = 0 then kcF w' v' ca t else kcF w' v' ca t + bnA (w' t) ((v' t).1 1)
    have e := hv t (by omega)
    rw [kcF_c hw hv t (by omega)]
    by_cases q : (v t).1 0 = 0
    · rw [if_pos q, if_pos (e.1.symm.trans q)]
    · rw [if_neg q, if_neg (fun z => q (e.1.trans z)), hw t (by omega), (e.2 q).1 1 (by decide)]
/-- two kilns alike -/
def kEq (S S' : KS) : Prop := (∀ k, k < 7 → S.1 k = S'.1 k) ∧ S.2.1 = S'.2.1 ∧ (∀ k, k < 5 → cEqP (S.2.2.1 k) (S'.2.2.1 k)) ∧ (∀ i, i < S.2.1 → cEq (S.2.2.2.1 i) (S'.2.2.2.1 i)) ∧ (∀ k, k < 5 → S.2.2.2.2.2 k = S'.2.2.2.2.2 k) ∧ S.2.1 ≤ 3
theorem kEq_rf {S : KS} (h : S.2.1 ≤ 3) : kEq S S := ⟨fun _ _ => rfl, rfl, fun _ _ => cEqP_rf, fun _ _ => cEq_rf, fun _ _ => rfl, h⟩
theorem kEq_sy {S S' : KS} (h : kEq S S') : kEq S' S := ⟨fun k hk => (h.1 k hk).symm, h.2.1.symm, fun k hk => cEqP_sy (h.2.2.1 k hk), fun i hi => cEq_sy (h.2.2.2.1 i (h.2.1.symm ▸ hi)), fun k hk => (h.2.2.2.2.1 k hk).symm, h.2.1 ▸ h.2.2.2.2.2⟩
theorem kEq_tr {S S' S2 : KS} (h : kEq S S') (g : kEq S' S2) : kEq S S2 := ⟨fun k hk => (h.1 k hk).trans (g.1 k hk), h.2.1.trans g.2.1, fun k hk => cEqP_tr (h.2.2.1 k hk) (g.2.2.1 k hk), fun i hi => cEq_tr (h.2.2.2.1 i hi) (g.2.2.2.1 i (h.2.1 ▸ hi)), fun k hk => (h.2.2.2.2.1 k hk).trans (g.2.2.2.2.1 k hk), h.2.2.2.2.2⟩
theorem sV1_c {S S' : KS} (h : kEq S S') : ∀ k, k < 5 → cEqP (sV1 S k) (sV1 S' k) := by
  obtain ⟨h1, h2, h3, h4, h5, h6⟩ := h
  intro k hk
  unfold sV1 kmV
  rw [← h1 2 (by decide)]
  by_cases r : S.1 2 < 6
  · rw [if_pos r, if_pos r]
    match k, hk with
    | 0, _ =>
      show cEqP (nwV S.2.1 S.2.2.2.1 S.2.2.2.2.1) (nwV S'.2.1 S'.2.2.2.1 S'.2.2.2.2.1)
      unfold nwV
      rw [← h2]
      by_cases n0 : S.2.1 = 0
      · rw [if_pos n0, if_pos n0]
        exact ⟨rfl, fun q => (q rfl).elim⟩
      · rw [if_neg n0, if_neg n0]
        exact cEq_p (h4 0 (by omega))
    | 1, _ => exact h3 0 (by decide)
    | 2, _ => exact h3 1 (by decide)
    | 3, _ => exact h3 2 (by decide)
    | 4, _ => exact h3 3 (by decide)
  · rw [if_neg r, if_neg r]
    exact h3 k hk
theorem sW1_c {S S' : KS} (h : kEq S S') : ∀ k, k < 5 → sW1 S k = sW1 S' k := by
  intro k hk
  unfold sW1
  rw [h.1 1 (by decide), h.1 0 (by decide)]
  exact wm_c (sV1_c h) h.2.2.2.2.1 k hk
theorem sV2_c {S S' : KS} (h : kEq S S') : ∀ k, k < 5 → cEqP (sV2 S k) (sV2 S' k) := by
  intro k hk
  have e : sV2 S k = stC (sW1 S k) (sV1 S k) := if_pos hk
  have e' : sV2 S' k = stC (sW1 S' k) (sV1 S' k) := if_pos hk
  rw [e, e', sW1_c h k hk]
  exact stC_c (sV1_c h k hk)
theorem sR1_c {S S' : KS} (h : kEq S S') : sR1 S = sR1 S' := by
  have h3 := sV2_c h 3 (by decide)
  unfold sR1
  rw [sW1_c h 3 (by decide), h.1 2 (by decide)]
  unfold kRing1
  by_cases e : (sV2 S 3).1 0 = 0
  · rw [if_pos e, if_pos (h3.1.symm.trans e)]
  · rw [if_neg e, if_neg (fun q => e (h3.1.trans q)), mel_c (h3.2 e).2.1]
theorem kEq_st {S S' : KS} (h : kEq S S') : kEq (kst S) (kst S') := by
  have hw := sW1_c h
  have hv := sV1_c h
  have h2v := sV2_c h
  have hr := sR1_c h
  obtain ⟨h1, h2, h3, h4, h5, h6⟩ := h
  have g0 := h1 0 (by decide)
  have g1 := h1 1 (by decide)
  have g2 := h1 2 (by decide)
  refine ⟨fun k hk => ?_, ?_, h2v, fun i hi => ?_, hw, ?_⟩
  · match k, hk with
    | 0, _ => exact g0
    | 1, _ => show kCoal (S.1 1) (S.1 0) = kCoal (S'.1 1) (S'.1 0); rw [g1, g0]
    | 2, _ => show kRing2 (sW1 S 3) (sR1 S) = kRing2 (sW1 S' 3) (sR1 S'); rw [hw 3 (by decide), hr]
    | 3, _ => show S.1 3 + 1 = S'.1 3 + 1; rw [h1 3 (by decide)]
    | 4, _ => show kFall (sW1 S 3) (sR1 S) (S.1 4) = kFall (sW1 S' 3) (sR1 S') (S'.1 4); rw [hw 3 (by decide), hr, h1 4 (by decide)]
    | 5, _ => show kmB (S.1 2) (S.1 5) = kmB (S'.1 2) (S'.1 5); rw [g2, h1 5 (by decide)]
    | 6, _ => show kcF (sW1 S) (sV1 S) (kCarb (S.1 1) (S.1 0) (S.1 6)) 5 = kcF (sW1 S') (sV1 S') (kCarb (S'.1 1) (S'.1 0) (S'.1 6)) 5; rw [g1, g0, h1 6 (by decide), kcF_c hw hv 5 (Nat.le_refl 5)]
  · show kmN (S.1 2) S.2.1 = kmN (S'.1 2) S'.2.1
    rw [g2, h2]
  · have hi2 : i < kmN (S.1 2) S.2.1 := hi
    show cEq (kmW (S.1 2) S.2.1 S.2.2.2.1 S.2.2.2.2.1 i) (kmW (S'.1 2) S'.2.1 S'.2.2.2.1 S'.2.2.2.2.1 i)
    unfold kmN at hi2
    unfold kmW nwW
    rw [← g2, ← h2]
    by_cases r : S.1 2 < 6
    · rw [if_pos r] at hi2
      have n0 : ¬ S.2.1 = 0 := by omega
      rw [if_pos r, if_pos r, if_neg n0, if_neg n0]
      have hh : i = 0 ∨ i = 1 := by omega
      rcases hh with rfl | rfl
      · exact h4 1 (by omega)
      · exact h4 2 (by omega)
    · rw [if_neg r] at hi2
      rw [if_neg r, if_neg r]
      exact h4 i hi2
  · show kmN (S.1 2) S.2.1 ≤ 3
    unfold kmN
    split <;> omega
theorem kmR_c {S S' : KS} (h : kEq S S') : kmR (S.1 2) S.2.2.1 = kmR (S'.1 2) S'.2.2.1 := by
  unfold kmR
  rw [h.1 2 (by decide), (h.2.2.1 4 (by decide)).1]
theorem kmY_c {S S' : KS} (h : kEq S S') (ho : ¬ kmR (S.1 2) S.2.2.1 = 0) : cEq (kst S).2.2.2.2.1 (kst S').2.2.2.2.1 := by
  show cEq (kmY (S.1 2) S.2.2.1 S.2.2.2.2.1) (kmY (S'.1 2) S'.2.2.1 S'.2.2.2.2.1)
  unfold kmR at ho
  unfold kmY
  rw [← h.1 2 (by decide)]
  by_cases r : S.1 2 < 6
  · rw [if_pos r] at ho
    rw [if_pos r, if_pos r]
    exact (h.2.2.1 4 (by decide)).2 ho
  · rw [if_neg r] at ho
    exact absurd rfl ho
theorem kEq_it {S S' : KS} (h : kEq S S') : ∀ t, kEq (kIt t S) (kIt t S')
  | 0 => h
  | t + 1 => kEq_st (kEq_it h t)
theorem faI_c {S S' : KS} (h : kEq S S') : ∀ t, faI S t = faI S' t
  | 0 => rfl
  | t + 1 => by
    show (if kmR ((kIt t S).1 2) (kIt t S).2.2.1 = 0 then faI S t else (kIt (t + 1) S).2.2.2.2.1.1 2) = if kmR ((kIt t S').1 2) (kIt t S').2.2.1 = 0 then faI S' t else (kIt (t + 1) S').2.2.2.2.1.1 2
    have e := kmR_c (kEq_it h t)
    by_cases q : kmR ((kIt t S).1 2) (kIt t S).2.2.1 = 0
    · rw [if_pos q, if_pos (e.symm.trans q)]
      exact faI_c h t
    · rw [if_neg q, if_neg (fun z => q (e.trans z))]
      exact (kmY_c (kEq_it h t) q).1 2 (by decide)
theorem wfI_c {S S' : KS} {fa : Int32} (h : kEq S S') : ∀ t, wfI S fa t = wfI S' fa t
  | 0 => rfl
  | t + 1 => by
    show (if wfI S fa t = 1 then (1 : Int32) else if fa < (kIt (t + 1) S).1 4 then 1 else 0) = if wfI S' fa t = 1 then (1 : Int32) else if fa < (kIt (t + 1) S').1 4 then 1 else 0
    rw [wfI_c h t, (kEq_it h (t + 1)).1 4 (by decide)]
/-- the kiln with another flame -/
def setF (f : Int32) (S : KS) : KS := (hv7 f (S.1 1) (S.1 2) (S.1 3) (S.1 4) (S.1 5) (S.1 6), S.2)
def setC (c : Int32) (S : KS) : KS := (hv7 (S.1 0) c (S.1 2) (S.1 3) (S.1 4) (S.1 5) (S.1 6), S.2)
theorem hv7_c {a b c d e f g a' b' c' d' e' f' g' : Int32} (h0 : a = a') (h1 : b = b') (h2 : c = c') (h3 : d = d') (h4 : e = e') (h5 : f = f') (h6 : g = g') : ∀ k, k < 7 → hv7 a b c d e f g k = hv7 a' b' c' d' e' f' g' k := by
  subst h0 h1 h2 h3 h4 h5 h6
  exact fun _ _ => rfl
theorem setF_c {S S' : KS} {f : Int32} (h : kEq S S') : kEq (setF f S) (setF f S') := ⟨hv7_c rfl (h.1 1 (by decide)) (h.1 2 (by decide)) (h.1 3 (by decide)) (h.1 4 (by decide)) (h.1 5 (by decide)) (h.1 6 (by decide)), h.2⟩
theorem setC_c {S S' : KS} {c : Int32} (h : kEq S S') : kEq (setC c S) (setC c S') := ⟨hv7_c (h.1 0 (by decide)) rfl (h.1 2 (by decide)) (h.1 3 (by decide)) (h.1 4 (by decide)) (h.1 5 (by decide)) (h.1 6 (by decide)), h.2⟩
/-- the kiln tried is the kiln with that flame -/
theorem trS_e {Z S : KS} {f : Int32} (hn : S.2.1 ≤ 3) : kEq (trS Z S f) (setF f S) := by
  refine ⟨fun _ _ => rfl, rfl, fun k _ => cEq_p (chCopy_e _ _), fun i _ => chCopy_e _ _, fun k hk => ?_, hn⟩
  match k, hk with
  | 0, _ => rfl
  | 1, _ => rfl
  | 2, _ => rfl
  | 3, _ => rfl
  | 4, _ => rfl
theorem trS_c {Z Z' S S' : KS} {f : Int32} (h : kEq S S') : kEq (trS Z S f) (trS Z' S' f) := kEq_tr (trS_e h.2.2.2.2.2) (kEq_tr (setF_c h) (kEq_sy (trS_e (h.2.1 ▸ h.2.2.2.2.2))))
theorem wfE_c {S S' : KS} {k i : Nat} {x y : Int32} (h : kEq S S') (a : wfE S k i x) (b : wfE S' k i y) : x = y := by
  obtain ⟨Z, -, rfl⟩ := a
  obtain ⟨Z', -, rfl⟩ := b
  rw [h.1 4 (by decide)]
  exact wfI_c (trS_c h) k
theorem lfR_c {S S' : KS} {k : Nat} {x y : Int32} (h : kEq S S') (a : lfR S k x) (b : lfR S' k y) : x = y := by
  have g2 := h.1 2 (by decide)
  rcases a with ⟨a1, rfl⟩ | ⟨a1, a⟩
  · rcases b with ⟨b1, rfl⟩ | ⟨b1, b⟩
    · rfl
    · exact absurd (g2.symm.trans a1) b1
  · rcases b with ⟨b1, rfl⟩ | ⟨b1, b⟩
    · exact absurd (g2.trans b1) a1
    · rcases a with ⟨u, hu, rfl, a2, a3⟩ | ⟨rfl, a3⟩
      · rcases b with ⟨v, hv, rfl, b2, b3⟩ | ⟨rfl, b3⟩
        · rcases Nat.lt_trichotomy u v with e | e | e
          · exact absurd (wfE_c h a2 (b3 u e)) (by decide)
          · rw [e]
          · exact absurd (wfE_c h (a3 v e) b2) (by decide)
        · exact absurd (wfE_c h a2 (b3 u (by omega))) (by decide)
      · rcases b with ⟨v, hv, rfl, b2, b3⟩ | ⟨rfl, b3⟩
        · exact absurd (wfE_c h (a3 v (by omega)) b2) (by decide)
        · rfl
