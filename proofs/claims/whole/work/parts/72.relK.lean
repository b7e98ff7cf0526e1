/-! ===== the class beside the model: the kiln ===== -/
def RK (it : Nat) (S : KS) (ci : Nat → Nat) (mz : Nat → MV) (NC lb Nw : Nat) (St : KS) : Prop :=
  KM True S ci mz NC lb ∧ alOk Nw S.2.1 ∧ trOk St ∧ (∃ a : Nat, a ≤ 999 ∧ S.1 1 = nI a) ∧ (∃ a : Nat, a ≤ 30 * it ∧ S.1 2 = nI a) ∧ (∃ a : Nat, a ≤ 30 * it ∧ S.1 4 = nI a)
theorem kRing1_nat {pr me w : Int32} {a : Nat} : ∃ b : Nat, a ≤ b ∧ b ≤ a + 1 ∧ kRing1 pr me w (nI a) = nI b := by
  unfold kRing1
  split
  · exact ⟨a, Nat.le_refl _, by omega, rfl⟩
  · split
    · exact ⟨a, Nat.le_refl _, by omega, rfl⟩
    · split
      · exact ⟨a, Nat.le_refl _, by omega, rfl⟩
      · exact ⟨a + 1, by omega, Nat.le_refl _, nI_1 a⟩
theorem kRing2_nat {w : Int32} {b : Nat} : ∃ d : Nat, d ≤ b ∧ kRing2 w (nI b) = nI d := by
  unfold kRing2
  split
  · exact ⟨b, Nat.le_refl _, rfl⟩
  · split
    · exact ⟨b, Nat.le_refl _, rfl⟩
    · exact ⟨0, Nat.zero_le _, rfl⟩
theorem kFall_nat {w r : Int32} {b : Nat} : ∃ d : Nat, b ≤ d ∧ d ≤ b + 1 ∧ kFall w r (nI b) = nI d := by
  unfold kFall
  split
  · exact ⟨b, Nat.le_refl _, by omega, rfl⟩
  · split
    · exact ⟨b, Nat.le_refl _, by omega, rfl⟩
    · exact ⟨b + 1, by omega, Nat.le_refl _, nI_1 b⟩
theorem kCoal_nat {f a : Nat} (hf : f ≤ 9) (ha : a ≤ 999) : ∃ d : Nat, d ≤ a ∧ kCoal (nI a) (nI f) = nI d := by
  unfold kCoal
  split
  · rename_i h9
    have h8 : f ≤ a := nle h9
    exact ⟨a - f, by omega, pk_sub h8⟩
  · exact ⟨a, Nat.le_refl _, rfl⟩
/-- coal, ring and falls through a step -/
theorem kst_nat {S : KS} {f a r w : Nat} (h0 : S.1 0 = nI f) (hf : f ≤ 9) (h1 : S.1 1 = nI a) (ha : a ≤ 999) (h2 : S.1 2 = nI r) (h4 : S.1 4 = nI w) : (kst S).1 0 = nI f ∧ (∃ d : Nat, d ≤ a ∧ (kst S).1 1 = nI d) ∧ (∃ d : Nat, d ≤ r + 1 ∧ (kst S).1 2 = nI d) ∧ ∃ d : Nat, w ≤ d ∧ d ≤ w + 1 ∧ (kst S).1 4 = nI d := by
  refine ⟨h0, ?_, ?_, ?_⟩
  · obtain ⟨d, hd, e⟩ := kCoal_nat hf ha
    refine ⟨d, hd, ?_⟩
    show kCoal (S.1 1) (S.1 0) = nI d
    rw [h0, h1, e]
  · obtain ⟨b, hb1, hb2, eb⟩ := kRing1_nat (pr := (sV2 S 3).1 0) (me := mxMelt (sV2 S 3).2.1) (w := sW1 S 3) (a := r)
    obtain ⟨d, hd, e⟩ := kRing2_nat (w := sW1 S 3) (b := b)
    refine ⟨d, by omega, ?_⟩
    show kRing2 (sW1 S 3) (kRing1 ((sV2 S 3).1 0) (mxMelt (sV2 S 3).2.1) (sW1 S 3) (S.1 2)) = nI d
    rw [h2, eb, e]
  · obtain ⟨d, hd1, hd2, e⟩ := kFall_nat (w := sW1 S 3) (r := sR1 S) (b := w)
    refine ⟨d, hd1, hd2, ?_⟩
    show kFall (sW1 S 3) (sR1 S) (S.1 4) = nI d
    rw [h4, e]
theorem kIt_nat {S : KS} {f a r w : Nat} (h0 : S.1 0 = nI f) (hf : f ≤ 9) (h1 : S.1 1 = nI a) (ha : a ≤ 999) (h2 : S.1 2 = nI r) (h4 : S.1 4 = nI w) : ∀ t, (kIt t S).1 0 = nI f ∧ (∃ d : Nat, d ≤ a ∧ (kIt t S).1 1 = nI d) ∧ (∃ d : Nat, d ≤ r + t ∧ (kIt t S).1 2 = nI d) ∧ ∃ d : Nat, w ≤ d ∧ d ≤ w + t ∧ (kIt t S).1 4 = nI d
  | 0 => ⟨h0, ⟨a, Nat.le_refl _, h1⟩, ⟨r, Nat.le_refl _, h2⟩, w, Nat.le_refl _, Nat.le_refl _, h4⟩
  | t + 1 => by
    obtain ⟨g0, ⟨d1, k1, g1⟩, ⟨d2, k2, g2⟩, d4, k4, k5, g4⟩ := kIt_nat h0 hf h1 ha h2 h4 t
    obtain ⟨q0, ⟨e1, j1, q1⟩, ⟨e2, j2, q2⟩, e4, j4, j5, q4⟩ := kst_nat g0 hf g1 (by omega) g2 g4
    exact ⟨q0, ⟨e1, by omega, q1⟩, ⟨e2, by omega, q2⟩, e4, by omega, by omega, q4⟩
section RKs
variable {it : Nat} {S : KS} {ci : Nat → Nat} {mz : Nat → MV} {NC lb Nw : Nat} {St : KS}
theorem RK.km (h : RK it S ci mz NC lb Nw St) : KM True S ci mz NC lb := h.1
theorem RK.wk (h : RK it S ci mz NC lb Nw St) : alOk Nw S.2.1 := h.2.1
theorem RK.tr (h : RK it S ci mz NC lb Nw St) : trOk St := h.2.2.1
theorem RK.wf (h : RK it S ci mz NC lb Nw St) : kwf S := h.1.1
theorem RK.q3 (h : RK it S ci mz NC lb Nw St) : S.2.1 ≤ 3 := h.1.1.1
theorem RK.co (h : RK it S ci mz NC lb Nw St) : ∃ a : Nat, a ≤ 999 ∧ S.1 1 = nI a := h.2.2.2.1
theorem RK.nC (h : RK it S ci mz NC lb Nw St) : S.2.1 ≤ NC := by have := h.1.2.1; omega
theorem RK.up (h : RK it S ci mz NC lb Nw St) {it' : Nat} (hi : it ≤ it') : RK it' S ci mz NC lb Nw St := by
  obtain ⟨h1, h2, h3, h4, ⟨a, ha, ea⟩, b, hb, eb⟩ := h
  exact ⟨h1, h2, h3, h4, ⟨a, by omega, ea⟩, b, by omega, eb⟩
theorem RK.try_ (h : RK it S ci mz NC lb Nw St) {Sn : KS} (hn : trOk Sn) : RK it S ci mz NC lb Nw Sn := ⟨h.1, h.2.1, hn, h.2.2.2⟩
/-- KM speaks of the numbers of the kiln by the flame alone -/
theorem KM_nums (h : KM True S ci mz NC lb) {y : Nat → Int32} (hy : ∃ f : Nat, f ≤ 9 ∧ y 0 = nI f) : KM True (y, S.2) ci mz NC lb := by
  obtain ⟨a1, a2, a3, a4, a5, a6, a7, a8⟩ := h
  exact ⟨a1, a2, a3, a4, a5, a6, hy, a8⟩
theorem RK_flame (h : RK it S ci mz NC lb Nw St) {x : Int32} (hx : inR 0 9 x) : RK it (upd S.1 0 x, S.2) ci mz NC lb Nw St :=
  ⟨KM_nums h.1 (by obtain ⟨w, hw, e⟩ := inR_of (M := 9) hx; exact ⟨w, hw, by rw [pk_us]; exact e⟩), h.2.1, h.2.2.1, h.2.2.2.1, h.2.2.2.2.1, h.2.2.2.2.2⟩
theorem RK_coal (h : RK it S ci mz NC lb Nw St) {x : Int32} (hx : inR 1 (999 - S.1 1) x) : RK it (upd S.1 1 (S.1 1 + x), S.2) ci mz NC lb Nw St := by
  obtain ⟨h1, h2, h3, ⟨a, ha, ea⟩, h5, h6⟩ := h
  have e9 : (999 : Int32) - S.1 1 = nI (999 - a) := by rw [ea]; exact pk_sub (a := 999) ha
  rw [e9] at hx
  obtain ⟨w, hw1, hw2, rfl⟩ := inR_of1 (K := 1) (M := 999 - a) hx
  refine ⟨KM_nums h1 ?_, h2, h3, ⟨a + w, by omega, ?_⟩, h5, h6⟩
  · obtain ⟨f, hf, e⟩ := h1.2.2.2.2.2.2.1
    exact ⟨f, hf, by rw [pk_un (by decide)]; exact e⟩
  · show upd S.1 1 (S.1 1 + nI w) 1 = _
    rw [pk_us, ea, nI_add]
theorem RK_hammer (h : RK it S ci mz NC lb Nw St) : RK it (upd S.1 2 0, S.2) ci mz NC lb Nw St := by
  obtain ⟨h1, h2, h3, h4, h5, h6⟩ := h
  refine ⟨KM_nums h1 ?_, h2, h3, h4, ⟨0, Nat.zero_le _, rfl⟩, h6⟩
  obtain ⟨f, hf, e⟩ := h1.2.2.2.2.2.2.1
  exact ⟨f, hf, by rw [pk_un (by decide)]; exact e⟩
theorem RK_run (h : RK it S ci mz NC lb Nw St) {k : Nat} (hk : k ≤ 30) {ct : Nat → Nat} {mt : Nat → MV} {lt : Nat} (hK : KM True (kIt k S) ct mt NC lt) (hw : alOk Nw (kIt k S).2.1) : RK (it + 1) (kIt k S) ct mt NC lt Nw St := by
  obtain ⟨h1, h2, h3, ⟨a, ha, ea⟩, ⟨r, hr, er⟩, w, hw2, ew⟩ := h
  obtain ⟨f, hf, ef⟩ := h1.2.2.2.2.2.2.1
  obtain ⟨g0, ⟨d1, k1, g1⟩, ⟨d2, k2, g2⟩, d4, k4, k5, g4⟩ := kIt_nat ef hf ea ha er ew k
  exact ⟨hK, hw, h3, ⟨d1, by omega, g1⟩, ⟨d2, by omega, g2⟩, d4, by omega, g4⟩
/-- the falls as they would be -/
theorem wfI_iff {T : KS} {f a r w : Nat} (h0 : T.1 0 = nI f) (hf : f ≤ 9) (h1 : T.1 1 = nI a) (ha : a ≤ 999) (h2 : T.1 2 = nI r) (h4 : T.1 4 = nI w) (hw : w ≤ 100000) : ∀ k, k ≤ 12 → (wfI T (nI w) k = 0 ∨ wfI T (nI w) k = 1) ∧ (wfI T (nI w) k = 1 ↔ nI w < (kIt k T).1 4)
  | 0, _ => by
    refine ⟨Or.inl rfl, fun q => absurd (show (0 : Int32) = 1 from q) (by decide), fun q => ?_⟩
    have q : nI w < T.1 4 := q
    rw [h4] at q
    have := nlt q
    omega
  | k + 1, hk => by
    obtain ⟨i1, i2⟩ := wfI_iff h0 hf h1 ha h2 h4 hw k (by omega)
    obtain ⟨g0, ⟨d1, k1, g1⟩, ⟨d2, k2, g2⟩, d4, k4, k5, g4⟩ := kIt_nat h0 hf h1 ha h2 h4 k
    obtain ⟨-, -, -, e4, j4, j5, q4⟩ := kst_nat g0 hf g1 (by omega) g2 g4
    have q4 : (kIt (k + 1) T).1 4 = nI e4 := q4
    have eT : wfI T (nI w) (k + 1) = if wfI T (nI w) k = 1 then 1 else if nI w < (kIt (k + 1) T).1 4 then 1 else 0 := rfl
    rw [eT]
    by_cases hp : wfI T (nI w) k = 1
    · rw [if_pos hp]
      refine ⟨Or.inr rfl, fun _ => ?_, fun _ => rfl⟩
      have q := i2.mp hp
      rw [g4] at q
      have := nlt q
      rw [q4]
      exact nI_lt (by omega) (by omega)
    · rw [if_neg hp]
      by_cases hq : nI w < (kIt (k + 1) T).1 4
      · rw [if_pos hq]
        exact ⟨Or.inr rfl, fun _ => hq, fun _ => rfl⟩
      · rw [if_neg hq]
        exact ⟨Or.inl rfl, fun q => absurd q (by decide), fun q => absurd q hq⟩
theorem wfE_iff (h : RK it S ci mz NC lb Nw St) (hit : it ≤ 1000) {Z : KS} {k i : Nat} (hk : k ≤ 12) (hi : i ≤ 9) : (wfI (trS Z S (nI i)) (S.1 4) k = 0 ∨ wfI (trS Z S (nI i)) (S.1 4) k = 1) ∧ (wfI (trS Z S (nI i)) (S.1 4) k = 1 ↔ S.1 4 < (kIt k (trS Z S (nI i))).1 4) := by
  obtain ⟨h1, h2, h3, ⟨a, ha, ea⟩, ⟨r, hr, er⟩, w, hw2, ew⟩ := h
  have := wfI_iff (T := trS Z S (nI i)) (f := i) (a := a) (r := r) (w := w) rfl hi ea ha er ew (by omega) k hk
  rw [ew]
  exact this
/-- the trial kilns that the class has met serve the model -/
theorem lf_choose (h : RK it S ci mz NC lb Nw St) (hit : it ≤ 1000) {k : Nat} (hk : k ≤ 12) {r : Int32} (hl : lfR S k r) : ∃ Zf : Nat → KS, (∀ i, trOk (Zf i)) ∧ ∀ r2, lfM S Zf k r2 → r2 = r := by
  obtain ⟨rg, hrg, erg⟩ := h.2.2.2.2.1
  rcases hl with ⟨h0, rfl⟩ | ⟨h0, hl⟩
  · refine ⟨fun _ => St, fun _ => h.tr, fun r2 hm => ?_⟩
    rcases hm with ⟨-, e⟩ | ⟨hn, -⟩
    · exact e
    · exact absurd (by rw [h0]; decide) hn
  · have hpos : ¬ S.1 2 ≤ 0 := fun q => h0 (by rw [erg] at q ⊢; have := nle (b := 0) q; rw [show rg = 0 by omega]; rfl)
    rcases hl with ⟨y, hy, rfl, hy1, hy0⟩ | ⟨rfl, hy0⟩
    · have hex : ∀ i, ∃ Z : KS, trOk Z ∧ (i < y → wfI (trS Z S (nI i)) (S.1 4) k = 0) ∧ (i = y → wfI (trS Z S (nI i)) (S.1 4) k = 1) := fun i => by
        by_cases e : i < y
        · obtain ⟨Z, z1, z2⟩ := hy0 i e
          exact ⟨Z, z1, fun _ => z2, fun q => absurd e (by omega)⟩
        · by_cases e2 : i = y
          · subst e2
            obtain ⟨Z, z1, z2⟩ := hy1
            exact ⟨Z, z1, fun q => absurd q e, fun _ => z2⟩
          · exact ⟨St, h.tr, fun q => absurd q e, fun q => absurd q e2⟩
      obtain ⟨Zf, hZ⟩ := Classical.axiomOfChoice hex
      refine ⟨Zf, fun i => (hZ i).1, fun r2 hm => ?_⟩
      have hM : ∀ i, i ≤ 9 → (wfI (trS (Zf i) S (nI i)) (S.1 4) k = 1 ↔ mFl S Zf k i) := fun i hi => (wfE_iff h hit hk hi).2
      rcases hm with ⟨hn, -⟩ | ⟨-, ⟨z, hz, rfl, hz1, hz0⟩ | ⟨rfl, hz0⟩⟩
      · exact absurd hn hpos
      · rcases Nat.lt_trichotomy y z with q | q | q
        · exact absurd ((hM y hy).mp ((hZ y).2.2 rfl)) (hz0 y q)
        · rw [q]
        · have := (hZ z).2.1 q
          rw [(hM z hz).mpr hz1] at this
          exact absurd this (by decide)
      · exact absurd ((hM y hy).mp ((hZ y).2.2 rfl)) (hz0 y (by omega))
    · have hex : ∀ i, ∃ Z : KS, trOk Z ∧ (i < 10 → wfI (trS Z S (nI i)) (S.1 4) k = 0) := fun i => by
        by_cases e : i < 10
        · obtain ⟨Z, z1, z2⟩ := hy0 i e
          exact ⟨Z, z1, fun _ => z2⟩
        · exact ⟨St, h.tr, fun q => absurd q e⟩
      obtain ⟨Zf, hZ⟩ := Classical.axiomOfChoice hex
      refine ⟨Zf, fun i => (hZ i).1, fun r2 hm => ?_⟩
      rcases hm with ⟨hn, -⟩ | ⟨-, ⟨z, hz, rfl, hz1, hz0⟩ | ⟨rfl, hz0⟩⟩
      · exact absurd hn hpos
      · have := (hZ z).2 (by omega)
        rw [(wfE_iff h hit hk hz).2.mpr hz1] at this
        exact absurd this (by decide)
      · rfl
end RKs
