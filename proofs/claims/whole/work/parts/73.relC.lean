/-! ===== the class beside the model: a charge ===== -/
theorem mxStone_k {m b : Nat → Int32} {x : Int32} {k : Nat} (hk : k < 4) : mxStone m b x k = m k + x * b k := by
  rcases (show k = 0 ∨ k = 1 ∨ k = 2 ∨ k = 3 by omega) with rfl | rfl | rfl | rfl <;> rfl
theorem mcF_nat {bz : Nat → BV} {f sh m0 : Nat → Int32} {q : Nat → Nat} {n : Nat} (hs : ∀ j, j < n → sh j = nI (q j)) (hb : ∀ j, j < n → ∃ v, v < 6 ∧ f j = nI v ∧ ∀ k, k < 4 → ∃ a : Nat, a ≤ 9 ∧ bkOx (bz v) k = nI a) : ∀ {i : Nat}, i ≤ n → ∀ k, k < 4 → ∃ t : Nat, t ≤ 9 * nsm q i ∧ mcF bz f sh m0 i k = nI t := by
  intro i
  induction i with
  | zero =>
    intro _ k hk
    refine ⟨0, Nat.zero_le _, ?_⟩
    rcases (show k = 0 ∨ k = 1 ∨ k = 2 ∨ k = 3 by omega) with rfl | rfl | rfl | rfl <;> rfl
  | succ i ih =>
    intro hi k hk
    obtain ⟨t, ht, et⟩ := ih (by omega) k hk
    obtain ⟨v, hv, ev, hB⟩ := hb i (by omega)
    obtain ⟨a, ha, ea⟩ := hB k hk
    refine ⟨t + q i * a, ?_, ?_⟩
    · have h1 : q i * a ≤ q i * 9 := Nat.mul_le_mul_left _ ha
      show t + q i * a ≤ 9 * (nsm q i + q i)
      omega
    · show mxStone (mcF bz f sh m0 i) (bkOx (bz (f i).toNatClampNeg)) (sh i) k = _
      rw [mxStone_k hk, et, hs i (by omega), ev, nI_clamp (by omega), ea, pk_mul, nI_add]
section RCs
variable {nb n : Nat} {bz : Nat → BV} {bm : Nat → Nat → Int32} {f g : Nat → Int32} {ym : Nat → Nat → Int32}
theorem bkOx_n {z : BV} (hk : ¬ z.2.1 = 0) (k : Nat) : bkOx z k = z.2.2 k := by
  show bkB z.2.1 z.2.2 k = _
  unfold bkB
  rw [if_neg hk]
theorem RB.ob (h : RB nb n bz bm f g ym) : ∀ j, j < n → ∃ v, v < 6 ∧ f j = nI v ∧ ∀ k, k < 4 → ∃ a : Nat, a ≤ 9 ∧ bkOx (bz v) k = nI a := fun j hj => by
  obtain ⟨v, hv, ev, hk⟩ := h.kn j hj
  refine ⟨v, Nat.lt_of_lt_of_le hv h.nb6, ev, fun k hk4 => ?_⟩
  rw [bkOx_n hk]
  exact (h.ox v hv).2 k hk4
theorem RB.so (h : RB nb n bz bm f g ym) {c : Nat} (hc0 : 1 ≤ c) (hc9 : c ≤ 9) (hc1 : c ≤ nsm (pg g) n) {hh : Nat → Int32} : ∀ j, j < n → soAll g hh n c j = nI (cutN (pg g) n c j) := by
  have h8 := h.n8
  have hb := nsm_b h.p2
  exact soAll_nat h.gp h.p2 (by omega) (by omega) hc9 hc1
/-- what is mixed: the class's and the model's -/
theorem RB.mix (h : RB nb n bz bm f g ym) {c : Nat} (hc0 : 1 ≤ c) (hc9 : c ≤ 9) (hc1 : c ≤ nsm (pg g) n) {F hh cm : Nat → Int32} (hF : ∀ j, j < n → F j = nI (cutN (pg g) n c j)) {x1 x2 x3 : Int32} : ∀ j, j < 4 → cgF bz f g hh cm n c x1 x2 x3 j = mxBins (msF bz f F (fun _ => 0) n) x1 x2 x3 j := fun j hj => by
  rw [fill0 hF j hj]
  exact mxBins_agree (fun k hk => mcF_agree (h.so hc0 hc9 hc1) k hk) j hj
theorem RB.mixN (h : RB nb n bz bm f g ym) {c : Nat} (hc0 : 1 ≤ c) (hc9 : c ≤ 9) (hc1 : c ≤ nsm (pg g) n) {F : Nat → Int32} (hF : ∀ j, j < n → F j = nI (cutN (pg g) n c j)) {x1 x2 x3 : Int32} (k1 : inR 0 3 x1) (k2 : inR 0 3 x2) (k3 : inR 0 3 x3) : ∀ j, j < 4 → ∃ t : Nat, t ≤ 200 ∧ mxBins (msF bz f F (fun _ => 0) n) x1 x2 x3 j = nI t := fun j hj => by
  obtain ⟨a, ha, rfl⟩ := inR_of (M := 3) k1
  obtain ⟨b, hb, rfl⟩ := inR_of (M := 3) k2
  obtain ⟨d, hd, rfl⟩ := inR_of (M := 3) k3
  have hq : nsm (cutN (pg g) n c) n = c := (cutN_I (by omega) hc1).2.1
  have hN : ∀ k, k < 4 → ∃ t : Nat, t ≤ 81 ∧ cmM bz f (pg g) n c k = nI t := fun k hk => by
    obtain ⟨t, ht, et⟩ := mcF_nat (m0 := fun _ => 0) (sh := fun j => nI (cutN (pg g) n c j)) (q := cutN (pg g) n c) (fun _ _ => rfl) h.ob (Nat.le_refl n) k hk
    exact ⟨t, by omega, et⟩
  rw [fill0 hF j hj]
  rcases (show j = 0 ∨ j = 1 ∨ j = 2 ∨ j = 3 by omega) with rfl | rfl | rfl | rfl
  · obtain ⟨t, ht, et⟩ := hN 0 (by decide)
    exact ⟨t, by omega, et⟩
  · obtain ⟨t, ht, et⟩ := hN 1 (by decide)
    refine ⟨t + (9 * a + 3 * b), by omega, ?_⟩
    show cmM bz f (pg g) n c 1 + (nI 9 * nI a + nI 3 * nI b) = _
    rw [et, pk_mul, pk_mul, nI_add, nI_add]
  · obtain ⟨t, ht, et⟩ := hN 2 (by decide)
    refine ⟨t + 6 * b, by omega, ?_⟩
    show cmM bz f (pg g) n c 2 + nI 6 * nI b = _
    rw [et, pk_mul, nI_add]
  · obtain ⟨t, ht, et⟩ := hN 3 (by decide)
    refine ⟨t + 9 * d, by omega, ?_⟩
    show cmM bz f (pg g) n c 3 + nI 9 * nI d = _
    rw [et, pk_mul, nI_add]
variable {it : Nat} {S : KS} {ci : Nat → Nat} {mz : Nat → MV} {NC lb Nw : Nat} {St : KS}
theorem RK_charge (hB : RB nb n bz bm f g ym) (h : RK it S ci mz NC lb Nw St) (h3 : S.2.1 < 3) {c : Nat} (hc0 : 1 ≤ c) (hc9 : c ≤ 9) (hc1 : c ≤ nsm (pg g) n) {F hh cm : Nat → Int32} (hF : ∀ j, j < n → F j = nI (cutN (pg g) n c j)) {x1 x2 x3 : Int32} (k1 : inR 0 3 x1) (k2 : inR 0 3 x2) (k3 : inR 0 3 x3) {N2 : Nat} (hN2 : alOk N2 (S.2.1 + 1)) :
    RK it (S.1, S.2.1 + 1, S.2.2.1, va_up S.2.2.2.1 S.2.1 (cgV f g hh n c (S.2.2.2.1 S.2.1) (cgF bz f g hh cm n c x1 x2 x3)), S.2.2.2.2) ci (va_up mz NC (chM (mxBins (msF bz f F (fun _ => 0) n) x1 x2 x3) (dsF f g F (fun _ => 0) ym n).2.1)) (NC + 1) lb N2 St := by
  have hmx := hB.mix hc0 hc9 hc1 (hh := hh) (cm := cm) hF (x1 := x1) (x2 := x2) (x3 := x3)
  have hmN := hB.mixN hc0 hc9 hc1 hF k1 k2 k3
  have hds := (RB_charge hB (by omega) hc1 hF (hB.so hc0 hc9 hc1 (hh := hh)) (w := (chBegin (S.2.2.2.1 S.2.1) (cgF bz f g hh cm n c x1 x2 x3)).2.2) (fun j hj => by rcases (show j = 0 ∨ j = 1 ∨ j = 2 ∨ j = 3 ∨ j = 4 ∨ j = 5 by omega) with rfl | rfl | rfl | rfl | rfl | rfl <;> rfl)).2.2
  generalize hox : mxBins (msF bz f F (fun _ => 0) n) x1 x2 x3 = ox at hmx hmN ⊢
  generalize hpa : (dsF f g F (fun _ => 0) ym n).2.1 = pa at hds ⊢
  obtain ⟨⟨⟨a1, a2, a3, a4⟩, b2, b3, b4, b5, b6, b7, b8⟩, h2, h4, h5, h6, h7⟩ := h
  have hrl : rlR True (cgV f g hh n c (S.2.2.2.1 S.2.1) (cgF bz f g hh cm n c x1 x2 x3)) (chM ox pa) := by
    obtain ⟨t0, l0, e0⟩ := hmN 0 (by decide)
    obtain ⟨t1, l1, e1⟩ := hmN 1 (by decide)
    obtain ⟨t2, l2, e2⟩ := hmN 2 (by decide)
    obtain ⟨t3, l3, e3⟩ := hmN 3 (by decide)
    have f0 := hmx 0 (by decide)
    have f1 := hmx 1 (by decide)
    have f2 := hmx 2 (by decide)
    have f3 := hmx 3 (by decide)
    refine ⟨⟨t0, 0, t1, 0, 0, t0, t1, t2, t3, f0.trans e0, rfl, f1.trans e1, rfl, rfl, f0.trans e0, f1.trans e1, f2.trans e2, f3.trans e3, by omega, by omega, l0, l1, l2, l3⟩, ⟨f0, rfl, f1, rfl, rfl, f0, f1, f2, f3⟩, fun _ => ⟨fun j hj => (hds j hj).symm, rfl, rfl, rfl, rfl, fun j hj => ?_⟩⟩
    rcases (show j = 0 ∨ j = 1 ∨ j = 2 by omega) with rfl | rfl | rfl <;> rfl
  refine ⟨⟨⟨by show S.2.1 + 1 ≤ 3; omega, fun j hj => ?_, a3, a4⟩, by show lb + (S.2.1 + 1) ≤ NC + 1; omega, fun k hk => by have := b3 k hk; omega, fun k hk hp => ?_, b5, fun i hi => ?_, b7, b8⟩, hN2, h4, h5, h6, h7⟩
  · show ((va_up S.2.2.2.1 S.2.1 _) j).1 0 = 0 ∨ ((va_up S.2.2.2.1 S.2.1 _) j).1 0 = 1
    by_cases e : j = S.2.1
    · rw [e, va_up_self]; exact Or.inr rfl
    · rw [va_up_ne _ _ e]; exact a2 j hj
  · obtain ⟨q1, q2, q3⟩ := b4 k hk hp
    refine ⟨q1, by show ci k + (S.2.1 + 1) < NC + 1; omega, ?_⟩
    rw [va_up_ne _ _ (show ci k ≠ NC by omega)]
    exact q3
  · have hi : i < S.2.1 + 1 := hi
    show ((va_up S.2.2.2.1 S.2.1 _) i).1 0 = 1 ∧ rlR True ((va_up S.2.2.2.1 S.2.1 _) i) ((va_up mz NC _) (NC + 1 - (S.2.1 + 1) + i))
    by_cases e : i = S.2.1
    · rw [e, va_up_self, show NC + 1 - (S.2.1 + 1) + S.2.1 = NC by omega, va_up_self]
      exact ⟨rfl, hrl⟩
    · obtain ⟨q1, q2⟩ := b6 i (by omega)
      rw [va_up_ne _ _ e, va_up_ne _ _ (show NC + 1 - (S.2.1 + 1) + i ≠ NC by omega), show NC + 1 - (S.2.1 + 1) + i = NC - S.2.1 + i by omega]
      exact ⟨q1, q2⟩
/-- what the class and the model answer to a charge -/
theorem charge_ans (hB : RB nb n bz bm f g ym) {c : Nat} (hc0 : 1 ≤ c) (hc9 : c ≤ 9) (hc1 : c ≤ nsm (pg g) n) {F hh cm : Nat → Int32} (hF : ∀ j, j < n → F j = nI (cutN (pg g) n c j)) {x1 x2 x3 : Int32} {y : CV} : mxSat (chBegin y (cgF bz f g hh cm n c x1 x2 x3)).2.1 = moMod (mxBins (msF bz f F (fun _ => 0) n) x1 x2 x3) 0 := by
  have hmx := hB.mix hc0 hc9 hc1 (hh := hh) (cm := cm) hF (x1 := x1) (x2 := x2) (x3 := x3)
  have e : moMod (mxBins (msF bz f F (fun _ => 0) n) x1 x2 x3) (nI 0) = qMod (chBegin y (cgF bz f g hh cm n c x1 x2 x3)).2.1 0 := moMod_eq (fun j hj => ((show (chBegin y (cgF bz f g hh cm n c x1 x2 x3)).2.1 j = cgF bz f g hh cm n c x1 x2 x3 j by rcases (show j = 0 ∨ j = 1 ∨ j = 2 ∨ j = 3 by omega) with rfl | rfl | rfl | rfl <;> rfl).trans (hmx j hj)).symm) (by decide)
  exact e.symm
end RCs
