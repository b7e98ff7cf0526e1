/-! ===== a step of the model's kiln ===== -/
def hsF (v : Nat → CV) : Nat → Int32 := fun k => (v k).1 0
/-- not ground, nothing found -/
def frM (z : MV) : Prop := z.1 5 = -1 ∧ z.1 6 = -1 ∧ z.1 7 = -1 ∧ z.1 8 = 0 ∧ ∀ j, j < 3 → z.2.2.2 j = -1
def prR (x : CV) (z : MV) : Prop := (∀ j, j < 6 → x.2.2 j = z.2.2.1 j) ∧ frM z
def rlR (pf : Prop) (x : CV) (z : MV) : Prop := chN x ∧ cmR x z ∧ (pf → prR x z)
def KM (pf : Prop) (S : KS) (ci : Nat → Nat) (mz : Nat → MV) (NC lb : Nat) : Prop :=
  kwf S ∧ lb + S.2.1 ≤ NC ∧ (∀ k, k < 5 → ci k < NC) ∧
  (∀ k, k < 5 → ¬ (S.2.2.1 k).1 0 = 0 → lb ≤ ci k ∧ ci k + S.2.1 < NC ∧ rlR pf (S.2.2.1 k) (mz (ci k))) ∧ decI (hsF S.2.2.1) ci ∧
  (∀ i, i < S.2.1 → (S.2.2.2.1 i).1 0 = 1 ∧ rlR pf (S.2.2.2.1 i) (mz (NC - S.2.1 + i))) ∧ (∃ f : Nat, f ≤ 9 ∧ S.1 0 = nI f) ∧ (∀ k, k < 5 → ∃ u : Nat, u ≤ 27 ∧ S.2.2.2.2.2 k = nI u)
def hsS (S : KS) : Nat → Int32 := hsF (sV1 S)
def ciS (S : KS) (NC : Nat) (ci : Nat → Nat) : Nat → Nat := if S.1 2 < 6 then (if S.2.1 = 0 then mvI ci else va_up (mvI ci) 0 (NC - S.2.1)) else ci
def mzS (S : KS) (NC : Nat) (ci : Nat → Nat) (mz : Nat → MV) : Nat → MV := pbF (hsS S) (ciS S NC ci) (sW1 S) (sV1 S) mz 5
def outS (S : KS) : Prop := ¬ kmR (S.1 2) S.2.2.1 = 0
def lbS (S : KS) (ci : Nat → Nat) (lb : Nat) : Nat := if kmR (S.1 2) S.2.2.1 = 0 then lb else ci 4 + 1
def ocS (S : KS) (oc : Nat) : Nat := if kmR (S.1 2) S.2.2.1 = 0 then oc else oc + 1
def oiS (S : KS) (ci oi : Nat → Nat) (oc : Nat) : Nat → Nat := if kmR (S.1 2) S.2.2.1 = 0 then oi else va_up oi oc (ci 4)
theorem rlR_copy {pf : Prop} {x y : CV} {z : MV} (h : rlR pf x z) : rlR pf (chCopy y x) z := by
  obtain ⟨h1, h2, h3⟩ := h
  refine ⟨h1, h2, fun p => ⟨fun j hj => ?_, (h3 p).2⟩⟩
  rw [← (h3 p).1 j hj]
  match j, hj with
  | 0, _ => rfl
  | 1, _ => rfl
  | 2, _ => rfl
  | 3, _ => rfl
  | 4, _ => rfl
  | 5, _ => rfl
theorem rlR_burn {pf : Prop} {x : CV} {z : MV} {u : Nat} (hu : u ≤ 100) (h : rlR pf x z) : rlR pf (chBurn (nI u) x) (mvS z (chBurn (nI u) x)) := ⟨chN_burn hu h.1, cmR_S h.2.1 rfl, h.2.2⟩
/-- after all have gone a cell on -/
theorem mv_ok {pf : Prop} {S : KS} {ci : Nat → Nat} {mz : Nat → MV} {NC lb : Nat} (h : KM pf S ci mz NC lb) : (∀ k, k < 5 → ciS S NC ci k < NC) ∧
    (∀ k, k < 5 → ¬ hsS S k = 0 → lbS S ci lb ≤ ciS S NC ci k ∧ ciS S NC ci k + kmN (S.1 2) S.2.1 < NC ∧ rlR pf (sV1 S k) (mz (ciS S NC ci k))) ∧ decI (hsS S) (ciS S NC ci) ∧ (∀ j, j < 5 → hsS S j = 0 ∨ hsS S j = 1) ∧ lbS S ci lb + kmN (S.1 2) S.2.1 ≤ NC := by
  obtain ⟨⟨w1, w2, w3, w4⟩, h1, h2, h3, h4, h5, -, -⟩ := h
  by_cases hr : S.1 2 < 6
  · have eV : sV1 S = rot5 S.2.2.1 (if S.2.1 = 0 then chOff S.2.2.2.2.1 else S.2.2.2.1 0) := if_pos hr
    have eC : ciS S NC ci = if S.2.1 = 0 then mvI ci else va_up (mvI ci) 0 (NC - S.2.1) := if_pos hr
    have eR : kmR (S.1 2) S.2.2.1 = (S.2.2.1 4).1 0 := if_pos hr
    have eN : kmN (S.1 2) S.2.1 = S.2.1 - 1 := if_pos hr
    have eS : ∀ k, k < 4 → ciS S NC ci (k + 1) = ci k := fun k hk => by
      rw [eC]
      split
      · show (if k < 4 then ci k else ci (k + 1)) = ci k
        rw [if_pos hk]
      · show (if k + 1 = 0 then _ else (if k < 4 then ci k else ci (k + 1))) = ci k
        rw [if_neg (by omega), if_pos hk]
    have e0 : ¬ S.2.1 = 0 → ciS S NC ci 0 = NC - S.2.1 := fun hn => by
      rw [eC, if_neg hn]
      rfl
    have vS : ∀ k, k < 4 → sV1 S (k + 1) = S.2.2.1 k := fun k hk => by
      rw [eV]
      match k, hk with
      | 0, _ => rfl
      | 1, _ => rfl
      | 2, _ => rfl
      | 3, _ => rfl
    have v0 : sV1 S 0 = if S.2.1 = 0 then chOff S.2.2.2.2.1 else S.2.2.2.1 0 := by rw [eV]; rfl
    have live0 : ¬ hsS S 0 = 0 → ¬ S.2.1 = 0 := fun hl hn => hl (by
      show (sV1 S 0).1 0 = 0
      rw [v0, if_pos hn]
      rfl)
    have hlb : ∀ k, k < 4 → ¬ (S.2.2.1 k).1 0 = 0 → lbS S ci lb ≤ ci k := fun k hk hl => by
      unfold lbS
      split
      · exact (h3 k (by omega) hl).1
      · rename_i h9
        rw [eR] at h9
        have := h4 k 4 (by omega) (by omega) hl h9
        omega
    have hlb0 : lbS S ci lb + S.2.1 ≤ NC := by
      unfold lbS
      split
      · exact h1
      · rename_i h9
        rw [eR] at h9
        have := (h3 4 (by omega) h9).2.1
        omega
    refine ⟨fun k hk => ?_, fun k hk hl => ?_, fun i j hij hj hi hj2 => ?_, fun j hj => ?_, by rw [eN]; omega⟩
    · match k, hk with
      | 0, _ =>
        rw [eC]
        split
        · exact h2 0 (by omega)
        · show NC - S.2.1 < NC
          omega
      | j + 1, hk => rw [eS j (by omega)]; exact h2 j (by omega)
    · match k, hk with
      | 0, _ =>
        have hn := live0 hl
        obtain ⟨g1, g2⟩ := h5 0 (by omega)
        rw [e0 hn, v0, if_neg hn, eN]
        exact ⟨by omega, by omega, g2⟩
      | j + 1, hk =>
        have hl2 : ¬ (S.2.2.1 j).1 0 = 0 := fun e => hl (by show (sV1 S (j + 1)).1 0 = 0; rw [vS j (by omega)]; exact e)
        obtain ⟨g1, g2, g3⟩ := h3 j (by omega) hl2
        rw [eS j (by omega), vS j (by omega), eN]
        exact ⟨hlb j (by omega) hl2, by omega, g3⟩
    · match j, hij, hj with
      | j + 1, hij, hj =>
        have hlj : ¬ (S.2.2.1 j).1 0 = 0 := fun e => hj2 (by show (sV1 S (j + 1)).1 0 = 0; rw [vS j (by omega)]; exact e)
        rw [eS j (by omega)]
        match i, hij with
        | 0, _ =>
          rw [e0 (live0 hi)]
          have := (h3 j (by omega) hlj).2.1
          omega
        | i + 1, hij =>
          have hli : ¬ (S.2.2.1 i).1 0 = 0 := fun e => hi (by show (sV1 S (i + 1)).1 0 = 0; rw [vS i (by omega)]; exact e)
          rw [eS i (by omega)]
          exact h4 i j (by omega) (by omega) hli hlj
    · match j, hj with
      | 0, _ =>
        show (sV1 S 0).1 0 = 0 ∨ (sV1 S 0).1 0 = 1
        rw [v0]
        split
        · exact Or.inl rfl
        · exact w2 0 (by omega)
      | j + 1, hj =>
        show (sV1 S (j + 1)).1 0 = 0 ∨ (sV1 S (j + 1)).1 0 = 1
        rw [vS j (by omega)]
        exact w3 j (by omega)
  · have eV : sV1 S = S.2.2.1 := if_neg hr
    have eC : ciS S NC ci = ci := if_neg hr
    have eR : kmR (S.1 2) S.2.2.1 = 0 := if_neg hr
    have eN : kmN (S.1 2) S.2.1 = S.2.1 := if_neg hr
    have eL : lbS S ci lb = lb := if_pos eR
    have eH : hsS S = hsF S.2.2.1 := by unfold hsS; rw [eV]
    rw [eC, eN, eL, eH, eV]
    exact ⟨h2, h3, h4, fun j hj => w3 j hj, h1⟩
theorem wmCell_nat {x : CV} {a b : Nat} (ha : a ≤ 27) (hb : b ≤ 27) : ∃ u : Nat, u ≤ 27 ∧ wmCell x (nI a) (nI b) = nI u := by
  have e : (nI a + 2 * nI b) / 3 = nI ((a + 2 * b) / 3) := by
    rw [show (2 : Int32) * nI b = nI (2 * b) from pk_mul 2 b, nI_add]
    exact pk_div (d := 3) (by omega) (by omega) (by omega)
  have e0 : ∀ n : Nat, n ≤ 27 → mx 0 (nI n) = nI n := fun n hn => by
    have := mx0_sub (u := n) (k := 0)
    rw [show nI n - nI 0 = nI n from sub0 _] at this
    exact this
  unfold wmCell
  rw [e]
  split
  · exact ⟨_, by omega, e0 _ (by omega)⟩
  · split
    · exact ⟨_, by omega, e0 _ (by omega)⟩
    · refine ⟨(a + 2 * b) / 3 - 1, by omega, ?_⟩
      rw [← Int32.sub_eq_add_neg]
      exact mx0_sub (u := (a + 2 * b) / 3) (k := 1)
theorem wm_nat {v : Nat → CV} {w : Nat → Int32} {b : Int32} (hw : ∀ k, k < 5 → ∃ u : Nat, u ≤ 27 ∧ w k = nI u) (hb : ∃ f : Nat, f ≤ 9 ∧ b = nI f) : ∀ k, k < 5 → ∃ u : Nat, u ≤ 27 ∧ wm0 v w b k = nI u := by
  obtain ⟨f, hf, rfl⟩ := hb
  obtain ⟨a0, b0, e0⟩ := hw 0 (by decide)
  obtain ⟨a1, b1, e1⟩ := hw 1 (by decide)
  obtain ⟨a2, b2, e2⟩ := hw 2 (by decide)
  obtain ⟨a3, b3, e3⟩ := hw 3 (by decide)
  obtain ⟨a4, b4, e4⟩ := hw 4 (by decide)
  have h4 : wm4 w (nI f) 4 = nI ((a4 + 3 * f) / 2) := by
    unfold wm4
    rw [pk_us, e4, show (3 : Int32) * nI f = nI (3 * f) from pk_mul 3 f, nI_add]
    exact pk_div (d := 2) (by omega) (by omega) (by omega)
  have g3 : wm4 w (nI f) 3 = w 3 := pk_un (by decide)
  have g2 : wm3 v w (nI f) 2 = w 2 := (pk_un (by decide)).trans (pk_un (by decide))
  have g1 : wm2 v w (nI f) 1 = w 1 := (pk_un (by decide)).trans ((pk_un (by decide)).trans (pk_un (by decide)))
  have g0 : wm1 v w (nI f) 0 = w 0 := (pk_un (by decide)).trans ((pk_un (by decide)).trans ((pk_un (by decide)).trans (pk_un (by decide))))
  obtain ⟨c3, d3, f3⟩ := wmCell_nat (x := v 3) b3 (show (a4 + 3 * f) / 2 ≤ 27 by omega)
  have h3 : wm3 v w (nI f) 3 = nI c3 := by
    unfold wm3
    rw [pk_us, g3, h4, e3, f3]
  obtain ⟨c2, d2, f2⟩ := wmCell_nat (x := v 2) b2 d3
  have h2 : wm2 v w (nI f) 2 = nI c2 := by
    unfold wm2
    rw [pk_us, g2, h3, e2, f2]
  obtain ⟨c1, d1, f1⟩ := wmCell_nat (x := v 1) b1 d2
  have h1 : wm1 v w (nI f) 1 = nI c1 := by
    unfold wm1
    rw [pk_us, g1, h2, e1, f1]
  obtain ⟨c0, d0, f0⟩ := wmCell_nat (x := v 0) b0 d1
  have h0 : wm0 v w (nI f) 0 = nI c0 := by
    unfold wm0
    rw [pk_us, g0, h1, e0, f0]
  have k1 : wm0 v w (nI f) 1 = wm1 v w (nI f) 1 := pk_un (by decide)
  have k2 : wm0 v w (nI f) 2 = wm2 v w (nI f) 2 := (pk_un (by decide)).trans (pk_un (by decide))
  have k3 : wm0 v w (nI f) 3 = wm3 v w (nI f) 3 := (pk_un (by decide)).trans ((pk_un (by decide)).trans (pk_un (by decide)))
  have k4 : wm0 v w (nI f) 4 = wm4 w (nI f) 4 := (pk_un (by decide)).trans ((pk_un (by decide)).trans ((pk_un (by decide)).trans (pk_un (by decide))))
  intro k hk
  match k, hk with
  | 0, _ => exact ⟨c0, d0, h0⟩
  | 1, _ => exact ⟨c1, d1, k1.trans h1⟩
  | 2, _ => exact ⟨c2, d2, k2.trans h2⟩
  | 3, _ => exact ⟨c3, d3, k3.trans h3⟩
  | 4, _ => exact ⟨_, by omega, k4.trans h4⟩
theorem kBurns_nat {co fl : Int32} (h : ∃ f : Nat, f ≤ 9 ∧ fl = nI f) : ∃ f : Nat, f ≤ 9 ∧ kBurns co fl = nI f := by
  unfold kBurns
  split
  · exact h
  · exact ⟨0, by omega, rfl⟩
theorem sW_nat {pf : Prop} {S : KS} {ci : Nat → Nat} {mz : Nat → MV} {NC lb : Nat} (h : KM pf S ci mz NC lb) : ∃ wu : Nat → Nat, ∀ k, k < 5 → sW1 S k = nI (wu k) ∧ wu k ≤ 27 := by
  have hh := wm_nat (v := sV1 S) h.2.2.2.2.2.2.2 (kBurns_nat (co := S.1 1) h.2.2.2.2.2.2.1)
  refine ⟨fun k => (sW1 S k).toNatClampNeg, fun k hk => ?_⟩
  obtain ⟨u, hu, e⟩ := hh k hk
  have e2 : sW1 S k = nI u := e
  show sW1 S k = nI (sW1 S k).toNatClampNeg ∧ (sW1 S k).toNatClampNeg ≤ 27
  rw [e2, nI_clamp (by omega)]
  exact ⟨rfl, hu⟩
theorem sV2_0 {S : KS} {k : Nat} : (sV2 S k).1 0 = (sV1 S k).1 0 ∧ (sV2 S k).2 = (sV1 S k).2 := by
  unfold sV2 kvF stC
  split
  · split
    · exact ⟨rfl, rfl⟩
    · exact ⟨rfl, rfl⟩
  · exact ⟨rfl, rfl⟩
theorem hs2_eq (S : KS) : hsF (kst S).2.2.1 = hsS S := funext fun k => (sV2_0 (S := S) (k := k)).1
theorem sR1_eq (S : KS) : sR1 S = kRing1 ((sV1 S 3).1 0) (mxMelt (sV1 S 3).2.1) (sW1 S 3) (S.1 2) := by
  unfold sR1
  rw [(sV2_0 (S := S) (k := 3)).1, (sV2_0 (S := S) (k := 3)).2]
theorem kCarb_eq {co fl ca : Int32} : ca + 2 * kBurns co fl = kCarb co fl ca := by
  unfold kBurns kCarb
  split
  · rfl
  · rw [show (2 : Int32) * 0 = 0 by decide]
    exact Int32.add_zero ca
/-- a step keeps it -/
theorem KM_step {pf : Prop} {S : KS} {ci : Nat → Nat} {mz : Nat → MV} {NC lb : Nat} (h : KM pf S ci mz NC lb) : KM pf (kst S) (ciS S NC ci) (mzS S NC ci mz) NC (lbS S ci lb) ∧ ∀ j, j < lbS S ci lb → mzS S NC ci mz j = mz j := by
  obtain ⟨m1, m2, m3, m4, m5⟩ := mv_ok h
  obtain ⟨wu, hwu⟩ := sW_nat h
  have hN : ∀ j, (j < lbS S ci lb ∨ NC ≤ j + kmN (S.1 2) S.2.1) → mzS S NC ci mz j = mz j := fun j hj => pbF_ne (fun s hs hl => by
    have := m2 s hs hl
    omega)
  have hA : ∀ k, k < 5 → ¬ hsS S k = 0 → mzS S NC ci mz (ciS S NC ci k) = mvS (mz (ciS S NC ci k)) (chBurn (sW1 S k) (sV1 S k)) := fun k hk hl => pbF_at hl hk (fun s hs h2 hne => decI_ne m3 hs hk h2 hl hne)
  have hV : ∀ k, k < 5 → ¬ hsS S k = 0 → sV2 S k = chBurn (sW1 S k) (sV1 S k) := fun k hk hl => by
    unfold sV2 kvF stC
    exact (if_pos hk).trans (if_neg hl)
  obtain ⟨k1, k2, k3, k4, k5, k6, k7, k8⟩ := h
  refine ⟨⟨kwf_kst k1, m5, m1, fun k hk hl => ?_, ?_, fun i hi => ?_, k7, fun k hk => ⟨wu k, (hwu k hk).2, (hwu k hk).1⟩⟩, fun j hj => hN j (Or.inl hj)⟩
  · have hl2 : ¬ hsS S k = 0 := fun e => hl (by rw [← hs2_eq] at e; exact e)
    obtain ⟨g1, g2, g3⟩ := m2 k hk hl2
    refine ⟨g1, g2, ?_⟩
    show rlR pf (sV2 S k) _
    rw [hA k hk hl2, hV k hk hl2, (hwu k hk).1]
    exact rlR_burn (by have := (hwu k hk).2; omega) g3
  · rw [hs2_eq]; exact m3
  · have hi2 : i < kmN (S.1 2) S.2.1 := hi
    show (kmW (S.1 2) S.2.1 S.2.2.2.1 S.2.2.2.2.1 i).1 0 = 1 ∧ rlR pf (kmW (S.1 2) S.2.1 S.2.2.2.1 S.2.2.2.2.1 i) (mzS S NC ci mz (NC - kmN (S.1 2) S.2.1 + i))
    rw [hN _ (Or.inr (by omega))]
    have h3 := k1.1
    by_cases hr : S.1 2 < 6
    · have eN : kmN (S.1 2) S.2.1 = S.2.1 - 1 := if_pos hr
      rw [eN] at hi2 ⊢
      have eW : kmW (S.1 2) S.2.1 S.2.2.2.1 S.2.2.2.2.1 = rotW S.2.2.2.1 S.2.2.2.2.1 := (if_pos hr).trans (if_neg (by omega))
      have eI : rotW S.2.2.2.1 S.2.2.2.2.1 i = S.2.2.2.1 (i + 1) := by
        match i, hi2 with
        | 0, _ => rfl
        | 1, _ => rfl
        | i + 2, hh => omega
      rw [eW, eI, show NC - (S.2.1 - 1) + i = NC - S.2.1 + (i + 1) by omega]
      exact k6 (i + 1) (by omega)
    · have eN : kmN (S.1 2) S.2.1 = S.2.1 := if_neg hr
      rw [eN] at hi2 ⊢
      have eW : kmW (S.1 2) S.2.1 S.2.2.2.1 S.2.2.2.2.1 = S.2.2.2.1 := if_neg hr
      rw [eW]
      exact k6 i hi2
def inP (NC oc : Nat) (oi : Nat → Nat) : Prop := ∀ i, i < oc → oi i < NC
theorem pool_mem {G : VG} {Q : Nat → Nat → Nat} {NC j : Nat} {mz : Nat → MV} (h : j < NC) : ∃ fs, ((Q j) 0, .inr (10, fs)) ∈ famW NC (fun ι => mcP G (Q ι) (mz ι)) :=
  ⟨_, List.mem_flatten.mpr ⟨mcP G (Q j) (mz j), List.mem_map.mpr ⟨j, List.mem_range.mpr h, rfl⟩, List.mem_cons_self⟩⟩
theorem va_upQ {Q : Nat → Nat → Nat} {oi : Nat → Nat} {oc j : Nat} : va_up (fun i => (Q (oi i)) 0) oc ((Q j) 0) = fun i => (Q ((va_up oi oc j) i)) 0 := by
  funext i
  unfold va_up
  split <;> rfl
theorem mvH_off {v : Nat → CV} {y : CV} : mvH (hsF v) = hsF (rot5 v (chOff y)) := by
  funext i
  match i with
  | 0 => rfl
  | 1 => rfl
  | 2 => rfl
  | 3 => rfl
  | 4 => rfl
  | k + 5 => simp [mvH, upd, hsF, rot5]
theorem mvH_on {v : Nat → CV} {x : CV} (h : x.1 0 = 1) : upd (mvH (hsF v)) 0 1 = hsF (rot5 v x) := by
  funext i
  match i with
  | 0 => exact h.symm
  | 1 => rfl
  | 2 => rfl
  | 3 => rfl
  | 4 => rfl
  | k + 5 => simp [mvH, upd, hsF, rot5]
theorem ciS_B {S : KS} {NC : Nat} {ci : Nat → Nat} (h : ¬ S.1 2 < 6) : ciS S NC ci = ci := if_neg h
theorem ciS_N {S : KS} {NC : Nat} {ci : Nat → Nat} (h : S.1 2 < 6) (hn : S.2.1 = 0) : ciS S NC ci = mvI ci := (if_pos h).trans (if_pos hn)
theorem ciS_W {S : KS} {NC n : Nat} {ci : Nat → Nat} (h : S.1 2 < 6) (hn : n + 1 = S.2.1) : ciS S NC ci = va_up (mvI ci) 0 (NC - (n + 1)) := by
  rw [hn]
  exact (if_pos h).trans (if_neg (by omega))
theorem hsS_B {S : KS} (h : ¬ S.1 2 < 6) : hsS S = hsF S.2.2.1 := by
  unfold hsS
  rw [show sV1 S = S.2.2.1 from if_neg h]
theorem hsS_N {S : KS} (h : S.1 2 < 6) (hn : S.2.1 = 0) : hsS S = mvH (hsF S.2.2.1) := by
  unfold hsS
  rw [show sV1 S = rot5 S.2.2.1 (chOff S.2.2.2.2.1) from (if_pos h).trans (by unfold nwV; rw [if_pos hn]), mvH_off]
theorem hsS_W {S : KS} {n : Nat} (h : S.1 2 < 6) (hn : n + 1 = S.2.1) (hx : (S.2.2.2.1 0).1 0 = 1) : hsS S = upd (mvH (hsF S.2.2.1)) 0 1 := by
  unfold hsS
  rw [show sV1 S = rot5 S.2.2.1 (S.2.2.2.1 0) from (if_pos h).trans (by unfold nwV; rw [if_neg (by omega)]), mvH_on hx]
theorem ks2 (S : KS) : (kst S).1 2 = kRing2 (sW1 S 3) (kRing1 ((sV1 S 3).1 0) (mxMelt (sV1 S 3).2.1) (sW1 S 3) (S.1 2)) := by
  show kRing2 (sW1 S 3) (sR1 S) = _
  rw [sR1_eq]
theorem ks4 (S : KS) : (kst S).1 4 = kFall (sW1 S 3) (kRing1 ((sV1 S 3).1 0) (mxMelt (sV1 S 3).2.1) (sW1 S 3) (S.1 2)) (S.1 4) := by
  show kFall (sW1 S 3) (sR1 S) (S.1 4) = _
  rw [sR1_eq]
theorem ks6 (S : KS) : (kst S).1 6 = kcF (sW1 S) (sV1 S) (S.1 6 + 2 * kBurns (S.1 1) (S.1 0)) 5 := by
  rw [kCarb_eq]
  rfl
theorem ks5_B {S : KS} (h : ¬ S.1 2 < 6) : (kst S).1 5 = S.1 5 + 1 := if_neg h
theorem ks5_R {S : KS} (h : S.1 2 < 6) : (kst S).1 5 = S.1 5 := if_pos h
theorem ksn_B {S : KS} {n : Nat} (h : ¬ S.1 2 < 6) (hn : n = S.2.1) : (kst S).2.1 = n := (if_neg h).trans hn.symm
theorem ksn_N {S : KS} (h : S.1 2 < 6) (hn : S.2.1 = 0) : (kst S).2.1 = 0 := by
  show kmN (S.1 2) S.2.1 = 0
  unfold kmN
  rw [if_pos h]
  omega
theorem ksn_W {S : KS} {n : Nat} (h : S.1 2 < 6) (hn : n + 1 = S.2.1) : (kst S).2.1 = n := by
  show kmN (S.1 2) S.2.1 = n
  unfold kmN
  rw [if_pos h]
  omega
theorem oc_0 {S : KS} {oc : Nat} (h : kmR (S.1 2) S.2.2.1 = 0) : ocS S oc = oc := if_pos h
theorem oi_0 {S : KS} {oc : Nat} {ci oi : Nat → Nat} (h : kmR (S.1 2) S.2.2.1 = 0) : oiS S ci oi oc = oi := if_pos h
theorem oc_1 {S : KS} {oc : Nat} (h : ¬ kmR (S.1 2) S.2.2.1 = 0) : ocS S oc = oc + 1 := if_neg h
theorem oi_1 {S : KS} {oc : Nat} {ci oi : Nat → Nat} (h : ¬ kmR (S.1 2) S.2.2.1 = 0) : oiS S ci oi oc = va_up oi oc (ci 4) := if_neg h
theorem kR_B {S : KS} (h : ¬ S.1 2 < 6) : kmR (S.1 2) S.2.2.1 = 0 := if_neg h
theorem kR_R {S : KS} (h : S.1 2 < 6) : kmR (S.1 2) S.2.2.1 = hsF S.2.2.1 4 := if_pos h
theorem wsh_fn {Q : Nat → Nat → Nat} {NC n : Nat} (h : n + 1 ≤ NC) : (fun κ => (Q (NC - n + κ)) 0) = fun κ => (Q (NC - (n + 1) + (κ + 1))) 0 := by
  funext κ
  rw [show NC - (n + 1) + (κ + 1) = NC - n + κ by omega]
set_option maxHeartbeats 4000000 in
set_option maxRecDepth 100000 in
/-- ClinkerWorksModel.step -/
theorem c_X11_step (l : Launch) (G : VG) (pf : Prop) (y ce ha wa : Nat) (Q : Nat → Nat → Nat) (ci : Nat → Nat) (S : KS) (NC lb : Nat) (mz : Nat → MV) (aw bw : Nat) (mw : Int32) (Nw n : Nat) (ao bo : Nat) (mo : Int32) (No oc : Nat) (oi : Nat → Nat) (hK : KM pf S ci mz NC lb) (hn : n = S.2.1) (hwk : alOk Nw n) (hok : alOk No oc) (hoc : oc < 33) (hin : inP NC oc oi) : Mv l G yX11_step cX11_step 6 7 221 1 33 [.ref y, .ref aw, .ref ao] [[(y, .inr (11, [.ref ce, .ref ha, .ref wa, .int (S.1 0), .int (S.1 1), .int (S.1 3), .int (S.1 2), .int (S.1 4), .int (S.1 5), .int (S.1 6)]))], [(ce, .inl (G.2.1 7, 5, .inr (.inr (.inr (.inr (refQ 5 Q ci))))))], [(ha, .inl (G.2.1 1, 5, .inl (hsF S.2.2.1)))], [(wa, .inl (G.2.1 0, 5, .inl S.2.2.2.2.2))], famW NC (fun ι => mcP G (Q ι) (mz ι)), alP G aw bw mw Nw n (fun κ => (Q (NC - n + κ)) 0), alP G ao bo mo No oc (fun κ => (Q (oi κ)) 0)] (fun u => ∃ (mw9 : Int32) (bo9 : Nat) (mo9 : Int32) (No9 : Nat), alOk No9 (ocS S oc) ∧ u = [[(y, .inr (11, [.ref ce, .ref ha, .ref wa, .int ((kst S).1 0), .int ((kst S).1 1), .int ((kst S).1 3), .int ((kst S).1 2), .int ((kst S).1 4), .int ((kst S).1 5), .int ((kst S).1 6)]))], [(ce, .inl (G.2.1 7, 5, .inr (.inr (.inr (.inr (refQ 5 Q (ciS S NC ci)))))))], [(ha, .inl (G.2.1 1, 5, .inl (hsF (kst S).2.2.1)))], [(wa, .inl (G.2.1 0, 5, .inl ((kst S).2.2.2.2.2)))], famW NC (fun ι => mcP G (Q ι) ((mzS S NC ci mz) ι)), alP G aw bw mw9 Nw (kst S).2.1 (fun κ => (Q (NC - (kst S).2.1 + κ)) 0), alP G ao bo9 mo9 No9 (ocS S oc) (fun κ => (Q ((oiS S ci oi oc) κ)) 0)]) := by
  refine Mv_of (by decide) (Nat.le_of_ble_eq_true rfl) (fun pP eE sS mM aA bB tT cC AA QQ hC hr hnm hQ => ?_)
  obtain ⟨wu, hwu⟩ := sW_nat hK
  refine V_aload_n hC dX11_step_0 0 rfl ?_
  refine V_dup hC dX11_step_1 rfl ?_
  refine V_get hC dX11_step_2 inAX10 (mem_at 0 0 rfl rfl) rfl 5 (by decide) q1048 rfl (v := .int (S.1 3)) rfl ?_
  refine V_iconst hC dX11_step_5 (v := 1) (by decide) ?_
  refine V_iadd hC dX11_step_6 ?_
  refine V_put hC dX11_step_7 inAX10 tyX10 tyX10_ok nmX10 0 0 rfl rfl rfl 5 (by decide) q1048 rfl rfl (rfl) (rfl) (Nat.le_of_ble_eq_true rfl) (ps' := [[(y, .inr (11, [.ref ce, .ref ha, .ref wa, .int (S.1 0), .int (S.1 1), .int ((S.1 3) + 1), .int (S.1 2), .int (S.1 4), .int (S.1 5), .int (S.1 6)]))], [(ce, .inl (G.2.1 7, 5, .inr (.inr (.inr (.inr (refQ 5 Q ci))))))], [(ha, .inl (G.2.1 1, 5, .inl (hsF S.2.2.1)))], [(wa, .inl (G.2.1 0, 5, .inl S.2.2.2.2.2))], famW NC (fun ι => mcP G (Q ι) (mz ι)), alP G aw bw mw Nw n (fun κ => (Q (NC - n + κ)) 0), alP G ao bo mo No oc (fun κ => (Q (oi κ)) 0)]) rfl ?_
  refine V_aload_n hC dX11_step_10 0 rfl ?_
  refine V_calli hC (V_runV hC (rest := []) [] (c_X10_burns l G y ce ha wa (S.1 0) (S.1 1) ((S.1 3) + 1) (S.1 2) (S.1 4) (S.1 5) (S.1 6)) [0] rfl (by decide) q1276 q1277 q1278 q56 q1279 ⟨by decide, by decide, rfl⟩ ⟨by decide, by decide⟩ (ci := 11) rfl (mem_at 0 0 rfl rfl) rfl (Nat.le_of_ble_eq_true rfl) ⟨by decide, by decide⟩ dX11_step_11) (is := [0]) rfl [1, 2, 3, 4, 5, 6] (rs := [[(ce, .inl (G.2.1 7, 5, .inr (.inr (.inr (.inr (refQ 5 Q ci))))))], [(ha, .inl (G.2.1 1, 5, .inl (hsF S.2.2.1)))], [(wa, .inl (G.2.1 0, 5, .inl S.2.2.2.2.2))], famW NC (fun ι => mcP G (Q ι) (mz ι)), alP G aw bw mw Nw n (fun κ => (Q (NC - n + κ)) 0), alP G ao bo mo No oc (fun κ => (Q (oi κ)) 0)]) rfl (by decide) (by decide) ?_
  rintro _ _ ⟨rfl, rfl⟩
  refine V_istore_n hC dX11_step_14 (L' := [(3, .int (kBurns (S.1 1) (S.1 0))), (0, .ref y), (1, .ref aw), (2, .ref ao)]) (by decide) rfl ?_
  refine V_aload_n hC dX11_step_15 1 rfl ?_
  refine V_calli hC (V_runV hC (rest := []) [] (c_X10_isBlocked l G y ce ha wa (S.1 0) (kCoal (S.1 1) (S.1 0)) ((S.1 3) + 1) (S.1 2) (S.1 4) (S.1 5) (S.1 6)) [0] rfl (by decide) q1280 q1281 q1282 q56 q1283 ⟨by decide, by decide, rfl⟩ ⟨by decide, by decide⟩ (ci := 11) rfl (mem_at 0 0 rfl rfl) rfl (Nat.le_of_ble_eq_true rfl) ⟨by decide, by decide⟩ dX11_step_16) (is := [0]) rfl [1, 2, 3, 4, 5, 6] (rs := [[(ce, .inl (G.2.1 7, 5, .inr (.inr (.inr (.inr (refQ 5 Q ci))))))], [(ha, .inl (G.2.1 1, 5, .inl (hsF S.2.2.1)))], [(wa, .inl (G.2.1 0, 5, .inl S.2.2.2.2.2))], famW NC (fun ι => mcP G (Q ι) (mz ι)), alP G aw bw mw Nw n (fun κ => (Q (NC - n + κ)) 0), alP G ao bo mo No oc (fun κ => (Q (oi κ)) 0)]) rfl (by decide) (by decide) ?_
  rintro _ _ ⟨rfl, rfl⟩
  refine V_if_eq hC dX11_step_19 (tgt := 35) (by decide) (fun h1 => ?_) (fun h1 => ?_)
  · have hr6 : S.1 2 < 6 := by by_cases h9 : S.1 2 < 6; exact h9; rw [if_neg h9] at h1; exact absurd h1 (by decide)
    refine V_aload_n hC dX11_step_35 1 rfl ?_
    refine V_get hC dX11_step_36 inAX10 (mem_at 0 0 rfl rfl) rfl 1 (by decide) q1040 rfl (v := .ref ha) rfl ?_
    refine V_iconst hC dX11_step_39 (v := 4) (by decide) ?_
    refine V_zald hC dX11_step_40 (mem_at 2 0 rfl rfl) (vin (by decide)) (x := 4) (by decide) ?_
    refine V_istore hC dX11_step_41 (L' := [(4, .int ((hsF S.2.2.1) 4)), (3, .int (kBurns (S.1 1) (S.1 0))), (0, .ref y), (1, .ref aw), (2, .ref ao)]) (by decide) rfl ?_
    refine V_aload_n hC dX11_step_43 2 rfl ?_
    refine V_callr hC (V_runV hC (rest := []) [] (Mr_sz (c_X10_move l G y ce ha wa (S.1 0) (kCoal (S.1 1) (S.1 0)) ((S.1 3) + 1) (S.1 2) (S.1 4) (S.1 5) (S.1 6) Q ci (hsF S.2.2.1) NC mz hK.2.2.1 (fun j hj => hK.1.2.2.1 j hj))) [0, 1, 2, 4] rfl (by decide) q1284 q1285 q1286 q56 q1287 ⟨by decide, by decide, rfl⟩ ⟨by decide, by decide⟩ (ci := 11) rfl (mem_at 0 0 rfl rfl) rfl (Nat.le_of_ble_eq_true rfl) ⟨by decide, by decide⟩ dX11_step_44) (is := [0, 1, 2, 4]) rfl [3, 5, 6] (rs := [[(wa, .inl (G.2.1 0, 5, .inl S.2.2.2.2.2))], alP G aw bw mw Nw n (fun κ => (Q (NC - n + κ)) 0), alP G ao bo mo No oc (fun κ => (Q (oi κ)) 0)]) rfl (by decide) (by decide) ?_
    rintro _ _ ⟨rfl, rfl⟩
    refine V_astore hC dX11_step_47 (L' := [(5, .ref ((Q (ci 4)) 0)), (4, .int ((hsF S.2.2.1) 4)), (3, .int (kBurns (S.1 1) (S.1 0))), (0, .ref y), (1, .ref aw), (2, .ref ao)]) (by decide) rfl ?_
    refine V_iload hC dX11_step_49 1 rfl ?_
    refine V_if_eq hC dX11_step_51 (tgt := 63) (by decide) (fun h2 => ?_) (fun h2 => ?_)
    · have hov : hsF S.2.2.1 4 = 0 := h2
      refine V_aload_n hC dX11_step_63 4 rfl ?_
      refine V_callFi hC (V_runF hC (rest := []) [] (c_al_isEmpty l G aw bw mw Nw n (fun κ => (Q (NC - n + κ)) 0) (by have := hwk.1; have := hwk.2; omega)) [5] rfl (by decide) q1289 (by decide +kernel) q1294 q1292 q55 q1296 ⟨by decide, by decide, rfl⟩ ⟨by decide, by decide⟩ rfl (mem_at 5 0 rfl rfl) rfl (Nat.le_of_ble_eq_true rfl) ⟨by decide, by decide⟩ dX11_step_64) (is := [5]) rfl [0, 1, 2, 3, 4, 6] (rs := [[(y, .inr (11, [.ref ce, .ref ha, .ref wa, .int (S.1 0), .int (kCoal (S.1 1) (S.1 0)), .int ((S.1 3) + 1), .int (S.1 2), .int (S.1 4), .int (S.1 5), .int (S.1 6)]))], [(ce, .inl (G.2.1 7, 5, .inr (.inr (.inr (.inr (refQ 5 Q (mvI ci)))))))], [(ha, .inl (G.2.1 1, 5, .inl (mvH (hsF S.2.2.1))))], famW NC (fun ι => mcP G (Q ι) (mz ι)), [(wa, .inl (G.2.1 0, 5, .inl S.2.2.2.2.2))], alP G ao bo mo No oc (fun κ => (Q (oi κ)) 0)]) rfl (by decide) (by decide) ?_
      rintro _ _ ⟨rfl, rfl⟩
      refine V_if_ne hC dX11_step_69 (tgt := 94) (by decide) (fun h3 => ?_) (fun h3 => ?_)
      · have hn0 : S.2.1 = 0 := by rw [← hn]; by_cases h9 : n = 0; exact h9; exact absurd (if_neg h9) h3
        obtain rfl : n = 0 := by omega
        refine V_psEq (ps' := [alP G aw bw mw Nw 0 (fun κ => (Q (NC - 0 + κ)) 0), [(y, .inr (11, [.ref ce, .ref ha, .ref wa, .int (S.1 0), .int (kCoal (S.1 1) (S.1 0)), .int ((S.1 3) + 1), .int (S.1 2), .int (S.1 4), .int (S.1 5), .int (S.1 6)]))], [(ce, .inl (G.2.1 7, 5, .inr (.inr (.inr (.inr (refQ 5 Q (ciS S NC ci)))))))], [(ha, .inl (G.2.1 1, 5, .inl (hsS S)))], famW NC (fun ι => mcP G (Q ι) (mz ι)), [(wa, .inl (G.2.1 0, 5, .inl S.2.2.2.2.2))], alP G ao bo mo No oc (fun κ => (Q (oi κ)) 0)]) (by rw [ciS_N hr6 hn0, hsS_N hr6 hn0]; first | done | rfl) ?_
        refine V_aload_n hC dX11_step_94 3 rfl ?_
        refine V_iload_n hC dX11_step_95 2 rfl ?_
        refine V_callv hC (V_runV hC (rest := []) [.int (kBurns (S.1 1) (S.1 0))] (c_X10_burn l G y ce ha wa (S.1 0) (kCoal (S.1 1) (S.1 0)) ((S.1 3) + 1) (S.1 2) (S.1 4) (S.1 5) (S.1 6) Q (ciS S NC ci) (hsS S) NC mz S.2.2.2.2.2 (sV1 S) (kBurns (S.1 1) (S.1 0)) wu (mv_ok hK).1 (mv_ok hK).2.2.2.1 (fun _ _ => rfl) (fun k hk hl => ((mv_ok hK).2.1 k hk hl).2.2.1) (fun k hk hl => ((mv_ok hK).2.1 k hk hl).2.2.2.1) (mv_ok hK).2.2.1 (fun k hk => ⟨(hwu k hk).1, Nat.le_trans (hwu k hk).2 (by decide)⟩)) [1, 2, 3, 5, 4] rfl (by decide) q1334 q1335 q1336 q56 q1337 ⟨by decide, by decide, rfl⟩ ⟨by decide, by decide⟩ (ci := 11) rfl (mem_at 1 0 rfl rfl) rfl (Nat.le_of_ble_eq_true rfl) ⟨by decide, by decide⟩ dX11_step_96) (is := [1, 2, 3, 5, 4]) rfl [0, 6] (rs := [alP G aw bw mw Nw 0 (fun κ => (Q (NC - 0 + κ)) 0), alP G ao bo mo No oc (fun κ => (Q (oi κ)) 0)]) rfl (by decide) (by decide) ?_
        rintro _ rfl
        exact V_vret hC hQ hr [0, 1, 2, 3, 4, 5, 6] (u := [[(y, .inr (11, [.ref ce, .ref ha, .ref wa, .int (S.1 0), .int (kCoal (S.1 1) (S.1 0)), .int ((S.1 3) + 1), .int (kRing2 ((wm0 (sV1 S) S.2.2.2.2.2 (kBurns (S.1 1) (S.1 0))) 3) (kRing1 (((sV1 S) 3).1 0) (mxMelt ((sV1 S) 3).2.1) ((wm0 (sV1 S) S.2.2.2.2.2 (kBurns (S.1 1) (S.1 0))) 3) (S.1 2))), .int (kFall ((wm0 (sV1 S) S.2.2.2.2.2 (kBurns (S.1 1) (S.1 0))) 3) (kRing1 (((sV1 S) 3).1 0) (mxMelt ((sV1 S) 3).2.1) ((wm0 (sV1 S) S.2.2.2.2.2 (kBurns (S.1 1) (S.1 0))) 3) (S.1 2)) (S.1 4)), .int (S.1 5), .int (kcF (wm0 (sV1 S) S.2.2.2.2.2 (kBurns (S.1 1) (S.1 0))) (sV1 S) ((S.1 6) + 2 * (kBurns (S.1 1) (S.1 0))) 5)]))], [(ce, .inl (G.2.1 7, 5, .inr (.inr (.inr (.inr (refQ 5 Q (ciS S NC ci)))))))], [(ha, .inl (G.2.1 1, 5, .inl (hsS S)))], [(wa, .inl (G.2.1 0, 5, .inl (wm0 (sV1 S) S.2.2.2.2.2 (kBurns (S.1 1) (S.1 0)))))], famW NC (fun ι => mcP G (Q ι) ((pbF (hsS S) (ciS S NC ci) (wm0 (sV1 S) S.2.2.2.2.2 (kBurns (S.1 1) (S.1 0))) (sV1 S) mz 5) ι)), alP G aw bw mw Nw 0 (fun κ => (Q (NC - 0 + κ)) 0), alP G ao bo mo No oc (fun κ => (Q (oi κ)) 0)]) (by decide) rfl (by decide) (by decide) dX11_step_99 (⟨_, _, _, _, by rw [oc_0 ((kR_R hr6).trans hov)]; exact hok, by rw [ks2, ks4, ks6, hs2_eq, ks5_R hr6, ksn_N hr6 hn0, oc_0 ((kR_R hr6).trans hov), oi_0 ((kR_R hr6).trans hov)]; first | done | rfl⟩)
      · have hn9 : ¬ n = 0 := fun h9 => by rw [if_pos h9] at h3; exact absurd h3 (by decide)
        obtain ⟨n, rfl⟩ : ∃ n1, n = n1 + 1 := ⟨n - 1, by omega⟩
        have hx1 : (S.2.2.2.1 0).1 0 = 1 := (hK.2.2.2.2.2.1 0 (by omega)).1
        refine V_aload_n hC dX11_step_72 3 rfl ?_
        refine V_aload_n hC dX11_step_73 4 rfl ?_
        refine V_iconst hC dX11_step_74 (v := 0) (by decide) ?_
        refine V_callFr hC (V_runF hC (rest := [.ref y]) [.int 0] (Mr_sz (c_al_get l G aw bw mw Nw (n + 1) (fun κ => (Q (NC - (n + 1) + κ)) 0) 0 (by omega) hwk.1 (by have := hwk.2; omega))) [0] rfl (by decide) q1298 (by decide +kernel) q1303 q1301 q55 q1305 ⟨by decide, by decide, rfl⟩ ⟨by decide, by decide⟩ rfl (mem_at 0 0 rfl rfl) rfl (Nat.le_of_ble_eq_true rfl) ⟨by decide, by decide⟩ dX11_step_75) (is := [0]) rfl [1, 2, 3, 4, 5, 6] (rs := [[(y, .inr (11, [.ref ce, .ref ha, .ref wa, .int (S.1 0), .int (kCoal (S.1 1) (S.1 0)), .int ((S.1 3) + 1), .int (S.1 2), .int (S.1 4), .int (S.1 5), .int (S.1 6)]))], [(ce, .inl (G.2.1 7, 5, .inr (.inr (.inr (.inr (refQ 5 Q (mvI ci)))))))], [(ha, .inl (G.2.1 1, 5, .inl (mvH (hsF S.2.2.1))))], famW NC (fun ι => mcP G (Q ι) (mz ι)), [(wa, .inl (G.2.1 0, 5, .inl S.2.2.2.2.2))], alP G ao bo mo No oc (fun κ => (Q (oi κ)) 0)]) rfl (by decide) (by decide) ?_
        rintro _ _ ⟨rfl, rfl⟩
        refine V_cast hC dX11_step_80 q1183 (ci := 10) rfl (mem_fam 4 0 rfl (NC - (n + 1)) ((by have := hK.2.1; omega)) rfl) ?_
        refine V_callv hC (V_runV hC (rest := []) [.ref ((Q (NC - (n + 1))) 0)] (c_X10_take l G y ce ha wa (S.1 0) (kCoal (S.1 1) (S.1 0)) ((S.1 3) + 1) (S.1 2) (S.1 4) (S.1 5) (S.1 6) Q (mvI ci) (mvH (hsF S.2.2.1)) NC mz (NC - (n + 1)) (by have := hK.2.1; omega)) [1, 2, 3, 4] rfl (by decide) q1316 q1317 q1318 q56 q1319 ⟨by decide, by decide, rfl⟩ ⟨by decide, by decide⟩ (ci := 11) rfl (mem_at 1 0 rfl rfl) rfl (Nat.le_of_ble_eq_true rfl) ⟨by decide, by decide⟩ dX11_step_83) (is := [1, 2, 3, 4]) rfl [0, 5, 6] (rs := [alP G aw bw mw Nw (n + 1) (fun κ => (Q (NC - (n + 1) + κ)) 0), [(wa, .inl (G.2.1 0, 5, .inl S.2.2.2.2.2))], alP G ao bo mo No oc (fun κ => (Q (oi κ)) 0)]) rfl (by decide) (by decide) ?_
        rintro _ rfl
        refine V_aload_n hC dX11_step_86 4 rfl ?_
        refine V_iconst hC dX11_step_87 (v := 0) (by decide) ?_
        refine V_callFr hC (V_runF hC (rest := []) [.int 0] (Mr_sz (c_al_remove l G aw bw mw Nw n (fun κ => (Q (NC - (n + 1) + κ)) 0) (famW NC (fun ι => mcP G (Q ι) (mz ι))) (by have := hwk.1; omega) (by have := hwk.2; omega) (fun i hi => pool_mem (by have := hK.2.1; omega)))) [4, 3] rfl (by decide) q1321 (by decide +kernel) q1326 q1324 q55 q1328 ⟨by decide, by decide, rfl⟩ ⟨by decide, by decide⟩ rfl (mem_at 4 0 rfl rfl) rfl (Nat.le_of_ble_eq_true rfl) ⟨by decide, by decide⟩ dX11_step_88) (is := [4, 3]) rfl [0, 1, 2, 5, 6] (rs := [[(y, .inr (11, [.ref ce, .ref ha, .ref wa, .int (S.1 0), .int (kCoal (S.1 1) (S.1 0)), .int ((S.1 3) + 1), .int (S.1 2), .int (S.1 4), .int (S.1 5), .int (S.1 6)]))], [(ce, .inl (G.2.1 7, 5, .inr (.inr (.inr (.inr (refQ 5 Q (va_up (mvI ci) 0 (NC - (n + 1)))))))))], [(ha, .inl (G.2.1 1, 5, .inl (upd (mvH (hsF S.2.2.1)) 0 1)))], [(wa, .inl (G.2.1 0, 5, .inl S.2.2.2.2.2))], alP G ao bo mo No oc (fun κ => (Q (oi κ)) 0)]) rfl (by decide) (by decide) ?_
        rintro _ _ ⟨rfl, rfl⟩
        refine V_pop hC dX11_step_93 rfl ?_
        refine V_psEq (ps' := [alP G aw bw (mw + 1) Nw n (fun i => (fun κ => (Q (NC - (n + 1) + κ)) 0) (i + 1)), famW NC (fun ι => mcP G (Q ι) (mz ι)), [(y, .inr (11, [.ref ce, .ref ha, .ref wa, .int (S.1 0), .int (kCoal (S.1 1) (S.1 0)), .int ((S.1 3) + 1), .int (S.1 2), .int (S.1 4), .int (S.1 5), .int (S.1 6)]))], [(ce, .inl (G.2.1 7, 5, .inr (.inr (.inr (.inr (refQ 5 Q (ciS S NC ci)))))))], [(ha, .inl (G.2.1 1, 5, .inl (hsS S)))], [(wa, .inl (G.2.1 0, 5, .inl S.2.2.2.2.2))], alP G ao bo mo No oc (fun κ => (Q (oi κ)) 0)]) (by rw [ciS_W hr6 hn, hsS_W hr6 hn hx1]; first | done | rfl) ?_
        refine V_aload_n hC dX11_step_94 3 rfl ?_
        refine V_iload_n hC dX11_step_95 2 rfl ?_
        refine V_callv hC (V_runV hC (rest := []) [.int (kBurns (S.1 1) (S.1 0))] (c_X10_burn l G y ce ha wa (S.1 0) (kCoal (S.1 1) (S.1 0)) ((S.1 3) + 1) (S.1 2) (S.1 4) (S.1 5) (S.1 6) Q (ciS S NC ci) (hsS S) NC mz S.2.2.2.2.2 (sV1 S) (kBurns (S.1 1) (S.1 0)) wu (mv_ok hK).1 (mv_ok hK).2.2.2.1 (fun _ _ => rfl) (fun k hk hl => ((mv_ok hK).2.1 k hk hl).2.2.1) (fun k hk hl => ((mv_ok hK).2.1 k hk hl).2.2.2.1) (mv_ok hK).2.2.1 (fun k hk => ⟨(hwu k hk).1, Nat.le_trans (hwu k hk).2 (by decide)⟩)) [2, 3, 4, 5, 1] rfl (by decide) q1334 q1335 q1336 q56 q1337 ⟨by decide, by decide, rfl⟩ ⟨by decide, by decide⟩ (ci := 11) rfl (mem_at 2 0 rfl rfl) rfl (Nat.le_of_ble_eq_true rfl) ⟨by decide, by decide⟩ dX11_step_96) (is := [2, 3, 4, 5, 1]) rfl [0, 6] (rs := [alP G aw bw (mw + 1) Nw n (fun i => (fun κ => (Q (NC - (n + 1) + κ)) 0) (i + 1)), alP G ao bo mo No oc (fun κ => (Q (oi κ)) 0)]) rfl (by decide) (by decide) ?_
        rintro _ rfl
        exact V_vret hC hQ hr [0, 1, 2, 3, 4, 5, 6] (u := [[(y, .inr (11, [.ref ce, .ref ha, .ref wa, .int (S.1 0), .int (kCoal (S.1 1) (S.1 0)), .int ((S.1 3) + 1), .int (kRing2 ((wm0 (sV1 S) S.2.2.2.2.2 (kBurns (S.1 1) (S.1 0))) 3) (kRing1 (((sV1 S) 3).1 0) (mxMelt ((sV1 S) 3).2.1) ((wm0 (sV1 S) S.2.2.2.2.2 (kBurns (S.1 1) (S.1 0))) 3) (S.1 2))), .int (kFall ((wm0 (sV1 S) S.2.2.2.2.2 (kBurns (S.1 1) (S.1 0))) 3) (kRing1 (((sV1 S) 3).1 0) (mxMelt ((sV1 S) 3).2.1) ((wm0 (sV1 S) S.2.2.2.2.2 (kBurns (S.1 1) (S.1 0))) 3) (S.1 2)) (S.1 4)), .int (S.1 5), .int (kcF (wm0 (sV1 S) S.2.2.2.2.2 (kBurns (S.1 1) (S.1 0))) (sV1 S) ((S.1 6) + 2 * (kBurns (S.1 1) (S.1 0))) 5)]))], [(ce, .inl (G.2.1 7, 5, .inr (.inr (.inr (.inr (refQ 5 Q (ciS S NC ci)))))))], [(ha, .inl (G.2.1 1, 5, .inl (hsS S)))], [(wa, .inl (G.2.1 0, 5, .inl (wm0 (sV1 S) S.2.2.2.2.2 (kBurns (S.1 1) (S.1 0)))))], famW NC (fun ι => mcP G (Q ι) ((pbF (hsS S) (ciS S NC ci) (wm0 (sV1 S) S.2.2.2.2.2 (kBurns (S.1 1) (S.1 0))) (sV1 S) mz 5) ι)), alP G aw bw (mw + 1) Nw n (fun i => (fun κ => (Q (NC - (n + 1) + κ)) 0) (i + 1)), alP G ao bo mo No oc (fun κ => (Q (oi κ)) 0)]) (by decide) rfl (by decide) (by decide) dX11_step_99 (⟨_, _, _, _, by rw [oc_0 ((kR_R hr6).trans hov)]; exact hok, by rw [ks2, ks4, ks6, hs2_eq, ks5_R hr6, ksn_W hr6 hn, oc_0 ((kR_R hr6).trans hov), oi_0 ((kR_R hr6).trans hov), wsh_fn (n := n) (by have := hK.2.1; omega)]; first | done | rfl⟩)
    · have hov : ¬ hsF S.2.2.1 4 = 0 := h2
      refine V_aload_n hC dX11_step_54 5 rfl ?_
      refine V_aload hC dX11_step_55 0 rfl ?_
      refine V_callFi hC (V_runF hC (rest := []) [.ref ((Q (ci 4)) 0)] (c_al_add l G ao bo mo No oc (fun κ => (Q (oi κ)) 0) ((Q (ci 4)) 0) (famW NC (fun ι => mcP G (Q ι) (mz ι))) _ hok hoc (fun i hi => pool_mem (hin i hi)) (pool_mem (hK.2.2.1 4 (by decide))).choose_spec) [6, 3] rfl (by decide) q1194 (by decide +kernel) q1199 q1197 q55 q1201 ⟨by decide, by decide, rfl⟩ ⟨by decide, by decide⟩ rfl (mem_at 6 0 rfl rfl) rfl (Nat.le_of_ble_eq_true rfl) ⟨by decide, by decide⟩ dX11_step_57) (is := [6, 3]) rfl [0, 1, 2, 4, 5] (rs := [[(y, .inr (11, [.ref ce, .ref ha, .ref wa, .int (S.1 0), .int (kCoal (S.1 1) (S.1 0)), .int ((S.1 3) + 1), .int (S.1 2), .int (S.1 4), .int (S.1 5), .int (S.1 6)]))], [(ce, .inl (G.2.1 7, 5, .inr (.inr (.inr (.inr (refQ 5 Q (mvI ci)))))))], [(ha, .inl (G.2.1 1, 5, .inl (mvH (hsF S.2.2.1))))], [(wa, .inl (G.2.1 0, 5, .inl S.2.2.2.2.2))], alP G aw bw mw Nw n (fun κ => (Q (NC - n + κ)) 0)]) rfl (by decide) (by decide) ?_
      rintro _ _ ⟨bb4, NN4, rfl, ok4, rfl⟩
      refine V_pop hC dX11_step_62 rfl ?_
      refine V_aload_n hC dX11_step_63 4 rfl ?_
      refine V_callFi hC (V_runF hC (rest := []) [] (c_al_isEmpty l G aw bw mw Nw n (fun κ => (Q (NC - n + κ)) 0) (by have := hwk.1; have := hwk.2; omega)) [6] rfl (by decide) q1289 (by decide +kernel) q1294 q1292 q55 q1296 ⟨by decide, by decide, rfl⟩ ⟨by decide, by decide⟩ rfl (mem_at 6 0 rfl rfl) rfl (Nat.le_of_ble_eq_true rfl) ⟨by decide, by decide⟩ dX11_step_64) (is := [6]) rfl [0, 1, 2, 3, 4, 5] (rs := [alP G ao bb4 (mo + 1) NN4 (oc + 1) (va_up (fun κ => (Q (oi κ)) 0) oc ((Q (ci 4)) 0)), famW NC (fun ι => mcP G (Q ι) (mz ι)), [(y, .inr (11, [.ref ce, .ref ha, .ref wa, .int (S.1 0), .int (kCoal (S.1 1) (S.1 0)), .int ((S.1 3) + 1), .int (S.1 2), .int (S.1 4), .int (S.1 5), .int (S.1 6)]))], [(ce, .inl (G.2.1 7, 5, .inr (.inr (.inr (.inr (refQ 5 Q (mvI ci)))))))], [(ha, .inl (G.2.1 1, 5, .inl (mvH (hsF S.2.2.1))))], [(wa, .inl (G.2.1 0, 5, .inl S.2.2.2.2.2))]]) rfl (by decide) (by decide) ?_
      rintro _ _ ⟨rfl, rfl⟩
      refine V_if_ne hC dX11_step_69 (tgt := 94) (by decide) (fun h5 => ?_) (fun h5 => ?_)
      · have hn0 : S.2.1 = 0 := by rw [← hn]; by_cases h9 : n = 0; exact h9; exact absurd (if_neg h9) h5
        obtain rfl : n = 0 := by omega
        refine V_psEq (ps' := [alP G aw bw mw Nw 0 (fun κ => (Q (NC - 0 + κ)) 0), alP G ao bb4 (mo + 1) NN4 (oc + 1) (va_up (fun κ => (Q (oi κ)) 0) oc ((Q (ci 4)) 0)), famW NC (fun ι => mcP G (Q ι) (mz ι)), [(y, .inr (11, [.ref ce, .ref ha, .ref wa, .int (S.1 0), .int (kCoal (S.1 1) (S.1 0)), .int ((S.1 3) + 1), .int (S.1 2), .int (S.1 4), .int (S.1 5), .int (S.1 6)]))], [(ce, .inl (G.2.1 7, 5, .inr (.inr (.inr (.inr (refQ 5 Q (ciS S NC ci)))))))], [(ha, .inl (G.2.1 1, 5, .inl (hsS S)))], [(wa, .inl (G.2.1 0, 5, .inl S.2.2.2.2.2))]]) (by rw [ciS_N hr6 hn0, hsS_N hr6 hn0]; first | done | rfl) ?_
        refine V_aload_n hC dX11_step_94 3 rfl ?_
        refine V_iload_n hC dX11_step_95 2 rfl ?_
        refine V_callv hC (V_runV hC (rest := []) [.int (kBurns (S.1 1) (S.1 0))] (c_X10_burn l G y ce ha wa (S.1 0) (kCoal (S.1 1) (S.1 0)) ((S.1 3) + 1) (S.1 2) (S.1 4) (S.1 5) (S.1 6) Q (ciS S NC ci) (hsS S) NC mz S.2.2.2.2.2 (sV1 S) (kBurns (S.1 1) (S.1 0)) wu (mv_ok hK).1 (mv_ok hK).2.2.2.1 (fun _ _ => rfl) (fun k hk hl => ((mv_ok hK).2.1 k hk hl).2.2.1) (fun k hk hl => ((mv_ok hK).2.1 k hk hl).2.2.2.1) (mv_ok hK).2.2.1 (fun k hk => ⟨(hwu k hk).1, Nat.le_trans (hwu k hk).2 (by decide)⟩)) [3, 4, 5, 6, 2] rfl (by decide) q1334 q1335 q1336 q56 q1337 ⟨by decide, by decide, rfl⟩ ⟨by decide, by decide⟩ (ci := 11) rfl (mem_at 3 0 rfl rfl) rfl (Nat.le_of_ble_eq_true rfl) ⟨by decide, by decide⟩ dX11_step_96) (is := [3, 4, 5, 6, 2]) rfl [0, 1] (rs := [alP G aw bw mw Nw 0 (fun κ => (Q (NC - 0 + κ)) 0), alP G ao bb4 (mo + 1) NN4 (oc + 1) (va_up (fun κ => (Q (oi κ)) 0) oc ((Q (ci 4)) 0))]) rfl (by decide) (by decide) ?_
        rintro _ rfl
        exact V_vret hC hQ hr [0, 1, 2, 3, 4, 5, 6] (u := [[(y, .inr (11, [.ref ce, .ref ha, .ref wa, .int (S.1 0), .int (kCoal (S.1 1) (S.1 0)), .int ((S.1 3) + 1), .int (kRing2 ((wm0 (sV1 S) S.2.2.2.2.2 (kBurns (S.1 1) (S.1 0))) 3) (kRing1 (((sV1 S) 3).1 0) (mxMelt ((sV1 S) 3).2.1) ((wm0 (sV1 S) S.2.2.2.2.2 (kBurns (S.1 1) (S.1 0))) 3) (S.1 2))), .int (kFall ((wm0 (sV1 S) S.2.2.2.2.2 (kBurns (S.1 1) (S.1 0))) 3) (kRing1 (((sV1 S) 3).1 0) (mxMelt ((sV1 S) 3).2.1) ((wm0 (sV1 S) S.2.2.2.2.2 (kBurns (S.1 1) (S.1 0))) 3) (S.1 2)) (S.1 4)), .int (S.1 5), .int (kcF (wm0 (sV1 S) S.2.2.2.2.2 (kBurns (S.1 1) (S.1 0))) (sV1 S) ((S.1 6) + 2 * (kBurns (S.1 1) (S.1 0))) 5)]))], [(ce, .inl (G.2.1 7, 5, .inr (.inr (.inr (.inr (refQ 5 Q (ciS S NC ci)))))))], [(ha, .inl (G.2.1 1, 5, .inl (hsS S)))], [(wa, .inl (G.2.1 0, 5, .inl (wm0 (sV1 S) S.2.2.2.2.2 (kBurns (S.1 1) (S.1 0)))))], famW NC (fun ι => mcP G (Q ι) ((pbF (hsS S) (ciS S NC ci) (wm0 (sV1 S) S.2.2.2.2.2 (kBurns (S.1 1) (S.1 0))) (sV1 S) mz 5) ι)), alP G aw bw mw Nw 0 (fun κ => (Q (NC - 0 + κ)) 0), alP G ao bb4 (mo + 1) NN4 (oc + 1) (va_up (fun κ => (Q (oi κ)) 0) oc ((Q (ci 4)) 0))]) (by decide) rfl (by decide) (by decide) dX11_step_99 (⟨_, _, _, _, by rw [oc_1 (fun e => hov ((kR_R hr6).symm.trans e))]; exact ok4, by rw [ks2, ks4, ks6, hs2_eq, ks5_R hr6, ksn_N hr6 hn0, oc_1 (fun e => hov ((kR_R hr6).symm.trans e)), oi_1 (fun e => hov ((kR_R hr6).symm.trans e)), ← va_upQ]; first | done | rfl⟩)
      · have hn9 : ¬ n = 0 := fun h9 => by rw [if_pos h9] at h5; exact absurd h5 (by decide)
        obtain ⟨n, rfl⟩ : ∃ n1, n = n1 + 1 := ⟨n - 1, by omega⟩
        have hx1 : (S.2.2.2.1 0).1 0 = 1 := (hK.2.2.2.2.2.1 0 (by omega)).1
        refine V_aload_n hC dX11_step_72 3 rfl ?_
        refine V_aload_n hC dX11_step_73 4 rfl ?_
        refine V_iconst hC dX11_step_74 (v := 0) (by decide) ?_
        refine V_callFr hC (V_runF hC (rest := [.ref y]) [.int 0] (Mr_sz (c_al_get l G aw bw mw Nw (n + 1) (fun κ => (Q (NC - (n + 1) + κ)) 0) 0 (by omega) hwk.1 (by have := hwk.2; omega))) [0] rfl (by decide) q1298 (by decide +kernel) q1303 q1301 q55 q1305 ⟨by decide, by decide, rfl⟩ ⟨by decide, by decide⟩ rfl (mem_at 0 0 rfl rfl) rfl (Nat.le_of_ble_eq_true rfl) ⟨by decide, by decide⟩ dX11_step_75) (is := [0]) rfl [1, 2, 3, 4, 5, 6] (rs := [alP G ao bb4 (mo + 1) NN4 (oc + 1) (va_up (fun κ => (Q (oi κ)) 0) oc ((Q (ci 4)) 0)), famW NC (fun ι => mcP G (Q ι) (mz ι)), [(y, .inr (11, [.ref ce, .ref ha, .ref wa, .int (S.1 0), .int (kCoal (S.1 1) (S.1 0)), .int ((S.1 3) + 1), .int (S.1 2), .int (S.1 4), .int (S.1 5), .int (S.1 6)]))], [(ce, .inl (G.2.1 7, 5, .inr (.inr (.inr (.inr (refQ 5 Q (mvI ci)))))))], [(ha, .inl (G.2.1 1, 5, .inl (mvH (hsF S.2.2.1))))], [(wa, .inl (G.2.1 0, 5, .inl S.2.2.2.2.2))]]) rfl (by decide) (by decide) ?_
        rintro _ _ ⟨rfl, rfl⟩
        refine V_cast hC dX11_step_80 q1183 (ci := 10) rfl (mem_fam 2 0 rfl (NC - (n + 1)) ((by have := hK.2.1; omega)) rfl) ?_
        refine V_callv hC (V_runV hC (rest := []) [.ref ((Q (NC - (n + 1))) 0)] (c_X10_take l G y ce ha wa (S.1 0) (kCoal (S.1 1) (S.1 0)) ((S.1 3) + 1) (S.1 2) (S.1 4) (S.1 5) (S.1 6) Q (mvI ci) (mvH (hsF S.2.2.1)) NC mz (NC - (n + 1)) (by have := hK.2.1; omega)) [3, 4, 5, 2] rfl (by decide) q1316 q1317 q1318 q56 q1319 ⟨by decide, by decide, rfl⟩ ⟨by decide, by decide⟩ (ci := 11) rfl (mem_at 3 0 rfl rfl) rfl (Nat.le_of_ble_eq_true rfl) ⟨by decide, by decide⟩ dX11_step_83) (is := [3, 4, 5, 2]) rfl [0, 1, 6] (rs := [alP G aw bw mw Nw (n + 1) (fun κ => (Q (NC - (n + 1) + κ)) 0), alP G ao bb4 (mo + 1) NN4 (oc + 1) (va_up (fun κ => (Q (oi κ)) 0) oc ((Q (ci 4)) 0)), [(wa, .inl (G.2.1 0, 5, .inl S.2.2.2.2.2))]]) rfl (by decide) (by decide) ?_
        rintro _ rfl
        refine V_aload_n hC dX11_step_86 4 rfl ?_
        refine V_iconst hC dX11_step_87 (v := 0) (by decide) ?_
        refine V_callFr hC (V_runF hC (rest := []) [.int 0] (Mr_sz (c_al_remove l G aw bw mw Nw n (fun κ => (Q (NC - (n + 1) + κ)) 0) (famW NC (fun ι => mcP G (Q ι) (mz ι))) (by have := hwk.1; omega) (by have := hwk.2; omega) (fun i hi => pool_mem (by have := hK.2.1; omega)))) [4, 3] rfl (by decide) q1321 (by decide +kernel) q1326 q1324 q55 q1328 ⟨by decide, by decide, rfl⟩ ⟨by decide, by decide⟩ rfl (mem_at 4 0 rfl rfl) rfl (Nat.le_of_ble_eq_true rfl) ⟨by decide, by decide⟩ dX11_step_88) (is := [4, 3]) rfl [0, 1, 2, 5, 6] (rs := [[(y, .inr (11, [.ref ce, .ref ha, .ref wa, .int (S.1 0), .int (kCoal (S.1 1) (S.1 0)), .int ((S.1 3) + 1), .int (S.1 2), .int (S.1 4), .int (S.1 5), .int (S.1 6)]))], [(ce, .inl (G.2.1 7, 5, .inr (.inr (.inr (.inr (refQ 5 Q (va_up (mvI ci) 0 (NC - (n + 1)))))))))], [(ha, .inl (G.2.1 1, 5, .inl (upd (mvH (hsF S.2.2.1)) 0 1)))], alP G ao bb4 (mo + 1) NN4 (oc + 1) (va_up (fun κ => (Q (oi κ)) 0) oc ((Q (ci 4)) 0)), [(wa, .inl (G.2.1 0, 5, .inl S.2.2.2.2.2))]]) rfl (by decide) (by decide) ?_
        rintro _ _ ⟨rfl, rfl⟩
        refine V_pop hC dX11_step_93 rfl ?_
        refine V_psEq (ps' := [alP G aw bw (mw + 1) Nw n (fun i => (fun κ => (Q (NC - (n + 1) + κ)) 0) (i + 1)), famW NC (fun ι => mcP G (Q ι) (mz ι)), [(y, .inr (11, [.ref ce, .ref ha, .ref wa, .int (S.1 0), .int (kCoal (S.1 1) (S.1 0)), .int ((S.1 3) + 1), .int (S.1 2), .int (S.1 4), .int (S.1 5), .int (S.1 6)]))], [(ce, .inl (G.2.1 7, 5, .inr (.inr (.inr (.inr (refQ 5 Q (ciS S NC ci)))))))], [(ha, .inl (G.2.1 1, 5, .inl (hsS S)))], alP G ao bb4 (mo + 1) NN4 (oc + 1) (va_up (fun κ => (Q (oi κ)) 0) oc ((Q (ci 4)) 0)), [(wa, .inl (G.2.1 0, 5, .inl S.2.2.2.2.2))]]) (by rw [ciS_W hr6 hn, hsS_W hr6 hn hx1]; first | done | rfl) ?_
        refine V_aload_n hC dX11_step_94 3 rfl ?_
        refine V_iload_n hC dX11_step_95 2 rfl ?_
        refine V_callv hC (V_runV hC (rest := []) [.int (kBurns (S.1 1) (S.1 0))] (c_X10_burn l G y ce ha wa (S.1 0) (kCoal (S.1 1) (S.1 0)) ((S.1 3) + 1) (S.1 2) (S.1 4) (S.1 5) (S.1 6) Q (ciS S NC ci) (hsS S) NC mz S.2.2.2.2.2 (sV1 S) (kBurns (S.1 1) (S.1 0)) wu (mv_ok hK).1 (mv_ok hK).2.2.2.1 (fun _ _ => rfl) (fun k hk hl => ((mv_ok hK).2.1 k hk hl).2.2.1) (fun k hk hl => ((mv_ok hK).2.1 k hk hl).2.2.2.1) (mv_ok hK).2.2.1 (fun k hk => ⟨(hwu k hk).1, Nat.le_trans (hwu k hk).2 (by decide)⟩)) [2, 3, 4, 6, 1] rfl (by decide) q1334 q1335 q1336 q56 q1337 ⟨by decide, by decide, rfl⟩ ⟨by decide, by decide⟩ (ci := 11) rfl (mem_at 2 0 rfl rfl) rfl (Nat.le_of_ble_eq_true rfl) ⟨by decide, by decide⟩ dX11_step_96) (is := [2, 3, 4, 6, 1]) rfl [0, 5] (rs := [alP G aw bw (mw + 1) Nw n (fun i => (fun κ => (Q (NC - (n + 1) + κ)) 0) (i + 1)), alP G ao bb4 (mo + 1) NN4 (oc + 1) (va_up (fun κ => (Q (oi κ)) 0) oc ((Q (ci 4)) 0))]) rfl (by decide) (by decide) ?_
        rintro _ rfl
        exact V_vret hC hQ hr [0, 1, 2, 3, 4, 5, 6] (u := [[(y, .inr (11, [.ref ce, .ref ha, .ref wa, .int (S.1 0), .int (kCoal (S.1 1) (S.1 0)), .int ((S.1 3) + 1), .int (kRing2 ((wm0 (sV1 S) S.2.2.2.2.2 (kBurns (S.1 1) (S.1 0))) 3) (kRing1 (((sV1 S) 3).1 0) (mxMelt ((sV1 S) 3).2.1) ((wm0 (sV1 S) S.2.2.2.2.2 (kBurns (S.1 1) (S.1 0))) 3) (S.1 2))), .int (kFall ((wm0 (sV1 S) S.2.2.2.2.2 (kBurns (S.1 1) (S.1 0))) 3) (kRing1 (((sV1 S) 3).1 0) (mxMelt ((sV1 S) 3).2.1) ((wm0 (sV1 S) S.2.2.2.2.2 (kBurns (S.1 1) (S.1 0))) 3) (S.1 2)) (S.1 4)), .int (S.1 5), .int (kcF (wm0 (sV1 S) S.2.2.2.2.2 (kBurns (S.1 1) (S.1 0))) (sV1 S) ((S.1 6) + 2 * (kBurns (S.1 1) (S.1 0))) 5)]))], [(ce, .inl (G.2.1 7, 5, .inr (.inr (.inr (.inr (refQ 5 Q (ciS S NC ci)))))))], [(ha, .inl (G.2.1 1, 5, .inl (hsS S)))], [(wa, .inl (G.2.1 0, 5, .inl (wm0 (sV1 S) S.2.2.2.2.2 (kBurns (S.1 1) (S.1 0)))))], famW NC (fun ι => mcP G (Q ι) ((pbF (hsS S) (ciS S NC ci) (wm0 (sV1 S) S.2.2.2.2.2 (kBurns (S.1 1) (S.1 0))) (sV1 S) mz 5) ι)), alP G aw bw (mw + 1) Nw n (fun i => (fun κ => (Q (NC - (n + 1) + κ)) 0) (i + 1)), alP G ao bb4 (mo + 1) NN4 (oc + 1) (va_up (fun κ => (Q (oi κ)) 0) oc ((Q (ci 4)) 0))]) (by decide) rfl (by decide) (by decide) dX11_step_99 (⟨_, _, _, _, by rw [oc_1 (fun e => hov ((kR_R hr6).symm.trans e))]; exact ok4, by rw [ks2, ks4, ks6, hs2_eq, ks5_R hr6, ksn_W hr6 hn, oc_1 (fun e => hov ((kR_R hr6).symm.trans e)), oi_1 (fun e => hov ((kR_R hr6).symm.trans e)), ← va_upQ, wsh_fn (n := n) (by have := hK.2.1; omega)]; first | done | rfl⟩)
  · have hr6 : ¬ S.1 2 < 6 := fun h9 => h1 (if_pos h9)
    refine V_aload_n hC dX11_step_22 1 rfl ?_
    refine V_dup hC dX11_step_23 rfl ?_
    refine V_get hC dX11_step_24 inAX10 (mem_at 0 0 rfl rfl) rfl 8 (by decide) q1054 rfl (v := .int (S.1 5)) rfl ?_
    refine V_iconst hC dX11_step_27 (v := 1) (by decide) ?_
    refine V_iadd hC dX11_step_28 ?_
    refine V_put hC dX11_step_29 inAX10 tyX10 tyX10_ok nmX10 0 0 rfl rfl rfl 8 (by decide) q1054 rfl rfl (rfl) (rfl) (Nat.le_of_ble_eq_true rfl) (ps' := [[(y, .inr (11, [.ref ce, .ref ha, .ref wa, .int (S.1 0), .int (kCoal (S.1 1) (S.1 0)), .int ((S.1 3) + 1), .int (S.1 2), .int (S.1 4), .int ((S.1 5) + 1), .int (S.1 6)]))], [(ce, .inl (G.2.1 7, 5, .inr (.inr (.inr (.inr (refQ 5 Q ci))))))], [(ha, .inl (G.2.1 1, 5, .inl (hsF S.2.2.1)))], [(wa, .inl (G.2.1 0, 5, .inl S.2.2.2.2.2))], famW NC (fun ι => mcP G (Q ι) (mz ι)), alP G aw bw mw Nw n (fun κ => (Q (NC - n + κ)) 0), alP G ao bo mo No oc (fun κ => (Q (oi κ)) 0)]) rfl ?_
    refine V_goto hC dX11_step_32 (tgt := 94) (by decide) ?_
    refine V_psEq (ps' := [[(y, .inr (11, [.ref ce, .ref ha, .ref wa, .int (S.1 0), .int (kCoal (S.1 1) (S.1 0)), .int ((S.1 3) + 1), .int (S.1 2), .int (S.1 4), .int ((S.1 5) + 1), .int (S.1 6)]))], [(ce, .inl (G.2.1 7, 5, .inr (.inr (.inr (.inr (refQ 5 Q (ciS S NC ci)))))))], [(ha, .inl (G.2.1 1, 5, .inl (hsS S)))], [(wa, .inl (G.2.1 0, 5, .inl S.2.2.2.2.2))], famW NC (fun ι => mcP G (Q ι) (mz ι)), alP G aw bw mw Nw n (fun κ => (Q (NC - n + κ)) 0), alP G ao bo mo No oc (fun κ => (Q (oi κ)) 0)]) (by rw [ciS_B hr6, hsS_B hr6]; first | done | rfl) ?_
    refine V_aload_n hC dX11_step_94 1 rfl ?_
    refine V_iload_n hC dX11_step_95 0 rfl ?_
    refine V_callv hC (V_runV hC (rest := []) [.int (kBurns (S.1 1) (S.1 0))] (c_X10_burn l G y ce ha wa (S.1 0) (kCoal (S.1 1) (S.1 0)) ((S.1 3) + 1) (S.1 2) (S.1 4) ((S.1 5) + 1) (S.1 6) Q (ciS S NC ci) (hsS S) NC mz S.2.2.2.2.2 (sV1 S) (kBurns (S.1 1) (S.1 0)) wu (mv_ok hK).1 (mv_ok hK).2.2.2.1 (fun _ _ => rfl) (fun k hk hl => ((mv_ok hK).2.1 k hk hl).2.2.1) (fun k hk hl => ((mv_ok hK).2.1 k hk hl).2.2.2.1) (mv_ok hK).2.2.1 (fun k hk => ⟨(hwu k hk).1, Nat.le_trans (hwu k hk).2 (by decide)⟩)) [0, 1, 2, 3, 4] rfl (by decide) q1334 q1335 q1336 q56 q1337 ⟨by decide, by decide, rfl⟩ ⟨by decide, by decide⟩ (ci := 11) rfl (mem_at 0 0 rfl rfl) rfl (Nat.le_of_ble_eq_true rfl) ⟨by decide, by decide⟩ dX11_step_96) (is := [0, 1, 2, 3, 4]) rfl [5, 6] (rs := [alP G aw bw mw Nw n (fun κ => (Q (NC - n + κ)) 0), alP G ao bo mo No oc (fun κ => (Q (oi κ)) 0)]) rfl (by decide) (by decide) ?_
    rintro _ rfl
    exact V_vret hC hQ hr [0, 1, 2, 3, 4, 5, 6] (u := [[(y, .inr (11, [.ref ce, .ref ha, .ref wa, .int (S.1 0), .int (kCoal (S.1 1) (S.1 0)), .int ((S.1 3) + 1), .int (kRing2 ((wm0 (sV1 S) S.2.2.2.2.2 (kBurns (S.1 1) (S.1 0))) 3) (kRing1 (((sV1 S) 3).1 0) (mxMelt ((sV1 S) 3).2.1) ((wm0 (sV1 S) S.2.2.2.2.2 (kBurns (S.1 1) (S.1 0))) 3) (S.1 2))), .int (kFall ((wm0 (sV1 S) S.2.2.2.2.2 (kBurns (S.1 1) (S.1 0))) 3) (kRing1 (((sV1 S) 3).1 0) (mxMelt ((sV1 S) 3).2.1) ((wm0 (sV1 S) S.2.2.2.2.2 (kBurns (S.1 1) (S.1 0))) 3) (S.1 2)) (S.1 4)), .int ((S.1 5) + 1), .int (kcF (wm0 (sV1 S) S.2.2.2.2.2 (kBurns (S.1 1) (S.1 0))) (sV1 S) ((S.1 6) + 2 * (kBurns (S.1 1) (S.1 0))) 5)]))], [(ce, .inl (G.2.1 7, 5, .inr (.inr (.inr (.inr (refQ 5 Q (ciS S NC ci)))))))], [(ha, .inl (G.2.1 1, 5, .inl (hsS S)))], [(wa, .inl (G.2.1 0, 5, .inl (wm0 (sV1 S) S.2.2.2.2.2 (kBurns (S.1 1) (S.1 0)))))], famW NC (fun ι => mcP G (Q ι) ((pbF (hsS S) (ciS S NC ci) (wm0 (sV1 S) S.2.2.2.2.2 (kBurns (S.1 1) (S.1 0))) (sV1 S) mz 5) ι)), alP G aw bw mw Nw n (fun κ => (Q (NC - n + κ)) 0), alP G ao bo mo No oc (fun κ => (Q (oi κ)) 0)]) (by decide) rfl (by decide) (by decide) dX11_step_99 (⟨_, _, _, _, by rw [oc_0 (kR_B hr6)]; exact hok, by rw [ks2, ks4, ks6, hs2_eq, ks5_B hr6, ksn_B hr6 hn, oc_0 (kR_B hr6), oi_0 (kR_B hr6)]; first | done | rfl⟩)
