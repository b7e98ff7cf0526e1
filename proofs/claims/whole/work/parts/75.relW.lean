/-! ===== the class beside the model: strength and what was found ===== -/
theorem sub_add3 (a b c : Int32) : a - (b + c) = a - b - c := by
  rw [Int32.sub_eq_add_neg, Int32.sub_eq_add_neg, Int32.sub_eq_add_neg, Int32.neg_add, Int32.sub_eq_add_neg, Int32.add_assoc]
theorem sub_swap (a b : Int32) : 0 - (a - b) = b - a := by
  rw [Int32.zero_sub, Int32.neg_sub]
theorem ab_nI {g t : Nat} (hg : g < 2 ^ 20) (ht : t < 2 ^ 20) : ∃ d : Nat, d ≤ g + t ∧ ab (nI g - nI t) = nI d := by
  unfold ab
  by_cases h : t ≤ g
  · rw [pk_sub h, if_pos (show (0 : Int32) ≤ nI (g - t) from nI_le (a := 0) (Nat.zero_le _) (by omega))]
    exact ⟨g - t, by omega, rfl⟩
  · have e := pk_sub_toInt (a := g) (b := t) (by omega) (by omega)
    rw [if_neg (fun q => by rw [Int32.le_iff_toInt_le, e] at q; simp at q; omega), sub_swap, pk_sub (by omega)]
    exact ⟨t - g, by omega, rfl⟩
/-- a strength in whole numbers -/
theorem str_nat {A B F a b f r g o s : Nat} (hA : A ≤ 4) (hB : B ≤ 3) (hF : F ≤ 2) (ha : a ≤ 200) (hb : b ≤ 200) (hf : f ≤ 9) (hr : r ≤ 200) (hg : g ≤ 9) (ho : o ≤ 200) (hs1 : 1 ≤ s) (hs : s ≤ 800) : ∃ u : Nat, u ≤ 100000 ∧ mx 0 (nI 10 * (nI A * nI a + nI B * nI b) / nI s + nI F * nI f - nI 2 * nI r - nI 3 * ab (nI g - (nI o / nI 4 + nI 2))) = nI u := by
  have hAa : A * a ≤ 4 * 200 := Nat.mul_le_mul hA ha
  have hBb : B * b ≤ 3 * 200 := Nat.mul_le_mul hB hb
  have hFf : F * f ≤ 2 * 9 := Nat.mul_le_mul hF hf
  have h10 : 10 * (A * a + B * b) ≤ 14000 := by omega
  have hdiv : 10 * (A * a + B * b) / s ≤ 14000 := Nat.le_trans (Nat.div_le_self _ _) h10
  have hod : o / 4 ≤ 200 := Nat.le_trans (Nat.div_le_self _ _) ho
  rw [pk_mul, pk_mul, nI_add, pk_mul, pk_div (by omega) (by omega) (by omega), pk_mul, nI_add, pk_mul, pk_div (by omega) (by omega) (by omega), nI_add]
  obtain ⟨d, hd, ed⟩ := ab_nI (g := g) (t := o / 4 + 2) (by omega) (by omega)
  rw [ed, pk_mul, ← sub_add3, nI_add, mx0_sub (by omega) (by omega)]
  exact ⟨_, by omega, rfl⟩
theorem str_fd {z : LV} (hc : chN z.2.2) (hg : lgR z) (hn : ¬ z.1 2 = -1) {w : Nat} (hw : w ≤ 2) : ∃ u : Nat, u ≤ 100000 ∧ ltStrength w z = nI u := by
  rcases hg with e | ⟨-, ⟨f, hf, ef⟩, ⟨g, hg, eg⟩, es⟩
  · exact absurd e hn
  · obtain ⟨s, hs1, hs, es2⟩ := mxSum_nat hc
    rw [es2] at es
    obtain ⟨r9, r, s9, b, a, o0, o1, o2, o3, -, e2, -, e4, e5, -, -, f2, -, g1, g2, l0, l1, l2, l3⟩ := hc
    unfold ltStrength ltStr
    rw [es, ef, eg, e2, e4, e5, f2, if_neg (fun q => by have := nle (b := 0) q; omega)]
    rcases (show w = 0 ∨ w = 1 ∨ w = 2 by omega) with rfl | rfl | rfl
    · exact str_nat (A := 2) (B := 0) (F := 2) (by decide) (by decide) (by decide) (by omega) (by omega) hf (by omega) hg l2 hs1 hs
    · exact str_nat (A := 3) (B := 1) (F := 1) (by decide) (by decide) (by decide) (by omega) (by omega) hf (by omega) hg l2 hs1 hs
    · exact str_nat (A := 4) (B := 3) (F := 0) (by decide) (by decide) (by decide) (by omega) (by omega) hf (by omega) hg l2 hs1 hs
theorem str_ring (A B F al bel fin fre gyp o q : Int32) : mx 0 (10 * (A * al + B * bel) / q + F * fin - 2 * fre - 3 * ab (gyp - (o / 4 + 2))) = mx 0 ((al * A + bel * B) * 10 / q + fin * F - 2 * fre - 3 * ab (gyp - o / 4 - 2)) := by
  rw [sub_add3, Int32.mul_comm 10, Int32.mul_comm A, Int32.mul_comm B, Int32.mul_comm F]
theorem str_eq {z : LV} {y : MV} (h : ltR z y) (hg : lgR z) (hn : ¬ z.1 2 = -1) {w : Nat} (hw : w ≤ 2) : ltStrength w z = moStr y (nI w) := by
  obtain ⟨⟨c1, c2, -⟩, e0, e1, -, -, -⟩ := h
  rcases hg with e | ⟨-, -, -, es⟩
  · exact absurd e hn
  · obtain ⟨s, hs1, hs, es2⟩ := mxSum_nat c1
    have hA := moAll_S c2
    have hq : ¬ z.1 3 ≤ 0 := fun q => by rw [es, es2] at q; have := nle (b := 0) q; omega
    obtain ⟨k0, k1, k2, k3, k4, -, -, o2, -⟩ := c2
    unfold ltStrength ltStr moStr
    rw [if_neg hq, es, hA, e0, e1, k1, k3, k4, o2]
    rcases (show w = 0 ∨ w = 1 ∨ w = 2 by omega) with rfl | rfl | rfl
    · rw [show (2 : Int32) + nI 0 = 2 by decide, show (if nI 0 = 2 then (3 : Int32) else nI 0) = 0 by decide, show (2 : Int32) - nI 0 = 2 by decide]
      exact str_ring 2 0 2 _ _ _ _ _ _ _
    · rw [show (2 : Int32) + nI 1 = 3 by decide, show (if nI 1 = 2 then (3 : Int32) else nI 1) = 1 by decide, show (2 : Int32) - nI 1 = 1 by decide]
      exact str_ring 3 1 1 _ _ _ _ _ _ _
    · rw [show (2 : Int32) + nI 2 = 4 by decide, show (if nI 2 = 2 then (3 : Int32) else nI 2) = 3 by decide, show (2 : Int32) - nI 2 = 0 by decide]
      exact str_ring 4 3 0 _ _ _ _ _ _ _
/-- the window: the class shifts, the model goes round -/
def RW (wn : Nat) (wf : Nat → Int32) (fd : Nat) (wd : Nat → Int32) : Prop := wn = wnM fd ∧ ∀ i, i < wn → wf i = wd ((fd - wn + i) % 6)
theorem anyLow_iff {f : Nat → Int32} {b : Int32} : ∀ {n : Nat}, anyLow f b n = true ↔ ∃ i, i < n ∧ f i < b
  | 0 => ⟨fun h => absurd (show false = true from h) (by decide), fun ⟨i, h, _⟩ => absurd h (Nat.not_lt_zero i)⟩
  | n + 1 => by
    show (anyLow f b n || decide (f n < b)) = true ↔ _
    rw [Bool.or_eq_true, decide_eq_true_iff, anyLow_iff]
    constructor
    · rintro (⟨i, h1, h2⟩ | h)
      · exact ⟨i, by omega, h2⟩
      · exact ⟨n, by omega, h⟩
    · rintro ⟨i, h1, h2⟩
      by_cases e : i = n
      · subst e; exact Or.inr h2
      · exact Or.inl ⟨i, by omega, h2⟩
theorem cfI_iff {wd : Nat → Int32} {b r0 : Int32} (h0 : r0 = 0 ∨ r0 = 1) : ∀ {n : Nat}, (cfI wd b r0 n = 0 ∨ cfI wd b r0 n = 1) ∧ (cfI wd b r0 n = 1 ↔ r0 = 1 ∧ ¬ ∃ i, i < n ∧ wd i < b)
  | 0 => ⟨h0, fun h => ⟨h, fun ⟨i, h1, _⟩ => absurd h1 (Nat.not_lt_zero i)⟩, fun h => h.1⟩
  | n + 1 => by
    obtain ⟨i1, i2⟩ := cfI_iff (wd := wd) (b := b) h0 (n := n)
    have eT : cfI wd b r0 (n + 1) = cfI wd b r0 n &&& (if wd n < b then 0 else 1) := rfl
    rw [eT]
    by_cases hl : wd n < b
    · rw [if_pos hl]
      refine ⟨Or.inl (by rcases i1 with e | e <;> rw [e] <;> decide), fun q => ?_, fun q => absurd ⟨n, by omega, hl⟩ q.2⟩
      rcases i1 with e | e <;> rw [e] at q <;> exact absurd q (by decide)
    · rw [if_neg hl]
      have e1 : cfI wd b r0 n &&& 1 = cfI wd b r0 n := by rcases i1 with e | e <;> rw [e] <;> decide
      rw [e1]
      refine ⟨i1, fun q => ?_, fun q => i2.mpr ⟨q.1, fun ⟨i, h1, h2⟩ => q.2 ⟨i, by omega, h2⟩⟩⟩
      obtain ⟨q1, q2⟩ := i2.mp q
      refine ⟨q1, fun ⟨i, h1, h2⟩ => ?_⟩
      by_cases e : i = n
      · subst e; exact hl h2
      · exact q2 ⟨i, by omega, h2⟩
section RWs
variable {wn fd : Nat} {wf wd : Nat → Int32}
theorem RW.n6 (h : RW wn wf fd wd) : wn ≤ 6 := by rw [h.1]; exact Nat.min_le_left _ _
theorem RW_sum (h : RW wn wf fd wd) : sm wf wn = sm wd wn := by
  obtain ⟨h1, h2⟩ := h
  unfold wnM at h1
  by_cases h6 : fd < 6
  · refine sm_cong (fun i hi => ?_)
    rw [h2 i hi, show (fd - wn + i) % 6 = i by omega]
  · have e : wn = 6 := by omega
    subst e
    have a0 := h2 0 (by decide)
    have a1 := h2 1 (by decide)
    have a2 := h2 2 (by decide)
    have a3 := h2 3 (by decide)
    have a4 := h2 4 (by decide)
    have a5 := h2 5 (by decide)
    show 0 + wf 0 + wf 1 + wf 2 + wf 3 + wf 4 + wf 5 = 0 + wd 0 + wd 1 + wd 2 + wd 3 + wd 4 + wd 5
    rw [a0, a1, a2, a3, a4, a5]
    rcases (show fd % 6 = 0 ∨ fd % 6 = 1 ∨ fd % 6 = 2 ∨ fd % 6 = 3 ∨ fd % 6 = 4 ∨ fd % 6 = 5 by omega) with r | r | r | r | r | r
    · rw [show (fd - 6 + 0) % 6 = 0 by omega, show (fd - 6 + 1) % 6 = 1 by omega, show (fd - 6 + 2) % 6 = 2 by omega, show (fd - 6 + 3) % 6 = 3 by omega, show (fd - 6 + 4) % 6 = 4 by omega, show (fd - 6 + 5) % 6 = 5 by omega]
    · rw [show (fd - 6 + 0) % 6 = 1 by omega, show (fd - 6 + 1) % 6 = 2 by omega, show (fd - 6 + 2) % 6 = 3 by omega, show (fd - 6 + 3) % 6 = 4 by omega, show (fd - 6 + 4) % 6 = 5 by omega, show (fd - 6 + 5) % 6 = 0 by omega]
      ac_rfl
    · rw [show (fd - 6 + 0) % 6 = 2 by omega, show (fd - 6 + 1) % 6 = 3 by omega, show (fd - 6 + 2) % 6 = 4 by omega, show (fd - 6 + 3) % 6 = 5 by omega, show (fd - 6 + 4) % 6 = 0 by omega, show (fd - 6 + 5) % 6 = 1 by omega]
      ac_rfl
    · rw [show (fd - 6 + 0) % 6 = 3 by omega, show (fd - 6 + 1) % 6 = 4 by omega, show (fd - 6 + 2) % 6 = 5 by omega, show (fd - 6 + 3) % 6 = 0 by omega, show (fd - 6 + 4) % 6 = 1 by omega, show (fd - 6 + 5) % 6 = 2 by omega]
      ac_rfl
    · rw [show (fd - 6 + 0) % 6 = 4 by omega, show (fd - 6 + 1) % 6 = 5 by omega, show (fd - 6 + 2) % 6 = 0 by omega, show (fd - 6 + 3) % 6 = 1 by omega, show (fd - 6 + 4) % 6 = 2 by omega, show (fd - 6 + 5) % 6 = 3 by omega]
      ac_rfl
    · rw [show (fd - 6 + 0) % 6 = 5 by omega, show (fd - 6 + 1) % 6 = 0 by omega, show (fd - 6 + 2) % 6 = 1 by omega, show (fd - 6 + 3) % 6 = 2 by omega, show (fd - 6 + 4) % 6 = 3 by omega, show (fd - 6 + 5) % 6 = 4 by omega]
      ac_rfl
theorem RW_low (h : RW wn wf fd wd) {b : Int32} : (∃ i, i < wn ∧ wf i < b) ↔ ∃ i, i < wn ∧ wd i < b := by
  obtain ⟨h1, h2⟩ := h
  unfold wnM at h1
  constructor
  · rintro ⟨i, hi, hl⟩
    rw [h2 i hi] at hl
    by_cases h6 : fd < 6
    · exact ⟨i, hi, by rw [show (fd - wn + i) % 6 = i by omega] at hl; exact hl⟩
    · exact ⟨_, by omega, hl⟩
  · rintro ⟨i, hi, hl⟩
    by_cases h6 : fd < 6
    · exact ⟨i, hi, by rw [h2 i hi, show (fd - wn + i) % 6 = i by omega]; exact hl⟩
    · refine ⟨(i + 6 - fd % 6) % 6, by omega, ?_⟩
      rw [h2 _ (by omega), show (fd - wn + (i + 6 - fd % 6) % 6) % 6 = i by omega]
      exact hl
theorem RW_conf (h : RW wn wf fd wd) {ws : Int32} : wiHolds wf wn ws = cfI wd (ws - 4) (if sm wd (wnM fd) < ws * nI (wnM fd) then 0 else 1) (wnM fd) := by
  have hs := RW_sum h
  have hl := RW_low h (b := ws - 4)
  rw [← h.1]
  unfold wiHolds
  rw [hs]
  have h0 : (if sm wd wn < ws * nI wn then (0 : Int32) else 1) = 0 ∨ (if sm wd wn < ws * nI wn then (0 : Int32) else 1) = 1 := by split; exact Or.inl rfl; exact Or.inr rfl
  obtain ⟨i1, i2⟩ := cfI_iff (wd := wd) (b := ws - 4) h0 (n := wn)
  by_cases ha : anyLow wf (ws - 4) wn = true
  · rw [if_pos ha]
    rcases i1 with e | e
    · exact e.symm
    · exact absurd (hl.mp (anyLow_iff.mp ha)) (i2.mp e).2
  · rw [if_neg ha]
    rcases i1 with e | e
    · rw [e]
      by_cases hq : sm wd wn < ws * nI wn
      · rw [if_pos hq]
      · rw [if_neg hq] at e i2 ⊢
        have := i2.mpr ⟨rfl, fun q => ha (anyLow_iff.mpr (hl.mpr q))⟩
        rw [e] at this
        exact absurd this (by decide)
    · rw [e, (i2.mp e).1]
theorem RW_add (h : RW wn wf fd wd) {x : Int32} : RW (wiN wn) (wiF wf wn x) (fd + 1) (upd wd (fd % 6) x) := by
  obtain ⟨h1, h2⟩ := h
  unfold wnM at h1
  unfold RW wnM wiN wiF
  by_cases h6 : wn < 6
  · rw [if_pos h6, if_pos h6]
    refine ⟨by omega, fun i hi => ?_⟩
    rw [show (fd + 1 - (wn + 1) + i) % 6 = i by omega, show fd % 6 = wn by omega]
    by_cases e : i = wn
    · rw [e, pk_us, pk_us]
    · rw [pk_un e, pk_un e, h2 i (by omega), show (fd - wn + i) % 6 = i by omega]
  · rw [if_neg h6, if_neg h6]
    have e6 : wn = 6 := by omega
    subst e6
    refine ⟨by omega, fun i hi => ?_⟩
    rcases (show i = 0 ∨ i = 1 ∨ i = 2 ∨ i = 3 ∨ i = 4 ∨ i = 5 by omega) with rfl | rfl | rfl | rfl | rfl | rfl
    · rw [pk_un (by decide), pk_un (by omega)]; show wf 1 = _; rw [h2 1 (by decide), show (fd - 6 + 1) % 6 = (fd + 1 - 6 + 0) % 6 by omega]
    · rw [pk_un (by decide), pk_un (by omega)]; show wf 2 = _; rw [h2 2 (by decide), show (fd - 6 + 2) % 6 = (fd + 1 - 6 + 1) % 6 by omega]
    · rw [pk_un (by decide), pk_un (by omega)]; show wf 3 = _; rw [h2 3 (by decide), show (fd - 6 + 3) % 6 = (fd + 1 - 6 + 2) % 6 by omega]
    · rw [pk_un (by decide), pk_un (by omega)]; show wf 4 = _; rw [h2 4 (by decide), show (fd - 6 + 4) % 6 = (fd + 1 - 6 + 3) % 6 by omega]
    · rw [pk_un (by decide), pk_un (by omega)]; show wf 5 = _; rw [h2 5 (by decide), show (fd - 6 + 5) % 6 = (fd + 1 - 6 + 4) % 6 by omega]
    · rw [pk_us, show (fd + 1 - 6 + 5) % 6 = fd % 6 by omega, pk_us]
variable {nl : Nat} {lz : Nat → LV} {li : Nat → Nat} {mz : Nat → MV} {lb Nl : Nat} {sz : Nat → SV} {rm : Nat → Nat → Int32} {ir sh : Nat → Int32} {ws : Int32}
theorem RW_cube (h : RW wn wf fd wd) {i w : Nat} (hw : w ≤ 2) {r : Int32} (hr : r = ltStrength w (lz i)) : RW (cbN wn w) (cbW lz wf wn i w) (cmN fd w) (cmD wd fd w r) := by
  rcases (show w = 0 ∨ w = 1 ∨ w = 2 by omega) with rfl | rfl | rfl
  · exact h
  · exact h
  · rw [hr]; exact RW_add h
theorem cube_ho (h : RW wn wf fd wd) {r : Int32} : wiHolds (wiF wf wn r) (wiN wn) ws = cbM wd ws fd r := RW_conf (RW_add h)
theorem cube_cl (h : RW wn wf fd wd) {i w : Nat} (hw : w ≤ 2) {r cl : Int32} (hr : r = ltStrength w (lz i)) : cmC wd ws fd w r cl = cbC lz wf wn ws i w cl := by
  rcases (show w = 0 ∨ w = 1 ∨ w = 2 by omega) with rfl | rfl | rfl
  · rfl
  · rfl
  · subst hr
    show (if cbM wd ws fd (ltStrength 2 (lz i)) = 0 then cl + 1 else cl) = tfC (wiHolds (wiF wf wn (ltStrength 2 (lz i))) (wiN wn) ws) cl
    rw [cube_ho h]
    rfl
theorem RLo_cube (h : RLo nl lz li mz lb Nl) {i w : Nat} (hi : i < nl) (hw : w ≤ 2) (hg : ¬ (lz i).1 2 = -1) : RLo nl (va_up lz i ((lz i).1, upd (lz i).2.1 w (ltStrength w (lz i)), (lz i).2.2)) li (va_up mz (li i) (mvC (mz (li i)) w)) lb Nl := by
  have hlt := h.lt i hi
  have hE := str_eq hlt (h.lg i hi) hg hw
  obtain ⟨u, hu, eu⟩ := str_fd hlt.1.1 (h.lg i hi) hg hw
  obtain ⟨c, e0, e1, e2, e4, e5⟩ := id hlt
  refine ⟨h.n12, h.lk, loR_upd h.lo hi ⟨c, e0, e1, e2, e4, fun j hj => ?_⟩ (fun k hk => ?_), fun j hj => ?_, fun j hj => ?_⟩
  · show upd (lz i).2.1 w (ltStrength w (lz i)) j = upd (mz (li i)).2.2.2 w (moStr (mz (li i)) (nI w)) j
    by_cases e : j = w
    · rw [e, pk_us, pk_us, hE]
    · rw [pk_un e, pk_un e]; exact e5 j hj
  · show fdB (upd (lz i).2.1 w (ltStrength w (lz i)) k)
    by_cases e : k = w
    · rw [e, pk_us]; exact Or.inr ⟨u, hu, eu⟩
    · rw [pk_un e]; exact h.fb i hi k hk
  · by_cases e : j = i
    · rw [e, va_up_self]; exact h.sk i hi
    · rw [va_up_ne _ _ e]; exact h.sk j hj
  · by_cases e : j = i
    · rw [e, va_up_self]; exact h.lg i hi
    · rw [va_up_ne _ _ e]; exact h.lg j hj
theorem RS_cube (hS : RS nl lz sz rm ir sh) (h : RW wn wf fd wd) {i w j : Nat} (hi : i < nl) (hw : w ≤ 2) (hj : j < 2) (hg : (lz i).1 2 = nI j) {r sa : Int32} (hr : r = ltStrength w (lz i)) (hsa : sa = (lz i).1 4) : RS nl (va_up lz i ((lz i).1, upd (lz i).2.1 w (ltStrength w (lz i)), (lz i).2.2)) (cbS lz wf wn ws sz i w) rm ir (cmS wd ws fd w r sa j sh) := by
  have hS2 : RS nl (va_up lz i ((lz i).1, upd (lz i).2.1 w (ltStrength w (lz i)), (lz i).2.2)) sz rm ir sh := fun k hk => by
    obtain ⟨h1, h2⟩ := hS k hk
    refine ⟨?_, h2⟩
    rw [cntG_eq (lz' := lz) (fun κ => by
      by_cases e : κ = i
      · rw [e, va_up_self]
      · rw [va_up_ne _ _ e])]
    exact h1
  rcases (show w = 0 ∨ w = 1 ∨ w = 2 by omega) with rfl | rfl | rfl
  · exact hS2
  · exact hS2
  · subst hr
    subst hsa
    show RS nl _ (tfS (wiHolds (wiF wf wn (ltStrength 2 (lz i))) (wiN wn) ws) (lz i) sz) rm ir (if cbM wd ws fd (ltStrength 2 (lz i)) = 0 then upd sh j (sh j ||| (if (lz i).1 4 ≤ 0 then 0 else 1)) else sh)
    rw [cube_ho h]
    unfold tfS
    by_cases h0 : cbM wd ws fd (ltStrength 2 (lz i)) = 0
    · rw [if_pos h0]
      by_cases hp : (lz i).1 4 ≤ 0
      · rw [if_pos hp, if_neg (fun q => i32_nle q.2.1 hp)]
        intro k hk
        obtain ⟨h1, h2, h3, h4, h5⟩ := hS2 k hk
        refine ⟨h1, h2, h3, ?_, h5⟩
        by_cases e : k = j
        · rw [e, pk_us]
          rw [e] at h4 h2
          rcases h2 with q | q <;> rw [h4, q] <;> decide
        · rw [pk_un e]; exact h4
      · have hx : ¬ ixB ((lz i).1 2) (nI 2) = 0 := by rw [hg, ixB_in (N := 2) hj]; decide
        rw [if_neg hp, if_pos ⟨h0, i32_lt hp, hx⟩, hg, nI_clamp (by omega)]
        intro k hk
        obtain ⟨h1, h2, h3, h4, h5⟩ := hS2 k hk
        by_cases e : k = j
        · subst e
          rw [va_up_self, pk_us]
          exact ⟨h1, Or.inr rfl, h3, by show sh k ||| 1 = 1; rw [h4]; rcases h2 with q | q <;> rw [q] <;> decide, h5⟩
        · rw [va_up_ne _ _ e, pk_un e]
          exact ⟨h1, h2, h3, h4, h5⟩
    · rw [if_neg h0, if_neg (fun q => h0 q.1)]
      exact hS2
end RWs
