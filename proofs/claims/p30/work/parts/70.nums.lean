/-! ===== numbers of charges, of the kiln, and of what is cut ===== -/
/-! ===== the model: what burns ===== -/
theorem i32_sub_inc (a b : Int32) : a - b + 1 = a + 1 - b := by
  rw [Int32.sub_eq_add_neg, Int32.sub_eq_add_neg, Int32.add_assoc, Int32.add_comm (-b) 1, ← Int32.add_assoc]
theorem nI_sub_lt {a b d : Nat} (ha : a < 2 ^ 29 := by omega) (hb : b < 2 ^ 29 := by omega) (hd : d < 2 ^ 29 := by omega) : nI a - nI b < nI d ↔ a < d + b := by
  rw [Int32.lt_iff_toInt_lt, pk_sub_toInt (by omega) (by omega), nI_toInt (by omega)]
  omega
theorem nI_sub_le {a b d : Nat} (ha : a < 2 ^ 29 := by omega) (hb : b < 2 ^ 29 := by omega) (hd : d < 2 ^ 29 := by omega) : nI d ≤ nI a - nI b ↔ d + b ≤ a := by
  rw [Int32.le_iff_toInt_le, pk_sub_toInt (by omega) (by omega), nI_toInt (by omega)]
  omega
theorem mx0_sub {u k : Nat} (hu : u < 2 ^ 29 := by omega) (hk : k < 2 ^ 29 := by omega) : mx 0 (nI u - nI k) = nI (u - k) := by
  unfold mx
  by_cases h : k < u
  · rw [if_pos, pk_sub (by omega)]
    show nI 0 < nI u - nI k
    rw [pk_sub (by omega)]
    exact nI_lt (by omega) (by omega)
  · rw [if_neg, show u - k = 0 by omega]; rfl
    intro h2
    rw [Int32.lt_iff_toInt_lt, pk_sub_toInt (by omega) (by omega)] at h2
    have h3 : (0 : Int32).toInt = 0 := rfl
    omega
theorem mn_nI {a b : Nat} (ha : a < 2 ^ 31 := by omega) (hb : b < 2 ^ 31 := by omega) : mn (nI a) (nI b) = nI (min a b) := by
  unfold mn
  by_cases h : b < a
  · rw [if_pos (nI_lt h (by omega)), show min a b = b by omega]
  · rw [if_neg (nI_nlt (by omega) (by omega)), show min a b = a by omega]
theorem nI_subE {a b d : Nat} (h : b ≤ a) (e : a - b = d) : nI a - nI b = nI d := by rw [pk_sub h, e]
/-- a charge's numbers -/
def chN (x : CV) : Prop := ∃ r f s b a o0 o1 o2 o3 : Nat, x.1 1 = nI r ∧ x.1 2 = nI f ∧ x.1 3 = nI s ∧ x.1 4 = nI b ∧ x.1 5 = nI a ∧ x.2.1 0 = nI o0 ∧ x.2.1 1 = nI o1 ∧ x.2.1 2 = nI o2 ∧ x.2.1 3 = nI o3 ∧ r + f + 2 * b + 3 * a = o0 ∧ s + b + a = o1 ∧ o0 ≤ 200 ∧ o1 ≤ 200 ∧ o2 ≤ 200 ∧ o3 ≤ 200
def bT1 (u r f s : Nat) : Nat := min (u - 6) (min ((f + min r (u - 4)) / 2) s)
def bF2 (u r f s : Nat) : Nat := f + min r (u - 4) - 2 * bT1 u r f s
def bT2 (u r f s b m : Nat) : Nat := if u ≤ 8 then 0 else min (u - 8 + m / 4) (min (bF2 u r f s) (b + bT1 u r f s))
theorem bn_A {u r : Nat} (hu : u ≤ 1000) (hr : r ≤ 1000) : bnA (nI u) (nI r) = nI (min r (u - 4)) := by
  unfold bnA
  by_cases h : u < 5
  · rw [if_pos (show nI u < 5 from nI_lt (b := 5) h (by omega)), show min r (u - 4) = 0 by omega]; rfl
  · rw [if_neg (show ¬ nI u < 5 from nI_nlt (b := 5) (by omega) (by omega)), show nI u - 4 = nI (u - 4) from pk_sub (b := 4) (by omega), mn_nI]
theorem bn_B {u r f s : Nat} (hu : u ≤ 1000) (hr : r ≤ 1000) (hf : f ≤ 1000) (hs : s ≤ 1000) : bnB1 (nI u) (nI r) (nI f) (nI s) = nI (bT1 u r f s) := by
  unfold bnB1 bnFree1 bnB
  rw [bn_A hu hr, nI_add]
  by_cases h : u < 7
  · rw [if_pos (show nI u < 7 from nI_lt (b := 7) h (by omega)), show bT1 u r f s = 0 by unfold bT1; omega]; rfl
  · rw [if_neg (show ¬ nI u < 7 from nI_nlt (b := 7) (by omega) (by omega)), show nI u - 6 = nI (u - 6) from pk_sub (b := 6) (by omega), show nI (f + min r (u - 4)) / 2 = nI ((f + min r (u - 4)) / 2) from pk_div (d := 2) (by omega) (by omega) (by omega), mn_nI, mn_nI]
    rfl
theorem bn_F {u r f s : Nat} (hu : u ≤ 1000) (hr : r ≤ 1000) (hf : f ≤ 1000) (hs : s ≤ 1000) : bnFree2 (nI u) (nI r) (nI f) (nI s) = nI (bF2 u r f s) := by
  unfold bnFree2
  rw [bn_B hu hr hf hs]
  unfold bnFree1
  rw [bn_A hu hr, nI_add, show (2 : Int32) * nI (bT1 u r f s) = nI (2 * bT1 u r f s) from pk_mul 2 _, pk_sub (by unfold bT1; omega)]
  rfl
theorem bn_C {u r f s b m : Nat} (hu : u ≤ 1000) (hr : r ≤ 1000) (hf : f ≤ 1000) (hs : s ≤ 1000) (hb : b ≤ 1000) (hm : m ≤ 1000) : bnC1 (nI u) (nI r) (nI f) (nI s) (nI b) (nI m) = nI (bT2 u r f s b m) := by
  unfold bnC1 bnC bT2
  have h1 : bT1 u r f s ≤ 1000 := by unfold bT1; omega
  have h2 : bF2 u r f s ≤ 2000 := by unfold bF2; omega
  rw [bn_F hu hr hf hs, bn_B hu hr hf hs, nI_add]
  by_cases h : u < 9
  · rw [if_pos (show nI u < 9 from nI_lt (b := 9) h (by omega)), if_pos (by omega)]; rfl
  · rw [if_neg (show ¬ nI u < 9 from nI_nlt (b := 9) (by omega) (by omega)), if_neg (by omega), show nI u - 8 = nI (u - 8) from pk_sub (b := 8) (by omega), show nI m / 4 = nI (m / 4) from pk_div (d := 4) (by omega) (by omega) (by omega), nI_add, mn_nI, mn_nI]
theorem chN_burn {x : CV} {u : Nat} (hu : u ≤ 100) (h : chN x) : chN (chBurn (nI u) x) := by
  obtain ⟨r, f, s, b, a, o0, o1, o2, o3, e1, e2, e3, e4, e5, p0, p1, p2, p3, c1, c2, b0, b1, b2, b3⟩ := h
  have hA : min r (u - 4) ≤ r := Nat.min_le_left _ _
  have hT1 : 2 * bT1 u r f s ≤ f + min r (u - 4) ∧ bT1 u r f s ≤ s := by unfold bT1; omega
  have hT2 : bT2 u r f s b (o2 + o3) ≤ bF2 u r f s ∧ bT2 u r f s b (o2 + o3) ≤ b + bT1 u r f s := by unfold bT2; split <;> omega
  have hF : bF2 u r f s = f + min r (u - 4) - 2 * bT1 u r f s := rfl
  refine ⟨r - min r (u - 4), bF2 u r f s - bT2 u r f s b (o2 + o3), s - bT1 u r f s, b + bT1 u r f s - bT2 u r f s b (o2 + o3), a + bT2 u r f s b (o2 + o3), o0, o1, o2, o3, ?_, ?_, ?_, ?_, ?_, p0, p1, p2, p3, by omega, by omega, b0, b1, b2, b3⟩
  · show x.1 1 - bnA (nI u) (x.1 1) = _
    rw [e1, bn_A (by omega) (by omega), pk_sub hA]
  · show bnFree2 (nI u) (x.1 1) (x.1 2) (x.1 3) - bnC1 (nI u) (x.1 1) (x.1 2) (x.1 3) (x.1 4) (x.2.1 2 + x.2.1 3) = _
    rw [e1, e2, e3, e4, p2, p3, nI_add, bn_F (by omega) (by omega) (by omega) (by omega), bn_C (by omega) (by omega) (by omega) (by omega) (by omega) (by omega), pk_sub hT2.1]
  · show x.1 3 - bnB1 (nI u) (x.1 1) (x.1 2) (x.1 3) = _
    rw [e1, e2, e3, bn_B (by omega) (by omega) (by omega) (by omega), pk_sub hT1.2]
  · show x.1 4 + bnB1 (nI u) (x.1 1) (x.1 2) (x.1 3) - bnC1 (nI u) (x.1 1) (x.1 2) (x.1 3) (x.1 4) (x.2.1 2 + x.2.1 3) = _
    rw [e1, e2, e3, e4, p2, p3, nI_add, bn_B (by omega) (by omega) (by omega) (by omega), bn_C (by omega) (by omega) (by omega) (by omega) (by omega) (by omega), nI_add, pk_sub hT2.2]
  · show x.1 5 + bnC1 (nI u) (x.1 1) (x.1 2) (x.1 3) (x.1 4) (x.2.1 2 + x.2.1 3) = _
    rw [e1, e2, e3, e4, e5, p2, p3, nI_add, bn_C (by omega) (by omega) (by omega) (by omega) (by omega) (by omega), nI_add]
theorem wmCell_nat {x : CV} {a b : Nat} (ha : a ≤ 27) (hb : b ≤ 27) : ∃ u : Nat, u ≤ 27 ∧ wmCell x (nI a) (nI b) = nI u := by
  have e : (nI a + 2 * nI b) / 3 = nI ((a + 2 * b) / 3) := by
    rw [show (2 : Int32) * nI b = nI (2 * b) from pk_mul 2 b, nI_add]
    exact pk_div (d := 3) (by omega) (by omega) (by omega)
  have e0 : ∀ n : Nat, n ≤ 27 → mx 0 (nI n) = nI n := fun n hn => by
    have := mx0_sub (u := n) (k := 0)
    rw [show nI n - nI 0 = nI n from sub0 _] at this
    exact this
  unfold wmCell
  rw [e]
  split
  · exact ⟨_, by omega, e0 _ (by omega)⟩
  · split
    · exact ⟨_, by omega, e0 _ (by omega)⟩
    · refine ⟨(a + 2 * b) / 3 - 1, by omega, ?_⟩
      rw [← Int32.sub_eq_add_neg]
      exact mx0_sub (u := (a + 2 * b) / 3) (k := 1)
theorem wm_nat {v : Nat → CV} {w : Nat → Int32} {b : Int32} (hw : ∀ k, k < 5 → ∃ u : Nat, u ≤ 27 ∧ w k = nI u) (hb : ∃ f : Nat, f ≤ 9 ∧ b = nI f) : ∀ k, k < 5 → ∃ u : Nat, u ≤ 27 ∧ wm0 v w b k = nI u := by
  obtain ⟨f, hf, rfl⟩ := hb
  obtain ⟨a0, b0, e0⟩ := hw 0 (by decide)
  obtain ⟨a1, b1, e1⟩ := hw 1 (by decide)
  obtain ⟨a2, b2, e2⟩ := hw 2 (by decide)
  obtain ⟨a3, b3, e3⟩ := hw 3 (by decide)
  obtain ⟨a4, b4, e4⟩ := hw 4 (by decide)
  have h4 : wm4 w (nI f) 4 = nI ((a4 + 3 * f) / 2) := by
    unfold wm4
    rw [pk_us, e4, show (3 : Int32) * nI f = nI (3 * f) from pk_mul 3 f, nI_add]
    exact pk_div (d := 2) (by omega) (by omega) (by omega)
  have g3 : wm4 w (nI f) 3 = w 3 := pk_un (by decide)
  have g2 : wm3 v w (nI f) 2 = w 2 := (pk_un (by decide)).trans (pk_un (by decide))
  have g1 : wm2 v w (nI f) 1 = w 1 := (pk_un (by decide)).trans ((pk_un (by decide)).trans (pk_un (by decide)))
  have g0 : wm1 v w (nI f) 0 = w 0 := (pk_un (by decide)).trans ((pk_un (by decide)).trans ((pk_un (by decide)).trans (pk_un (by decide))))
  obtain ⟨c3, d3, f3⟩ := wmCell_nat (x := v 3) b3 (show (a4 + 3 * f) / 2 ≤ 27 by omega)
  have h3 : wm3 v w (nI f) 3 = nI c3 := by
    unfold wm3
    rw [pk_us, g3, h4, e3, f3]
  obtain ⟨c2, d2, f2⟩ := wmCell_nat (x := v 2) b2 d3
  have h2 : wm2 v w (nI f) 2 = nI c2 := by
    unfold wm2
    rw [pk_us, g2, h3, e2, f2]
  obtain ⟨c1, d1, f1⟩ := wmCell_nat (x := v 1) b1 d2
  have h1 : wm1 v w (nI f) 1 = nI c1 := by
    unfold wm1
    rw [pk_us, g1, h2, e1, f1]
  obtain ⟨c0, d0, f0⟩ := wmCell_nat (x := v 0) b0 d1
  have h0 : wm0 v w (nI f) 0 = nI c0 := by
    unfold wm0
    rw [pk_us, g0, h1, e0, f0]
  have k1 : wm0 v w (nI f) 1 = wm1 v w (nI f) 1 := pk_un (by decide)
  have k2 : wm0 v w (nI f) 2 = wm2 v w (nI f) 2 := (pk_un (by decide)).trans (pk_un (by decide))
  have k3 : wm0 v w (nI f) 3 = wm3 v w (nI f) 3 := (pk_un (by decide)).trans ((pk_un (by decide)).trans (pk_un (by decide)))
  have k4 : wm0 v w (nI f) 4 = wm4 w (nI f) 4 := (pk_un (by decide)).trans ((pk_un (by decide)).trans ((pk_un (by decide)).trans (pk_un (by decide))))
  intro k hk
  match k, hk with
  | 0, _ => exact ⟨c0, d0, h0⟩
  | 1, _ => exact ⟨c1, d1, k1.trans h1⟩
  | 2, _ => exact ⟨c2, d2, k2.trans h2⟩
  | 3, _ => exact ⟨c3, d3, k3.trans h3⟩
  | 4, _ => exact ⟨_, by omega, k4.trans h4⟩
theorem kBurns_nat {co fl : Int32} (h : ∃ f : Nat, f ≤ 9 ∧ fl = nI f) : ∃ f : Nat, f ≤ 9 ∧ kBurns co fl = nI f := by
  unfold kBurns
  split
  · exact h
  · exact ⟨0, by omega, rfl⟩
theorem sV2_0 {S : KS} {k : Nat} : (sV2 S k).1 0 = (sV1 S k).1 0 ∧ (sV2 S k).2 = (sV1 S k).2 := by
  unfold sV2 kvF stC
  split
  · split
    · exact ⟨rfl, rfl⟩
    · exact ⟨rfl, rfl⟩
  · exact ⟨rfl, rfl⟩
theorem kRing1_nat {pr me w : Int32} {a : Nat} : ∃ b : Nat, a ≤ b ∧ b ≤ a + 1 ∧ kRing1 pr me w (nI a) = nI b := by
  unfold kRing1
  split
  · exact ⟨a, Nat.le_refl _, by omega, rfl⟩
  · split
    · exact ⟨a, Nat.le_refl _, by omega, rfl⟩
    · split
      · exact ⟨a, Nat.le_refl _, by omega, rfl⟩
      · exact ⟨a + 1, by omega, Nat.le_refl _, nI_1 a⟩
theorem kRing2_nat {w : Int32} {b : Nat} : ∃ d : Nat, d ≤ b ∧ kRing2 w (nI b) = nI d := by
  unfold kRing2
  split
  · exact ⟨b, Nat.le_refl _, rfl⟩
  · split
    · exact ⟨b, Nat.le_refl _, rfl⟩
    · exact ⟨0, Nat.zero_le _, rfl⟩
theorem kFall_nat {w r : Int32} {b : Nat} : ∃ d : Nat, b ≤ d ∧ d ≤ b + 1 ∧ kFall w r (nI b) = nI d := by
  unfold kFall
  split
  · exact ⟨b, Nat.le_refl _, by omega, rfl⟩
  · split
    · exact ⟨b, Nat.le_refl _, by omega, rfl⟩
    · exact ⟨b + 1, by omega, Nat.le_refl _, nI_1 b⟩
theorem kCoal_nat {f a : Nat} (hf : f ≤ 9) (ha : a ≤ 999) : ∃ d : Nat, d ≤ a ∧ kCoal (nI a) (nI f) = nI d := by
  unfold kCoal
  split
  · rename_i h9
    have h8 : f ≤ a := nle h9
    exact ⟨a - f, by omega, pk_sub h8⟩
  · exact ⟨a, Nat.le_refl _, rfl⟩
/-- coal, ring and falls through a step -/
theorem kst_nat {S : KS} {f a r w : Nat} (h0 : S.1 0 = nI f) (hf : f ≤ 9) (h1 : S.1 1 = nI a) (ha : a ≤ 999) (h2 : S.1 2 = nI r) (h4 : S.1 4 = nI w) : (kst S).1 0 = nI f ∧ (∃ d : Nat, d ≤ a ∧ (kst S).1 1 = nI d) ∧ (∃ d : Nat, d ≤ r + 1 ∧ (kst S).1 2 = nI d) ∧ ∃ d : Nat, w ≤ d ∧ d ≤ w + 1 ∧ (kst S).1 4 = nI d := by
  refine ⟨h0, ?_, ?_, ?_⟩
  · obtain ⟨d, hd, e⟩ := kCoal_nat hf ha
    refine ⟨d, hd, ?_⟩
    show kCoal (S.1 1) (S.1 0) = nI d
    rw [h0, h1, e]
  · obtain ⟨b, hb1, hb2, eb⟩ := kRing1_nat (pr := (sV2 S 3).1 0) (me := mxMelt (sV2 S 3).2.1) (w := sW1 S 3) (a := r)
    obtain ⟨d, hd, e⟩ := kRing2_nat (w := sW1 S 3) (b := b)
    refine ⟨d, by omega, ?_⟩
    show kRing2 (sW1 S 3) (kRing1 ((sV2 S 3).1 0) (mxMelt (sV2 S 3).2.1) (sW1 S 3) (S.1 2)) = nI d
    rw [h2, eb, e]
  · obtain ⟨d, hd1, hd2, e⟩ := kFall_nat (w := sW1 S 3) (r := sR1 S) (b := w)
    refine ⟨d, hd1, hd2, ?_⟩
    show kFall (sW1 S 3) (sR1 S) (S.1 4) = nI d
    rw [h4, e]
theorem kIt_nat {S : KS} {f a r w : Nat} (h0 : S.1 0 = nI f) (hf : f ≤ 9) (h1 : S.1 1 = nI a) (ha : a ≤ 999) (h2 : S.1 2 = nI r) (h4 : S.1 4 = nI w) : ∀ t, (kIt t S).1 0 = nI f ∧ (∃ d : Nat, d ≤ a ∧ (kIt t S).1 1 = nI d) ∧ (∃ d : Nat, d ≤ r + t ∧ (kIt t S).1 2 = nI d) ∧ ∃ d : Nat, w ≤ d ∧ d ≤ w + t ∧ (kIt t S).1 4 = nI d
  | 0 => ⟨h0, ⟨a, Nat.le_refl _, h1⟩, ⟨r, Nat.le_refl _, h2⟩, w, Nat.le_refl _, Nat.le_refl _, h4⟩
  | t + 1 => by
    obtain ⟨g0, ⟨d1, k1, g1⟩, ⟨d2, k2, g2⟩, d4, k4, k5, g4⟩ := kIt_nat h0 hf h1 ha h2 h4 t
    obtain ⟨q0, ⟨e1, j1, q1⟩, ⟨e2, j2, q2⟩, e4, j4, j5, q4⟩ := kst_nat g0 hf g1 (by omega) g2 g4
    exact ⟨q0, ⟨e1, by omega, q1⟩, ⟨e2, by omega, q2⟩, e4, by omega, by omega, q4⟩
/-! ===== cutting, in whole numbers ===== -/
def nsm (p : Nat → Nat) : Nat → Nat
  | 0 => 0
  | n + 1 => nsm p n + p n
theorem nsm_up {a : Nat → Nat} {i v : Nat} : ∀ {n : Nat}, i < n → nsm (va_up a i v) n + a i = nsm a n + v
  | 0, h => absurd h (Nat.not_lt_zero _)
  | n + 1, h => by
    by_cases e : i = n
    · subst e
      have h0 : ∀ m, m ≤ i → nsm (va_up a i v) m = nsm a m := by
        intro m
        induction m with
        | zero => intro _; rfl
        | succ m ih =>
          intro hm
          show nsm (va_up a i v) m + (va_up a i v) m = nsm a m + a m
          rw [ih (by omega), va_up_ne _ _ (by omega)]
      show nsm (va_up a i v) i + (va_up a i v) i + a i = nsm a i + a i + v
      rw [h0 i (Nat.le_refl _), va_up_eq]
      omega
    · have ih := nsm_up (a := a) (i := i) (v := v) (n := n) (by omega)
      show nsm (va_up a i v) n + (va_up a i v) n + a i = nsm a n + a n + v
      rw [va_up_ne _ _ (show n ≠ i by omega)]
      omega
theorem nsm_eq {a p : Nat → Nat} : ∀ {n : Nat}, (∀ j, j < n → a j = p j) → nsm a n = nsm p n
  | 0, _ => rfl
  | n + 1, h => by
    show nsm a n + a n = nsm p n + p n
    rw [nsm_eq (fun j hj => h j (by omega)), h n (by omega)]
/-- a round over the layers, so far -/
def rd (p : Nat → Nat) : Nat → (Nat → Nat) × Nat → (Nat → Nat) × Nat
  | 0, s => s
  | i + 1, s => if (rd p i s).2 = 0 then rd p i s else if (rd p i s).1 i < p i then (va_up (rd p i s).1 i ((rd p i s).1 i + 1), (rd p i s).2 - 1) else rd p i s
def rds (p : Nat → Nat) (n : Nat) : Nat → (Nat → Nat) × Nat → (Nat → Nat) × Nat
  | 0, s => s
  | r + 1, s => rd p n (rds p n r s)
theorem rd_0 {p : Nat → Nat} {s : (Nat → Nat) × Nat} {i : Nat} (h : (rd p i s).2 = 0) : ∀ {k : Nat}, i ≤ k → rd p k s = rd p i s
  | 0, hk => by rw [show i = 0 by omega]
  | k + 1, hk => by
    by_cases e : i = k + 1
    · rw [e]
    · have ih := rd_0 h (k := k) (by omega)
      show (if (rd p k s).2 = 0 then rd p k s else _) = _
      rw [if_pos (by rw [ih]; exact h), ih]
theorem rds_0 {p : Nat → Nat} {n : Nat} {s : (Nat → Nat) × Nat} {r : Nat} (h : (rds p n r s).2 = 0) : ∀ {k : Nat}, r ≤ k → rds p n k s = rds p n r s
  | 0, hk => by rw [show r = 0 by omega]
  | k + 1, hk => by
    by_cases e : r = k + 1
    · rw [e]
    · have ih := rds_0 h (k := k) (by omega)
      show rd p n (rds p n k s) = _
      rw [ih]
      exact rd_0 (i := 0) h (Nat.zero_le _)
def rdI (p : Nat → Nat) (n K : Nat) (s : (Nat → Nat) × Nat) : Prop := (∀ j, j < n → s.1 j ≤ p j) ∧ nsm s.1 n + s.2 = K
theorem rd_I {p : Nat → Nat} {n K : Nat} {s : (Nat → Nat) × Nat} (h : rdI p n K s) : ∀ {i : Nat}, i ≤ n → rdI p n K (rd p i s)
  | 0, _ => h
  | i + 1, hi => by
    have ih := rd_I h (i := i) (by omega)
    show rdI p n K (if (rd p i s).2 = 0 then rd p i s else if (rd p i s).1 i < p i then (va_up (rd p i s).1 i ((rd p i s).1 i + 1), (rd p i s).2 - 1) else rd p i s)
    split
    · exact ih
    · split
      · rename_i h1 h2
        obtain ⟨g1, g2⟩ := ih
        refine ⟨fun j hj => ?_, ?_⟩
        · show (va_up (rd p i s).1 i ((rd p i s).1 i + 1)) j ≤ p j
          by_cases e : j = i
          · subst e
            rw [va_up_eq]
            omega
          · rw [va_up_ne _ _ e]
            exact g1 j hj
        · show nsm (va_up (rd p i s).1 i ((rd p i s).1 i + 1)) n + ((rd p i s).2 - 1) = K
          have := nsm_up (a := (rd p i s).1) (i := i) (v := (rd p i s).1 i + 1) (n := n) (by omega)
          omega
      · exact ih
theorem rds_I {p : Nat → Nat} {n K : Nat} {s : (Nat → Nat) × Nat} (h : rdI p n K s) : ∀ r, rdI p n K (rds p n r s)
  | 0 => h
  | r + 1 => rd_I (rds_I h r) (Nat.le_refl _)
theorem rd_dec {p : Nat → Nat} {s : (Nat → Nat) × Nat} : ∀ i, (rd p i s).2 < s.2 ∨ (rd p i s = s ∧ (0 < s.2 → ∀ j, j < i → p j ≤ s.1 j))
  | 0 => Or.inr ⟨rfl, fun _ j hj => absurd hj (Nat.not_lt_zero _)⟩
  | i + 1 => by
    have ih := rd_dec (p := p) (s := s) i
    show (if (rd p i s).2 = 0 then rd p i s else if (rd p i s).1 i < p i then (va_up (rd p i s).1 i ((rd p i s).1 i + 1), (rd p i s).2 - 1) else rd p i s).2 < s.2 ∨ ((if (rd p i s).2 = 0 then rd p i s else if (rd p i s).1 i < p i then (va_up (rd p i s).1 i ((rd p i s).1 i + 1), (rd p i s).2 - 1) else rd p i s) = s ∧ _)
    rcases ih with ih | ⟨e, ih⟩
    · left
      split
      · exact ih
      · split
        · show (rd p i s).2 - 1 < s.2
          omega
        · exact ih
    · rw [e]
      by_cases h0 : s.2 = 0
      · rw [if_pos h0]
        exact Or.inr ⟨rfl, fun h => absurd h0 (by omega)⟩
      · rw [if_neg h0]
        by_cases h1 : s.1 i < p i
        · rw [if_pos h1]
          left
          show s.2 - 1 < s.2
          omega
        · rw [if_neg h1]
          refine Or.inr ⟨rfl, fun h j hj => ?_⟩
          by_cases ej : j = i
          · subst ej; omega
          · exact ih h j (by omega)
theorem rd_le {p : Nat → Nat} {s : (Nat → Nat) × Nat} (i : Nat) : (rd p i s).2 ≤ s.2 := by
  rcases rd_dec (p := p) (s := s) i with h | ⟨e, -⟩
  · omega
  · rw [e]; exact Nat.le_refl _
theorem nsm_le {a p : Nat → Nat} : ∀ {n : Nat}, (∀ j, j < n → a j ≤ p j) → nsm a n ≤ nsm p n
  | 0, _ => Nat.le_refl _
  | n + 1, h => by
    have := nsm_le (n := n) (fun j hj => h j (by omega))
    have := h n (by omega)
    show nsm a n + a n ≤ nsm p n + p n
    omega
theorem rds_l {p : Nat → Nat} {n K : Nat} {s : (Nat → Nat) × Nat} (h : rdI p n K s) (hK : K ≤ nsm p n) : ∀ r, (rds p n r s).2 ≤ s.2 - r
  | 0 => Nat.le_refl _
  | r + 1 => by
    have ih := rds_l h hK r
    have hI := rds_I h r
    show (rd p n (rds p n r s)).2 ≤ s.2 - (r + 1)
    rcases rd_dec (p := p) (s := rds p n r s) n with h1 | ⟨e, h2⟩
    · omega
    · rw [e]
      by_cases h0 : (rds p n r s).2 = 0
      · omega
      · have h3 := h2 (by omega)
        have h4 := nsm_le (a := p) (p := (rds p n r s).1) (n := n) h3
        have := hI.2
        omega
/-- the shares -/
def ct0 (p : Nat → Nat) (n K : Nat) : Nat → Nat := fun j => p j * K / nsm p n
def cutN (p : Nat → Nat) (n K : Nat) : Nat → Nat := (rds p n K (ct0 p n K, K - nsm (ct0 p n K) n)).1
theorem ct0_sum {p : Nat → Nat} {n K : Nat} : ∀ i, nsm (ct0 p n K) i * nsm p n ≤ nsm p i * K
  | 0 => by show 0 * _ ≤ 0 * _; omega
  | i + 1 => by
    have ih := ct0_sum (p := p) (n := n) (K := K) i
    show (nsm (ct0 p n K) i + p i * K / nsm p n) * nsm p n ≤ (nsm p i + p i) * K
    have h1 : p i * K / nsm p n * nsm p n ≤ p i * K := Nat.div_mul_le_self _ _
    rw [Nat.add_mul, Nat.add_mul]
    omega
theorem nsm_mono {a : Nat → Nat} {i : Nat} : ∀ {n : Nat}, i ≤ n → nsm a i ≤ nsm a n
  | 0, h => by rw [show i = 0 by omega]; exact Nat.le_refl _
  | n + 1, h => by
    by_cases e : i = n + 1
    · rw [e]; exact Nat.le_refl _
    · have := nsm_mono (a := a) (i := i) (n := n) (by omega)
      show nsm a i ≤ nsm a n + a n
      omega
theorem nsm_at {p : Nat → Nat} {n j : Nat} (h : j < n) : p j ≤ nsm p n := by
  have h1 := nsm_mono (a := p) (i := j + 1) (n := n) h
  have h2 : nsm p (j + 1) = nsm p j + p j := rfl
  omega
theorem ct0_I {p : Nat → Nat} {n K : Nat} (h0 : 0 < nsm p n) (hK : K ≤ nsm p n) : nsm (ct0 p n K) n ≤ K ∧ rdI p n K (ct0 p n K, K - nsm (ct0 p n K) n) := by
  have h1 := ct0_sum (p := p) (n := n) (K := K) n
  have h2 : nsm (ct0 p n K) n ≤ K := by
    have h3 : nsm (ct0 p n K) n * nsm p n ≤ K * nsm p n := by rw [Nat.mul_comm K]; exact h1
    exact Nat.le_of_mul_le_mul_right h3 h0
  refine ⟨h2, fun j hj => ?_, ?_⟩
  · show p j * K / nsm p n ≤ p j
    have h4 : p j * K ≤ p j * nsm p n := Nat.mul_le_mul_left _ hK
    have h5 := Nat.div_le_div_right (c := nsm p n) h4
    rw [Nat.mul_div_cancel _ h0] at h5
    exact h5
  · show nsm (ct0 p n K) n + (K - nsm (ct0 p n K) n) = K
    omega
theorem cutN_I {p : Nat → Nat} {n K : Nat} (h0 : 0 < nsm p n) (hK : K ≤ nsm p n) : (∀ j, j < n → cutN p n K j ≤ p j) ∧ nsm (cutN p n K) n = K ∧ (rds p n K (ct0 p n K, K - nsm (ct0 p n K) n)).2 = 0 := by
  have hI := (ct0_I h0 hK).2
  have h1 := rds_I hI K
  have h2 := rds_l hI hK K
  have h3 : (rds p n K (ct0 p n K, K - nsm (ct0 p n K) n)).2 = 0 := by
    have h4 : (rds p n K (ct0 p n K, K - nsm (ct0 p n K) n)).2 ≤ (K - nsm (ct0 p n K) n) - K := h2
    omega
  refine ⟨h1.1, ?_, h3⟩
  have h5 := h1.2
  rw [h3] at h5
  exact h5
/-- at the end of the model's rounds -/
theorem rd_end {p : Nat → Nat} {n K r k : Nat} (h0 : 0 < nsm p n) (hK : K ≤ nsm p n) (hk : k ≤ n) (h : (rd p k (rds p n r (ct0 p n K, K - nsm (ct0 p n K) n))).2 = 0) : (rd p k (rds p n r (ct0 p n K, K - nsm (ct0 p n K) n))).1 = cutN p n K := by
  have h3 := (cutN_I h0 hK).2.2
  unfold cutN
  rcases Nat.lt_or_ge r K with hr | hr
  · have e1 : rds p n (r + 1) (ct0 p n K, K - nsm (ct0 p n K) n) = rd p k (rds p n r (ct0 p n K, K - nsm (ct0 p n K) n)) := rd_0 h hk
    have e2 := rds_0 (p := p) (n := n) (s := (ct0 p n K, K - nsm (ct0 p n K) n)) (r := r + 1) (by rw [e1]; exact h) (k := K) (by omega)
    rw [e2, e1]
  · have e1 := rds_0 h3 (k := r) hr
    rw [e1, rd_0 (i := 0) h3 (Nat.zero_le _)]
    rfl
theorem rds_pos {p : Nat → Nat} {n K r k : Nat} (h0 : 0 < nsm p n) (hK : K ≤ nsm p n) (h : ¬ (rd p k (rds p n r (ct0 p n K, K - nsm (ct0 p n K) n))).2 = 0) : r < K := by
  rcases Nat.lt_or_ge r K with hr | hr
  · exact hr
  · have h3 := (cutN_I h0 hK).2.2
    have e1 := rds_0 h3 (k := r) hr
    have h4 := rd_le (p := p) (s := rds p n r (ct0 p n K, K - nsm (ct0 p n K) n)) k
    rw [e1, h3] at h4
    rw [e1] at h
    omega
/-! the class's cutting is that -/
theorem sm_nat {g : Nat → Int32} {p : Nat → Nat} : ∀ {n : Nat}, (∀ j, j < n → g j = nI (p j)) → sm g n = nI (nsm p n)
  | 0, _ => rfl
  | n + 1, h => by
    show sm g n + g n = nI (nsm p n + p n)
    rw [sm_nat (fun j hj => h j (by omega)), h n (by omega), nI_add]
theorem soS_nat {g h : Nat → Int32} {p : Nat → Nat} {n K : Nat} (hg : ∀ j, j < n → g j = nI (p j)) (hp : ∀ j, j < n → p j ≤ 200) (h0 : 0 < nsm p n) (hP : nsm p n ≤ 2000) (hK : K ≤ 9) : ∀ {i : Nat}, i ≤ n → ∀ j, j < i → soS g h (nI K) (nI (nsm p n)) i j = nI (ct0 p n K j)
  | 0, _, j, hj => absurd hj (Nat.not_lt_zero _)
  | i + 1, hi, j, hj => by
    show upd (soS g h (nI K) (nI (nsm p n)) i) i (g i * nI K / nI (nsm p n)) j = _
    by_cases e : j = i
    · subst e
      have hb : p j * K ≤ 200 * 9 := Nat.mul_le_mul (hp j (by omega)) hK
      rw [pk_us, hg j (by omega), pk_mul, pk_div (by omega) h0 (by omega)]
      rfl
    · rw [pk_un e]
      exact soS_nat hg hp h0 hP hK (i := i) (by omega) j (by omega)
theorem soL_nat {g : Nat → Int32} {p : Nat → Nat} {n K : Nat} (hg : ∀ j, j < n → g j = nI (p j)) (hp : ∀ j, j < n → p j ≤ 200) (h0 : 0 < nsm p n) (hP : nsm p n ≤ 2000) (hK9 : K ≤ 9) (hK : K ≤ nsm p n) : ∀ {i : Nat}, i ≤ n → soL g (nI K) (nI (nsm p n)) (nI K) i = nI (K - nsm (ct0 p n K) i)
  | 0, _ => rfl
  | i + 1, hi => by
    show soL g (nI K) (nI (nsm p n)) (nI K) i - g i * nI K / nI (nsm p n) = nI (K - (nsm (ct0 p n K) i + ct0 p n K i))
    have hb : p i * K ≤ 200 * 9 := Nat.mul_le_mul (hp i (by omega)) hK9
    have h1 := (ct0_I h0 hK).1
    have h2 := nsm_mono (a := ct0 p n K) (i := i + 1) (n := n) hi
    have h3 : nsm (ct0 p n K) (i + 1) = nsm (ct0 p n K) i + ct0 p n K i := rfl
    rw [soL_nat hg hp h0 hP hK9 hK (i := i) (by omega), hg i (by omega), pk_mul, pk_div (by omega) h0 (by omega)]
    show nI (K - nsm (ct0 p n K) i) - nI (ct0 p n K i) = _
    rw [pk_sub (by omega), Nat.sub_sub]
theorem srF_nat {g h : Nat → Int32} {p : Nat → Nat} {n : Nat} {s : (Nat → Nat) × Nat} (hg : ∀ j, j < n → g j = nI (p j)) (hp : ∀ j, j < n → p j ≤ 200) (ha : ∀ j, j < n → h j = nI (s.1 j)) (hI : ∀ i, i ≤ n → ∀ j, j < n → (rd p i s).1 j ≤ p j) (hl : s.2 ≤ 9) : ∀ {i : Nat}, i ≤ n → (∀ j, j < n → (srF g h (nI s.2) i).1 j = nI ((rd p i s).1 j)) ∧ (srF g h (nI s.2) i).2 = nI (s.2 - (rd p i s).2)
  | 0, _ => ⟨ha, by show (0 : Int32) = nI (s.2 - s.2); rw [Nat.sub_self]; rfl⟩
  | i + 1, hi => by
    obtain ⟨h1, h2⟩ := srF_nat hg hp ha hI hl (i := i) (by omega)
    have hle := rd_le (p := p) (s := s) i
    have hp1 := hp i (by omega)
    have hI1 := hI i (by omega) i (by omega)
    have eR : rd p (i + 1) s = if (rd p i s).2 = 0 then rd p i s else if (rd p i s).1 i < p i then (va_up (rd p i s).1 i ((rd p i s).1 i + 1), (rd p i s).2 - 1) else rd p i s := rfl
    have eS : srF g h (nI s.2) (i + 1) = if (srF g h (nI s.2) i).2 < nI s.2 then (if (srF g h (nI s.2) i).1 i < g i then (upd (srF g h (nI s.2) i).1 i ((srF g h (nI s.2) i).1 i + 1), (srF g h (nI s.2) i).2 + 1) else srF g h (nI s.2) i) else srF g h (nI s.2) i := rfl
    rw [eR, eS]
    by_cases h0 : (rd p i s).2 = 0
    · rw [if_pos h0, if_neg (by rw [h2, h0]; exact nI_nlt (by omega) (by omega))]
      exact ⟨h1, h2⟩
    · rw [if_neg h0, if_pos (by rw [h2]; exact nI_lt (by omega) (by omega))]
      by_cases h3 : (rd p i s).1 i < p i
      · rw [if_pos h3, if_pos (by rw [h1 i (by omega), hg i (by omega)]; exact nI_lt h3 (by omega))]
        refine ⟨fun j hj => ?_, ?_⟩
        · show upd (srF g h (nI s.2) i).1 i ((srF g h (nI s.2) i).1 i + 1) j = nI (va_up (rd p i s).1 i ((rd p i s).1 i + 1) j)
          by_cases e : j = i
          · subst e
            rw [pk_us, va_up_eq, h1 j hj, nI_1]
          · rw [pk_un e, va_up_ne _ _ e]
            exact h1 j hj
        · show (srF g h (nI s.2) i).2 + 1 = nI (s.2 - ((rd p i s).2 - 1))
          rw [h2, nI_1]
          congr 1
          omega
      · rw [if_neg h3, if_neg (by rw [h1 i (by omega), hg i (by omega)]; exact nI_nlt (by omega) (by omega))]
        exact ⟨h1, h2⟩
theorem soR_nat {g h : Nat → Int32} {p : Nat → Nat} {n K : Nat} {s : (Nat → Nat) × Nat} (hg : ∀ j, j < n → g j = nI (p j)) (hp : ∀ j, j < n → p j ≤ 200) (ha : ∀ j, j < n → h j = nI (s.1 j)) (hI : rdI p n K s) (hl : s.2 ≤ 9) : ∀ {r : Nat}, (∀ j, j < n → (soR g n r (h, nI s.2)).1 j = nI ((rds p n r s).1 j)) ∧ (soR g n r (h, nI s.2)).2 = nI (rds p n r s).2 ∧ (rds p n r s).2 ≤ 9
  | 0 => ⟨ha, rfl, hl⟩
  | r + 1 => by
    obtain ⟨h1, h2, h3⟩ := soR_nat hg hp ha hI hl (r := r)
    have hIr := rds_I hI r
    have eR : rds p n (r + 1) s = rd p n (rds p n r s) := rfl
    have eS : soR g n (r + 1) (h, nI s.2) = if 0 < (soR g n r (h, nI s.2)).2 then ((srF g (soR g n r (h, nI s.2)).1 (soR g n r (h, nI s.2)).2 n).1, (soR g n r (h, nI s.2)).2 - (srF g (soR g n r (h, nI s.2)).1 (soR g n r (h, nI s.2)).2 n).2) else soR g n r (h, nI s.2) := rfl
    rw [eR, eS]
    by_cases h0 : (rds p n r s).2 = 0
    · rw [if_neg (by rw [h2, h0]; decide), rd_0 (i := 0) (show (rd p 0 (rds p n r s)).2 = 0 from h0) (Nat.zero_le _)]
      exact ⟨h1, h2, h3⟩
    · rw [if_pos (by rw [h2]; exact nI_lt (a := 0) (by omega) (by omega)), h2]
      obtain ⟨k1, k2⟩ := srF_nat hg hp h1 (fun i hi j hj => (rd_I hIr hi).1 j hj) h3 (Nat.le_refl n)
      have hle := rd_le (p := p) (s := rds p n r s) n
      refine ⟨k1, ?_, by omega⟩
      show nI (rds p n r s).2 - (srF g (soR g n r (h, nI s.2)).1 (nI (rds p n r s).2) n).2 = _
      rw [k2, pk_sub (by omega)]
      congr 1
      omega
theorem soAll_nat {g h : Nat → Int32} {p : Nat → Nat} {n K : Nat} (hg : ∀ j, j < n → g j = nI (p j)) (hp : ∀ j, j < n → p j ≤ 200) (h0 : 0 < nsm p n) (hP : nsm p n ≤ 2000) (hK9 : K ≤ 9) (hK : K ≤ nsm p n) : ∀ j, j < n → soAll g h n K j = nI (cutN p n K j) := by
  intro j hj
  have e := sm_nat hg
  unfold soAll
  rw [e, if_neg (fun q => absurd (nI_z q (by omega)) (by omega)), show mn (nI K) (nI (nsm p n)) = nI K from by rw [mn_nI, show min K (nsm p n) = K by omega], soL_nat hg hp h0 hP hK9 hK (Nat.le_refl n)]
  exact (soR_nat (s := (ct0 p n K, K - nsm (ct0 p n K) n)) hg hp (fun j hj => soS_nat hg hp h0 hP hK9 (Nat.le_refl n) j hj) (ct0_I h0 hK).2 (by show K - _ ≤ 9; omega)).1 j hj
theorem nsm_b {p : Nat → Nat} : ∀ {n : Nat}, (∀ j, j < n → p j ≤ 200) → nsm p n ≤ n * 200
  | 0, _ => Nat.le_refl _
  | n + 1, h => by
    have := nsm_b (n := n) (fun j hj => h j (by omega))
    have := h n (by omega)
    show nsm p n + p n ≤ (n + 1) * 200
    omega
