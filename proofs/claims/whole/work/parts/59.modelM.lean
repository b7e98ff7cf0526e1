/-! ===== cutting, in whole numbers ===== -/
def nsm (p : Nat → Nat) : Nat → Nat
  | 0 => 0
  | n + 1 => nsm p n + p n
theorem nsm_up {a : Nat → Nat} {i v : Nat} : ∀ {n : Nat}, i < n → nsm (va_up a i v) n + a i = nsm a n + v
  | 0, h => absurd h (Nat.not_lt_zero _)
  | n + 1, h => by
    by_cases e : i = n
    · subst e
      have h0 : ∀ m, m ≤ i → nsm (va_up a i v) m = nsm a m := by
        intro m
        induction m with
        | zero => intro _; rfl
        | succ m ih =>
          intro hm
          show nsm (va_up a i v) m + (va_up a i v) m = nsm a m + a m
          rw [ih (by omega), va_up_ne _ _ (by omega)]
      show nsm (va_up a i v) i + (va_up a i v) i + a i = nsm a i + a i + v
      rw [h0 i (Nat.le_refl _), va_up_eq]
      omega
    · have ih := nsm_up (a := a) (i := i) (v := v) (n := n) (by omega)
      show nsm (va_up a i v) n + (va_up a i v) n + a i = nsm a n + a n + v
      rw [va_up_ne _ _ (show n ≠ i by omega)]
      omega
theorem nsm_eq {a p : Nat → Nat} : ∀ {n : Nat}, (∀ j, j < n → a j = p j) → nsm a n = nsm p n
  | 0, _ => rfl
  | n + 1, h => by
    show nsm a n + a n = nsm p n + p n
    rw [nsm_eq (fun j hj => h j (by omega)), h n (by omega)]
/-- a round over the layers, so far -/
def rd (p : Nat → Nat) : Nat → (Nat → Nat) × Nat → (Nat → Nat) × Nat
  | 0, s => s
  | i + 1, s => if (rd p i s).2 = 0 then rd p i s else if (rd p i s).1 i < p i then (va_up (rd p i s).1 i ((rd p i s).1 i + 1), (rd p i s).2 - 1) else rd p i s
def rds (p : Nat → Nat) (n : Nat) : Nat → (Nat → Nat) × Nat → (Nat → Nat) × Nat
  | 0, s => s
  | r + 1, s => rd p n (rds p n r s)
theorem rd_0 {p : Nat → Nat} {s : (Nat → Nat) × Nat} {i : Nat} (h : (rd p i s).2 = 0) : ∀ {k : Nat}, i ≤ k → rd p k s = rd p i s
  | 0, hk => by rw [show i = 0 by omega]
  | k + 1, hk => by
    by_cases e : i = k + 1
    · rw [e]
    · have ih := rd_0 h (k := k) (by omega)
      show (if (rd p k s).2 = 0 then rd p k s else _) = _
      rw [if_pos (by rw [ih]; exact h), ih]
theorem rds_0 {p : Nat → Nat} {n : Nat} {s : (Nat → Nat) × Nat} {r : Nat} (h : (rds p n r s).2 = 0) : ∀ {k : Nat}, r ≤ k → rds p n k s = rds p n r s
  | 0, hk => by rw [show r = 0 by omega]
  | k + 1, hk => by
    by_cases e : r = k + 1
    · rw [e]
    · have ih := rds_0 h (k := k) (by omega)
      show rd p n (rds p n k s) = _
      rw [ih]
      exact rd_0 (i := 0) h (Nat.zero_le _)
def rdI (p : Nat → Nat) (n K : Nat) (s : (Nat → Nat) × Nat) : Prop := (∀ j, j < n → s.1 j ≤ p j) ∧ nsm s.1 n + s.2 = K
theorem rd_I {p : Nat → Nat} {n K : Nat} {s : (Nat → Nat) × Nat} (h : rdI p n K s) : ∀ {i : Nat}, i ≤ n → rdI p n K (rd p i s)
  | 0, _ => h
  | i + 1, hi => by
    have ih := rd_I h (i := i) (by omega)
    show rdI p n K (if (rd p i s).2 = 0 then rd p i s else if (rd p i s).1 i < p i then (va_up (rd p i s).1 i ((rd p i s).1 i + 1), (rd p i s).2 - 1) else rd p i s)
    split
    · exact ih
    · split
      · rename_i h1 h2
        obtain ⟨g1, g2⟩ := ih
        refine ⟨fun j hj => ?_, ?_⟩
        · show (va_up (rd p i s).1 i ((rd p i s).1 i + 1)) j ≤ p j
          by_cases e : j = i
          · subst e
            rw [va_up_eq]
            omega
          · rw [va_up_ne _ _ e]
            exact g1 j hj
        · show nsm (va_up (rd p i s).1 i ((rd p i s).1 i + 1)) n + ((rd p i s).2 - 1) = K
          have := nsm_up (a := (rd p i s).1) (i := i) (v := (rd p i s).1 i + 1) (n := n) (by omega)
          omega
      · exact ih
theorem rds_I {p : Nat → Nat} {n K : Nat} {s : (Nat → Nat) × Nat} (h : rdI p n K s) : ∀ r, rdI p n K (rds p n r s)
  | 0 => h
  | r + 1 => rd_I (rds_I h r) (Nat.le_refl _)
theorem rd_dec {p : Nat → Nat} {s : (Nat → Nat) × Nat} : ∀ i, (rd p i s).2 < s.2 ∨ (rd p i s = s ∧ (0 < s.2 → ∀ j, j < i → p j ≤ s.1 j))
  | 0 => Or.inr ⟨rfl, fun _ j hj => absurd hj (Nat.not_lt_zero _)⟩
  | i + 1 => by
    have ih := rd_dec (p := p) (s := s) i
    show (if (rd p i s).2 = 0 then rd p i s else if (rd p i s).1 i < p i then (va_up (rd p i s).1 i ((rd p i s).1 i + 1), (rd p i s).2 - 1) else rd p i s).2 < s.2 ∨ ((if (rd p i s).2 = 0 then rd p i s else if (rd p i s).1 i < p i then (va_up (rd p i s).1 i ((rd p i s).1 i + 1), (rd p i s).2 - 1) else rd p i s) = s ∧ _)
    rcases ih with ih | ⟨e, ih⟩
    · left
      split
      · exact ih
      · split
        · show (rd p i s).2 - 1 < s.2
          omega
        · exact ih
    · rw [e]
      by_cases h0 : s.2 = 0
      · rw [if_pos h0]
        exact Or.inr ⟨rfl, fun h => absurd h0 (by omega)⟩
      · rw [if_neg h0]
        by_cases h1 : s.1 i < p i
        · rw [if_pos h1]
          left
          show s.2 - 1 < s.2
          omega
        · rw [if_neg h1]
          refine Or.inr ⟨rfl, fun h j hj => ?_⟩
          by_cases ej : j = i
          · subst ej; omega
          · exact ih h j (by omega)
theorem rd_le {p : Nat → Nat} {s : (Nat → Nat) × Nat} (i : Nat) : (rd p i s).2 ≤ s.2 := by
  rcases rd_dec (p := p) (s := s) i with h | ⟨e, -⟩
  · omega
  · rw [e]; exact Nat.le_refl _
theorem nsm_le {a p : Nat → Nat} : ∀ {n : Nat}, (∀ j, j < n → a j ≤ p j) → nsm a n ≤ nsm p n
  | 0, _ => Nat.le_refl _
  | n + 1, h => by
    have := nsm_le (n := n) (fun j hj => h j (by omega))
    have := h n (by omega)
    show nsm a n + a n ≤ nsm p n + p n
    omega
theorem rds_l {p : Nat → Nat} {n K : Nat} {s : (Nat → Nat) × Nat} (h : rdI p n K s) (hK : K ≤ nsm p n) : ∀ r, (rds p n r s).2 ≤ s.2 - r
  | 0 => Nat.le_refl _
  | r + 1 => by
    have ih := rds_l h hK r
    have hI := rds_I h r
    show (rd p n (rds p n r s)).2 ≤ s.2 - (r + 1)
    rcases rd_dec (p := p) (s := rds p n r s) n with h1 | ⟨e, h2⟩
    · omega
    · rw [e]
      by_cases h0 : (rds p n r s).2 = 0
      · omega
      · have h3 := h2 (by omega)
        have h4 := nsm_le (a := p) (p := (rds p n r s).1) (n := n) h3
        have := hI.2
        omega
/-- the shares -/
def ct0 (p : Nat → Nat) (n K : Nat) : Nat → Nat := fun j => p j * K / nsm p n
def cutN (p : Nat → Nat) (n K : Nat) : Nat → Nat := (rds p n K (ct0 p n K, K - nsm (ct0 p n K) n)).1
theorem ct0_sum {p : Nat → Nat} {n K : Nat} : ∀ i, nsm (ct0 p n K) i * nsm p n ≤ nsm p i * K
  | 0 => by show 0 * _ ≤ 0 * _; omega
  | i + 1 => by
    have ih := ct0_sum (p := p) (n := n) (K := K) i
    show (nsm (ct0 p n K) i + p i * K / nsm p n) * nsm p n ≤ (nsm p i + p i) * K
    have h1 : p i * K / nsm p n * nsm p n ≤ p i * K := Nat.div_mul_le_self _ _
    rw [Nat.add_mul, Nat.add_mul]
    omega
theorem nsm_mono {a : Nat → Nat} {i : Nat} : ∀ {n : Nat}, i ≤ n → nsm a i ≤ nsm a n
  | 0, h => by rw [show i = 0 by omega]; exact Nat.le_refl _
  | n + 1, h => by
    by_cases e : i = n + 1
    · rw [e]; exact Nat.le_refl _
    · have := nsm_mono (a := a) (i := i) (n := n) (by omega)
      show nsm a i ≤ nsm a n + a n
      omega
theorem nsm_at {p : Nat → Nat} {n j : Nat} (h : j < n) : p j ≤ nsm p n := by
  have h1 := nsm_mono (a := p) (i := j + 1) (n := n) h
  have h2 : nsm p (j + 1) = nsm p j + p j := rfl
  omega
theorem ct0_I {p : Nat → Nat} {n K : Nat} (h0 : 0 < nsm p n) (hK : K ≤ nsm p n) : nsm (ct0 p n K) n ≤ K ∧ rdI p n K (ct0 p n K, K - nsm (ct0 p n K) n) := by
  have h1 := ct0_sum (p := p) (n := n) (K := K) n
  have h2 : nsm (ct0 p n K) n ≤ K := by
    have h3 : nsm (ct0 p n K) n * nsm p n ≤ K * nsm p n := by rw [Nat.mul_comm K]; exact h1
    exact Nat.le_of_mul_le_mul_right h3 h0
  refine ⟨h2, fun j hj => ?_, ?_⟩
  · show p j * K / nsm p n ≤ p j
    have h4 : p j * K ≤ p j * nsm p n := Nat.mul_le_mul_left _ hK
    have h5 := Nat.div_le_div_right (c := nsm p n) h4
    rw [Nat.mul_div_cancel _ h0] at h5
    exact h5
  · show nsm (ct0 p n K) n + (K - nsm (ct0 p n K) n) = K
    omega
theorem cutN_I {p : Nat → Nat} {n K : Nat} (h0 : 0 < nsm p n) (hK : K ≤ nsm p n) : (∀ j, j < n → cutN p n K j ≤ p j) ∧ nsm (cutN p n K) n = K ∧ (rds p n K (ct0 p n K, K - nsm (ct0 p n K) n)).2 = 0 := by
  have hI := (ct0_I h0 hK).2
  have h1 := rds_I hI K
  have h2 := rds_l hI hK K
  have h3 : (rds p n K (ct0 p n K, K - nsm (ct0 p n K) n)).2 = 0 := by
    have h4 : (rds p n K (ct0 p n K, K - nsm (ct0 p n K) n)).2 ≤ (K - nsm (ct0 p n K) n) - K := h2
    omega
  refine ⟨h1.1, ?_, h3⟩
  have h5 := h1.2
  rw [h3] at h5
  exact h5
/-- at the end of the model's rounds -/
theorem rd_end {p : Nat → Nat} {n K r k : Nat} (h0 : 0 < nsm p n) (hK : K ≤ nsm p n) (hk : k ≤ n) (h : (rd p k (rds p n r (ct0 p n K, K - nsm (ct0 p n K) n))).2 = 0) : (rd p k (rds p n r (ct0 p n K, K - nsm (ct0 p n K) n))).1 = cutN p n K := by
  have h3 := (cutN_I h0 hK).2.2
  unfold cutN
  rcases Nat.lt_or_ge r K with hr | hr
  · have e1 : rds p n (r + 1) (ct0 p n K, K - nsm (ct0 p n K) n) = rd p k (rds p n r (ct0 p n K, K - nsm (ct0 p n K) n)) := rd_0 h hk
    have e2 := rds_0 (p := p) (n := n) (s := (ct0 p n K, K - nsm (ct0 p n K) n)) (r := r + 1) (by rw [e1]; exact h) (k := K) (by omega)
    rw [e2, e1]
  · have e1 := rds_0 h3 (k := r) hr
    rw [e1, rd_0 (i := 0) h3 (Nat.zero_le _)]
    rfl
theorem rds_pos {p : Nat → Nat} {n K r k : Nat} (h0 : 0 < nsm p n) (hK : K ≤ nsm p n) (h : ¬ (rd p k (rds p n r (ct0 p n K, K - nsm (ct0 p n K) n))).2 = 0) : r < K := by
  rcases Nat.lt_or_ge r K with hr | hr
  · exact hr
  · have h3 := (cutN_I h0 hK).2.2
    have e1 := rds_0 h3 (k := r) hr
    have h4 := rd_le (p := p) (s := rds p n r (ct0 p n K, K - nsm (ct0 p n K) n)) k
    rw [e1, h3] at h4
    rw [e1] at h
    omega
/-! the class's cutting is that -/
theorem sm_nat {g : Nat → Int32} {p : Nat → Nat} : ∀ {n : Nat}, (∀ j, j < n → g j = nI (p j)) → sm g n = nI (nsm p n)
  | 0, _ => rfl
  | n + 1, h => by
    show sm g n + g n = nI (nsm p n + p n)
    rw [sm_nat (fun j hj => h j (by omega)), h n (by omega), nI_add]
theorem soS_nat {g h : Nat → Int32} {p : Nat → Nat} {n K : Nat} (hg : ∀ j, j < n → g j = nI (p j)) (hp : ∀ j, j < n → p j ≤ 200) (h0 : 0 < nsm p n) (hP : nsm p n ≤ 2000) (hK : K ≤ 9) : ∀ {i : Nat}, i ≤ n → ∀ j, j < i → soS g h (nI K) (nI (nsm p n)) i j = nI (ct0 p n K j)
  | 0, _, j, hj => absurd hj (Nat.not_lt_zero _)
  | i + 1, hi, j, hj => by
    show upd (soS g h (nI K) (nI (nsm p n)) i) i (g i * nI K / nI (nsm p n)) j = _
    by_cases e : j = i
    · subst e
      have hb : p j * K ≤ 200 * 9 := Nat.mul_le_mul (hp j (by omega)) hK
      rw [pk_us, hg j (by omega), pk_mul, pk_div (by omega) h0 (by omega)]
      rfl
    · rw [pk_un e]
      exact soS_nat hg hp h0 hP hK (i := i) (by omega) j (by omega)
theorem soL_nat {g : Nat → Int32} {p : Nat → Nat} {n K : Nat} (hg : ∀ j, j < n → g j = nI (p j)) (hp : ∀ j, j < n → p j ≤ 200) (h0 : 0 < nsm p n) (hP : nsm p n ≤ 2000) (hK9 : K ≤ 9) (hK : K ≤ nsm p n) : ∀ {i : Nat}, i ≤ n → soL g (nI K) (nI (nsm p n)) (nI K) i = nI (K - nsm (ct0 p n K) i)
  | 0, _ => rfl
  | i + 1, hi => by
    show soL g (nI K) (nI (nsm p n)) (nI K) i - g i * nI K / nI (nsm p n) = nI (K - (nsm (ct0 p n K) i + ct0 p n K i))
    have hb : p i * K ≤ 200 * 9 := Nat.mul_le_mul (hp i (by omega)) hK9
    have h1 := (ct0_I h0 hK).1
    have h2 := nsm_mono (a := ct0 p n K) (i := i + 1) (n := n) hi
    have h3 : nsm (ct0 p n K) (i + 1) = nsm (ct0 p n K) i + ct0 p n K i := rfl
    rw [soL_nat hg hp h0 hP hK9 hK (i := i) (by omega), hg i (by omega), pk_mul, pk_div (by omega) h0 (by omega)]
    show nI (K - nsm (ct0 p n K) i) - nI (ct0 p n K i) = _
    rw [pk_sub (by omega), Nat.sub_sub]
theorem srF_nat {g h : Nat → Int32} {p : Nat → Nat} {n : Nat} {s : (Nat → Nat) × Nat} (hg : ∀ j, j < n → g j = nI (p j)) (hp : ∀ j, j < n → p j ≤ 200) (ha : ∀ j, j < n → h j = nI (s.1 j)) (hI : ∀ i, i ≤ n → ∀ j, j < n → (rd p i s).1 j ≤ p j) (hl : s.2 ≤ 9) : ∀ {i : Nat}, i ≤ n → (∀ j, j < n → (srF g h (nI s.2) i).1 j = nI ((rd p i s).1 j)) ∧ (srF g h (nI s.2) i).2 = nI (s.2 - (rd p i s).2)
  | 0, _ => ⟨ha, by show (0 : Int32) = nI (s.2 - s.2); rw [Nat.sub_self]; rfl⟩
  | i + 1, hi => by
    obtain ⟨h1, h2⟩ := srF_nat hg hp ha hI hl (i := i) (by omega)
    have hle := rd_le (p := p) (s := s) i
    have hp1 := hp i (by omega)
    have hI1 := hI i (by omega) i (by omega)
    have eR : rd p (i + 1) s = if (rd p i s).2 = 0 then rd p i s else if (rd p i s).1 i < p i then (va_up (rd p i s).1 i ((rd p i s).1 i + 1), (rd p i s).2 - 1) else rd p i s := rfl
    have eS : srF g h (nI s.2) (i + 1) = if (srF g h (nI s.2) i).2 < nI s.2 then (if (srF g h (nI s.2) i).1 i < g i then (upd (srF g h (nI s.2) i).1 i ((srF g h (nI s.2) i).1 i + 1), (srF g h (nI s.2) i).2 + 1) else srF g h (nI s.2) i) else srF g h (nI s.2) i := rfl
    rw [eR, eS]
    by_cases h0 : (rd p i s).2 = 0
    · rw [if_pos h0, if_neg (by rw [h2, h0]; exact nI_nlt (by omega) (by omega))]
      exact ⟨h1, h2⟩
    · rw [if_neg h0, if_pos (by rw [h2]; exact nI_lt (by omega) (by omega))]
      by_cases h3 : (rd p i s).1 i < p i
      · rw [if_pos h3, if_pos (by rw [h1 i (by omega), hg i (by omega)]; exact nI_lt h3 (by omega))]
        refine ⟨fun j hj => ?_, ?_⟩
        · show upd (srF g h (nI s.2) i).1 i ((srF g h (nI s.2) i).1 i + 1) j = nI (va_up (rd p i s).1 i ((rd p i s).1 i + 1) j)
          by_cases e : j = i
          · subst e
            rw [pk_us, va_up_eq, h1 j hj, nI_1]
          · rw [pk_un e, va_up_ne _ _ e]
            exact h1 j hj
        · show (srF g h (nI s.2) i).2 + 1 = nI (s.2 - ((rd p i s).2 - 1))
          rw [h2, nI_1]
          congr 1
          omega
      · rw [if_neg h3, if_neg (by rw [h1 i (by omega), hg i (by omega)]; exact nI_nlt (by omega) (by omega))]
        exact ⟨h1, h2⟩
theorem soR_nat {g h : Nat → Int32} {p : Nat → Nat} {n K : Nat} {s : (Nat → Nat) × Nat} (hg : ∀ j, j < n → g j = nI (p j)) (hp : ∀ j, j < n → p j ≤ 200) (ha : ∀ j, j < n → h j = nI (s.1 j)) (hI : rdI p n K s) (hl : s.2 ≤ 9) : ∀ {r : Nat}, (∀ j, j < n → (soR g n r (h, nI s.2)).1 j = nI ((rds p n r s).1 j)) ∧ (soR g n r (h, nI s.2)).2 = nI (rds p n r s).2 ∧ (rds p n r s).2 ≤ 9
  | 0 => ⟨ha, rfl, hl⟩
  | r + 1 => by
    obtain ⟨h1, h2, h3⟩ := soR_nat hg hp ha hI hl (r := r)
    have hIr := rds_I hI r
    have eR : rds p n (r + 1) s = rd p n (rds p n r s) := rfl
    have eS : soR g n (r + 1) (h, nI s.2) = if 0 < (soR g n r (h, nI s.2)).2 then ((srF g (soR g n r (h, nI s.2)).1 (soR g n r (h, nI s.2)).2 n).1, (soR g n r (h, nI s.2)).2 - (srF g (soR g n r (h, nI s.2)).1 (soR g n r (h, nI s.2)).2 n).2) else soR g n r (h, nI s.2) := rfl
    rw [eR, eS]
    by_cases h0 : (rds p n r s).2 = 0
    · rw [if_neg (by rw [h2, h0]; decide), rd_0 (i := 0) (show (rd p 0 (rds p n r s)).2 = 0 from h0) (Nat.zero_le _)]
      exact ⟨h1, h2, h3⟩
    · rw [if_pos (by rw [h2]; exact nI_lt (a := 0) (by omega) (by omega)), h2]
      obtain ⟨k1, k2⟩ := srF_nat hg hp h1 (fun i hi j hj => (rd_I hIr hi).1 j hj) h3 (Nat.le_refl n)
      have hle := rd_le (p := p) (s := rds p n r s) n
      refine ⟨k1, ?_, by omega⟩
      show nI (rds p n r s).2 - (srF g (soR g n r (h, nI s.2)).1 (nI (rds p n r s).2) n).2 = _
      rw [k2, pk_sub (by omega)]
      congr 1
      omega
theorem soAll_nat {g h : Nat → Int32} {p : Nat → Nat} {n K : Nat} (hg : ∀ j, j < n → g j = nI (p j)) (hp : ∀ j, j < n → p j ≤ 200) (h0 : 0 < nsm p n) (hP : nsm p n ≤ 2000) (hK9 : K ≤ 9) (hK : K ≤ nsm p n) : ∀ j, j < n → soAll g h n K j = nI (cutN p n K j) := by
  intro j hj
  have e := sm_nat hg
  unfold soAll
  rw [e, if_neg (fun q => absurd (nI_z q (by omega)) (by omega)), show mn (nI K) (nI (nsm p n)) = nI K from by rw [mn_nI, show min K (nsm p n) = K by omega], soL_nat hg hp h0 hP hK9 hK (Nat.le_refl n)]
  exact (soR_nat (s := (ct0 p n K, K - nsm (ct0 p n K) n)) hg hp (fun j hj => soS_nat hg hp h0 hP hK9 (Nat.le_refl n) j hj) (ct0_I h0 hK).2 (by show K - _ ≤ 9; omega)).1 j hj
theorem nsm_b {p : Nat → Nat} : ∀ {n : Nat}, (∀ j, j < n → p j ≤ 200) → nsm p n ≤ n * 200
  | 0, _ => Nat.le_refl _
  | n + 1, h => by
    have := nsm_b (n := n) (fun j hj => h j (by omega))
    have := h n (by omega)
    show nsm p n + p n ≤ (n + 1) * 200
    omega
/-- what is cut, filled in layer by layer -/
def msF (bz : Nat → BV) (f sh o0 : Nat → Int32) : Nat → Nat → Int32
  | 0 => o0
  | i + 1 => mxStone (msF bz f sh o0 i) (bkOx (bz (f i).toNatClampNeg)) (sh i)
theorem msF_mc {bz : Nat → BV} {f sh sh' m0 : Nat → Int32} : ∀ {n : Nat}, (∀ j, j < n → sh j = sh' j) → msF bz f sh (mxClear m0) n = mcF bz f sh' m0 n
  | 0, _ => rfl
  | n + 1, h => by
    show mxStone (msF bz f sh (mxClear m0) n) _ (sh n) = mxStone (mcF bz f sh' m0 n) _ (sh' n)
    rw [msF_mc (fun j hj => h j (by omega)), h n (by omega)]
theorem bkOx_k {z : BV} {b : Nat → Int32} (h : bmR b z) (hk : ¬ z.2.1 = 0) : b 2 = bkOx z 0 ∧ b 3 = bkOx z 1 ∧ b 4 = bkOx z 2 ∧ b 5 = bkOx z 3 := by
  obtain ⟨-, -, h2, h3, h4, h5⟩ := h
  exact ⟨h2.trans (if_neg hk).symm, h3.trans (if_neg hk).symm, h4.trans (if_neg hk).symm, h5.trans (if_neg hk).symm⟩
set_option maxHeartbeats 4000000 in
set_option maxRecDepth 100000 in
/-- ClinkerWorksModel.cutOf -/
theorem c_X11_cutOf (l : Launch) (G : VG) (M : Nat → Nat) (th du mny cl ws : Int32) (nb ny fd aw al y : Nat) (yR : Nat → Nat) (ym : Nat → Nat → Int32) (g : Nat → Int32) (p : Nat → Nat) (c : Nat) (hny : ny ≤ 8) (hg : ∀ k, k < ny → ym k 1 = g k) (hgp : ∀ j, j < ny → g j = nI (p j)) (hp : ∀ j, j < ny → p j ≤ 200) (hc1 : 1 ≤ c) (hc9 : c ≤ 9) (hcP : c ≤ nsm p ny) : Mr l G yX11_cutOf cX11_cutOf 6 (.array .int) 1 22 1 8 [.ref (M 0), .int (nI c)] [[(M 0, .inr (12, [.int th, .ref (M 1), .ref (M 2), .ref aw, .ref al, .ref (M 3), .ref (M 4), .ref (M 5), .ref (M 6), .ref y, .int (nI nb), .int (nI ny), .int du, .int mny, .int cl, .int (nI fd), .int ws]))], [(M 2, .inl (G.2.1 9, 8, .inr (.inr (.inr (.inr (rfN 8 yR))))))], famW 8 (fun ι => iaP G (yR ι) 2 (ym ι))] (fun r u => ∃ (q : Nat) (F : Nat → Int32), q = r ∧ (∀ j, j < ny → F j = nI (cutN p ny c j)) ∧ u = [[(M 0, .inr (12, [.int th, .ref (M 1), .ref (M 2), .ref aw, .ref al, .ref (M 3), .ref (M 4), .ref (M 5), .ref (M 6), .ref y, .int (nI nb), .int (nI ny), .int du, .int mny, .int cl, .int (nI fd), .int ws]))], [(M 2, .inl (G.2.1 9, 8, .inr (.inr (.inr (.inr (rfN 8 yR))))))], famW 8 (fun ι => iaP G (yR ι) 2 (ym ι)), [(q, .inl (G.2.1 0, 8, .inl F))]]) := by
  refine Mr_of (by decide) (Nat.le_of_ble_eq_true rfl) (fun pP eE sS mM aA bB tT cC AA QQ hC hr hnm hQ => ?_)
  have h0 : 0 < nsm p ny := by omega
  have hP : nsm p ny ≤ 2000 := by have := nsm_b hp; omega
  have hsm := sm_nat hgp
  have hs0 : ¬ sm g ny = 0 := by rw [hsm]; exact fun q => absurd (nI_z q (by omega)) (by omega)
  have hny0 : 0 < ny := by rcases Nat.eq_zero_or_pos ny with e | e; (rw [e] at h0; exact absurd h0 (Nat.lt_irrefl 0)); exact e
  have hsL : soL g (nI c) (sm g ny) (nI c) ny = nI (c - nsm (ct0 p ny c) ny) := by rw [hsm]; exact soL_nat hgp hp h0 hP hc9 hcP (Nat.le_refl _)
  refine V_bipush hC dX11_cutOf_0 (v := 8) (by decide) ?_
  refine V_newa_i hC q103 (N := 8) (by decide) (by decide) (by decide) (by decide) (by decide) dX11_cutOf_2 (fun q1 => ?_)
  refine V_astore_n hC dX11_cutOf_4 (L' := [(2, .ref q1), (0, .ref (M 0)), (1, .int (nI c))]) (by decide) rfl ?_
  refine V_aload_n hC dX11_cutOf_5 1 rfl ?_
  refine V_calli hC (V_runV hC (rest := []) [] (c_X11_pile l G M th du mny cl ws nb ny fd aw al y yR ym g hny hg) [0, 1, 2] rfl (by decide) q1165 q1167 q22 q52 q1168 ⟨by decide, by decide, rfl⟩ ⟨by decide, by decide⟩ (ci := 12) rfl (mem_at 0 0 rfl rfl) rfl (Nat.le_of_ble_eq_true rfl) ⟨by decide, by decide⟩ dX11_cutOf_6) (is := [0, 1, 2]) rfl [3] (rs := [[(q1, .inl (G.2.1 0, 8, .inl (fun _ => 0)))]]) rfl (by decide) (by decide) ?_
  rintro _ _ ⟨rfl, rfl⟩
  refine V_istore_n hC dX11_cutOf_9 (L' := [(3, .int (sm g ny)), (2, .ref q1), (0, .ref (M 0)), (1, .int (nI c))]) (by decide) rfl ?_
  refine V_iload_n hC dX11_cutOf_10 3 rfl ?_
  refine V_istore hC dX11_cutOf_11 (L' := [(4, .int (nI c)), (3, .int (sm g ny)), (2, .ref q1), (0, .ref (M 0)), (1, .int (nI c))]) (by decide) rfl ?_
  refine V_iconst hC dX11_cutOf_13 (v := 0) (by decide) ?_
  refine V_istore hC dX11_cutOf_14 (L' := [(5, .int 0), (4, .int (nI c)), (3, .int (sm g ny)), (2, .ref q1), (0, .ref (M 0)), (1, .int (nI c))]) (by decide) rfl ?_
  have loop2 : ∀ (fuel : Nat) (i : Nat) (hi : i ≤ ny) (_ : ny - i < fuel), V pP l eE { frames := 1, cells := 1, slots := 8, locals := 22 } sS mM aA bB tT cC QQ G AA 6 [[(M 0, .inr (12, [.int th, .ref (M 1), .ref (M 2), .ref aw, .ref al, .ref (M 3), .ref (M 4), .ref (M 5), .ref (M 6), .ref y, .int (nI nb), .int (nI ny), .int du, .int mny, .int cl, .int (nI fd), .int ws]))], [(M 2, .inl (G.2.1 9, 8, .inr (.inr (.inr (.inr (rfN 8 yR))))))], famW 8 (fun ι => iaP G (yR ι) 2 (ym ι)), [(q1, .inl (G.2.1 0, 8, .inl (soS g (fun _ => 0) (nI c) (sm g ny) i)))]] 1 8 16 [(0, .ref (M 0)), (1, .int (nI c)), (2, .ref q1), (3, .int (sm g ny)), (4, .int (soL g (nI c) (sm g ny) (nI c) i)), (5, .int (nI i))] [] := by
    intro fuel
    induction fuel with
    | zero => intro i hi hm; exact absurd hm (Nat.not_lt_zero _)
    | succ fuel ih =>
      intro i hi hm
      refine V_iload hC dX11_cutOf_16 5 rfl ?_
      refine V_aload_n hC dX11_cutOf_18 0 rfl ?_
      refine V_get hC dX11_cutOf_19 inAX11 (mem_at 0 0 rfl rfl) rfl 11 (by decide) q1089 rfl (v := .int (nI ny)) rfl ?_
      refine V_icmp_ge hC dX11_cutOf_22 (tgt := 57) (by decide) (fun h3 => ?_) (fun h3 => ?_)
      · have he : i = ny := by have := nle h3; omega
        rw [he]
        rw [hsL]
        refine V_iconst hC dX11_cutOf_57 (v := 0) (by decide) ?_
        refine V_istore hC dX11_cutOf_58 (L' := [(5, .int 0), (0, .ref (M 0)), (1, .int (nI c)), (2, .ref q1), (3, .int (sm g ny)), (4, .int (nI (c - nsm (ct0 p ny c) ny)))]) (by decide) rfl ?_
        have loop4 : ∀ (fuel : Nat) (r k : Nat) (F : Nat → Int32) (hF : ∀ j, j < ny → F j = nI ((rd p k (rds p ny r (ct0 p ny c, c - nsm (ct0 p ny c) ny))).1 j)) (hk : k < ny) (hrc : r ≤ c) (_ : (c - r) * (ny + 1) + (ny - k) < fuel), V pP l eE { frames := 1, cells := 1, slots := 8, locals := 22 } sS mM aA bB tT cC QQ G AA 6 [[(M 0, .inr (12, [.int th, .ref (M 1), .ref (M 2), .ref aw, .ref al, .ref (M 3), .ref (M 4), .ref (M 5), .ref (M 6), .ref y, .int (nI nb), .int (nI ny), .int du, .int mny, .int cl, .int (nI fd), .int ws]))], [(M 2, .inl (G.2.1 9, 8, .inr (.inr (.inr (.inr (rfN 8 yR))))))], famW 8 (fun ι => iaP G (yR ι) 2 (ym ι)), [(q1, .inl (G.2.1 0, 8, .inl F))]] 1 8 60 [(0, .ref (M 0)), (1, .int (nI c)), (2, .ref q1), (3, .int (sm g ny)), (4, .int (nI (rd p k (rds p ny r (ct0 p ny c, c - nsm (ct0 p ny c) ny))).2)), (5, .int (nI k))] [] := by
          intro fuel
          induction fuel with
          | zero => intro r k F hF hk hrc hm; exact absurd hm (Nat.not_lt_zero _)
          | succ fuel ih =>
            intro r k F hF hk hrc hm
            refine V_iload hC dX11_cutOf_60 4 rfl ?_
            refine V_if_le hC dX11_cutOf_62 (tgt := 109) (by decide) (fun h5 => ?_) (fun h5 => ?_)
            · have hle := rd_le (p := p) (s := rds p ny r (ct0 p ny c, c - nsm (ct0 p ny c) ny)) k
              have hI9 := (rd_I (rds_I (ct0_I h0 hcP).2 r) (Nat.le_of_lt hk)).2
              have hl9 : (rd p k (rds p ny r (ct0 p ny c, c - nsm (ct0 p ny c) ny))).2 = 0 := by have := nle (b := 0) h5 (by omega); omega
              refine V_aload_n hC dX11_cutOf_109 2 rfl ?_
              exact V_aret hC hQ hr (Or.inr ⟨_, rfl⟩) [0, 1, 2, 3] (u := [[(M 0, .inr (12, [.int th, .ref (M 1), .ref (M 2), .ref aw, .ref al, .ref (M 3), .ref (M 4), .ref (M 5), .ref (M 6), .ref y, .int (nI nb), .int (nI ny), .int du, .int mny, .int cl, .int (nI fd), .int ws]))], [(M 2, .inl (G.2.1 9, 8, .inr (.inr (.inr (.inr (rfN 8 yR))))))], famW 8 (fun ι => iaP G (yR ι) 2 (ym ι)), [(q1, .inl (G.2.1 0, 8, .inl F))]]) (by decide) rfl (by decide) (by decide) dX11_cutOf_110 (⟨_, F, rfl, fun j hj => by rw [hF j hj, rd_end h0 hcP (Nat.le_of_lt hk) hl9], rfl⟩)
            · have hI9 := rd_I (rds_I (ct0_I h0 hcP).2 r) (Nat.le_of_lt hk)
              have hl0 : ¬ (rd p k (rds p ny r (ct0 p ny c, c - nsm (ct0 p ny c) ny))).2 = 0 := by have := nnle (b := 0) h5 (by have := hI9.2; omega); omega
              have hak := hI9.1 k hk
              have hpk := hp k hk
              refine V_aload_n hC dX11_cutOf_65 2 rfl ?_
              refine V_iload hC dX11_cutOf_66 5 rfl ?_
              refine V_iald hC dX11_cutOf_68 (mem_at 3 0 rfl rfl) (vp_in_nI (by omega) (by omega)) (x := k) (nI_clamp (by omega)) ?_
              refine V_eqi (y := nI ((rd p k (rds p ny r (ct0 p ny c, c - nsm (ct0 p ny c) ny))).1 k)) (hF k hk) ?_
              refine V_aload_n hC dX11_cutOf_69 0 rfl ?_
              refine V_get hC dX11_cutOf_70 inAX11 (mem_at 0 0 rfl rfl) rfl 2 (by decide) q1080 rfl (v := .ref (M 2)) rfl ?_
              refine V_iload hC dX11_cutOf_73 5 rfl ?_
              refine V_aaldI hC dX11_cutOf_75 (mem_at 1 0 rfl rfl) (vp_in_nI (by omega) (by omega)) (x := k) (nI_clamp (by omega)) (b := yR k) (rfN_at ((by omega))) ?_
              refine V_iconst hC dX11_cutOf_76 (v := 1) (by decide) ?_
              refine V_iald hC dX11_cutOf_77 (mem_fam 2 0 rfl k ((by omega)) rfl) (vin (by decide)) (x := 1) (by decide) ?_
              refine V_eqi (y := nI (p k)) ((hg k hk).trans (hgp k hk)) ?_
              refine V_icmp_ne hC dX11_cutOf_78 (tgt := 84) (by decide) (fun h6 => ?_) (fun h6 => ?_)
              · have hne : ¬ (rd p k (rds p ny r (ct0 p ny c, c - nsm (ct0 p ny c) ny))).1 k = p k := fun e => h6 (by rw [e])
                refine V_aload_n hC dX11_cutOf_84 2 rfl ?_
                refine V_iload hC dX11_cutOf_85 5 rfl ?_
                refine V_dup2 hC dX11_cutOf_87 rfl rfl ?_
                refine V_iald hC dX11_cutOf_88 (mem_at 3 0 rfl rfl) (vp_in_nI (by omega) (by omega)) (x := k) (nI_clamp (by omega)) ?_
                refine V_eqi (y := nI ((rd p k (rds p ny r (ct0 p ny c, c - nsm (ct0 p ny c) ny))).1 k)) (hF k hk) ?_
                refine V_iconst hC dX11_cutOf_89 (v := 1) (by decide) ?_
                refine V_iadd hC dX11_cutOf_90 ?_
                refine V_eqi (y := nI ((rd p k (rds p ny r (ct0 p ny c, c - nsm (ct0 p ny c) ny))).1 k + 1)) (nI_1 _) ?_
                refine V_iast hC dX11_cutOf_91 3 0 rfl rfl (vp_in_nI (by omega) (by omega)) (z := k) (nI_clamp (by omega)) (ps' := [[(M 0, .inr (12, [.int th, .ref (M 1), .ref (M 2), .ref aw, .ref al, .ref (M 3), .ref (M 4), .ref (M 5), .ref (M 6), .ref y, .int (nI nb), .int (nI ny), .int du, .int mny, .int cl, .int (nI fd), .int ws]))], [(M 2, .inl (G.2.1 9, 8, .inr (.inr (.inr (.inr (rfN 8 yR))))))], famW 8 (fun ι => iaP G (yR ι) 2 (ym ι)), [(q1, .inl (G.2.1 0, 8, .inl (upd F k (nI ((rd p k (rds p ny r (ct0 p ny c, c - nsm (ct0 p ny c) ny))).1 k + 1)))))]]) rfl ?_
                refine V_iinc hC dX11_cutOf_92 (v := nI ((rd p k (rds p ny r (ct0 p ny c, c - nsm (ct0 p ny c) ny))).2 - 1)) (L' := [(4, .int (nI ((rd p k (rds p ny r (ct0 p ny c, c - nsm (ct0 p ny c) ny))).2 - 1))), (0, .ref (M 0)), (1, .int (nI c)), (2, .ref q1), (3, .int (sm g ny)), (5, .int (nI k))]) (j := 4) rfl (by rw [show Int32.ofInt (-1) = (-1 : Int32) by decide, ← Int32.sub_eq_add_neg]; exact nI_subE (b := 1) (by omega) rfl) (by decide) rfl ?_
                refine V_iload hC dX11_cutOf_95 5 rfl ?_
                refine V_iconst hC dX11_cutOf_97 (v := 1) (by decide) ?_
                refine V_iadd hC dX11_cutOf_98 ?_
                refine V_eqi (y := nI (k + 1)) (nI_1 k) ?_
                refine V_aload_n hC dX11_cutOf_99 1 rfl ?_
                refine V_get hC dX11_cutOf_100 inAX11 (mem_at 0 0 rfl rfl) rfl 11 (by decide) q1089 rfl (v := .int (nI ny)) rfl ?_
                refine V_irem hC dX11_cutOf_103 ((fun q => absurd (nI_z q (by omega)) (by omega))) ?_
                refine V_eqi (y := nI ((k + 1) % ny)) (pk_rem (by omega) hny0 (by omega)) ?_
                refine V_istore hC dX11_cutOf_104 (L' := [(5, .int (nI ((k + 1) % ny))), (4, .int (nI ((rd p k (rds p ny r (ct0 p ny c, c - nsm (ct0 p ny c) ny))).2 - 1))), (0, .ref (M 0)), (1, .int (nI c)), (2, .ref q1), (3, .int (sm g ny))]) (by decide) rfl ?_
                refine V_goto hC dX11_cutOf_106 (tgt := 60) (by decide) ?_
                refine V_loc (L' := [(0, .ref (M 0)), (1, .int (nI c)), (2, .ref q1), (3, .int (sm g ny)), (4, .int (nI ((rd p k (rds p ny r (ct0 p ny c, c - nsm (ct0 p ny c) ny))).2 - 1))), (5, .int (nI ((k + 1) % ny)))]) [2, 3, 4, 5, 1, 0] rfl ?_
                have hr1 := rds_pos h0 hcP hl0
                have es : rd p (k + 1) (rds p ny r (ct0 p ny c, c - nsm (ct0 p ny c) ny)) = (va_up (rd p k (rds p ny r (ct0 p ny c, c - nsm (ct0 p ny c) ny))).1 k ((rd p k (rds p ny r (ct0 p ny c, c - nsm (ct0 p ny c) ny))).1 k + 1), (rd p k (rds p ny r (ct0 p ny c, c - nsm (ct0 p ny c) ny))).2 - 1) := (if_neg hl0).trans (if_pos (by omega))
                rcases Nat.lt_or_ge (k + 1) ny with hkn | hkn
                · rw [Nat.mod_eq_of_lt hkn]
                  have hh := ih r (k + 1) (upd F k (nI ((rd p k (rds p ny r (ct0 p ny c, c - nsm (ct0 p ny c) ny))).1 k + 1))) (fun j hj => by rw [es]; show upd F k _ j = nI (va_up _ k _ j); by_cases e : j = k; (rw [e, pk_us, va_up_eq]); (rw [pk_un e, va_up_ne _ _ e]; exact hF j hj)) hkn hrc (by omega)
                  rw [es] at hh
                  exact hh
                · have ek : k + 1 = ny := by omega
                  rw [ek, Nat.mod_self]
                  have er : rd p 0 (rds p ny (r + 1) (ct0 p ny c, c - nsm (ct0 p ny c) ny)) = rd p (k + 1) (rds p ny r (ct0 p ny c, c - nsm (ct0 p ny c) ny)) := by rw [ek]; rfl
                  have em : (c - r) * (ny + 1) = (c - (r + 1)) * (ny + 1) + (ny + 1) := by rw [show c - r = (c - (r + 1)) + 1 by omega, Nat.succ_mul]
                  have hh := ih (r + 1) 0 (upd F k (nI ((rd p k (rds p ny r (ct0 p ny c, c - nsm (ct0 p ny c) ny))).1 k + 1))) (by rw [er]; exact (fun j hj => by rw [es]; show upd F k _ j = nI (va_up _ k _ j); by_cases e : j = k; (rw [e, pk_us, va_up_eq]); (rw [pk_un e, va_up_ne _ _ e]; exact hF j hj))) (by omega) (by omega) (by omega)
                  rw [er, es] at hh
                  exact hh
              · have heq : (rd p k (rds p ny r (ct0 p ny c, c - nsm (ct0 p ny c) ny))).1 k = p k := nI_inj h6
                refine V_goto hC dX11_cutOf_81 (tgt := 95) (by decide) ?_
                refine V_iload hC dX11_cutOf_95 5 rfl ?_
                refine V_iconst hC dX11_cutOf_97 (v := 1) (by decide) ?_
                refine V_iadd hC dX11_cutOf_98 ?_
                refine V_eqi (y := nI (k + 1)) (nI_1 k) ?_
                refine V_aload_n hC dX11_cutOf_99 0 rfl ?_
                refine V_get hC dX11_cutOf_100 inAX11 (mem_at 0 0 rfl rfl) rfl 11 (by decide) q1089 rfl (v := .int (nI ny)) rfl ?_
                refine V_irem hC dX11_cutOf_103 ((fun q => absurd (nI_z q (by omega)) (by omega))) ?_
                refine V_eqi (y := nI ((k + 1) % ny)) (pk_rem (by omega) hny0 (by omega)) ?_
                refine V_istore hC dX11_cutOf_104 (L' := [(5, .int (nI ((k + 1) % ny))), (0, .ref (M 0)), (1, .int (nI c)), (2, .ref q1), (3, .int (sm g ny)), (4, .int (nI (rd p k (rds p ny r (ct0 p ny c, c - nsm (ct0 p ny c) ny))).2))]) (by decide) rfl ?_
                refine V_goto hC dX11_cutOf_106 (tgt := 60) (by decide) ?_
                refine V_loc (L' := [(0, .ref (M 0)), (1, .int (nI c)), (2, .ref q1), (3, .int (sm g ny)), (4, .int (nI (rd p k (rds p ny r (ct0 p ny c, c - nsm (ct0 p ny c) ny))).2)), (5, .int (nI ((k + 1) % ny)))]) [1, 2, 3, 4, 5, 0] rfl ?_
                have hr1 := rds_pos h0 hcP hl0
                have es : rd p (k + 1) (rds p ny r (ct0 p ny c, c - nsm (ct0 p ny c) ny)) = (rd p k (rds p ny r (ct0 p ny c, c - nsm (ct0 p ny c) ny))) := (if_neg hl0).trans (if_neg (by omega))
                rcases Nat.lt_or_ge (k + 1) ny with hkn | hkn
                · rw [Nat.mod_eq_of_lt hkn]
                  have hh := ih r (k + 1) F (fun j hj => by rw [es]; exact hF j hj) hkn hrc (by omega)
                  rw [es] at hh
                  exact hh
                · have ek : k + 1 = ny := by omega
                  rw [ek, Nat.mod_self]
                  have er : rd p 0 (rds p ny (r + 1) (ct0 p ny c, c - nsm (ct0 p ny c) ny)) = rd p (k + 1) (rds p ny r (ct0 p ny c, c - nsm (ct0 p ny c) ny)) := by rw [ek]; rfl
                  have em : (c - r) * (ny + 1) = (c - (r + 1)) * (ny + 1) + (ny + 1) := by rw [show c - r = (c - (r + 1)) + 1 by omega, Nat.succ_mul]
                  have hh := ih (r + 1) 0 F (by rw [er]; exact (fun j hj => by rw [es]; exact hF j hj)) (by omega) (by omega) (by omega)
                  rw [er, es] at hh
                  exact hh
        refine V_loc (L' := [(0, .ref (M 0)), (1, .int (nI c)), (2, .ref q1), (3, .int (sm g ny)), (4, .int (nI (c - nsm (ct0 p ny c) ny))), (5, .int 0)]) [1, 2, 3, 4, 5, 0] rfl ?_
        exact loop4 ((c - 0) * (ny + 1) + (ny - 0) + 1) 0 0 _ (fun j hj => by rw [hsm]; exact soS_nat hgp hp h0 hP hc9 (Nat.le_refl _) j hj) hny0 (Nat.zero_le _) (by omega)
      · have hlt := nnle h3
        refine V_aload_n hC dX11_cutOf_25 2 rfl ?_
        refine V_iload hC dX11_cutOf_26 5 rfl ?_
        refine V_aload_n hC dX11_cutOf_28 0 rfl ?_
        refine V_get hC dX11_cutOf_29 inAX11 (mem_at 0 0 rfl rfl) rfl 2 (by decide) q1080 rfl (v := .ref (M 2)) rfl ?_
        refine V_iload hC dX11_cutOf_32 5 rfl ?_
        refine V_aaldI hC dX11_cutOf_34 (mem_at 1 0 rfl rfl) (vp_in_nI (by omega) (by omega)) (x := i) (nI_clamp (by omega)) (b := yR i) (rfN_at ((by omega))) ?_
        refine V_iconst hC dX11_cutOf_35 (v := 1) (by decide) ?_
        refine V_iald hC dX11_cutOf_36 (mem_fam 2 0 rfl i ((by omega)) rfl) (vin (by decide)) (x := 1) (by decide) ?_
        refine V_eqi (y := g i) (hg i hlt) ?_
        refine V_iload_n hC dX11_cutOf_37 1 rfl ?_
        refine V_imul hC dX11_cutOf_38 ?_
        refine V_iload_n hC dX11_cutOf_39 3 rfl ?_
        refine V_idiv hC dX11_cutOf_40 (hs0) ?_
        refine V_iast hC dX11_cutOf_41 3 0 rfl rfl (vp_in_nI (by omega) (by omega)) (z := i) (nI_clamp (by omega)) (ps' := [[(M 0, .inr (12, [.int th, .ref (M 1), .ref (M 2), .ref aw, .ref al, .ref (M 3), .ref (M 4), .ref (M 5), .ref (M 6), .ref y, .int (nI nb), .int (nI ny), .int du, .int mny, .int cl, .int (nI fd), .int ws]))], [(M 2, .inl (G.2.1 9, 8, .inr (.inr (.inr (.inr (rfN 8 yR))))))], famW 8 (fun ι => iaP G (yR ι) 2 (ym ι)), [(q1, .inl (G.2.1 0, 8, .inl (upd (soS g (fun _ => 0) (nI c) (sm g ny) i) i (((g i) * (nI c)) / (sm g ny)))))]]) rfl ?_
        refine V_iload hC dX11_cutOf_42 4 rfl ?_
        refine V_aload_n hC dX11_cutOf_44 2 rfl ?_
        refine V_iload hC dX11_cutOf_45 5 rfl ?_
        refine V_iald hC dX11_cutOf_47 (mem_at 3 0 rfl rfl) (vp_in_nI (by omega) (by omega)) (x := i) (nI_clamp (by omega)) ?_
        refine V_eqi (y := g i * nI c / sm g ny) (pk_us) ?_
        refine V_isub hC dX11_cutOf_48 ?_
        refine V_istore hC dX11_cutOf_49 (L' := [(4, .int ((soL g (nI c) (sm g ny) (nI c) i) - (g i * nI c / sm g ny))), (0, .ref (M 0)), (1, .int (nI c)), (2, .ref q1), (3, .int (sm g ny)), (5, .int (nI i))]) (by decide) rfl ?_
        refine V_iinc hC dX11_cutOf_51 (v := nI (i + 1)) (L' := [(5, .int (nI (i + 1))), (4, .int ((soL g (nI c) (sm g ny) (nI c) i) - (g i * nI c / sm g ny))), (0, .ref (M 0)), (1, .int (nI c)), (2, .ref q1), (3, .int (sm g ny))]) (j := 5) rfl (nI_1 _) (by decide) rfl ?_
        refine V_goto hC dX11_cutOf_54 (tgt := 16) (by decide) ?_
        refine V_loc (L' := [(0, .ref (M 0)), (1, .int (nI c)), (2, .ref q1), (3, .int (sm g ny)), (4, .int ((soL g (nI c) (sm g ny) (nI c) i) - (g i * nI c / sm g ny))), (5, .int (nI (i + 1)))]) [2, 3, 4, 5, 1, 0] rfl ?_
        exact ih (i + 1) (by omega) (by omega)
  refine V_loc (L' := [(0, .ref (M 0)), (1, .int (nI c)), (2, .ref q1), (3, .int (sm g ny)), (4, .int (nI c)), (5, .int 0)]) [4, 5, 3, 2, 1, 0] rfl ?_
  exact loop2 (ny + 1) 0 (Nat.zero_le _) (by omega)
set_option maxHeartbeats 4000000 in
set_option maxRecDepth 100000 in
/-- ClinkerWorksModel.fill -/
theorem c_X11_fill (l : Launch) (G : VG) (M : Nat → Nat) (th du mny cl ws : Int32) (nb ny fd aw al y : Nat) (bR : Nat → Nat) (bm : Nat → Nat → Int32) (yR : Nat → Nat) (ym : Nat → Nat → Int32) (bz : Nat → BV) (f : Nat → Int32) (o k8 : Nat) (o0 F : Nat → Int32) (x w9 z9 : Int32) (hnb : nb ≤ 6) (hny : ny ≤ 8) (hbm : ∀ j, j < nb → bmR (bm j) (bz j)) (hkn : ∀ k, k < ny → ∃ v, v < nb ∧ f k = nI v ∧ ¬ (bz v).2.1 = 0) (hf : ∀ k, k < ny → ym k 0 = f k) : Mv l G yX11_fill cX11_fill 8 0 0 0 0 [.ref (M 0), .ref o, .ref k8, .int x, .int w9, .int z9] [[(M 0, .inr (12, [.int th, .ref (M 1), .ref (M 2), .ref aw, .ref al, .ref (M 3), .ref (M 4), .ref (M 5), .ref (M 6), .ref y, .int (nI nb), .int (nI ny), .int du, .int mny, .int cl, .int (nI fd), .int ws]))], [(M 1, .inl (G.2.1 9, 6, .inr (.inr (.inr (.inr (rfN 6 bR))))))], famW 6 (fun ι => iaP G (bR ι) 6 (bm ι)), [(M 2, .inl (G.2.1 9, 8, .inr (.inr (.inr (.inr (rfN 8 yR))))))], famW 8 (fun ι => iaP G (yR ι) 2 (ym ι)), [(o, .inl (G.2.1 0, 4, .inl o0))], [(k8, .inl (G.2.1 0, 8, .inl F))]] (fun u => u = [[(M 0, .inr (12, [.int th, .ref (M 1), .ref (M 2), .ref aw, .ref al, .ref (M 3), .ref (M 4), .ref (M 5), .ref (M 6), .ref y, .int (nI nb), .int (nI ny), .int du, .int mny, .int cl, .int (nI fd), .int ws]))], [(M 1, .inl (G.2.1 9, 6, .inr (.inr (.inr (.inr (rfN 6 bR))))))], famW 6 (fun ι => iaP G (bR ι) 6 (bm ι)), [(M 2, .inl (G.2.1 9, 8, .inr (.inr (.inr (.inr (rfN 8 yR))))))], famW 8 (fun ι => iaP G (yR ι) 2 (ym ι)), [(o, .inl (G.2.1 0, 4, .inl (mxBins (msF bz f F o0 ny) x w9 z9)))], [(k8, .inl (G.2.1 0, 8, .inl F))]]) := by
  refine Mv_of (by decide) (Nat.le_of_ble_eq_true rfl) (fun pP eE sS mM aA bB tT cC AA QQ hC hr hnm hQ => ?_)
  refine V_iconst hC dX11_fill_0 (v := 0) (by decide) ?_
  refine V_istore hC dX11_fill_1 (L' := [(6, .int 0), (0, .ref (M 0)), (1, .ref o), (2, .ref k8), (3, .int x), (4, .int w9), (5, .int z9)]) (by decide) rfl ?_
  have loop1 : ∀ (fuel : Nat) (i : Nat) (hi : i ≤ ny) (_ : ny - i < fuel), V pP l eE { frames := 0, cells := 0, slots := 0, locals := 0 } sS mM aA bB tT cC QQ G AA 8 [[(M 0, .inr (12, [.int th, .ref (M 1), .ref (M 2), .ref aw, .ref al, .ref (M 3), .ref (M 4), .ref (M 5), .ref (M 6), .ref y, .int (nI nb), .int (nI ny), .int du, .int mny, .int cl, .int (nI fd), .int ws]))], [(M 1, .inl (G.2.1 9, 6, .inr (.inr (.inr (.inr (rfN 6 bR))))))], famW 6 (fun ι => iaP G (bR ι) 6 (bm ι)), [(M 2, .inl (G.2.1 9, 8, .inr (.inr (.inr (.inr (rfN 8 yR))))))], famW 8 (fun ι => iaP G (yR ι) 2 (ym ι)), [(o, .inl (G.2.1 0, 4, .inl (msF bz f F o0 i)))], [(k8, .inl (G.2.1 0, 8, .inl F))]] 0 0 3 [(0, .ref (M 0)), (1, .ref o), (2, .ref k8), (3, .int x), (4, .int w9), (5, .int z9), (6, .int (nI i))] [] := by
    intro fuel
    induction fuel with
    | zero => intro i hi hm; exact absurd hm (Nat.not_lt_zero _)
    | succ fuel ih =>
      intro i hi hm
      refine V_iload hC dX11_fill_3 6 rfl ?_
      refine V_aload_n hC dX11_fill_5 0 rfl ?_
      refine V_get hC dX11_fill_6 inAX11 (mem_at 0 0 rfl rfl) rfl 11 (by decide) q1089 rfl (v := .int (nI ny)) rfl ?_
      refine V_icmp_ge hC dX11_fill_9 (tgt := 64) (by decide) (fun h2 => ?_) (fun h2 => ?_)
      · have he : i = ny := by have := nle h2; omega
        rw [he]
        refine V_aload_n hC dX11_fill_64 1 rfl ?_
        refine V_iconst hC dX11_fill_65 (v := 1) (by decide) ?_
        refine V_dup2 hC dX11_fill_66 rfl rfl ?_
        refine V_iald hC dX11_fill_67 (mem_at 5 0 rfl rfl) (vin (by decide)) (x := 1) (by decide) ?_
        refine V_bipush hC dX11_fill_68 (v := 9) (by decide) ?_
        refine V_iload_n hC dX11_fill_70 3 rfl ?_
        refine V_imul hC dX11_fill_71 ?_
        refine V_iconst hC dX11_fill_72 (v := 3) (by decide) ?_
        refine V_iload hC dX11_fill_73 4 rfl ?_
        refine V_imul hC dX11_fill_75 ?_
        refine V_iadd hC dX11_fill_76 ?_
        refine V_iadd hC dX11_fill_77 ?_
        refine V_iast hC dX11_fill_78 5 0 rfl rfl (vin (by decide)) (z := 1) (by decide) (ps' := [[(M 0, .inr (12, [.int th, .ref (M 1), .ref (M 2), .ref aw, .ref al, .ref (M 3), .ref (M 4), .ref (M 5), .ref (M 6), .ref y, .int (nI nb), .int (nI ny), .int du, .int mny, .int cl, .int (nI fd), .int ws]))], [(M 1, .inl (G.2.1 9, 6, .inr (.inr (.inr (.inr (rfN 6 bR))))))], famW 6 (fun ι => iaP G (bR ι) 6 (bm ι)), [(M 2, .inl (G.2.1 9, 8, .inr (.inr (.inr (.inr (rfN 8 yR))))))], famW 8 (fun ι => iaP G (yR ι) 2 (ym ι)), [(o, .inl (G.2.1 0, 4, .inl (upd (msF bz f F o0 ny) 1 (((msF bz f F o0 ny) 1) + ((9 * x) + (3 * w9))))))], [(k8, .inl (G.2.1 0, 8, .inl F))]]) rfl ?_
        refine V_aload_n hC dX11_fill_79 1 rfl ?_
        refine V_iconst hC dX11_fill_80 (v := 2) (by decide) ?_
        refine V_dup2 hC dX11_fill_81 rfl rfl ?_
        refine V_iald hC dX11_fill_82 (mem_at 5 0 rfl rfl) (vin (by decide)) (x := 2) (by decide) ?_
        refine V_bipush hC dX11_fill_83 (v := 6) (by decide) ?_
        refine V_iload hC dX11_fill_85 4 rfl ?_
        refine V_imul hC dX11_fill_87 ?_
        refine V_iadd hC dX11_fill_88 ?_
        refine V_iast hC dX11_fill_89 5 0 rfl rfl (vin (by decide)) (z := 2) (by decide) (ps' := [[(M 0, .inr (12, [.int th, .ref (M 1), .ref (M 2), .ref aw, .ref al, .ref (M 3), .ref (M 4), .ref (M 5), .ref (M 6), .ref y, .int (nI nb), .int (nI ny), .int du, .int mny, .int cl, .int (nI fd), .int ws]))], [(M 1, .inl (G.2.1 9, 6, .inr (.inr (.inr (.inr (rfN 6 bR))))))], famW 6 (fun ι => iaP G (bR ι) 6 (bm ι)), [(M 2, .inl (G.2.1 9, 8, .inr (.inr (.inr (.inr (rfN 8 yR))))))], famW 8 (fun ι => iaP G (yR ι) 2 (ym ι)), [(o, .inl (G.2.1 0, 4, .inl (upd (upd (msF bz f F o0 ny) 1 (((msF bz f F o0 ny) 1) + ((9 * x) + (3 * w9)))) 2 (((msF bz f F o0 ny) 2) + (6 * w9)))))], [(k8, .inl (G.2.1 0, 8, .inl F))]]) rfl ?_
        refine V_aload_n hC dX11_fill_90 1 rfl ?_
        refine V_iconst hC dX11_fill_91 (v := 3) (by decide) ?_
        refine V_dup2 hC dX11_fill_92 rfl rfl ?_
        refine V_iald hC dX11_fill_93 (mem_at 5 0 rfl rfl) (vin (by decide)) (x := 3) (by decide) ?_
        refine V_bipush hC dX11_fill_94 (v := 9) (by decide) ?_
        refine V_iload hC dX11_fill_96 5 rfl ?_
        refine V_imul hC dX11_fill_98 ?_
        refine V_iadd hC dX11_fill_99 ?_
        refine V_iast hC dX11_fill_100 5 0 rfl rfl (vin (by decide)) (z := 3) (by decide) (ps' := [[(M 0, .inr (12, [.int th, .ref (M 1), .ref (M 2), .ref aw, .ref al, .ref (M 3), .ref (M 4), .ref (M 5), .ref (M 6), .ref y, .int (nI nb), .int (nI ny), .int du, .int mny, .int cl, .int (nI fd), .int ws]))], [(M 1, .inl (G.2.1 9, 6, .inr (.inr (.inr (.inr (rfN 6 bR))))))], famW 6 (fun ι => iaP G (bR ι) 6 (bm ι)), [(M 2, .inl (G.2.1 9, 8, .inr (.inr (.inr (.inr (rfN 8 yR))))))], famW 8 (fun ι => iaP G (yR ι) 2 (ym ι)), [(o, .inl (G.2.1 0, 4, .inl (upd (upd (upd (msF bz f F o0 ny) 1 (((msF bz f F o0 ny) 1) + ((9 * x) + (3 * w9)))) 2 (((msF bz f F o0 ny) 2) + (6 * w9))) 3 (((msF bz f F o0 ny) 3) + (9 * z9)))))], [(k8, .inl (G.2.1 0, 8, .inl F))]]) rfl ?_
        exact V_vret hC hQ hr [0, 1, 2, 3, 4, 5, 6] (u := [[(M 0, .inr (12, [.int th, .ref (M 1), .ref (M 2), .ref aw, .ref al, .ref (M 3), .ref (M 4), .ref (M 5), .ref (M 6), .ref y, .int (nI nb), .int (nI ny), .int du, .int mny, .int cl, .int (nI fd), .int ws]))], [(M 1, .inl (G.2.1 9, 6, .inr (.inr (.inr (.inr (rfN 6 bR))))))], famW 6 (fun ι => iaP G (bR ι) 6 (bm ι)), [(M 2, .inl (G.2.1 9, 8, .inr (.inr (.inr (.inr (rfN 8 yR))))))], famW 8 (fun ι => iaP G (yR ι) 2 (ym ι)), [(o, .inl (G.2.1 0, 4, .inl (upd (upd (upd (msF bz f F o0 ny) 1 (((msF bz f F o0 ny) 1) + ((9 * x) + (3 * w9)))) 2 (((msF bz f F o0 ny) 2) + (6 * w9))) 3 (((msF bz f F o0 ny) 3) + (9 * z9)))))], [(k8, .inl (G.2.1 0, 8, .inl F))]]) (by decide) rfl (by decide) (by decide) dX11_fill_101 (rfl)
      · have hlt := nnle h2
        obtain ⟨v, hv, hfv, hkv⟩ := hkn i hlt
        refine V_iconst hC dX11_fill_12 (v := 0) (by decide) ?_
        refine V_istore hC dX11_fill_13 (L' := [(7, .int 0), (0, .ref (M 0)), (1, .ref o), (2, .ref k8), (3, .int x), (4, .int w9), (5, .int z9), (6, .int (nI i))]) (by decide) rfl ?_
        refine V_iload hC dX11_fill_15 0 rfl ?_
        refine V_iconst hC dX11_fill_17 (v := 4) (by decide) ?_
        refine V_icmp_geF hC dX11_fill_18 (tgt := 58) (by decide) (by decide) ?_
        refine V_aload_n hC dX11_fill_21 2 rfl ?_
        refine V_iload hC dX11_fill_22 0 rfl ?_
        refine V_dup2 hC dX11_fill_24 rfl rfl ?_
        refine V_iald hC dX11_fill_25 (mem_at 5 0 rfl rfl) (vin (by decide)) (x := 0) (by decide) ?_
        refine V_aload_n hC dX11_fill_26 3 rfl ?_
        refine V_iload hC dX11_fill_27 7 rfl ?_
        refine V_iald hC dX11_fill_29 (mem_at 6 0 rfl rfl) (vp_in_nI (by omega) (by omega)) (x := i) (nI_clamp (by omega)) ?_
        refine V_aload_n hC dX11_fill_30 1 rfl ?_
        refine V_get hC dX11_fill_31 inAX11 (mem_at 0 0 rfl rfl) rfl 1 (by decide) q1079 rfl (v := .ref (M 1)) rfl ?_
        refine V_aload_n hC dX11_fill_34 1 rfl ?_
        refine V_get hC dX11_fill_35 inAX11 (mem_at 0 0 rfl rfl) rfl 2 (by decide) q1080 rfl (v := .ref (M 2)) rfl ?_
        refine V_iload hC dX11_fill_38 7 rfl ?_
        refine V_aaldI hC dX11_fill_40 (mem_at 3 0 rfl rfl) (vp_in_nI (by omega) (by omega)) (x := i) (nI_clamp (by omega)) (b := yR i) (rfN_at ((by omega))) ?_
        refine V_iconst hC dX11_fill_41 (v := 0) (by decide) ?_
        refine V_iald hC dX11_fill_42 (mem_fam 4 0 rfl i ((by omega)) rfl) (vin (by decide)) (x := 0) (by decide) ?_
        refine V_eqi (y := nI v) ((hf i hlt).trans hfv) ?_
        refine V_aaldI hC dX11_fill_43 (mem_at 1 0 rfl rfl) (vp_in_nI (by omega) (by omega)) (x := v) (nI_clamp (by omega)) (b := bR v) (rfN_at ((by omega))) ?_
        refine V_iconst hC dX11_fill_44 (v := 2) (by decide) ?_
        refine V_iload hC dX11_fill_45 0 rfl ?_
        refine V_iadd hC dX11_fill_47 ?_
        refine V_eqi (y := 2) (by decide) ?_
        refine V_iald hC dX11_fill_48 (mem_fam 2 0 rfl v ((by omega)) rfl) (vin (by decide)) (x := 2) (by decide) ?_
        refine V_eqi (y := bkOx (bz v) 0) ((bkOx_k (hbm v hv) hkv).1) ?_
        refine V_imul hC dX11_fill_49 ?_
        refine V_iadd hC dX11_fill_50 ?_
        refine V_iast hC dX11_fill_51 5 0 rfl rfl (vin (by decide)) (z := 0) (by decide) (ps' := [[(M 0, .inr (12, [.int th, .ref (M 1), .ref (M 2), .ref aw, .ref al, .ref (M 3), .ref (M 4), .ref (M 5), .ref (M 6), .ref y, .int (nI nb), .int (nI ny), .int du, .int mny, .int cl, .int (nI fd), .int ws]))], [(M 1, .inl (G.2.1 9, 6, .inr (.inr (.inr (.inr (rfN 6 bR))))))], famW 6 (fun ι => iaP G (bR ι) 6 (bm ι)), [(M 2, .inl (G.2.1 9, 8, .inr (.inr (.inr (.inr (rfN 8 yR))))))], famW 8 (fun ι => iaP G (yR ι) 2 (ym ι)), [(o, .inl (G.2.1 0, 4, .inl (upd (msF bz f F o0 i) 0 (((msF bz f F o0 i) 0) + ((F i) * (bkOx (bz v) 0))))))], [(k8, .inl (G.2.1 0, 8, .inl F))]]) rfl ?_
        refine V_iinc hC dX11_fill_52 (v := 1) (L' := [(7, .int 1), (0, .ref (M 0)), (1, .ref o), (2, .ref k8), (3, .int x), (4, .int w9), (5, .int z9), (6, .int (nI i))]) (j := 0) rfl (by decide) (by decide) rfl ?_
        refine V_goto hC dX11_fill_55 (tgt := 15) (by decide) ?_
        refine V_iload hC dX11_fill_15 0 rfl ?_
        refine V_iconst hC dX11_fill_17 (v := 4) (by decide) ?_
        refine V_icmp_geF hC dX11_fill_18 (tgt := 58) (by decide) (by decide) ?_
        refine V_aload_n hC dX11_fill_21 2 rfl ?_
        refine V_iload hC dX11_fill_22 0 rfl ?_
        refine V_dup2 hC dX11_fill_24 rfl rfl ?_
        refine V_iald hC dX11_fill_25 (mem_at 5 0 rfl rfl) (vin (by decide)) (x := 1) (by decide) ?_
        refine V_aload_n hC dX11_fill_26 3 rfl ?_
        refine V_iload hC dX11_fill_27 7 rfl ?_
        refine V_iald hC dX11_fill_29 (mem_at 6 0 rfl rfl) (vp_in_nI (by omega) (by omega)) (x := i) (nI_clamp (by omega)) ?_
        refine V_aload_n hC dX11_fill_30 1 rfl ?_
        refine V_get hC dX11_fill_31 inAX11 (mem_at 0 0 rfl rfl) rfl 1 (by decide) q1079 rfl (v := .ref (M 1)) rfl ?_
        refine V_aload_n hC dX11_fill_34 1 rfl ?_
        refine V_get hC dX11_fill_35 inAX11 (mem_at 0 0 rfl rfl) rfl 2 (by decide) q1080 rfl (v := .ref (M 2)) rfl ?_
        refine V_iload hC dX11_fill_38 7 rfl ?_
        refine V_aaldI hC dX11_fill_40 (mem_at 3 0 rfl rfl) (vp_in_nI (by omega) (by omega)) (x := i) (nI_clamp (by omega)) (b := yR i) (rfN_at ((by omega))) ?_
        refine V_iconst hC dX11_fill_41 (v := 0) (by decide) ?_
        refine V_iald hC dX11_fill_42 (mem_fam 4 0 rfl i ((by omega)) rfl) (vin (by decide)) (x := 0) (by decide) ?_
        refine V_eqi (y := nI v) ((hf i hlt).trans hfv) ?_
        refine V_aaldI hC dX11_fill_43 (mem_at 1 0 rfl rfl) (vp_in_nI (by omega) (by omega)) (x := v) (nI_clamp (by omega)) (b := bR v) (rfN_at ((by omega))) ?_
        refine V_iconst hC dX11_fill_44 (v := 2) (by decide) ?_
        refine V_iload hC dX11_fill_45 0 rfl ?_
        refine V_iadd hC dX11_fill_47 ?_
        refine V_eqi (y := 3) (by decide) ?_
        refine V_iald hC dX11_fill_48 (mem_fam 2 0 rfl v ((by omega)) rfl) (vin (by decide)) (x := 3) (by decide) ?_
        refine V_eqi (y := bkOx (bz v) 1) ((bkOx_k (hbm v hv) hkv).2.1) ?_
        refine V_imul hC dX11_fill_49 ?_
        refine V_iadd hC dX11_fill_50 ?_
        refine V_iast hC dX11_fill_51 5 0 rfl rfl (vin (by decide)) (z := 1) (by decide) (ps' := [[(M 0, .inr (12, [.int th, .ref (M 1), .ref (M 2), .ref aw, .ref al, .ref (M 3), .ref (M 4), .ref (M 5), .ref (M 6), .ref y, .int (nI nb), .int (nI ny), .int du, .int mny, .int cl, .int (nI fd), .int ws]))], [(M 1, .inl (G.2.1 9, 6, .inr (.inr (.inr (.inr (rfN 6 bR))))))], famW 6 (fun ι => iaP G (bR ι) 6 (bm ι)), [(M 2, .inl (G.2.1 9, 8, .inr (.inr (.inr (.inr (rfN 8 yR))))))], famW 8 (fun ι => iaP G (yR ι) 2 (ym ι)), [(o, .inl (G.2.1 0, 4, .inl (upd (upd (msF bz f F o0 i) 0 (((msF bz f F o0 i) 0) + ((F i) * (bkOx (bz v) 0)))) 1 (((msF bz f F o0 i) 1) + ((F i) * (bkOx (bz v) 1))))))], [(k8, .inl (G.2.1 0, 8, .inl F))]]) rfl ?_
        refine V_iinc hC dX11_fill_52 (v := 2) (L' := [(7, .int 2), (0, .ref (M 0)), (1, .ref o), (2, .ref k8), (3, .int x), (4, .int w9), (5, .int z9), (6, .int (nI i))]) (j := 0) rfl (by decide) (by decide) rfl ?_
        refine V_goto hC dX11_fill_55 (tgt := 15) (by decide) ?_
        refine V_iload hC dX11_fill_15 0 rfl ?_
        refine V_iconst hC dX11_fill_17 (v := 4) (by decide) ?_
        refine V_icmp_geF hC dX11_fill_18 (tgt := 58) (by decide) (by decide) ?_
        refine V_aload_n hC dX11_fill_21 2 rfl ?_
        refine V_iload hC dX11_fill_22 0 rfl ?_
        refine V_dup2 hC dX11_fill_24 rfl rfl ?_
        refine V_iald hC dX11_fill_25 (mem_at 5 0 rfl rfl) (vin (by decide)) (x := 2) (by decide) ?_
        refine V_aload_n hC dX11_fill_26 3 rfl ?_
        refine V_iload hC dX11_fill_27 7 rfl ?_
        refine V_iald hC dX11_fill_29 (mem_at 6 0 rfl rfl) (vp_in_nI (by omega) (by omega)) (x := i) (nI_clamp (by omega)) ?_
        refine V_aload_n hC dX11_fill_30 1 rfl ?_
        refine V_get hC dX11_fill_31 inAX11 (mem_at 0 0 rfl rfl) rfl 1 (by decide) q1079 rfl (v := .ref (M 1)) rfl ?_
        refine V_aload_n hC dX11_fill_34 1 rfl ?_
        refine V_get hC dX11_fill_35 inAX11 (mem_at 0 0 rfl rfl) rfl 2 (by decide) q1080 rfl (v := .ref (M 2)) rfl ?_
        refine V_iload hC dX11_fill_38 7 rfl ?_
        refine V_aaldI hC dX11_fill_40 (mem_at 3 0 rfl rfl) (vp_in_nI (by omega) (by omega)) (x := i) (nI_clamp (by omega)) (b := yR i) (rfN_at ((by omega))) ?_
        refine V_iconst hC dX11_fill_41 (v := 0) (by decide) ?_
        refine V_iald hC dX11_fill_42 (mem_fam 4 0 rfl i ((by omega)) rfl) (vin (by decide)) (x := 0) (by decide) ?_
        refine V_eqi (y := nI v) ((hf i hlt).trans hfv) ?_
        refine V_aaldI hC dX11_fill_43 (mem_at 1 0 rfl rfl) (vp_in_nI (by omega) (by omega)) (x := v) (nI_clamp (by omega)) (b := bR v) (rfN_at ((by omega))) ?_
        refine V_iconst hC dX11_fill_44 (v := 2) (by decide) ?_
        refine V_iload hC dX11_fill_45 0 rfl ?_
        refine V_iadd hC dX11_fill_47 ?_
        refine V_eqi (y := 4) (by decide) ?_
        refine V_iald hC dX11_fill_48 (mem_fam 2 0 rfl v ((by omega)) rfl) (vin (by decide)) (x := 4) (by decide) ?_
        refine V_eqi (y := bkOx (bz v) 2) ((bkOx_k (hbm v hv) hkv).2.2.1) ?_
        refine V_imul hC dX11_fill_49 ?_
        refine V_iadd hC dX11_fill_50 ?_
        refine V_iast hC dX11_fill_51 5 0 rfl rfl (vin (by decide)) (z := 2) (by decide) (ps' := [[(M 0, .inr (12, [.int th, .ref (M 1), .ref (M 2), .ref aw, .ref al, .ref (M 3), .ref (M 4), .ref (M 5), .ref (M 6), .ref y, .int (nI nb), .int (nI ny), .int du, .int mny, .int cl, .int (nI fd), .int ws]))], [(M 1, .inl (G.2.1 9, 6, .inr (.inr (.inr (.inr (rfN 6 bR))))))], famW 6 (fun ι => iaP G (bR ι) 6 (bm ι)), [(M 2, .inl (G.2.1 9, 8, .inr (.inr (.inr (.inr (rfN 8 yR))))))], famW 8 (fun ι => iaP G (yR ι) 2 (ym ι)), [(o, .inl (G.2.1 0, 4, .inl (upd (upd (upd (msF bz f F o0 i) 0 (((msF bz f F o0 i) 0) + ((F i) * (bkOx (bz v) 0)))) 1 (((msF bz f F o0 i) 1) + ((F i) * (bkOx (bz v) 1)))) 2 (((msF bz f F o0 i) 2) + ((F i) * (bkOx (bz v) 2))))))], [(k8, .inl (G.2.1 0, 8, .inl F))]]) rfl ?_
        refine V_iinc hC dX11_fill_52 (v := 3) (L' := [(7, .int 3), (0, .ref (M 0)), (1, .ref o), (2, .ref k8), (3, .int x), (4, .int w9), (5, .int z9), (6, .int (nI i))]) (j := 0) rfl (by decide) (by decide) rfl ?_
        refine V_goto hC dX11_fill_55 (tgt := 15) (by decide) ?_
        refine V_iload hC dX11_fill_15 0 rfl ?_
        refine V_iconst hC dX11_fill_17 (v := 4) (by decide) ?_
        refine V_icmp_geF hC dX11_fill_18 (tgt := 58) (by decide) (by decide) ?_
        refine V_aload_n hC dX11_fill_21 2 rfl ?_
        refine V_iload hC dX11_fill_22 0 rfl ?_
        refine V_dup2 hC dX11_fill_24 rfl rfl ?_
        refine V_iald hC dX11_fill_25 (mem_at 5 0 rfl rfl) (vin (by decide)) (x := 3) (by decide) ?_
        refine V_aload_n hC dX11_fill_26 3 rfl ?_
        refine V_iload hC dX11_fill_27 7 rfl ?_
        refine V_iald hC dX11_fill_29 (mem_at 6 0 rfl rfl) (vp_in_nI (by omega) (by omega)) (x := i) (nI_clamp (by omega)) ?_
        refine V_aload_n hC dX11_fill_30 1 rfl ?_
        refine V_get hC dX11_fill_31 inAX11 (mem_at 0 0 rfl rfl) rfl 1 (by decide) q1079 rfl (v := .ref (M 1)) rfl ?_
        refine V_aload_n hC dX11_fill_34 1 rfl ?_
        refine V_get hC dX11_fill_35 inAX11 (mem_at 0 0 rfl rfl) rfl 2 (by decide) q1080 rfl (v := .ref (M 2)) rfl ?_
        refine V_iload hC dX11_fill_38 7 rfl ?_
        refine V_aaldI hC dX11_fill_40 (mem_at 3 0 rfl rfl) (vp_in_nI (by omega) (by omega)) (x := i) (nI_clamp (by omega)) (b := yR i) (rfN_at ((by omega))) ?_
        refine V_iconst hC dX11_fill_41 (v := 0) (by decide) ?_
        refine V_iald hC dX11_fill_42 (mem_fam 4 0 rfl i ((by omega)) rfl) (vin (by decide)) (x := 0) (by decide) ?_
        refine V_eqi (y := nI v) ((hf i hlt).trans hfv) ?_
        refine V_aaldI hC dX11_fill_43 (mem_at 1 0 rfl rfl) (vp_in_nI (by omega) (by omega)) (x := v) (nI_clamp (by omega)) (b := bR v) (rfN_at ((by omega))) ?_
        refine V_iconst hC dX11_fill_44 (v := 2) (by decide) ?_
        refine V_iload hC dX11_fill_45 0 rfl ?_
        refine V_iadd hC dX11_fill_47 ?_
        refine V_eqi (y := 5) (by decide) ?_
        refine V_iald hC dX11_fill_48 (mem_fam 2 0 rfl v ((by omega)) rfl) (vin (by decide)) (x := 5) (by decide) ?_
        refine V_eqi (y := bkOx (bz v) 3) ((bkOx_k (hbm v hv) hkv).2.2.2) ?_
        refine V_imul hC dX11_fill_49 ?_
        refine V_iadd hC dX11_fill_50 ?_
        refine V_iast hC dX11_fill_51 5 0 rfl rfl (vin (by decide)) (z := 3) (by decide) (ps' := [[(M 0, .inr (12, [.int th, .ref (M 1), .ref (M 2), .ref aw, .ref al, .ref (M 3), .ref (M 4), .ref (M 5), .ref (M 6), .ref y, .int (nI nb), .int (nI ny), .int du, .int mny, .int cl, .int (nI fd), .int ws]))], [(M 1, .inl (G.2.1 9, 6, .inr (.inr (.inr (.inr (rfN 6 bR))))))], famW 6 (fun ι => iaP G (bR ι) 6 (bm ι)), [(M 2, .inl (G.2.1 9, 8, .inr (.inr (.inr (.inr (rfN 8 yR))))))], famW 8 (fun ι => iaP G (yR ι) 2 (ym ι)), [(o, .inl (G.2.1 0, 4, .inl (upd (upd (upd (upd (msF bz f F o0 i) 0 (((msF bz f F o0 i) 0) + ((F i) * (bkOx (bz v) 0)))) 1 (((msF bz f F o0 i) 1) + ((F i) * (bkOx (bz v) 1)))) 2 (((msF bz f F o0 i) 2) + ((F i) * (bkOx (bz v) 2)))) 3 (((msF bz f F o0 i) 3) + ((F i) * (bkOx (bz v) 3))))))], [(k8, .inl (G.2.1 0, 8, .inl F))]]) rfl ?_
        refine V_iinc hC dX11_fill_52 (v := 4) (L' := [(7, .int 4), (0, .ref (M 0)), (1, .ref o), (2, .ref k8), (3, .int x), (4, .int w9), (5, .int z9), (6, .int (nI i))]) (j := 0) rfl (by decide) (by decide) rfl ?_
        refine V_goto hC dX11_fill_55 (tgt := 15) (by decide) ?_
        refine V_iload hC dX11_fill_15 0 rfl ?_
        refine V_iconst hC dX11_fill_17 (v := 4) (by decide) ?_
        refine V_icmp_geT hC dX11_fill_18 (tgt := 58) (by decide) (by decide) ?_
        refine V_iinc hC dX11_fill_58 (v := nI (i + 1)) (L' := [(6, .int (nI (i + 1))), (7, .int 4), (0, .ref (M 0)), (1, .ref o), (2, .ref k8), (3, .int x), (4, .int w9), (5, .int z9)]) (j := 7) rfl (nI_1 _) (by decide) rfl ?_
        refine V_goto hC dX11_fill_61 (tgt := 3) (by decide) ?_
        refine V_loc (L' := [(0, .ref (M 0)), (1, .ref o), (2, .ref k8), (3, .int x), (4, .int w9), (5, .int z9), (6, .int (nI (i + 1)))]) [2, 3, 4, 5, 6, 7, 0] rfl ?_
        have e : (msF bz f F o0 (i + 1)) = mxStone (msF bz f F o0 i) (bkOx (bz v)) (F i) := by show mxStone _ (bkOx (bz (f i).toNatClampNeg)) _ = _; rw [hfv, nI_clamp (by omega)]
        have hh := ih (i + 1) (by omega) (by omega)
        rw [e] at hh
        exact hh
  refine V_loc (L' := [(0, .ref (M 0)), (1, .ref o), (2, .ref k8), (3, .int x), (4, .int w9), (5, .int z9), (6, .int 0)]) [1, 2, 3, 4, 5, 6, 0] rfl ?_
  exact loop1 (ny + 1) 0 (Nat.zero_le _) (by omega)
