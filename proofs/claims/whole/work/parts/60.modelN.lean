/-! ===== the model: the best charge; a charge ===== -/
def rtM (cm : Nat → Int32) (k : Nat) : Int32 := mxRight (mxBins cm (nI (k / 16)) (nI (k / 4 % 4)) (nI (k % 4)))
def bsF (cm : Nat → Int32) : Nat → Int32 × Nat
  | 0 => (-1, 99)
  | k + 1 => if k / 16 + k / 4 % 4 + k % 4 < (bsF cm k).2 then (if rtM cm k = 0 then bsF cm k else (nI (100 * (k / 16) + 10 * (k / 4 % 4) + k % 4), k / 16 + k / 4 % 4 + k % 4)) else bsF cm k
/-- the model's best -/
def bsP (cm : Nat → Int32) (w : Int32) : Prop := (bsF cm 64).1 = w
theorem bsF_le {cm : Nat → Int32} : ∀ k, (bsF cm k).2 ≤ 99
  | 0 => Nat.le_refl _
  | k + 1 => by
    have ih := bsF_le (cm := cm) k
    show (if _ then (if _ then _ else _) else _ : Int32 × Nat).2 ≤ 99
    split
    · split
      · exact ih
      · show k / 16 + k / 4 % 4 + k % 4 ≤ 99
        omega
    · exact ih
/-- what the model found among the first k -/
theorem bsF_ok {cm : Nat → Int32} : ∀ k, k ≤ 64 → (((bsF cm k).1 = -1 ∧ (bsF cm k).2 = 99 ∧ ∀ j, j < k → rtM cm j = 0) ∨ (∃ j, j < k ∧ ¬ rtM cm j = 0 ∧ (bsF cm k).1 = nI (100 * (j / 16) + 10 * (j / 4 % 4) + j % 4) ∧ (bsF cm k).2 = j / 16 + j / 4 % 4 + j % 4 ∧ (∀ i, i < k → ¬ rtM cm i = 0 → j / 16 + j / 4 % 4 + j % 4 ≤ i / 16 + i / 4 % 4 + i % 4) ∧ ∀ i, i < j → ¬ rtM cm i = 0 → j / 16 + j / 4 % 4 + j % 4 < i / 16 + i / 4 % 4 + i % 4))
  | 0, _ => Or.inl ⟨rfl, rfl, fun j hj => absurd hj (Nat.not_lt_zero _)⟩
  | k + 1, hk => by
    have ih := bsF_ok (cm := cm) k (by omega)
    have e : bsF cm (k + 1) = if k / 16 + k / 4 % 4 + k % 4 < (bsF cm k).2 then (if rtM cm k = 0 then bsF cm k else (nI (100 * (k / 16) + 10 * (k / 4 % 4) + k % 4), k / 16 + k / 4 % 4 + k % 4)) else bsF cm k := rfl
    rw [e]
    by_cases h1 : k / 16 + k / 4 % 4 + k % 4 < (bsF cm k).2
    · rw [if_pos h1]
      by_cases h2 : rtM cm k = 0
      · rw [if_pos h2]
        rcases ih with ⟨a, b, c⟩ | ⟨j, hj, a, b, c, d, f⟩
        · exact Or.inl ⟨a, b, fun i hi => if q : i = k then q ▸ h2 else c i (by omega)⟩
        · exact Or.inr ⟨j, by omega, a, b, c, fun i hi hr => if q : i = k then absurd (q ▸ h2) hr else d i (by omega) hr, f⟩
      · rw [if_neg h2]
        refine Or.inr ⟨k, by omega, h2, rfl, rfl, fun i hi hr => ?_, fun i hi hr => ?_⟩
        · by_cases q : i = k
          · rw [q]; exact Nat.le_refl _
          · rcases ih with ⟨a, b, c⟩ | ⟨j, hj, a, b, c, d, f⟩
            · exact absurd (c i (by omega)) hr
            · have := d i (by omega) hr
              omega
        · rcases ih with ⟨a, b, c⟩ | ⟨j, hj, a, b, c, d, f⟩
          · exact absurd (c i hi) hr
          · have := d i hi hr
            omega
    · rw [if_neg h1]
      rcases ih with ⟨a, b, c⟩ | ⟨j, hj, a, b, c, d, f⟩
      · rw [b] at h1
        omega
      · refine Or.inr ⟨j, by omega, a, b, c, fun i hi hr => ?_, f⟩
        by_cases q : i = k
        · rw [q]; omega
        · exact d i (by omega) hr
theorem idx64 {o t h : Nat} (ho : o ≤ 3) (ht : t ≤ 3) (hh : h ≤ 3) : (16 * o + 4 * t + h) / 16 = o ∧ (16 * o + 4 * t + h) / 4 % 4 = t ∧ (16 * o + 4 * t + h) % 4 = h ∧ 16 * o + 4 * t + h < 64 := by omega
theorem rtM_RT {cm : Nat → Int32} {o t h : Nat} (ho : o ≤ 3) (ht : t ≤ 3) (hh : h ≤ 3) : (¬ rtM cm (16 * o + 4 * t + h) = 0) ↔ RT cm o t h := by
  obtain ⟨e1, e2, e3, -⟩ := idx64 ho ht hh
  unfold rtM RT
  rw [e1, e2, e3]
  constructor
  · intro h1
    exact (mxRight01 _).resolve_left h1
  · intro h1 h2
    rw [h1] at h2
    exact absurd h2 (by decide)
/-- the class's best charge is the model's -/
theorem best_eq {cm : Nat → Int32} {y : Int32} (h : bstR cm y) : (bsF cm 64).1 = y := by
  have hb := bsF_ok (cm := cm) 64 (Nat.le_refl _)
  have hdec : ∀ j : Nat, j < 64 → j = 16 * (j / 16) + 4 * (j / 4 % 4) + j % 4 ∧ j / 16 ≤ 3 ∧ j / 4 % 4 ≤ 3 ∧ j % 4 ≤ 3 := fun j hj => by omega
  rcases h with ⟨A, hA, hf, hy, hlow⟩ | ⟨rfl, hno⟩
  · rcases hf with ⟨o, t, k, ho, ht, hk, hs, hR, hfirst, rfl⟩ | ⟨e, -⟩
    · obtain ⟨e1, e2, e3, e4⟩ := idx64 ho ht hk
      have hr := (rtM_RT ho ht hk).mpr hR
      rcases hb with ⟨-, -, c⟩ | ⟨j, hj, a, b, c, d, f⟩
      · exact absurd (c _ e4) hr
      · obtain ⟨q0, q1, q2, q3⟩ := hdec j hj
        have hd := d _ e4 hr
        rw [e1, e2, e3] at hd
        have hj2 : RT cm (j / 16) (j / 4 % 4) (j % 4) := (rtM_RT q1 q2 q3).mp (by rw [← q0]; exact a)
        have hsum : j / 16 + j / 4 % 4 + j % 4 = A := by
          rcases Nat.lt_or_ge (j / 16 + j / 4 % 4 + j % 4) A with q | q
          · exact absurd hj2 (hlow _ q _ _ _ q1 q2 q3 rfl (by omega))
          · omega
        have heq : j = 16 * o + 4 * t + k := by
          rcases Nat.lt_trichotomy j (16 * o + 4 * t + k) with q | q | q
          · exact absurd hj2 (hfirst _ _ _ q1 q2 q3 hsum (by omega))
          · exact q
          · have := f _ q hr
            rw [e1, e2, e3] at this
            omega
        rw [b, heq, e1, e2, e3]
    · exact absurd e hy
  · rcases hb with ⟨a, -, -⟩ | ⟨j, hj, a, b, c, d, f⟩
    · exact a
    · obtain ⟨q0, q1, q2, q3⟩ := hdec j hj
      have hj2 : RT cm (j / 16) (j / 4 % 4) (j % 4) := (rtM_RT q1 q2 q3).mp (by rw [← q0]; exact a)
      exact absurd hj2 (hno (j / 16 + j / 4 % 4 + j % 4) (by omega) _ _ _ q1 q2 q3 rfl (by omega))
theorem mcF_agree {bz : Nat → BV} {f sh sh' a b : Nat → Int32} : ∀ {n : Nat}, (∀ j, j < n → sh j = sh' j) → ∀ j, j < 4 → mcF bz f sh a n j = mcF bz f sh' b n j
  | 0, _, j, hj => by
    match j, hj with
    | 0, _ => rfl
    | 1, _ => rfl
    | 2, _ => rfl
    | 3, _ => rfl
  | n + 1, h, j, hj => by
    have ih := fun j hj => mcF_agree (bz := bz) (f := f) (sh := sh) (sh' := sh') (a := a) (b := b) (n := n) (fun i hi => h i (by omega)) j hj
    show mxStone (mcF bz f sh a n) _ (sh n) j = mxStone (mcF bz f sh' b n) _ (sh' n) j
    rw [h n (by omega)]
    match j, hj with
    | 0, _ => show _ + _ = _ + _; rw [ih 0 (by decide)]
    | 1, _ => show _ + _ = _ + _; rw [ih 1 (by decide)]
    | 2, _ => show _ + _ = _ + _; rw [ih 2 (by decide)]
    | 3, _ => show _ + _ = _ + _; rw [ih 3 (by decide)]
theorem mxBins_agree {f g : Nat → Int32} {x y z : Int32} (h : ∀ j, j < 4 → f j = g j) : ∀ j, j < 4 → mxBins f x y z j = mxBins g x y z j := by
  intro j hj
  match j, hj with
  | 0, _ => exact h 0 (by decide)
  | 1, _ => show _ + _ = _ + _; rw [h 1 (by decide)]
  | 2, _ => show _ + _ = _ + _; rw [h 2 (by decide)]
  | 3, _ => show _ + _ = _ + _; rw [h 3 (by decide)]
/-- the shares of the layers go to the charge, what is left stays -/
def dsF (f g F : Nat → Int32) (pa : Nat → Int32) (ym : Nat → Nat → Int32) : Nat → Nat × (Nat → Int32) × (Nat → Nat → Int32)
  | 0 => (0, pa, ym)
  | i + 1 => ((if g i - F i ≤ 0 then (dsF f g F pa ym i).1 else (dsF f g F pa ym i).1 + 1), upd (dsF f g F pa ym i).2.1 (f i).toNatClampNeg ((dsF f g F pa ym i).2.1 (f i).toNatClampNeg + F i), va_up (dsF f g F pa ym i).2.2 (dsF f g F pa ym i).1 (upd (upd ((dsF f g F pa ym i).2.2 (dsF f g F pa ym i).1) 0 (f i)) 1 (g i - F i)))
theorem dsF_le {f g F pa : Nat → Int32} {ym : Nat → Nat → Int32} : ∀ i, (dsF f g F pa ym i).1 ≤ i
  | 0 => Nat.le_refl _
  | i + 1 => by
    have ih := dsF_le (f := f) (g := g) (F := F) (pa := pa) (ym := ym) i
    show (if g i - F i ≤ 0 then (dsF f g F pa ym i).1 else (dsF f g F pa ym i).1 + 1) ≤ i + 1
    split
    · exact Nat.le_succ_of_le ih
    · exact Nat.succ_le_succ ih
theorem dsF_behind {f g F pa : Nat → Int32} {ym : Nat → Nat → Int32} : ∀ i j, i ≤ j → (dsF f g F pa ym i).2.2 j = ym j
  | 0, j, _ => rfl
  | i + 1, j, h => by
    have ih := dsF_behind (f := f) (g := g) (F := F) (pa := pa) (ym := ym) i j (by omega)
    have hl := dsF_le (f := f) (g := g) (F := F) (pa := pa) (ym := ym) i
    show va_up (dsF f g F pa ym i).2.2 (dsF f g F pa ym i).1 _ j = _
    rw [va_up_ne _ _ (by omega)]
    exact ih
/-- it is what the class does -/
theorem dsF_ts {f g F pa sh w : Nat → Int32} {ym : Nat → Nat → Int32} {n : Nat} (hF : ∀ j, j < n → F j = sh j) (hpa : ∀ j, j < 6 → pa j = w j) (hf : ∀ k, k < n → ∃ v, v < 6 ∧ f k = nI v) : ∀ {i : Nat}, i ≤ n → (dsF f g F pa ym i).1 = (tsF f g sh w i).1 ∧ (∀ j, j < (dsF f g F pa ym i).1 → (dsF f g F pa ym i).2.2 j 0 = (tsF f g sh w i).2.1 j ∧ (dsF f g F pa ym i).2.2 j 1 = (tsF f g sh w i).2.2.1 j) ∧ ∀ j, j < 6 → (dsF f g F pa ym i).2.1 j = (tsF f g sh w i).2.2.2 j
  | 0, _ => ⟨rfl, fun j hj => absurd hj (Nat.not_lt_zero _), hpa⟩
  | i + 1, hi => by
    obtain ⟨h1, h2, h3⟩ := dsF_ts hF hpa hf (ym := ym) (g := g) (i := i) (by omega)
    obtain ⟨v, hv, hfv⟩ := hf i (by omega)
    have hFi := hF i (by omega)
    have eT : tsF f g sh w (i + 1) = if 0 < g i - sh i then ((tsF f g sh w i).1 + 1, upd (tsF f g sh w i).2.1 (tsF f g sh w i).1 (f i), upd (tsF f g sh w i).2.2.1 (tsF f g sh w i).1 (g i - sh i), upd (tsF f g sh w i).2.2.2 (f i).toNatClampNeg ((tsF f g sh w i).2.2.2 (f i).toNatClampNeg + sh i)) else ((tsF f g sh w i).1, (tsF f g sh w i).2.1, (tsF f g sh w i).2.2.1, upd (tsF f g sh w i).2.2.2 (f i).toNatClampNeg ((tsF f g sh w i).2.2.2 (f i).toNatClampNeg + sh i)) := rfl
    have hw : ∀ j, j < 6 → upd (dsF f g F pa ym i).2.1 (f i).toNatClampNeg ((dsF f g F pa ym i).2.1 (f i).toNatClampNeg + F i) j = upd (tsF f g sh w i).2.2.2 (f i).toNatClampNeg ((tsF f g sh w i).2.2.2 (f i).toNatClampNeg + sh i) j := fun j hj => by
      rw [hfv, nI_clamp (by omega), hFi]
      by_cases e : j = v
      · subst e
        rw [pk_us, pk_us, h3 j hj]
      · rw [pk_un e, pk_un e]
        exact h3 j hj
    rw [eT]
    by_cases hp : 0 < g i - sh i
    · rw [if_pos hp]
      have hp2 : ¬ g i - F i ≤ 0 := by rw [hFi]; exact i32_nle hp
      have e1 : (dsF f g F pa ym (i + 1)).1 = (dsF f g F pa ym i).1 + 1 := if_neg hp2
      refine ⟨by rw [e1, h1], fun j hj => ?_, hw⟩
      show va_up (dsF f g F pa ym i).2.2 (dsF f g F pa ym i).1 (upd (upd ((dsF f g F pa ym i).2.2 (dsF f g F pa ym i).1) 0 (f i)) 1 (g i - F i)) j 0 = upd (tsF f g sh w i).2.1 (tsF f g sh w i).1 (f i) j ∧ va_up (dsF f g F pa ym i).2.2 (dsF f g F pa ym i).1 (upd (upd ((dsF f g F pa ym i).2.2 (dsF f g F pa ym i).1) 0 (f i)) 1 (g i - F i)) j 1 = upd (tsF f g sh w i).2.2.1 (tsF f g sh w i).1 (g i - sh i) j
      rw [e1] at hj
      by_cases e : j = (dsF f g F pa ym i).1
      · rw [e, va_up_eq, ← h1, pk_us, pk_us, pk_us, hFi]
        exact ⟨rfl, rfl⟩
      · rw [va_up_ne _ _ e, pk_un (by rw [← h1]; exact e), pk_un (by rw [← h1]; exact e)]
        exact h2 j (by omega)
    · rw [if_neg hp]
      have hp2 : g i - F i ≤ 0 := by rw [hFi]; exact i32_le hp
      have e1 : (dsF f g F pa ym (i + 1)).1 = (dsF f g F pa ym i).1 := if_pos hp2
      refine ⟨by rw [e1, h1], fun j hj => ?_, hw⟩
      show va_up (dsF f g F pa ym i).2.2 (dsF f g F pa ym i).1 (upd (upd ((dsF f g F pa ym i).2.2 (dsF f g F pa ym i).1) 0 (f i)) 1 (g i - F i)) j 0 = (tsF f g sh w i).2.1 j ∧ va_up (dsF f g F pa ym i).2.2 (dsF f g F pa ym i).1 (upd (upd ((dsF f g F pa ym i).2.2 (dsF f g F pa ym i).1) 0 (f i)) 1 (g i - F i)) j 1 = (tsF f g sh w i).2.2.1 j
      rw [e1] at hj
      rw [va_up_ne _ _ (by omega)]
      exact h2 j hj
theorem nI_ltE {a b : Nat} (h : nI a < nI b) (ha : a < 2 ^ 31 := by omega) (hb : b < 2 ^ 31 := by omega) : a < b := by
  rcases Nat.lt_or_ge a b with q | q
  · exact q
  · exact absurd h (nI_nlt q ha)
theorem nI_ltN {a b : Nat} (h : ¬ nI a < nI b) (ha : a < 2 ^ 31 := by omega) (hb : b < 2 ^ 31 := by omega) : ¬ a < b := fun q => h (nI_lt q hb)
/-- the model's mixture and the class's -/
def cmM (bz : Nat → BV) (f : Nat → Int32) (p : Nat → Nat) (ny c : Nat) : Nat → Int32 := mcF bz f (fun j => nI (cutN p ny c j)) (fun _ => 0) ny
theorem fillE {bz : Nat → BV} {f F m : Nat → Int32} {p : Nat → Nat} {ny c : Nat} {a b d : Int32} (hF : ∀ j, j < ny → F j = nI (cutN p ny c j)) : ∀ j, j < 4 → mxBins (msF bz f F (upd (upd (upd (upd m 0 0) 1 0) 2 0) 3 0) ny) a b d j = mxBins (cmM bz f p ny c) a b d j := by
  rw [show msF bz f F (upd (upd (upd (upd m 0 0) 1 0) 2 0) 3 0) ny = mcF bz f (fun j => nI (cutN p ny c j)) m ny from msF_mc hF]
  exact mxBins_agree (mcF_agree (fun _ _ => rfl))
theorem rtM_eq {bz : Nat → BV} {f F m : Nat → Int32} {p : Nat → Nat} {ny c k : Nat} (hF : ∀ j, j < ny → F j = nI (cutN p ny c j)) : moMod (mxBins (msF bz f F (upd (upd (upd (upd m 0 0) 1 0) 2 0) 3 0) ny) (nI (k / 16)) (nI (k / 4 % 4)) (nI (k % 4))) 3 = rtM (cmM bz f p ny c) k :=
  moMod_eq (w := 3) (fillE hF) (by decide)
theorem bsF_s {cm : Nat → Int32} {k : Nat} : bsF cm (k + 1) = if k / 16 + k / 4 % 4 + k % 4 < (bsF cm k).2 then (if rtM cm k = 0 then bsF cm k else (nI (100 * (k / 16) + 10 * (k / 4 % 4) + k % 4), k / 16 + k / 4 % 4 + k % 4)) else bsF cm k := rfl
theorem bs_num {k : Nat} : (100 : Int32) * nI (k / 16) + 10 * nI (k / 4 % 4) + nI (k % 4) = nI (100 * (k / 16) + 10 * (k / 4 % 4) + k % 4) := by
  rw [← nI_add, ← nI_add, ← pk_mul, ← pk_mul]
  rfl
theorem chQ {Q : Nat → Nat → Nat} {q : Nat → Nat} {NC n : Nat} (h : n ≤ NC) : va_up (fun κ => (Q (NC - n + κ)) 0) n (q 0) = fun κ => ((va_up Q NC q) (NC + 1 - (n + 1) + κ)) 0 := by
  funext κ
  show (if κ = n then q 0 else (Q (NC - n + κ)) 0) = (if NC + 1 - (n + 1) + κ = NC then q else Q (NC + 1 - (n + 1) + κ)) 0
  have e : NC + 1 - (n + 1) = NC - n := by omega
  rw [e]
  by_cases e2 : κ = n
  · rw [if_pos e2, if_pos (by omega)]
  · rw [if_neg e2, if_neg (by omega)]
theorem zero4 : mxClear (fun _ => 0) = fun _ => 0 := by
  funext j
  simp [mxClear, upd]
theorem fill0 {bz : Nat → BV} {f F : Nat → Int32} {p : Nat → Nat} {ny c : Nat} {a b d : Int32} (hF : ∀ j, j < ny → F j = nI (cutN p ny c j)) : ∀ j, j < 4 → mxBins (msF bz f F (fun _ => 0) ny) a b d j = mxBins (cmM bz f p ny c) a b d j := by
  rw [← zero4, show msF bz f F (mxClear (fun _ => 0)) ny = mcF bz f (fun j => nI (cutN p ny c j)) (fun _ => 0) ny from msF_mc hF]
  exact mxBins_agree (fun _ _ => rfl)
/-- a charge of the model, new -/
def chM (ox pa : Nat → Int32) : MV := ((moBegin (mo0.1, ox, mo0.2.2.1, mo0.2.2.2)).1, ox, pa, mo0.2.2.2)
theorem dsF_s {f g F pa : Nat → Int32} {ym yy : Nat → Nat → Int32} {i d v : Nat} {pb : Nat → Int32} (hq : dsF f g F pa ym i = (d, pb, yy)) (hfv : f i = nI v) (hv : v < 6) : dsF f g F pa ym (i + 1) = ((if g i - F i ≤ 0 then d else d + 1), upd pb v (pb v + F i), va_up yy d (upd (upd (yy d) 0 (f i)) 1 (g i - F i))) := by
  show ((if g i - F i ≤ 0 then (dsF f g F pa ym i).1 else (dsF f g F pa ym i).1 + 1), upd (dsF f g F pa ym i).2.1 (f i).toNatClampNeg ((dsF f g F pa ym i).2.1 (f i).toNatClampNeg + F i), va_up (dsF f g F pa ym i).2.2 (dsF f g F pa ym i).1 (upd (upd ((dsF f g F pa ym i).2.2 (dsF f g F pa ym i).1) 0 (f i)) 1 (g i - F i))) = _
  have ec : (f i).toNatClampNeg = v := by rw [hfv, nI_clamp (by omega)]
  rw [hq, ec]
set_option maxHeartbeats 4000000 in
set_option maxRecDepth 100000 in
/-- ClinkerWorksModel.bestNow -/
theorem c_X11_bestNow (l : Launch) (G : VG) (M : Nat → Nat) (th du mny cl ws : Int32) (nb ny fd aw al y : Nat) (bR : Nat → Nat) (bm : Nat → Nat → Int32) (yR : Nat → Nat) (ym : Nat → Nat → Int32) (bz : Nat → BV) (f g : Nat → Int32) (p : Nat → Nat) (c : Nat) (hnb : nb ≤ 6) (hny : ny ≤ 8) (hbm : ∀ j, j < nb → bmR (bm j) (bz j)) (hkn : ∀ k, k < ny → ∃ v, v < nb ∧ f k = nI v ∧ ¬ (bz v).2.1 = 0) (hf : ∀ k, k < ny → ym k 0 = f k) (hg : ∀ k, k < ny → ym k 1 = g k) (hgp : ∀ j, j < ny → g j = nI (p j)) (hp : ∀ j, j < ny → p j ≤ 200) (hc1 : 1 ≤ c) (hc9 : c ≤ 9) (hcP : c ≤ nsm p ny) : Mi l G yX11_bestNow cX11_bestNow 11 .int 2 47 2 12 [.ref (M 0), .int (nI c)] [[(M 0, .inr (12, [.int th, .ref (M 1), .ref (M 2), .ref aw, .ref al, .ref (M 3), .ref (M 4), .ref (M 5), .ref (M 6), .ref y, .int (nI nb), .int (nI ny), .int du, .int mny, .int cl, .int (nI fd), .int ws]))], [(M 1, .inl (G.2.1 9, 6, .inr (.inr (.inr (.inr (rfN 6 bR))))))], famW 6 (fun ι => iaP G (bR ι) 6 (bm ι)), [(M 2, .inl (G.2.1 9, 8, .inr (.inr (.inr (.inr (rfN 8 yR))))))], famW 8 (fun ι => iaP G (yR ι) 2 (ym ι))] (fun r u => ∃ w : Int32, bsP (cmM bz f p ny c) w ∧ w = r ∧ u = [[(M 0, .inr (12, [.int th, .ref (M 1), .ref (M 2), .ref aw, .ref al, .ref (M 3), .ref (M 4), .ref (M 5), .ref (M 6), .ref y, .int (nI nb), .int (nI ny), .int du, .int mny, .int cl, .int (nI fd), .int ws]))], [(M 1, .inl (G.2.1 9, 6, .inr (.inr (.inr (.inr (rfN 6 bR))))))], famW 6 (fun ι => iaP G (bR ι) 6 (bm ι)), [(M 2, .inl (G.2.1 9, 8, .inr (.inr (.inr (.inr (rfN 8 yR))))))], famW 8 (fun ι => iaP G (yR ι) 2 (ym ι))]) := by
  refine Mi_of (by decide) (Nat.le_of_ble_eq_true rfl) (fun pP eE sS mM aA bB tT cC AA QQ hC hr hnm hQ => ?_)
  refine V_aload_n hC dX11_bestNow_0 0 rfl ?_
  refine V_iload_n hC dX11_bestNow_1 1 rfl ?_
  refine V_callr hC (V_runV hC (rest := []) [.int (nI c)] (Mr_sz (c_X11_cutOf l G M th du mny cl ws nb ny fd aw al y yR ym g p c hny hg hgp hp hc1 hc9 hcP)) [0, 3, 4] rfl (by decide) q1179 q1181 q23 q52 q1182 ⟨by decide, by decide, rfl⟩ ⟨by decide, by decide⟩ (ci := 12) rfl (mem_at 0 0 rfl rfl) rfl (Nat.le_of_ble_eq_true rfl) ⟨by decide, by decide⟩ dX11_bestNow_2) (is := [0, 3, 4]) rfl [1, 2] (rs := [[(M 1, .inl (G.2.1 9, 6, .inr (.inr (.inr (.inr (rfN 6 bR))))))], famW 6 (fun ι => iaP G (bR ι) 6 (bm ι))]) rfl (by decide) (by decide) ?_
  rintro _ _ ⟨q, F, rfl, hF, rfl⟩
  refine V_astore_n hC dX11_bestNow_5 (L' := [(2, .ref q), (0, .ref (M 0)), (1, .int (nI c))]) (by decide) rfl ?_
  refine V_iconst hC dX11_bestNow_6 (v := 4) (by decide) ?_
  refine V_newa_i hC q103 (N := 4) (by decide) (by decide) (by decide) (by decide) (by decide) dX11_bestNow_7 (fun q2 => ?_)
  refine V_astore_n hC dX11_bestNow_9 (L' := [(3, .ref q2), (2, .ref q), (0, .ref (M 0)), (1, .int (nI c))]) (by decide) rfl ?_
  refine V_iconst hC dX11_bestNow_10 (v := (-1)) (by decide) ?_
  refine V_istore hC dX11_bestNow_11 (L' := [(4, .int (-1)), (3, .ref q2), (2, .ref q), (0, .ref (M 0)), (1, .int (nI c))]) (by decide) rfl ?_
  refine V_bipush hC dX11_bestNow_13 (v := 99) (by decide) ?_
  refine V_istore hC dX11_bestNow_15 (L' := [(5, .int 99), (4, .int (-1)), (3, .ref q2), (2, .ref q), (0, .ref (M 0)), (1, .int (nI c))]) (by decide) rfl ?_
  refine V_iconst hC dX11_bestNow_17 (v := 0) (by decide) ?_
  refine V_istore hC dX11_bestNow_18 (L' := [(6, .int 0), (5, .int 99), (4, .int (-1)), (3, .ref q2), (2, .ref q), (0, .ref (M 0)), (1, .int (nI c))]) (by decide) rfl ?_
  have loop3 : ∀ (fuel : Nat) (k : Nat) (m : Nat → Int32) (hk : k ≤ 64) (_ : 64 - k < fuel), V pP l eE { frames := 2, cells := 2, slots := 12, locals := 47 } sS mM aA bB tT cC QQ G AA 11 [[(M 0, .inr (12, [.int th, .ref (M 1), .ref (M 2), .ref aw, .ref al, .ref (M 3), .ref (M 4), .ref (M 5), .ref (M 6), .ref y, .int (nI nb), .int (nI ny), .int du, .int mny, .int cl, .int (nI fd), .int ws]))], [(M 1, .inl (G.2.1 9, 6, .inr (.inr (.inr (.inr (rfN 6 bR))))))], famW 6 (fun ι => iaP G (bR ι) 6 (bm ι)), [(M 2, .inl (G.2.1 9, 8, .inr (.inr (.inr (.inr (rfN 8 yR))))))], famW 8 (fun ι => iaP G (yR ι) 2 (ym ι)), [(q, .inl (G.2.1 0, 8, .inl F))], [(q2, .inl (G.2.1 0, 4, .inl m))]] 2 12 20 [(0, .ref (M 0)), (1, .int (nI c)), (2, .ref q), (3, .ref q2), (4, .int ((bsF (cmM bz f p ny c) k).1)), (5, .int (nI (bsF (cmM bz f p ny c) k).2)), (6, .int (nI k))] [] := by
    intro fuel
    induction fuel with
    | zero => intro k m hk hm; exact absurd hm (Nat.not_lt_zero _)
    | succ fuel ih =>
      intro k m hk hm
      refine V_iload hC dX11_bestNow_20 6 rfl ?_
      refine V_bipush hC dX11_bestNow_22 (v := 64) (by decide) ?_
      refine V_icmp_ge hC dX11_bestNow_24 (tgt := 139) (by decide) (fun h4 => ?_) (fun h4 => ?_)
      · have he : k = 64 := by have := nle (a := 64) h4; omega
        have hB : bsP (cmM bz f p ny c) (bsF (cmM bz f p ny c) k).1 := by rw [he]; exact Eq.refl _
        refine V_iload hC dX11_bestNow_139 4 rfl ?_
        exact V_iret hC hQ hr [0, 1, 2, 3, 4] (u := [[(M 0, .inr (12, [.int th, .ref (M 1), .ref (M 2), .ref aw, .ref al, .ref (M 3), .ref (M 4), .ref (M 5), .ref (M 6), .ref y, .int (nI nb), .int (nI ny), .int du, .int mny, .int cl, .int (nI fd), .int ws]))], [(M 1, .inl (G.2.1 9, 6, .inr (.inr (.inr (.inr (rfN 6 bR))))))], famW 6 (fun ι => iaP G (bR ι) 6 (bm ι)), [(M 2, .inl (G.2.1 9, 8, .inr (.inr (.inr (.inr (rfN 8 yR))))))], famW 8 (fun ι => iaP G (yR ι) 2 (ym ι))]) (by decide) rfl (by decide) (by decide) dX11_bestNow_141 (⟨_, hB, rfl, rfl⟩)
      · have hlt := nnle (a := 64) h4
        refine V_iload hC dX11_bestNow_27 6 rfl ?_
        refine V_bipush hC dX11_bestNow_29 (v := 16) (by decide) ?_
        refine V_idiv hC dX11_bestNow_31 (by decide) ?_
        refine V_eqi (y := nI (k / 16)) (pk_div (d := 16) (by omega) (by omega) (by omega)) ?_
        refine V_istore hC dX11_bestNow_32 (L' := [(7, .int (nI (k / 16))), (0, .ref (M 0)), (1, .int (nI c)), (2, .ref q), (3, .ref q2), (4, .int ((bsF (cmM bz f p ny c) k).1)), (5, .int (nI (bsF (cmM bz f p ny c) k).2)), (6, .int (nI k))]) (by decide) rfl ?_
        refine V_iload hC dX11_bestNow_34 7 rfl ?_
        refine V_iconst hC dX11_bestNow_36 (v := 4) (by decide) ?_
        refine V_idiv hC dX11_bestNow_37 (by decide) ?_
        refine V_eqi (y := nI (k / 4)) (pk_div (d := 4) (by omega) (by omega) (by omega)) ?_
        refine V_iconst hC dX11_bestNow_38 (v := 4) (by decide) ?_
        refine V_irem hC dX11_bestNow_39 (by decide) ?_
        refine V_eqi (y := nI (k / 4 % 4)) (pk_rem (d := 4) (by omega) (by omega) (by omega)) ?_
        refine V_istore hC dX11_bestNow_40 (L' := [(8, .int (nI (k / 4 % 4))), (7, .int (nI (k / 16))), (0, .ref (M 0)), (1, .int (nI c)), (2, .ref q), (3, .ref q2), (4, .int ((bsF (cmM bz f p ny c) k).1)), (5, .int (nI (bsF (cmM bz f p ny c) k).2)), (6, .int (nI k))]) (by decide) rfl ?_
        refine V_iload hC dX11_bestNow_42 8 rfl ?_
        refine V_iconst hC dX11_bestNow_44 (v := 4) (by decide) ?_
        refine V_irem hC dX11_bestNow_45 (by decide) ?_
        refine V_eqi (y := nI (k % 4)) (pk_rem (d := 4) (by omega) (by omega) (by omega)) ?_
        refine V_istore hC dX11_bestNow_46 (L' := [(9, .int (nI (k % 4))), (8, .int (nI (k / 4 % 4))), (7, .int (nI (k / 16))), (0, .ref (M 0)), (1, .int (nI c)), (2, .ref q), (3, .ref q2), (4, .int ((bsF (cmM bz f p ny c) k).1)), (5, .int (nI (bsF (cmM bz f p ny c) k).2)), (6, .int (nI k))]) (by decide) rfl ?_
        refine V_iload hC dX11_bestNow_48 2 rfl ?_
        refine V_iload hC dX11_bestNow_50 1 rfl ?_
        refine V_iadd hC dX11_bestNow_52 ?_
        refine V_eqi (y := nI (k / 16 + k / 4 % 4)) (nI_add _ _) ?_
        refine V_iload hC dX11_bestNow_53 0 rfl ?_
        refine V_iadd hC dX11_bestNow_55 ?_
        refine V_eqi (y := nI (k / 16 + k / 4 % 4 + k % 4)) (nI_add _ _) ?_
        refine V_iload hC dX11_bestNow_56 8 rfl ?_
        refine V_icmp_lt hC dX11_bestNow_58 (tgt := 64) (by decide) (fun h5 => ?_) (fun h5 => ?_)
        · have hb9 := bsF_le (cm := (cmM bz f p ny c)) k
          have hlt2 : (k / 16 + k / 4 % 4 + k % 4) < (bsF (cmM bz f p ny c) k).2 := nI_ltE h5
          refine V_iconst hC dX11_bestNow_64 (v := 0) (by decide) ?_
          refine V_istore hC dX11_bestNow_65 (L' := [(10, .int 0), (9, .int (nI (k % 4))), (8, .int (nI (k / 4 % 4))), (7, .int (nI (k / 16))), (0, .ref (M 0)), (1, .int (nI c)), (2, .ref q), (3, .ref q2), (4, .int ((bsF (cmM bz f p ny c) k).1)), (5, .int (nI (bsF (cmM bz f p ny c) k).2)), (6, .int (nI k))]) (by decide) rfl ?_
          refine V_iload hC dX11_bestNow_67 0 rfl ?_
          refine V_iconst hC dX11_bestNow_69 (v := 4) (by decide) ?_
          refine V_icmp_geF hC dX11_bestNow_70 (tgt := 84) (by decide) (by decide) ?_
          refine V_aload_n hC dX11_bestNow_73 7 rfl ?_
          refine V_iload hC dX11_bestNow_74 0 rfl ?_
          refine V_iconst hC dX11_bestNow_76 (v := 0) (by decide) ?_
          refine V_iast hC dX11_bestNow_77 6 0 rfl rfl (vin (by decide)) (z := 0) (by decide) (ps' := [[(M 0, .inr (12, [.int th, .ref (M 1), .ref (M 2), .ref aw, .ref al, .ref (M 3), .ref (M 4), .ref (M 5), .ref (M 6), .ref y, .int (nI nb), .int (nI ny), .int du, .int mny, .int cl, .int (nI fd), .int ws]))], [(M 1, .inl (G.2.1 9, 6, .inr (.inr (.inr (.inr (rfN 6 bR))))))], famW 6 (fun ι => iaP G (bR ι) 6 (bm ι)), [(M 2, .inl (G.2.1 9, 8, .inr (.inr (.inr (.inr (rfN 8 yR))))))], famW 8 (fun ι => iaP G (yR ι) 2 (ym ι)), [(q, .inl (G.2.1 0, 8, .inl F))], [(q2, .inl (G.2.1 0, 4, .inl (upd m 0 0)))]]) rfl ?_
          refine V_iinc hC dX11_bestNow_78 (v := 1) (L' := [(10, .int 1), (9, .int (nI (k % 4))), (8, .int (nI (k / 4 % 4))), (7, .int (nI (k / 16))), (0, .ref (M 0)), (1, .int (nI c)), (2, .ref q), (3, .ref q2), (4, .int ((bsF (cmM bz f p ny c) k).1)), (5, .int (nI (bsF (cmM bz f p ny c) k).2)), (6, .int (nI k))]) (j := 0) rfl (by decide) (by decide) rfl ?_
          refine V_goto hC dX11_bestNow_81 (tgt := 67) (by decide) ?_
          refine V_iload hC dX11_bestNow_67 0 rfl ?_
          refine V_iconst hC dX11_bestNow_69 (v := 4) (by decide) ?_
          refine V_icmp_geF hC dX11_bestNow_70 (tgt := 84) (by decide) (by decide) ?_
          refine V_aload_n hC dX11_bestNow_73 7 rfl ?_
          refine V_iload hC dX11_bestNow_74 0 rfl ?_
          refine V_iconst hC dX11_bestNow_76 (v := 0) (by decide) ?_
          refine V_iast hC dX11_bestNow_77 6 0 rfl rfl (vin (by decide)) (z := 1) (by decide) (ps' := [[(M 0, .inr (12, [.int th, .ref (M 1), .ref (M 2), .ref aw, .ref al, .ref (M 3), .ref (M 4), .ref (M 5), .ref (M 6), .ref y, .int (nI nb), .int (nI ny), .int du, .int mny, .int cl, .int (nI fd), .int ws]))], [(M 1, .inl (G.2.1 9, 6, .inr (.inr (.inr (.inr (rfN 6 bR))))))], famW 6 (fun ι => iaP G (bR ι) 6 (bm ι)), [(M 2, .inl (G.2.1 9, 8, .inr (.inr (.inr (.inr (rfN 8 yR))))))], famW 8 (fun ι => iaP G (yR ι) 2 (ym ι)), [(q, .inl (G.2.1 0, 8, .inl F))], [(q2, .inl (G.2.1 0, 4, .inl (upd (upd m 0 0) 1 0)))]]) rfl ?_
          refine V_iinc hC dX11_bestNow_78 (v := 2) (L' := [(10, .int 2), (9, .int (nI (k % 4))), (8, .int (nI (k / 4 % 4))), (7, .int (nI (k / 16))), (0, .ref (M 0)), (1, .int (nI c)), (2, .ref q), (3, .ref q2), (4, .int ((bsF (cmM bz f p ny c) k).1)), (5, .int (nI (bsF (cmM bz f p ny c) k).2)), (6, .int (nI k))]) (j := 0) rfl (by decide) (by decide) rfl ?_
          refine V_goto hC dX11_bestNow_81 (tgt := 67) (by decide) ?_
          refine V_iload hC dX11_bestNow_67 0 rfl ?_
          refine V_iconst hC dX11_bestNow_69 (v := 4) (by decide) ?_
          refine V_icmp_geF hC dX11_bestNow_70 (tgt := 84) (by decide) (by decide) ?_
          refine V_aload_n hC dX11_bestNow_73 7 rfl ?_
          refine V_iload hC dX11_bestNow_74 0 rfl ?_
          refine V_iconst hC dX11_bestNow_76 (v := 0) (by decide) ?_
          refine V_iast hC dX11_bestNow_77 6 0 rfl rfl (vin (by decide)) (z := 2) (by decide) (ps' := [[(M 0, .inr (12, [.int th, .ref (M 1), .ref (M 2), .ref aw, .ref al, .ref (M 3), .ref (M 4), .ref (M 5), .ref (M 6), .ref y, .int (nI nb), .int (nI ny), .int du, .int mny, .int cl, .int (nI fd), .int ws]))], [(M 1, .inl (G.2.1 9, 6, .inr (.inr (.inr (.inr (rfN 6 bR))))))], famW 6 (fun ι => iaP G (bR ι) 6 (bm ι)), [(M 2, .inl (G.2.1 9, 8, .inr (.inr (.inr (.inr (rfN 8 yR))))))], famW 8 (fun ι => iaP G (yR ι) 2 (ym ι)), [(q, .inl (G.2.1 0, 8, .inl F))], [(q2, .inl (G.2.1 0, 4, .inl (upd (upd (upd m 0 0) 1 0) 2 0)))]]) rfl ?_
          refine V_iinc hC dX11_bestNow_78 (v := 3) (L' := [(10, .int 3), (9, .int (nI (k % 4))), (8, .int (nI (k / 4 % 4))), (7, .int (nI (k / 16))), (0, .ref (M 0)), (1, .int (nI c)), (2, .ref q), (3, .ref q2), (4, .int ((bsF (cmM bz f p ny c) k).1)), (5, .int (nI (bsF (cmM bz f p ny c) k).2)), (6, .int (nI k))]) (j := 0) rfl (by decide) (by decide) rfl ?_
          refine V_goto hC dX11_bestNow_81 (tgt := 67) (by decide) ?_
          refine V_iload hC dX11_bestNow_67 0 rfl ?_
          refine V_iconst hC dX11_bestNow_69 (v := 4) (by decide) ?_
          refine V_icmp_geF hC dX11_bestNow_70 (tgt := 84) (by decide) (by decide) ?_
          refine V_aload_n hC dX11_bestNow_73 7 rfl ?_
          refine V_iload hC dX11_bestNow_74 0 rfl ?_
          refine V_iconst hC dX11_bestNow_76 (v := 0) (by decide) ?_
          refine V_iast hC dX11_bestNow_77 6 0 rfl rfl (vin (by decide)) (z := 3) (by decide) (ps' := [[(M 0, .inr (12, [.int th, .ref (M 1), .ref (M 2), .ref aw, .ref al, .ref (M 3), .ref (M 4), .ref (M 5), .ref (M 6), .ref y, .int (nI nb), .int (nI ny), .int du, .int mny, .int cl, .int (nI fd), .int ws]))], [(M 1, .inl (G.2.1 9, 6, .inr (.inr (.inr (.inr (rfN 6 bR))))))], famW 6 (fun ι => iaP G (bR ι) 6 (bm ι)), [(M 2, .inl (G.2.1 9, 8, .inr (.inr (.inr (.inr (rfN 8 yR))))))], famW 8 (fun ι => iaP G (yR ι) 2 (ym ι)), [(q, .inl (G.2.1 0, 8, .inl F))], [(q2, .inl (G.2.1 0, 4, .inl (upd (upd (upd (upd m 0 0) 1 0) 2 0) 3 0)))]]) rfl ?_
          refine V_iinc hC dX11_bestNow_78 (v := 4) (L' := [(10, .int 4), (9, .int (nI (k % 4))), (8, .int (nI (k / 4 % 4))), (7, .int (nI (k / 16))), (0, .ref (M 0)), (1, .int (nI c)), (2, .ref q), (3, .ref q2), (4, .int ((bsF (cmM bz f p ny c) k).1)), (5, .int (nI (bsF (cmM bz f p ny c) k).2)), (6, .int (nI k))]) (j := 0) rfl (by decide) (by decide) rfl ?_
          refine V_goto hC dX11_bestNow_81 (tgt := 67) (by decide) ?_
          refine V_iload hC dX11_bestNow_67 0 rfl ?_
          refine V_iconst hC dX11_bestNow_69 (v := 4) (by decide) ?_
          refine V_icmp_geT hC dX11_bestNow_70 (tgt := 84) (by decide) (by decide) ?_
          refine V_aload_n hC dX11_bestNow_84 4 rfl ?_
          refine V_aload_n hC dX11_bestNow_85 7 rfl ?_
          refine V_aload_n hC dX11_bestNow_86 6 rfl ?_
          refine V_iload hC dX11_bestNow_87 3 rfl ?_
          refine V_iload hC dX11_bestNow_89 2 rfl ?_
          refine V_iload hC dX11_bestNow_91 1 rfl ?_
          refine V_callv hC (V_runV hC (rest := []) [.ref q2, .ref q, .int (nI (k / 16)), .int (nI (k / 4 % 4)), .int (nI (k % 4))] (c_X11_fill l G M th du mny cl ws nb ny fd aw al y bR bm yR ym bz f q2 q (upd (upd (upd (upd m 0 0) 1 0) 2 0) 3 0) F (nI (k / 16)) (nI (k / 4 % 4)) (nI (k % 4)) hnb hny hbm hkn hf) [0, 1, 2, 3, 4, 6, 5] rfl (by decide) q1185 q1187 q24 q52 q1188 ⟨by decide, by decide, rfl⟩ ⟨by decide, by decide⟩ (ci := 12) rfl (mem_at 0 0 rfl rfl) rfl (Nat.le_of_ble_eq_true rfl) ⟨by decide, by decide⟩ dX11_bestNow_93) (is := [0, 1, 2, 3, 4, 6, 5]) rfl [] (rs := []) rfl (by decide) (by decide) ?_
          rintro _ rfl
          refine V_aload_n hC dX11_bestNow_96 7 rfl ?_
          refine V_iconst hC dX11_bestNow_97 (v := 3) (by decide) ?_
          refine V_calli hC (V_runS hC (rest := []) [.ref q2, .int 3] (c_X11_modulusOf l G q2 (mxBins (msF bz f F (upd (upd (upd (upd m 0 0) 1 0) 2 0) 3 0) ny) (nI (k / 16)) (nI (k / 4 % 4)) (nI (k % 4))) 3) [5] rfl (by decide) q1255 q1256 q52 q1257 ⟨by decide, by decide, rfl⟩ ⟨by decide, by decide⟩ rfl (Nat.le_of_ble_eq_true rfl) ⟨by decide, by decide⟩ dX11_bestNow_98) (is := [5]) rfl [0, 1, 2, 3, 4, 6] (rs := [[(M 0, .inr (12, [.int th, .ref (M 1), .ref (M 2), .ref aw, .ref al, .ref (M 3), .ref (M 4), .ref (M 5), .ref (M 6), .ref y, .int (nI nb), .int (nI ny), .int du, .int mny, .int cl, .int (nI fd), .int ws]))], [(M 1, .inl (G.2.1 9, 6, .inr (.inr (.inr (.inr (rfN 6 bR))))))], famW 6 (fun ι => iaP G (bR ι) 6 (bm ι)), [(M 2, .inl (G.2.1 9, 8, .inr (.inr (.inr (.inr (rfN 8 yR))))))], famW 8 (fun ι => iaP G (yR ι) 2 (ym ι)), [(q, .inl (G.2.1 0, 8, .inl F))]]) rfl (by decide) (by decide) ?_
          rintro _ _ ⟨rfl, rfl⟩
          refine V_eqi (y := rtM (cmM bz f p ny c) k) (rtM_eq hF) ?_
          refine V_if_ne hC dX11_bestNow_101 (tgt := 107) (by decide) (fun h6 => ?_) (fun h6 => ?_)
          · have hr0 : ¬ rtM (cmM bz f p ny c) k = 0 := h6
            refine V_bipush hC dX11_bestNow_107 (v := 100) (by decide) ?_
            refine V_iload hC dX11_bestNow_109 3 rfl ?_
            refine V_imul hC dX11_bestNow_111 ?_
            refine V_bipush hC dX11_bestNow_112 (v := 10) (by decide) ?_
            refine V_iload hC dX11_bestNow_114 2 rfl ?_
            refine V_imul hC dX11_bestNow_116 ?_
            refine V_iadd hC dX11_bestNow_117 ?_
            refine V_iload hC dX11_bestNow_118 1 rfl ?_
            refine V_iadd hC dX11_bestNow_120 ?_
            refine V_eqi (y := nI (100 * (k / 16) + 10 * (k / 4 % 4) + k % 4)) (bs_num) ?_
            refine V_istore hC dX11_bestNow_121 (L' := [(4, .int (nI (100 * (k / 16) + 10 * (k / 4 % 4) + k % 4))), (10, .int 4), (9, .int (nI (k % 4))), (8, .int (nI (k / 4 % 4))), (7, .int (nI (k / 16))), (0, .ref (M 0)), (1, .int (nI c)), (2, .ref q), (3, .ref q2), (5, .int (nI (bsF (cmM bz f p ny c) k).2)), (6, .int (nI k))]) (by decide) rfl ?_
            refine V_iload hC dX11_bestNow_123 4 rfl ?_
            refine V_iload hC dX11_bestNow_125 3 rfl ?_
            refine V_iadd hC dX11_bestNow_127 ?_
            refine V_eqi (y := nI (k / 16 + k / 4 % 4)) (nI_add _ _) ?_
            refine V_iload hC dX11_bestNow_128 2 rfl ?_
            refine V_iadd hC dX11_bestNow_130 ?_
            refine V_eqi (y := nI (k / 16 + k / 4 % 4 + k % 4)) (nI_add _ _) ?_
            refine V_istore hC dX11_bestNow_131 (L' := [(5, .int (nI (k / 16 + k / 4 % 4 + k % 4))), (4, .int (nI (100 * (k / 16) + 10 * (k / 4 % 4) + k % 4))), (10, .int 4), (9, .int (nI (k % 4))), (8, .int (nI (k / 4 % 4))), (7, .int (nI (k / 16))), (0, .ref (M 0)), (1, .int (nI c)), (2, .ref q), (3, .ref q2), (6, .int (nI k))]) (by decide) rfl ?_
            refine V_iinc hC dX11_bestNow_133 (v := nI (k + 1)) (L' := [(6, .int (nI (k + 1))), (5, .int (nI (k / 16 + k / 4 % 4 + k % 4))), (4, .int (nI (100 * (k / 16) + 10 * (k / 4 % 4) + k % 4))), (10, .int 4), (9, .int (nI (k % 4))), (8, .int (nI (k / 4 % 4))), (7, .int (nI (k / 16))), (0, .ref (M 0)), (1, .int (nI c)), (2, .ref q), (3, .ref q2)]) (j := 10) rfl (nI_1 _) (by decide) rfl ?_
            refine V_goto hC dX11_bestNow_136 (tgt := 20) (by decide) ?_
            refine V_loc (L' := [(0, .ref (M 0)), (1, .int (nI c)), (2, .ref q), (3, .ref q2), (4, .int (nI (100 * (k / 16) + 10 * (k / 4 % 4) + k % 4))), (5, .int (nI (k / 16 + k / 4 % 4 + k % 4))), (6, .int (nI (k + 1)))]) [7, 8, 9, 10, 2, 1, 0] rfl ?_
            refine V_sub [1, 2, 3, 4, 5, 6, 0] (by decide) (u := [[(M 0, .inr (12, [.int th, .ref (M 1), .ref (M 2), .ref aw, .ref al, .ref (M 3), .ref (M 4), .ref (M 5), .ref (M 6), .ref y, .int (nI nb), .int (nI ny), .int du, .int mny, .int cl, .int (nI fd), .int ws]))], [(M 1, .inl (G.2.1 9, 6, .inr (.inr (.inr (.inr (rfN 6 bR))))))], famW 6 (fun ι => iaP G (bR ι) 6 (bm ι)), [(M 2, .inl (G.2.1 9, 8, .inr (.inr (.inr (.inr (rfN 8 yR))))))], famW 8 (fun ι => iaP G (yR ι) 2 (ym ι)), [(q, .inl (G.2.1 0, 8, .inl F))], [(q2, .inl (G.2.1 0, 4, .inl (mxBins (msF bz f F (upd (upd (upd (upd m 0 0) 1 0) 2 0) 3 0) ny) (nI (k / 16)) (nI (k / 4 % 4)) (nI (k % 4)))))]]) rfl ?_
            have e : (bsF (cmM bz f p ny c) (k + 1)) = (nI (100 * (k / 16) + 10 * (k / 4 % 4) + k % 4), (k / 16 + k / 4 % 4 + k % 4)) := bsF_s.trans ((if_pos hlt2).trans (if_neg hr0))
            have hh := ih (k + 1) ((mxBins (msF bz f F (upd (upd (upd (upd m 0 0) 1 0) 2 0) 3 0) ny) (nI (k / 16)) (nI (k / 4 % 4)) (nI (k % 4)))) (by omega) (by omega)
            rw [e] at hh
            exact hh
          · have hr0 : rtM (cmM bz f p ny c) k = 0 := h6
            refine V_goto hC dX11_bestNow_104 (tgt := 133) (by decide) ?_
            refine V_iinc hC dX11_bestNow_133 (v := nI (k + 1)) (L' := [(6, .int (nI (k + 1))), (10, .int 4), (9, .int (nI (k % 4))), (8, .int (nI (k / 4 % 4))), (7, .int (nI (k / 16))), (0, .ref (M 0)), (1, .int (nI c)), (2, .ref q), (3, .ref q2), (4, .int ((bsF (cmM bz f p ny c) k).1)), (5, .int (nI (bsF (cmM bz f p ny c) k).2))]) (j := 10) rfl (nI_1 _) (by decide) rfl ?_
            refine V_goto hC dX11_bestNow_136 (tgt := 20) (by decide) ?_
            refine V_loc (L' := [(0, .ref (M 0)), (1, .int (nI c)), (2, .ref q), (3, .ref q2), (4, .int ((bsF (cmM bz f p ny c) k).1)), (5, .int (nI (bsF (cmM bz f p ny c) k).2)), (6, .int (nI (k + 1)))]) [5, 6, 7, 8, 9, 10, 0] rfl ?_
            refine V_sub [1, 2, 3, 4, 5, 6, 0] (by decide) (u := [[(M 0, .inr (12, [.int th, .ref (M 1), .ref (M 2), .ref aw, .ref al, .ref (M 3), .ref (M 4), .ref (M 5), .ref (M 6), .ref y, .int (nI nb), .int (nI ny), .int du, .int mny, .int cl, .int (nI fd), .int ws]))], [(M 1, .inl (G.2.1 9, 6, .inr (.inr (.inr (.inr (rfN 6 bR))))))], famW 6 (fun ι => iaP G (bR ι) 6 (bm ι)), [(M 2, .inl (G.2.1 9, 8, .inr (.inr (.inr (.inr (rfN 8 yR))))))], famW 8 (fun ι => iaP G (yR ι) 2 (ym ι)), [(q, .inl (G.2.1 0, 8, .inl F))], [(q2, .inl (G.2.1 0, 4, .inl (mxBins (msF bz f F (upd (upd (upd (upd m 0 0) 1 0) 2 0) 3 0) ny) (nI (k / 16)) (nI (k / 4 % 4)) (nI (k % 4)))))]]) rfl ?_
            have e : (bsF (cmM bz f p ny c) (k + 1)) = (bsF (cmM bz f p ny c) k) := bsF_s.trans ((if_pos hlt2).trans (if_pos hr0))
            have hh := ih (k + 1) ((mxBins (msF bz f F (upd (upd (upd (upd m 0 0) 1 0) 2 0) 3 0) ny) (nI (k / 16)) (nI (k / 4 % 4)) (nI (k % 4)))) (by omega) (by omega)
            rw [e] at hh
            exact hh
        · have hb9 := bsF_le (cm := (cmM bz f p ny c)) k
          have hlt2 : ¬ (k / 16 + k / 4 % 4 + k % 4) < (bsF (cmM bz f p ny c) k).2 := nI_ltN h5
          refine V_goto hC dX11_bestNow_61 (tgt := 133) (by decide) ?_
          refine V_iinc hC dX11_bestNow_133 (v := nI (k + 1)) (L' := [(6, .int (nI (k + 1))), (9, .int (nI (k % 4))), (8, .int (nI (k / 4 % 4))), (7, .int (nI (k / 16))), (0, .ref (M 0)), (1, .int (nI c)), (2, .ref q), (3, .ref q2), (4, .int ((bsF (cmM bz f p ny c) k).1)), (5, .int (nI (bsF (cmM bz f p ny c) k).2))]) (j := 9) rfl (nI_1 _) (by decide) rfl ?_
          refine V_goto hC dX11_bestNow_136 (tgt := 20) (by decide) ?_
          refine V_loc (L' := [(0, .ref (M 0)), (1, .int (nI c)), (2, .ref q), (3, .ref q2), (4, .int ((bsF (cmM bz f p ny c) k).1)), (5, .int (nI (bsF (cmM bz f p ny c) k).2)), (6, .int (nI (k + 1)))]) [4, 5, 6, 7, 8, 9, 0] rfl ?_
          have e : (bsF (cmM bz f p ny c) (k + 1)) = (bsF (cmM bz f p ny c) k) := bsF_s.trans (if_neg hlt2)
          have hh := ih (k + 1) (m) (by omega) (by omega)
          rw [e] at hh
          exact hh
  refine V_loc (L' := [(0, .ref (M 0)), (1, .int (nI c)), (2, .ref q), (3, .ref q2), (4, .int (-1)), (5, .int 99), (6, .int 0)]) [5, 6, 4, 3, 2, 1, 0] rfl ?_
  refine V_sub [0, 4, 5, 1, 2, 3, 6] (by decide) (u := [[(M 0, .inr (12, [.int th, .ref (M 1), .ref (M 2), .ref aw, .ref al, .ref (M 3), .ref (M 4), .ref (M 5), .ref (M 6), .ref y, .int (nI nb), .int (nI ny), .int du, .int mny, .int cl, .int (nI fd), .int ws]))], [(M 1, .inl (G.2.1 9, 6, .inr (.inr (.inr (.inr (rfN 6 bR))))))], famW 6 (fun ι => iaP G (bR ι) 6 (bm ι)), [(M 2, .inl (G.2.1 9, 8, .inr (.inr (.inr (.inr (rfN 8 yR))))))], famW 8 (fun ι => iaP G (yR ι) 2 (ym ι)), [(q, .inl (G.2.1 0, 8, .inl F))], [(q2, .inl (G.2.1 0, 4, .inl (fun _ => 0)))]]) rfl ?_
  exact loop3 65 0 _ (Nat.zero_le _) (by omega)
set_option maxHeartbeats 4000000 in
set_option maxRecDepth 100000 in
/-- ClinkerWorksModel.bestCharge -/
theorem c_X11_bestCharge (l : Launch) (G : VG) (M : Nat → Nat) (th du mny cl ws : Int32) (nb ny fd aw al y : Nat) (bR : Nat → Nat) (bm : Nat → Nat → Int32) (yR : Nat → Nat) (ym : Nat → Nat → Int32) (bz : Nat → BV) (f g : Nat → Int32) (p : Nat → Nat) (x : Int32) (hnb : nb ≤ 6) (hny : ny ≤ 8) (hbm : ∀ j, j < nb → bmR (bm j) (bz j)) (hkn : ∀ k, k < ny → ∃ v, v < nb ∧ f k = nI v ∧ ¬ (bz v).2.1 = 0) (hf : ∀ k, k < ny → ym k 0 = f k) (hg : ∀ k, k < ny → ym k 1 = g k) (hgp : ∀ j, j < ny → g j = nI (p j)) (hp : ∀ j, j < ny → p j ≤ 200) : Mi l G yX11_bestCharge cX11_bestCharge 2 .int 3 77 2 12 [.ref (M 0), .int x] [[(M 0, .inr (12, [.int th, .ref (M 1), .ref (M 2), .ref aw, .ref al, .ref (M 3), .ref (M 4), .ref (M 5), .ref (M 6), .ref y, .int (nI nb), .int (nI ny), .int du, .int mny, .int cl, .int (nI fd), .int ws]))], [(M 1, .inl (G.2.1 9, 6, .inr (.inr (.inr (.inr (rfN 6 bR))))))], famW 6 (fun ι => iaP G (bR ι) 6 (bm ι)), [(M 2, .inl (G.2.1 9, 8, .inr (.inr (.inr (.inr (rfN 8 yR))))))], famW 8 (fun ι => iaP G (yR ι) 2 (ym ι))] (fun r v => (∃ tt : Int32, ((tt = 1 ∧ ¬ inR 1 9 x) ∨ (tt = 2 ∧ inR 1 9 x ∧ sm g ny < x)) ∧ r = 0 ∧ v = [[(M 0, .inr (12, [.int tt, .ref (M 1), .ref (M 2), .ref aw, .ref al, .ref (M 3), .ref (M 4), .ref (M 5), .ref (M 6), .ref y, .int (nI nb), .int (nI ny), .int du, .int mny, .int cl, .int (nI fd), .int ws]))], [(M 1, .inl (G.2.1 9, 6, .inr (.inr (.inr (.inr (rfN 6 bR))))))], famW 6 (fun ι => iaP G (bR ι) 6 (bm ι)), [(M 2, .inl (G.2.1 9, 8, .inr (.inr (.inr (.inr (rfN 8 yR))))))], famW 8 (fun ι => iaP G (yR ι) 2 (ym ι))]) ∨ (∃ c : Nat, 1 ≤ c ∧ c ≤ 9 ∧ x = nI c ∧ c ≤ nsm p ny ∧ bsP (cmM bz f p ny c) r ∧ v = [[(M 0, .inr (12, [.int 0, .ref (M 1), .ref (M 2), .ref aw, .ref al, .ref (M 3), .ref (M 4), .ref (M 5), .ref (M 6), .ref y, .int (nI nb), .int (nI ny), .int du, .int mny, .int cl, .int (nI fd), .int ws]))], [(M 1, .inl (G.2.1 9, 6, .inr (.inr (.inr (.inr (rfN 6 bR))))))], famW 6 (fun ι => iaP G (bR ι) 6 (bm ι)), [(M 2, .inl (G.2.1 9, 8, .inr (.inr (.inr (.inr (rfN 8 yR))))))], famW 8 (fun ι => iaP G (yR ι) 2 (ym ι))])) := by
  refine Mi_of (by decide) (Nat.le_of_ble_eq_true rfl) (fun pP eE sS mM aA bB tT cC AA QQ hC hr hnm hQ => ?_)
  have hP : nsm p ny ≤ 2000 := by have := nsm_b hp; omega
  refine V_aload_n hC dX11_bestCharge_0 0 rfl ?_
  refine V_iconst hC dX11_bestCharge_1 (v := 0) (by decide) ?_
  refine V_put hC dX11_bestCharge_2 inAX11 tyX11 tyX11_ok nmX11 0 0 rfl rfl rfl 0 (by decide) q1078 rfl rfl (rfl) (rfl) (Nat.le_of_ble_eq_true rfl) (ps' := [[(M 0, .inr (12, [.int 0, .ref (M 1), .ref (M 2), .ref aw, .ref al, .ref (M 3), .ref (M 4), .ref (M 5), .ref (M 6), .ref y, .int (nI nb), .int (nI ny), .int du, .int mny, .int cl, .int (nI fd), .int ws]))], [(M 1, .inl (G.2.1 9, 6, .inr (.inr (.inr (.inr (rfN 6 bR))))))], famW 6 (fun ι => iaP G (bR ι) 6 (bm ι)), [(M 2, .inl (G.2.1 9, 8, .inr (.inr (.inr (.inr (rfN 8 yR))))))], famW 8 (fun ι => iaP G (yR ι) 2 (ym ι))]) rfl ?_
  refine V_iload_n hC dX11_bestCharge_5 1 rfl ?_
  refine V_iconst hC dX11_bestCharge_6 (v := 1) (by decide) ?_
  refine V_bipush hC dX11_bestCharge_7 (v := 9) (by decide) ?_
  refine V_calli hC (V_runS hC (rest := []) [.int x, .int 1, .int 9] (c_X11_in l G x 1 9) [] rfl (by decide) q1138 q1139 q52 q1140 ⟨by decide, by decide, rfl⟩ ⟨by decide, by decide⟩ rfl (Nat.le_of_ble_eq_true rfl) ⟨by decide, by decide⟩ dX11_bestCharge_9) (is := []) rfl [0, 1, 2, 3, 4] (rs := [[(M 0, .inr (12, [.int 0, .ref (M 1), .ref (M 2), .ref aw, .ref al, .ref (M 3), .ref (M 4), .ref (M 5), .ref (M 6), .ref y, .int (nI nb), .int (nI ny), .int du, .int mny, .int cl, .int (nI fd), .int ws]))], [(M 1, .inl (G.2.1 9, 6, .inr (.inr (.inr (.inr (rfN 6 bR))))))], famW 6 (fun ι => iaP G (bR ι) 6 (bm ι)), [(M 2, .inl (G.2.1 9, 8, .inr (.inr (.inr (.inr (rfN 8 yR))))))], famW 8 (fun ι => iaP G (yR ι) 2 (ym ι))]) rfl (by decide) (by decide) ?_
  rintro _ _ ⟨rfl, rfl⟩
  refine V_if_ne hC dX11_bestCharge_12 (tgt := 21) (by decide) (fun h1 => ?_) (fun h1 => ?_)
  · have hx := moIn_y h1
    obtain ⟨c, hb1, hb2, rfl⟩ := inR_of1 (K := 1) (M := 9) hx
    refine V_aload_n hC dX11_bestCharge_21 0 rfl ?_
    refine V_calli hC (V_runV hC (rest := []) [] (c_X11_pile l G M 0 du mny cl ws nb ny fd aw al y yR ym g hny hg) [0, 3, 4] rfl (by decide) q1165 q1167 q22 q52 q1168 ⟨by decide, by decide, rfl⟩ ⟨by decide, by decide⟩ (ci := 12) rfl (mem_at 0 0 rfl rfl) rfl (Nat.le_of_ble_eq_true rfl) ⟨by decide, by decide⟩ dX11_bestCharge_22) (is := [0, 3, 4]) rfl [1, 2] (rs := [[(M 1, .inl (G.2.1 9, 6, .inr (.inr (.inr (.inr (rfN 6 bR))))))], famW 6 (fun ι => iaP G (bR ι) 6 (bm ι))]) rfl (by decide) (by decide) ?_
    rintro _ _ ⟨rfl, rfl⟩
    refine V_iload_n hC dX11_bestCharge_25 1 rfl ?_
    refine V_icmp_ge hC dX11_bestCharge_26 (tgt := 35) (by decide) (fun h2 => ?_) (fun h2 => ?_)
    · have hge := h2
      refine V_aload_n hC dX11_bestCharge_35 0 rfl ?_
      refine V_iload_n hC dX11_bestCharge_36 1 rfl ?_
      have hcP : c ≤ nsm p ny := by rw [sm_nat hgp] at hge; exact nle hge
      refine V_calli hC (V_runV hC (rest := []) [.int (nI c)] (c_X11_bestNow l G M 0 du mny cl ws nb ny fd aw al y bR bm yR ym bz f g p c hnb hny hbm hkn hf hg hgp hp hb1 hb2 hcP) [0, 3, 4, 1, 2] rfl (by decide) q1476 q1478 q38 q52 q1479 ⟨by decide, by decide, rfl⟩ ⟨by decide, by decide⟩ (ci := 12) rfl (mem_at 0 0 rfl rfl) rfl (Nat.le_of_ble_eq_true rfl) ⟨by decide, by decide⟩ dX11_bestCharge_37) (is := [0, 3, 4, 1, 2]) rfl [] (rs := []) rfl (by decide) (by decide) ?_
      rintro _ _ ⟨w3, hbp3, rfl, rfl⟩
      exact V_iret hC hQ hr [0, 1, 2, 3, 4] (u := [[(M 0, .inr (12, [.int 0, .ref (M 1), .ref (M 2), .ref aw, .ref al, .ref (M 3), .ref (M 4), .ref (M 5), .ref (M 6), .ref y, .int (nI nb), .int (nI ny), .int du, .int mny, .int cl, .int (nI fd), .int ws]))], [(M 1, .inl (G.2.1 9, 6, .inr (.inr (.inr (.inr (rfN 6 bR))))))], famW 6 (fun ι => iaP G (bR ι) 6 (bm ι)), [(M 2, .inl (G.2.1 9, 8, .inr (.inr (.inr (.inr (rfN 8 yR))))))], famW 8 (fun ι => iaP G (yR ι) 2 (ym ι))]) (by decide) rfl (by decide) (by decide) dX11_bestCharge_40 (Or.inr ⟨c, hb1, hb2, rfl, hcP, hbp3, rfl⟩)
    · have hlo : sm g ny < nI c := i32_lt h2
      refine V_aload_n hC dX11_bestCharge_29 0 rfl ?_
      refine V_iconst hC dX11_bestCharge_30 (v := 2) (by decide) ?_
      refine V_calli hC (V_runV hC (rest := []) [.int 2] (c_X11_no l G M 0 du mny cl ws nb ny fd aw al y 2) [0] rfl (by decide) q1141 q1143 q20 q52 q1144 ⟨by decide, by decide, rfl⟩ ⟨by decide, by decide⟩ (ci := 12) rfl (mem_at 0 0 rfl rfl) rfl (Nat.le_of_ble_eq_true rfl) ⟨by decide, by decide⟩ dX11_bestCharge_31) (is := [0]) rfl [1, 2, 3, 4] (rs := [[(M 2, .inl (G.2.1 9, 8, .inr (.inr (.inr (.inr (rfN 8 yR))))))], famW 8 (fun ι => iaP G (yR ι) 2 (ym ι)), [(M 1, .inl (G.2.1 9, 6, .inr (.inr (.inr (.inr (rfN 6 bR))))))], famW 6 (fun ι => iaP G (bR ι) 6 (bm ι))]) rfl (by decide) (by decide) ?_
      rintro _ _ ⟨rfl, rfl⟩
      exact V_iret hC hQ hr [0, 3, 4, 1, 2] (u := [[(M 0, .inr (12, [.int 2, .ref (M 1), .ref (M 2), .ref aw, .ref al, .ref (M 3), .ref (M 4), .ref (M 5), .ref (M 6), .ref y, .int (nI nb), .int (nI ny), .int du, .int mny, .int cl, .int (nI fd), .int ws]))], [(M 1, .inl (G.2.1 9, 6, .inr (.inr (.inr (.inr (rfN 6 bR))))))], famW 6 (fun ι => iaP G (bR ι) 6 (bm ι)), [(M 2, .inl (G.2.1 9, 8, .inr (.inr (.inr (.inr (rfN 8 yR))))))], famW 8 (fun ι => iaP G (yR ι) 2 (ym ι))]) (by decide) rfl (by decide) (by decide) dX11_bestCharge_34 (Or.inl ⟨2, Or.inr ⟨rfl, hx, hlo⟩, rfl, rfl⟩)
  · refine V_aload_n hC dX11_bestCharge_15 0 rfl ?_
    refine V_iconst hC dX11_bestCharge_16 (v := 1) (by decide) ?_
    refine V_calli hC (V_runV hC (rest := []) [.int 1] (c_X11_no l G M 0 du mny cl ws nb ny fd aw al y 1) [0] rfl (by decide) q1141 q1143 q20 q52 q1144 ⟨by decide, by decide, rfl⟩ ⟨by decide, by decide⟩ (ci := 12) rfl (mem_at 0 0 rfl rfl) rfl (Nat.le_of_ble_eq_true rfl) ⟨by decide, by decide⟩ dX11_bestCharge_17) (is := [0]) rfl [1, 2, 3, 4] (rs := [[(M 1, .inl (G.2.1 9, 6, .inr (.inr (.inr (.inr (rfN 6 bR))))))], famW 6 (fun ι => iaP G (bR ι) 6 (bm ι)), [(M 2, .inl (G.2.1 9, 8, .inr (.inr (.inr (.inr (rfN 8 yR))))))], famW 8 (fun ι => iaP G (yR ι) 2 (ym ι))]) rfl (by decide) (by decide) ?_
    rintro _ _ ⟨rfl, rfl⟩
    exact V_iret hC hQ hr [0, 1, 2, 3, 4] (u := [[(M 0, .inr (12, [.int 1, .ref (M 1), .ref (M 2), .ref aw, .ref al, .ref (M 3), .ref (M 4), .ref (M 5), .ref (M 6), .ref y, .int (nI nb), .int (nI ny), .int du, .int mny, .int cl, .int (nI fd), .int ws]))], [(M 1, .inl (G.2.1 9, 6, .inr (.inr (.inr (.inr (rfN 6 bR))))))], famW 6 (fun ι => iaP G (bR ι) 6 (bm ι)), [(M 2, .inl (G.2.1 9, 8, .inr (.inr (.inr (.inr (rfN 8 yR))))))], famW 8 (fun ι => iaP G (yR ι) 2 (ym ι))]) (by decide) rfl (by decide) (by decide) dX11_bestCharge_20 (Or.inl ⟨1, Or.inl ⟨rfl, moIn_n h1⟩, rfl, rfl⟩)
set_option maxHeartbeats 4000000 in
set_option maxRecDepth 100000 in
/-- ClinkerWorksModel.charge -/
theorem c_X11_charge (l : Launch) (G : VG) (M : Nat → Nat) (th du mny cl ws : Int32) (nb ny fd aw al y : Nat) (bR : Nat → Nat) (bm : Nat → Nat → Int32) (yR : Nat → Nat) (ym : Nat → Nat → Int32) (bz : Nat → BV) (f g : Nat → Int32) (p : Nat → Nat) (Q : Nat → Nat → Nat) (NC : Nat) (mz : Nat → MV) (bw : Nat) (mw : Int32) (Nw n : Nat) (x x1 x2 x3 : Int32) (hnb : nb ≤ 6) (hny : ny ≤ 8) (hbm : ∀ j, j < nb → bmR (bm j) (bz j)) (hkn : ∀ k, k < ny → ∃ v, v < nb ∧ f k = nI v ∧ ¬ (bz v).2.1 = 0) (hf : ∀ k, k < ny → ym k 0 = f k) (hg : ∀ k, k < ny → ym k 1 = g k) (hgp : ∀ j, j < ny → g j = nI (p j)) (hp : ∀ j, j < ny → p j ≤ 200) (hn : n ≤ 3) (hwk : alOk Nw n) (hnC : n ≤ NC) : Mi l G yX11_charge cX11_charge 9 .int 7 221 6 66 [.ref (M 0), .int x, .int x1, .int x2, .int x3] [[(M 0, .inr (12, [.int th, .ref (M 1), .ref (M 2), .ref aw, .ref al, .ref (M 3), .ref (M 4), .ref (M 5), .ref (M 6), .ref y, .int (nI nb), .int (nI ny), .int du, .int mny, .int cl, .int (nI fd), .int ws]))], [(M 1, .inl (G.2.1 9, 6, .inr (.inr (.inr (.inr (rfN 6 bR))))))], famW 6 (fun ι => iaP G (bR ι) 6 (bm ι)), [(M 2, .inl (G.2.1 9, 8, .inr (.inr (.inr (.inr (rfN 8 yR))))))], famW 8 (fun ι => iaP G (yR ι) 2 (ym ι)), famW NC (fun ι => mcP G (Q ι) (mz ι)), alP G aw bw mw Nw n (fun κ => (Q (NC - n + κ)) 0)] (fun r v => (∃ tt : Int32, ((tt = 1 ∧ ¬ (inR 1 9 x ∧ inR 0 3 x1 ∧ inR 0 3 x2 ∧ inR 0 3 x3)) ∨ (tt = 2 ∧ (inR 1 9 x ∧ inR 0 3 x1 ∧ inR 0 3 x2 ∧ inR 0 3 x3) ∧ (sm g ny < x ∨ n = 3))) ∧ r = 0 ∧ v = [[(M 0, .inr (12, [.int tt, .ref (M 1), .ref (M 2), .ref aw, .ref al, .ref (M 3), .ref (M 4), .ref (M 5), .ref (M 6), .ref y, .int (nI nb), .int (nI ny), .int du, .int mny, .int cl, .int (nI fd), .int ws]))], [(M 1, .inl (G.2.1 9, 6, .inr (.inr (.inr (.inr (rfN 6 bR))))))], famW 6 (fun ι => iaP G (bR ι) 6 (bm ι)), [(M 2, .inl (G.2.1 9, 8, .inr (.inr (.inr (.inr (rfN 8 yR))))))], famW 8 (fun ι => iaP G (yR ι) 2 (ym ι)), famW NC (fun ι => mcP G (Q ι) (mz ι)), alP G aw bw mw Nw n (fun κ => (Q (NC - n + κ)) 0)]) ∨ (∃ (c : Nat) (F : Nat → Int32) (q : Nat → Nat) (b2 N2 : Nat), 1 ≤ c ∧ c ≤ 9 ∧ x = nI c ∧ inR 0 3 x1 ∧ inR 0 3 x2 ∧ inR 0 3 x3 ∧ c ≤ nsm p ny ∧ n < 3 ∧ (∀ j, j < ny → F j = nI (cutN p ny c j)) ∧ alOk N2 (n + 1) ∧ r = moMod (mxBins (msF bz f F (fun _ => 0) ny) x1 x2 x3) 0 ∧ v = [[(M 0, .inr (12, [.int 0, .ref (M 1), .ref (M 2), .ref aw, .ref al, .ref (M 3), .ref (M 4), .ref (M 5), .ref (M 6), .ref y, .int (nI nb), .int (nI (dsF f g F (fun _ => 0) ym ny).1), .int du, .int mny, .int cl, .int (nI fd), .int ws]))], [(M 1, .inl (G.2.1 9, 6, .inr (.inr (.inr (.inr (rfN 6 bR))))))], famW 6 (fun ι => iaP G (bR ι) 6 (bm ι)), [(M 2, .inl (G.2.1 9, 8, .inr (.inr (.inr (.inr (rfN 8 yR))))))], famW 8 (fun ι => iaP G (yR ι) 2 (((dsF f g F (fun _ => 0) ym ny).2.2) ι)), famW (NC + 1) (fun ι => mcP G ((va_up Q NC q) ι) ((va_up mz NC (chM (mxBins (msF bz f F (fun _ => 0) ny) x1 x2 x3) (dsF f g F (fun _ => 0) ym ny).2.1)) ι)), alP G aw b2 (mw + 1) N2 (n + 1) (fun κ => ((va_up Q NC q) (NC + 1 - (n + 1) + κ)) 0)])) := by
  refine Mi_of (by decide) (Nat.le_of_ble_eq_true rfl) (fun pP eE sS mM aA bB tT cC AA QQ hC hr hnm hQ => ?_)
  have hP : nsm p ny ≤ 2000 := by have := nsm_b hp; omega
  refine V_aload_n hC dX11_charge_0 0 rfl ?_
  refine V_iconst hC dX11_charge_1 (v := 0) (by decide) ?_
  refine V_put hC dX11_charge_2 inAX11 tyX11 tyX11_ok nmX11 0 0 rfl rfl rfl 0 (by decide) q1078 rfl rfl (rfl) (rfl) (Nat.le_of_ble_eq_true rfl) (ps' := [[(M 0, .inr (12, [.int 0, .ref (M 1), .ref (M 2), .ref aw, .ref al, .ref (M 3), .ref (M 4), .ref (M 5), .ref (M 6), .ref y, .int (nI nb), .int (nI ny), .int du, .int mny, .int cl, .int (nI fd), .int ws]))], [(M 1, .inl (G.2.1 9, 6, .inr (.inr (.inr (.inr (rfN 6 bR))))))], famW 6 (fun ι => iaP G (bR ι) 6 (bm ι)), [(M 2, .inl (G.2.1 9, 8, .inr (.inr (.inr (.inr (rfN 8 yR))))))], famW 8 (fun ι => iaP G (yR ι) 2 (ym ι)), famW NC (fun ι => mcP G (Q ι) (mz ι)), alP G aw bw mw Nw n (fun κ => (Q (NC - n + κ)) 0)]) rfl ?_
  refine V_iload_n hC dX11_charge_5 1 rfl ?_
  refine V_iconst hC dX11_charge_6 (v := 1) (by decide) ?_
  refine V_bipush hC dX11_charge_7 (v := 9) (by decide) ?_
  refine V_calli hC (V_runS hC (rest := []) [.int x, .int 1, .int 9] (c_X11_in l G x 1 9) [] rfl (by decide) q1138 q1139 q52 q1140 ⟨by decide, by decide, rfl⟩ ⟨by decide, by decide⟩ rfl (Nat.le_of_ble_eq_true rfl) ⟨by decide, by decide⟩ dX11_charge_9) (is := []) rfl [0, 1, 2, 3, 4, 5, 6] (rs := [[(M 0, .inr (12, [.int 0, .ref (M 1), .ref (M 2), .ref aw, .ref al, .ref (M 3), .ref (M 4), .ref (M 5), .ref (M 6), .ref y, .int (nI nb), .int (nI ny), .int du, .int mny, .int cl, .int (nI fd), .int ws]))], [(M 1, .inl (G.2.1 9, 6, .inr (.inr (.inr (.inr (rfN 6 bR))))))], famW 6 (fun ι => iaP G (bR ι) 6 (bm ι)), [(M 2, .inl (G.2.1 9, 8, .inr (.inr (.inr (.inr (rfN 8 yR))))))], famW 8 (fun ι => iaP G (yR ι) 2 (ym ι)), famW NC (fun ι => mcP G (Q ι) (mz ι)), alP G aw bw mw Nw n (fun κ => (Q (NC - n + κ)) 0)]) rfl (by decide) (by decide) ?_
  rintro _ _ ⟨rfl, rfl⟩
  refine V_if_eq hC dX11_charge_12 (tgt := 43) (by decide) (fun h1 => ?_) (fun h1 => ?_)
  · refine V_aload_n hC dX11_charge_43 0 rfl ?_
    refine V_iconst hC dX11_charge_44 (v := 1) (by decide) ?_
    refine V_calli hC (V_runV hC (rest := []) [.int 1] (c_X11_no l G M 0 du mny cl ws nb ny fd aw al y 1) [0] rfl (by decide) q1141 q1143 q20 q52 q1144 ⟨by decide, by decide, rfl⟩ ⟨by decide, by decide⟩ (ci := 12) rfl (mem_at 0 0 rfl rfl) rfl (Nat.le_of_ble_eq_true rfl) ⟨by decide, by decide⟩ dX11_charge_45) (is := [0]) rfl [1, 2, 3, 4, 5, 6] (rs := [[(M 1, .inl (G.2.1 9, 6, .inr (.inr (.inr (.inr (rfN 6 bR))))))], famW 6 (fun ι => iaP G (bR ι) 6 (bm ι)), [(M 2, .inl (G.2.1 9, 8, .inr (.inr (.inr (.inr (rfN 8 yR))))))], famW 8 (fun ι => iaP G (yR ι) 2 (ym ι)), famW NC (fun ι => mcP G (Q ι) (mz ι)), alP G aw bw mw Nw n (fun κ => (Q (NC - n + κ)) 0)]) rfl (by decide) (by decide) ?_
    rintro _ _ ⟨rfl, rfl⟩
    exact V_iret hC hQ hr [0, 1, 2, 3, 4, 5, 6] (u := [[(M 0, .inr (12, [.int 1, .ref (M 1), .ref (M 2), .ref aw, .ref al, .ref (M 3), .ref (M 4), .ref (M 5), .ref (M 6), .ref y, .int (nI nb), .int (nI ny), .int du, .int mny, .int cl, .int (nI fd), .int ws]))], [(M 1, .inl (G.2.1 9, 6, .inr (.inr (.inr (.inr (rfN 6 bR))))))], famW 6 (fun ι => iaP G (bR ι) 6 (bm ι)), [(M 2, .inl (G.2.1 9, 8, .inr (.inr (.inr (.inr (rfN 8 yR))))))], famW 8 (fun ι => iaP G (yR ι) 2 (ym ι)), famW NC (fun ι => mcP G (Q ι) (mz ι)), alP G aw bw mw Nw n (fun κ => (Q (NC - n + κ)) 0)]) (by decide) rfl (by decide) (by decide) dX11_charge_48 (Or.inl ⟨1, Or.inl ⟨rfl, fun e => moIn_n h1 e.1⟩, rfl, rfl⟩)
  · have h1 := moIn_y h1
    refine V_iload_n hC dX11_charge_15 2 rfl ?_
    refine V_iconst hC dX11_charge_16 (v := 0) (by decide) ?_
    refine V_iconst hC dX11_charge_17 (v := 3) (by decide) ?_
    refine V_calli hC (V_runS hC (rest := []) [.int x1, .int 0, .int 3] (c_X11_in l G x1 0 3) [] rfl (by decide) q1138 q1139 q52 q1140 ⟨by decide, by decide, rfl⟩ ⟨by decide, by decide⟩ rfl (Nat.le_of_ble_eq_true rfl) ⟨by decide, by decide⟩ dX11_charge_18) (is := []) rfl [0, 1, 2, 3, 4, 5, 6] (rs := [[(M 0, .inr (12, [.int 0, .ref (M 1), .ref (M 2), .ref aw, .ref al, .ref (M 3), .ref (M 4), .ref (M 5), .ref (M 6), .ref y, .int (nI nb), .int (nI ny), .int du, .int mny, .int cl, .int (nI fd), .int ws]))], [(M 1, .inl (G.2.1 9, 6, .inr (.inr (.inr (.inr (rfN 6 bR))))))], famW 6 (fun ι => iaP G (bR ι) 6 (bm ι)), [(M 2, .inl (G.2.1 9, 8, .inr (.inr (.inr (.inr (rfN 8 yR))))))], famW 8 (fun ι => iaP G (yR ι) 2 (ym ι)), famW NC (fun ι => mcP G (Q ι) (mz ι)), alP G aw bw mw Nw n (fun κ => (Q (NC - n + κ)) 0)]) rfl (by decide) (by decide) ?_
    rintro _ _ ⟨rfl, rfl⟩
    refine V_if_eq hC dX11_charge_21 (tgt := 43) (by decide) (fun h2 => ?_) (fun h2 => ?_)
    · refine V_aload_n hC dX11_charge_43 0 rfl ?_
      refine V_iconst hC dX11_charge_44 (v := 1) (by decide) ?_
      refine V_calli hC (V_runV hC (rest := []) [.int 1] (c_X11_no l G M 0 du mny cl ws nb ny fd aw al y 1) [0] rfl (by decide) q1141 q1143 q20 q52 q1144 ⟨by decide, by decide, rfl⟩ ⟨by decide, by decide⟩ (ci := 12) rfl (mem_at 0 0 rfl rfl) rfl (Nat.le_of_ble_eq_true rfl) ⟨by decide, by decide⟩ dX11_charge_45) (is := [0]) rfl [1, 2, 3, 4, 5, 6] (rs := [[(M 1, .inl (G.2.1 9, 6, .inr (.inr (.inr (.inr (rfN 6 bR))))))], famW 6 (fun ι => iaP G (bR ι) 6 (bm ι)), [(M 2, .inl (G.2.1 9, 8, .inr (.inr (.inr (.inr (rfN 8 yR))))))], famW 8 (fun ι => iaP G (yR ι) 2 (ym ι)), famW NC (fun ι => mcP G (Q ι) (mz ι)), alP G aw bw mw Nw n (fun κ => (Q (NC - n + κ)) 0)]) rfl (by decide) (by decide) ?_
      rintro _ _ ⟨rfl, rfl⟩
      exact V_iret hC hQ hr [0, 1, 2, 3, 4, 5, 6] (u := [[(M 0, .inr (12, [.int 1, .ref (M 1), .ref (M 2), .ref aw, .ref al, .ref (M 3), .ref (M 4), .ref (M 5), .ref (M 6), .ref y, .int (nI nb), .int (nI ny), .int du, .int mny, .int cl, .int (nI fd), .int ws]))], [(M 1, .inl (G.2.1 9, 6, .inr (.inr (.inr (.inr (rfN 6 bR))))))], famW 6 (fun ι => iaP G (bR ι) 6 (bm ι)), [(M 2, .inl (G.2.1 9, 8, .inr (.inr (.inr (.inr (rfN 8 yR))))))], famW 8 (fun ι => iaP G (yR ι) 2 (ym ι)), famW NC (fun ι => mcP G (Q ι) (mz ι)), alP G aw bw mw Nw n (fun κ => (Q (NC - n + κ)) 0)]) (by decide) rfl (by decide) (by decide) dX11_charge_48 (Or.inl ⟨1, Or.inl ⟨rfl, fun e => moIn_n h2 e.2.1⟩, rfl, rfl⟩)
    · have h2 := moIn_y h2
      refine V_iload_n hC dX11_charge_24 3 rfl ?_
      refine V_iconst hC dX11_charge_25 (v := 0) (by decide) ?_
      refine V_iconst hC dX11_charge_26 (v := 3) (by decide) ?_
      refine V_calli hC (V_runS hC (rest := []) [.int x2, .int 0, .int 3] (c_X11_in l G x2 0 3) [] rfl (by decide) q1138 q1139 q52 q1140 ⟨by decide, by decide, rfl⟩ ⟨by decide, by decide⟩ rfl (Nat.le_of_ble_eq_true rfl) ⟨by decide, by decide⟩ dX11_charge_27) (is := []) rfl [0, 1, 2, 3, 4, 5, 6] (rs := [[(M 0, .inr (12, [.int 0, .ref (M 1), .ref (M 2), .ref aw, .ref al, .ref (M 3), .ref (M 4), .ref (M 5), .ref (M 6), .ref y, .int (nI nb), .int (nI ny), .int du, .int mny, .int cl, .int (nI fd), .int ws]))], [(M 1, .inl (G.2.1 9, 6, .inr (.inr (.inr (.inr (rfN 6 bR))))))], famW 6 (fun ι => iaP G (bR ι) 6 (bm ι)), [(M 2, .inl (G.2.1 9, 8, .inr (.inr (.inr (.inr (rfN 8 yR))))))], famW 8 (fun ι => iaP G (yR ι) 2 (ym ι)), famW NC (fun ι => mcP G (Q ι) (mz ι)), alP G aw bw mw Nw n (fun κ => (Q (NC - n + κ)) 0)]) rfl (by decide) (by decide) ?_
      rintro _ _ ⟨rfl, rfl⟩
      refine V_if_eq hC dX11_charge_30 (tgt := 43) (by decide) (fun h3 => ?_) (fun h3 => ?_)
      · refine V_aload_n hC dX11_charge_43 0 rfl ?_
        refine V_iconst hC dX11_charge_44 (v := 1) (by decide) ?_
        refine V_calli hC (V_runV hC (rest := []) [.int 1] (c_X11_no l G M 0 du mny cl ws nb ny fd aw al y 1) [0] rfl (by decide) q1141 q1143 q20 q52 q1144 ⟨by decide, by decide, rfl⟩ ⟨by decide, by decide⟩ (ci := 12) rfl (mem_at 0 0 rfl rfl) rfl (Nat.le_of_ble_eq_true rfl) ⟨by decide, by decide⟩ dX11_charge_45) (is := [0]) rfl [1, 2, 3, 4, 5, 6] (rs := [[(M 1, .inl (G.2.1 9, 6, .inr (.inr (.inr (.inr (rfN 6 bR))))))], famW 6 (fun ι => iaP G (bR ι) 6 (bm ι)), [(M 2, .inl (G.2.1 9, 8, .inr (.inr (.inr (.inr (rfN 8 yR))))))], famW 8 (fun ι => iaP G (yR ι) 2 (ym ι)), famW NC (fun ι => mcP G (Q ι) (mz ι)), alP G aw bw mw Nw n (fun κ => (Q (NC - n + κ)) 0)]) rfl (by decide) (by decide) ?_
        rintro _ _ ⟨rfl, rfl⟩
        exact V_iret hC hQ hr [0, 1, 2, 3, 4, 5, 6] (u := [[(M 0, .inr (12, [.int 1, .ref (M 1), .ref (M 2), .ref aw, .ref al, .ref (M 3), .ref (M 4), .ref (M 5), .ref (M 6), .ref y, .int (nI nb), .int (nI ny), .int du, .int mny, .int cl, .int (nI fd), .int ws]))], [(M 1, .inl (G.2.1 9, 6, .inr (.inr (.inr (.inr (rfN 6 bR))))))], famW 6 (fun ι => iaP G (bR ι) 6 (bm ι)), [(M 2, .inl (G.2.1 9, 8, .inr (.inr (.inr (.inr (rfN 8 yR))))))], famW 8 (fun ι => iaP G (yR ι) 2 (ym ι)), famW NC (fun ι => mcP G (Q ι) (mz ι)), alP G aw bw mw Nw n (fun κ => (Q (NC - n + κ)) 0)]) (by decide) rfl (by decide) (by decide) dX11_charge_48 (Or.inl ⟨1, Or.inl ⟨rfl, fun e => moIn_n h3 e.2.2.1⟩, rfl, rfl⟩)
      · have h3 := moIn_y h3
        refine V_iload hC dX11_charge_33 4 rfl ?_
        refine V_iconst hC dX11_charge_35 (v := 0) (by decide) ?_
        refine V_iconst hC dX11_charge_36 (v := 3) (by decide) ?_
        refine V_calli hC (V_runS hC (rest := []) [.int x3, .int 0, .int 3] (c_X11_in l G x3 0 3) [] rfl (by decide) q1138 q1139 q52 q1140 ⟨by decide, by decide, rfl⟩ ⟨by decide, by decide⟩ rfl (Nat.le_of_ble_eq_true rfl) ⟨by decide, by decide⟩ dX11_charge_37) (is := []) rfl [0, 1, 2, 3, 4, 5, 6] (rs := [[(M 0, .inr (12, [.int 0, .ref (M 1), .ref (M 2), .ref aw, .ref al, .ref (M 3), .ref (M 4), .ref (M 5), .ref (M 6), .ref y, .int (nI nb), .int (nI ny), .int du, .int mny, .int cl, .int (nI fd), .int ws]))], [(M 1, .inl (G.2.1 9, 6, .inr (.inr (.inr (.inr (rfN 6 bR))))))], famW 6 (fun ι => iaP G (bR ι) 6 (bm ι)), [(M 2, .inl (G.2.1 9, 8, .inr (.inr (.inr (.inr (rfN 8 yR))))))], famW 8 (fun ι => iaP G (yR ι) 2 (ym ι)), famW NC (fun ι => mcP G (Q ι) (mz ι)), alP G aw bw mw Nw n (fun κ => (Q (NC - n + κ)) 0)]) rfl (by decide) (by decide) ?_
        rintro _ _ ⟨rfl, rfl⟩
        refine V_if_ne hC dX11_charge_40 (tgt := 49) (by decide) (fun h4 => ?_) (fun h4 => ?_)
        · have h4 := moIn_y h4
          obtain ⟨c, hb1, hb2, rfl⟩ := inR_of1 (K := 1) (M := 9) h1
          refine V_aload_n hC dX11_charge_49 0 rfl ?_
          refine V_calli hC (V_runV hC (rest := []) [] (c_X11_pile l G M 0 du mny cl ws nb ny fd aw al y yR ym g hny hg) [0, 3, 4] rfl (by decide) q1165 q1167 q22 q52 q1168 ⟨by decide, by decide, rfl⟩ ⟨by decide, by decide⟩ (ci := 12) rfl (mem_at 0 0 rfl rfl) rfl (Nat.le_of_ble_eq_true rfl) ⟨by decide, by decide⟩ dX11_charge_50) (is := [0, 3, 4]) rfl [1, 2, 5, 6] (rs := [[(M 1, .inl (G.2.1 9, 6, .inr (.inr (.inr (.inr (rfN 6 bR))))))], famW 6 (fun ι => iaP G (bR ι) 6 (bm ι)), famW NC (fun ι => mcP G (Q ι) (mz ι)), alP G aw bw mw Nw n (fun κ => (Q (NC - n + κ)) 0)]) rfl (by decide) (by decide) ?_
          rintro _ _ ⟨rfl, rfl⟩
          refine V_iload_n hC dX11_charge_53 1 rfl ?_
          refine V_icmp_lt hC dX11_charge_54 (tgt := 70) (by decide) (fun h5 => ?_) (fun h5 => ?_)
          · have hlo := h5
            refine V_aload_n hC dX11_charge_70 0 rfl ?_
            refine V_iconst hC dX11_charge_71 (v := 2) (by decide) ?_
            refine V_calli hC (V_runV hC (rest := []) [.int 2] (c_X11_no l G M 0 du mny cl ws nb ny fd aw al y 2) [0] rfl (by decide) q1141 q1143 q20 q52 q1144 ⟨by decide, by decide, rfl⟩ ⟨by decide, by decide⟩ (ci := 12) rfl (mem_at 0 0 rfl rfl) rfl (Nat.le_of_ble_eq_true rfl) ⟨by decide, by decide⟩ dX11_charge_72) (is := [0]) rfl [1, 2, 3, 4, 5, 6] (rs := [[(M 2, .inl (G.2.1 9, 8, .inr (.inr (.inr (.inr (rfN 8 yR))))))], famW 8 (fun ι => iaP G (yR ι) 2 (ym ι)), [(M 1, .inl (G.2.1 9, 6, .inr (.inr (.inr (.inr (rfN 6 bR))))))], famW 6 (fun ι => iaP G (bR ι) 6 (bm ι)), famW NC (fun ι => mcP G (Q ι) (mz ι)), alP G aw bw mw Nw n (fun κ => (Q (NC - n + κ)) 0)]) rfl (by decide) (by decide) ?_
            rintro _ _ ⟨rfl, rfl⟩
            exact V_iret hC hQ hr [0, 3, 4, 1, 2, 5, 6] (u := [[(M 0, .inr (12, [.int 2, .ref (M 1), .ref (M 2), .ref aw, .ref al, .ref (M 3), .ref (M 4), .ref (M 5), .ref (M 6), .ref y, .int (nI nb), .int (nI ny), .int du, .int mny, .int cl, .int (nI fd), .int ws]))], [(M 1, .inl (G.2.1 9, 6, .inr (.inr (.inr (.inr (rfN 6 bR))))))], famW 6 (fun ι => iaP G (bR ι) 6 (bm ι)), [(M 2, .inl (G.2.1 9, 8, .inr (.inr (.inr (.inr (rfN 8 yR))))))], famW 8 (fun ι => iaP G (yR ι) 2 (ym ι)), famW NC (fun ι => mcP G (Q ι) (mz ι)), alP G aw bw mw Nw n (fun κ => (Q (NC - n + κ)) 0)]) (by decide) rfl (by decide) (by decide) dX11_charge_75 (Or.inl ⟨2, Or.inr ⟨rfl, ⟨h1, h2, h3, h4⟩, Or.inl hlo⟩, rfl, rfl⟩)
          · have hge := h5
            have hcP : c ≤ nsm p ny := by have h9 := hge; rw [sm_nat hgp] at h9; exact nle (i32_le h9)
            refine V_aload_n hC dX11_charge_57 0 rfl ?_
            refine V_get hC dX11_charge_58 inAX11 (mem_at 0 0 rfl rfl) rfl 3 (by decide) q1081 rfl (v := .ref aw) rfl ?_
            refine V_callFi hC (V_runF hC (rest := []) [] (c_al_size l G aw bw mw Nw n (fun κ => (Q (NC - n + κ)) 0)) [6] rfl (by decide) q1170 (by decide +kernel) q1176 q1174 q55 q1178 ⟨by decide, by decide, rfl⟩ ⟨by decide, by decide⟩ rfl (mem_at 6 0 rfl rfl) rfl (Nat.le_of_ble_eq_true rfl) ⟨by decide, by decide⟩ dX11_charge_61) (is := [6]) rfl [0, 1, 2, 3, 4, 5] (rs := [[(M 0, .inr (12, [.int 0, .ref (M 1), .ref (M 2), .ref aw, .ref al, .ref (M 3), .ref (M 4), .ref (M 5), .ref (M 6), .ref y, .int (nI nb), .int (nI ny), .int du, .int mny, .int cl, .int (nI fd), .int ws]))], [(M 2, .inl (G.2.1 9, 8, .inr (.inr (.inr (.inr (rfN 8 yR))))))], famW 8 (fun ι => iaP G (yR ι) 2 (ym ι)), [(M 1, .inl (G.2.1 9, 6, .inr (.inr (.inr (.inr (rfN 6 bR))))))], famW 6 (fun ι => iaP G (bR ι) 6 (bm ι)), famW NC (fun ι => mcP G (Q ι) (mz ι))]) rfl (by decide) (by decide) ?_
            rintro _ _ ⟨rfl, rfl⟩
            refine V_iconst hC dX11_charge_66 (v := 3) (by decide) ?_
            refine V_icmp_ne hC dX11_charge_67 (tgt := 76) (by decide) (fun h6 => ?_) (fun h6 => ?_)
            · have hn3 : n < 3 := by rcases Nat.lt_or_ge n 3 with h9 | h9; exact h9; exact absurd (show nI n = 3 from by rw [show n = 3 by omega]; rfl) h6
              refine V_aload_n hC dX11_charge_76 0 rfl ?_
              refine V_iload_n hC dX11_charge_77 1 rfl ?_
              refine V_callr hC (V_runV hC (rest := []) [.int (nI c)] (Mr_sz (c_X11_cutOf l G M 0 du mny cl ws nb ny fd aw al y yR ym g p c hny hg hgp hp hb1 hb2 hcP)) [1, 2, 3] rfl (by decide) q1179 q1181 q23 q52 q1182 ⟨by decide, by decide, rfl⟩ ⟨by decide, by decide⟩ (ci := 12) rfl (mem_at 1 0 rfl rfl) rfl (Nat.le_of_ble_eq_true rfl) ⟨by decide, by decide⟩ dX11_charge_78) (is := [1, 2, 3]) rfl [0, 4, 5, 6] (rs := [alP G aw bw mw Nw n (fun κ => (Q (NC - n + κ)) 0), [(M 1, .inl (G.2.1 9, 6, .inr (.inr (.inr (.inr (rfN 6 bR))))))], famW 6 (fun ι => iaP G (bR ι) 6 (bm ι)), famW NC (fun ι => mcP G (Q ι) (mz ι))]) rfl (by decide) (by decide) ?_
              rintro _ _ ⟨q, F, rfl, hF, rfl⟩
              refine V_astore hC dX11_charge_81 (L' := [(5, .ref q), (0, .ref (M 0)), (1, .int (nI c)), (2, .int x1), (3, .int x2), (4, .int x3)]) (by decide) rfl ?_
              refine V_new hC inAX9 tyX9 tyX9_ok (ci := 10) rfl q1183 q981 q57 (fs := [.null, .null, .int 0, .int 0, .int 0, .int 0, .int 0, .int 0, .int 0, .int 0, .int 0, .null]) (by decide +kernel) (by decide) (by decide) dX11_charge_83 (fun q8 => ?_)
              refine V_dup hC dX11_charge_86 rfl ?_
              refine V_callv hC (V_runIN hC (rest := [.ref q8]) (host := "ClinkerWorksModel") [] (c_X9_init l G q8) [8] rfl (by decide) (nest_mem (by decide +kernel)) q983 q57 q984 rfl ⟨by decide, by decide, rfl⟩ ⟨by decide, by decide⟩ rfl (Nat.le_of_ble_eq_true rfl) ⟨by decide, by decide⟩ dX11_charge_87) (is := [8]) rfl [0, 1, 2, 3, 4, 5, 6, 7] (rs := [[(M 0, .inr (12, [.int 0, .ref (M 1), .ref (M 2), .ref aw, .ref al, .ref (M 3), .ref (M 4), .ref (M 5), .ref (M 6), .ref y, .int (nI nb), .int (nI ny), .int du, .int mny, .int cl, .int (nI fd), .int ws]))], [(M 2, .inl (G.2.1 9, 8, .inr (.inr (.inr (.inr (rfN 8 yR))))))], famW 8 (fun ι => iaP G (yR ι) 2 (ym ι)), [(q, .inl (G.2.1 0, 8, .inl F))], alP G aw bw mw Nw n (fun κ => (Q (NC - n + κ)) 0), [(M 1, .inl (G.2.1 9, 6, .inr (.inr (.inr (.inr (rfN 6 bR))))))], famW 6 (fun ι => iaP G (bR ι) 6 (bm ι)), famW NC (fun ι => mcP G (Q ι) (mz ι))]) rfl (by decide) (by decide) ?_
              rintro _ ⟨o9, p9, fo9, rfl⟩
              refine V_astore hC dX11_charge_90 (L' := [(6, .ref q8), (5, .ref q), (0, .ref (M 0)), (1, .int (nI c)), (2, .int x1), (3, .int x2), (4, .int x3)]) (by decide) rfl ?_
              refine V_aload_n hC dX11_charge_92 2 rfl ?_
              refine V_aload hC dX11_charge_93 0 rfl ?_
              refine V_get hC dX11_charge_95 inAX9 (mem_at 0 0 rfl rfl) rfl 0 (by decide) q987 rfl (v := .ref o9) rfl ?_
              refine V_aload hC dX11_charge_98 1 rfl ?_
              refine V_iload_n hC dX11_charge_100 4 rfl ?_
              refine V_iload_n hC dX11_charge_101 5 rfl ?_
              refine V_iload hC dX11_charge_102 6 rfl ?_
              refine V_flat (ps' := [[(q8, .inr (10, [.ref o9, .ref p9, .int (mo0.1 0), .int (mo0.1 1), .int (mo0.1 2), .int (mo0.1 3), .int (mo0.1 4), .int (mo0.1 5), .int (mo0.1 6), .int (mo0.1 7), .int (mo0.1 8), .ref fo9]))], [(o9, .inl (G.2.1 0, 4, .inl mo0.2.1))], [(p9, .inl (G.2.1 0, 6, .inl mo0.2.2.1))], [(fo9, .inl (G.2.1 0, 3, .inl mo0.2.2.2))], [(M 0, .inr (12, [.int 0, .ref (M 1), .ref (M 2), .ref aw, .ref al, .ref (M 3), .ref (M 4), .ref (M 5), .ref (M 6), .ref y, .int (nI nb), .int (nI ny), .int du, .int mny, .int cl, .int (nI fd), .int ws]))], [(M 2, .inl (G.2.1 9, 8, .inr (.inr (.inr (.inr (rfN 8 yR))))))], famW 8 (fun ι => iaP G (yR ι) 2 (ym ι)), [(q, .inl (G.2.1 0, 8, .inl F))], alP G aw bw mw Nw n (fun κ => (Q (NC - n + κ)) 0), [(M 1, .inl (G.2.1 9, 6, .inr (.inr (.inr (.inr (rfN 6 bR))))))], famW 6 (fun ι => iaP G (bR ι) 6 (bm ι)), famW NC (fun ι => mcP G (Q ι) (mz ι))]) rfl ?_
              refine V_callv hC (V_runV hC (rest := []) [.ref o9, .ref q, .int x1, .int x2, .int x3] (c_X11_fill l G M 0 du mny cl ws nb ny fd aw al y bR bm yR ym bz f o9 q mo0.2.1 F x1 x2 x3 hnb hny hbm hkn hf) [4, 9, 10, 5, 6, 1, 7] rfl (by decide) q1185 q1187 q24 q52 q1188 ⟨by decide, by decide, rfl⟩ ⟨by decide, by decide⟩ (ci := 12) rfl (mem_at 4 0 rfl rfl) rfl (Nat.le_of_ble_eq_true rfl) ⟨by decide, by decide⟩ dX11_charge_104) (is := [4, 9, 10, 5, 6, 1, 7]) rfl [0, 2, 3, 8, 11] (rs := [[(q8, .inr (10, [.ref o9, .ref p9, .int (mo0.1 0), .int (mo0.1 1), .int (mo0.1 2), .int (mo0.1 3), .int (mo0.1 4), .int (mo0.1 5), .int (mo0.1 6), .int (mo0.1 7), .int (mo0.1 8), .ref fo9]))], [(p9, .inl (G.2.1 0, 6, .inl mo0.2.2.1))], [(fo9, .inl (G.2.1 0, 3, .inl mo0.2.2.2))], alP G aw bw mw Nw n (fun κ => (Q (NC - n + κ)) 0), famW NC (fun ι => mcP G (Q ι) (mz ι))]) rfl (by decide) (by decide) ?_
              rintro _ rfl
              refine V_sub [7, 5, 8, 9, 0, 1, 2, 3, 4, 6, 10, 11] (by decide) (u := [[(q8, .inr (10, [.ref o9, .ref p9, .int (mo0.1 0), .int (mo0.1 1), .int (mo0.1 2), .int (mo0.1 3), .int (mo0.1 4), .int (mo0.1 5), .int (mo0.1 6), .int (mo0.1 7), .int (mo0.1 8), .ref fo9]))], [(o9, .inl (G.2.1 0, 4, .inl (mxBins (msF bz f F mo0.2.1 ny) x1 x2 x3)))], [(p9, .inl (G.2.1 0, 6, .inl mo0.2.2.1))], [(fo9, .inl (G.2.1 0, 3, .inl mo0.2.2.2))], [(M 0, .inr (12, [.int 0, .ref (M 1), .ref (M 2), .ref aw, .ref al, .ref (M 3), .ref (M 4), .ref (M 5), .ref (M 6), .ref y, .int (nI nb), .int (nI ny), .int du, .int mny, .int cl, .int (nI fd), .int ws]))], [(M 1, .inl (G.2.1 9, 6, .inr (.inr (.inr (.inr (rfN 6 bR))))))], famW 6 (fun ι => iaP G (bR ι) 6 (bm ι)), [(M 2, .inl (G.2.1 9, 8, .inr (.inr (.inr (.inr (rfN 8 yR))))))], famW 8 (fun ι => iaP G (yR ι) 2 (ym ι)), [(q, .inl (G.2.1 0, 8, .inl F))], alP G aw bw mw Nw n (fun κ => (Q (NC - n + κ)) 0), famW NC (fun ι => mcP G (Q ι) (mz ι))]) rfl ?_
              refine V_flat (ps' := [mcP G (qf q8 o9 p9 fo9) (mo0.1, (mxBins (msF bz f F (fun _ => 0) ny) x1 x2 x3), mo0.2.2.1, mo0.2.2.2), [(M 0, .inr (12, [.int 0, .ref (M 1), .ref (M 2), .ref aw, .ref al, .ref (M 3), .ref (M 4), .ref (M 5), .ref (M 6), .ref y, .int (nI nb), .int (nI ny), .int du, .int mny, .int cl, .int (nI fd), .int ws]))], [(M 1, .inl (G.2.1 9, 6, .inr (.inr (.inr (.inr (rfN 6 bR))))))], famW 6 (fun ι => iaP G (bR ι) 6 (bm ι)), [(M 2, .inl (G.2.1 9, 8, .inr (.inr (.inr (.inr (rfN 8 yR))))))], famW 8 (fun ι => iaP G (yR ι) 2 (ym ι)), [(q, .inl (G.2.1 0, 8, .inl F))], alP G aw bw mw Nw n (fun κ => (Q (NC - n + κ)) 0), famW NC (fun ι => mcP G (Q ι) (mz ι))]) rfl ?_
              refine V_aload hC dX11_charge_107 0 rfl ?_
              refine V_callv hC (V_runV hC (rest := []) [] (c_X9_begin l G (qf q8 o9 p9 fo9) (mo0.1, (mxBins (msF bz f F (fun _ => 0) ny) x1 x2 x3), mo0.2.2.1, mo0.2.2.2)) [0] rfl (by decide) q1189 q1190 q1191 q57 q1192 ⟨by decide, by decide, rfl⟩ ⟨by decide, by decide⟩ (ci := 10) rfl (mem_at 0 0 rfl rfl) rfl (Nat.le_of_ble_eq_true rfl) ⟨by decide, by decide⟩ dX11_charge_109) (is := [0]) rfl [1, 2, 3, 4, 5, 6, 7, 8] (rs := [[(M 0, .inr (12, [.int 0, .ref (M 1), .ref (M 2), .ref aw, .ref al, .ref (M 3), .ref (M 4), .ref (M 5), .ref (M 6), .ref y, .int (nI nb), .int (nI ny), .int du, .int mny, .int cl, .int (nI fd), .int ws]))], [(M 1, .inl (G.2.1 9, 6, .inr (.inr (.inr (.inr (rfN 6 bR))))))], famW 6 (fun ι => iaP G (bR ι) 6 (bm ι)), [(M 2, .inl (G.2.1 9, 8, .inr (.inr (.inr (.inr (rfN 8 yR))))))], famW 8 (fun ι => iaP G (yR ι) 2 (ym ι)), [(q, .inl (G.2.1 0, 8, .inl F))], alP G aw bw mw Nw n (fun κ => (Q (NC - n + κ)) 0), famW NC (fun ι => mcP G (Q ι) (mz ι))]) rfl (by decide) (by decide) ?_
              rintro _ rfl
              refine V_iconst hC dX11_charge_112 (v := 0) (by decide) ?_
              refine V_istore hC dX11_charge_113 (L' := [(7, .int 0), (6, .ref q8), (5, .ref q), (0, .ref (M 0)), (1, .int (nI c)), (2, .int x1), (3, .int x2), (4, .int x3)]) (by decide) rfl ?_
              refine V_iconst hC dX11_charge_115 (v := 0) (by decide) ?_
              refine V_istore hC dX11_charge_116 (L' := [(8, .int 0), (7, .int 0), (6, .ref q8), (5, .ref q), (0, .ref (M 0)), (1, .int (nI c)), (2, .int x1), (3, .int x2), (4, .int x3)]) (by decide) rfl ?_
              have loop10 : ∀ (fuel : Nat) (i d : Nat) (pa : Nat → Int32) (yy : Nat → Nat → Int32) (hi : i ≤ ny) (hq : (dsF f g F (fun _ => 0) ym i) = (d, pa, yy)) (_ : ny - i < fuel), V pP l eE { frames := 7, cells := 6, slots := 66, locals := 221 } sS mM aA bB tT cC QQ G AA 9 [[(M 0, .inr (12, [.int 0, .ref (M 1), .ref (M 2), .ref aw, .ref al, .ref (M 3), .ref (M 4), .ref (M 5), .ref (M 6), .ref y, .int (nI nb), .int (nI ny), .int du, .int mny, .int cl, .int (nI fd), .int ws]))], [(M 1, .inl (G.2.1 9, 6, .inr (.inr (.inr (.inr (rfN 6 bR))))))], famW 6 (fun ι => iaP G (bR ι) 6 (bm ι)), [(M 2, .inl (G.2.1 9, 8, .inr (.inr (.inr (.inr (rfN 8 yR))))))], famW 8 (fun ι => iaP G (yR ι) 2 (yy ι)), [(q, .inl (G.2.1 0, 8, .inl F))], mcP G (qf q8 o9 p9 fo9) (chM (mxBins (msF bz f F (fun _ => 0) ny) x1 x2 x3) pa), famW NC (fun ι => mcP G (Q ι) (mz ι)), alP G aw bw mw Nw n (fun κ => (Q (NC - n + κ)) 0)] 5 33 118 [(0, .ref (M 0)), (1, .int (nI c)), (2, .int x1), (3, .int x2), (4, .int x3), (5, .ref q), (6, .ref q8), (7, .int (nI d)), (8, .int (nI i))] [] := by
                intro fuel
                induction fuel with
                | zero => intro i d pa yy hi hq hm; exact absurd hm (Nat.not_lt_zero _)
                | succ fuel ih =>
                  intro i d pa yy hi hq hm
                  refine V_iload hC dX11_charge_118 8 rfl ?_
                  refine V_aload_n hC dX11_charge_120 0 rfl ?_
                  refine V_get hC dX11_charge_121 inAX11 (mem_at 0 0 rfl rfl) rfl 11 (by decide) q1089 rfl (v := .int (nI ny)) rfl ?_
                  refine V_icmp_ge hC dX11_charge_124 (tgt := 220) (by decide) (fun h11 => ?_) (fun h11 => ?_)
                  · have he : i = ny := by have := nle h11; omega
                    rw [he] at hq
                    refine V_aload_n hC dX11_charge_220 0 rfl ?_
                    refine V_iload hC dX11_charge_221 7 rfl ?_
                    refine V_put hC dX11_charge_223 inAX11 tyX11 tyX11_ok nmX11 0 0 rfl rfl rfl 11 (by decide) q1089 rfl rfl (rfl) (rfl) (Nat.le_of_ble_eq_true rfl) (ps' := [[(M 0, .inr (12, [.int 0, .ref (M 1), .ref (M 2), .ref aw, .ref al, .ref (M 3), .ref (M 4), .ref (M 5), .ref (M 6), .ref y, .int (nI nb), .int (nI d), .int du, .int mny, .int cl, .int (nI fd), .int ws]))], [(M 1, .inl (G.2.1 9, 6, .inr (.inr (.inr (.inr (rfN 6 bR))))))], famW 6 (fun ι => iaP G (bR ι) 6 (bm ι)), [(M 2, .inl (G.2.1 9, 8, .inr (.inr (.inr (.inr (rfN 8 yR))))))], famW 8 (fun ι => iaP G (yR ι) 2 (yy ι)), [(q, .inl (G.2.1 0, 8, .inl F))], mcP G (qf q8 o9 p9 fo9) (chM (mxBins (msF bz f F (fun _ => 0) ny) x1 x2 x3) pa), famW NC (fun ι => mcP G (Q ι) (mz ι)), alP G aw bw mw Nw n (fun κ => (Q (NC - n + κ)) 0)]) rfl ?_
                    refine V_aload_n hC dX11_charge_226 0 rfl ?_
                    refine V_get hC dX11_charge_227 inAX11 (mem_at 0 0 rfl rfl) rfl 3 (by decide) q1081 rfl (v := .ref aw) rfl ?_
                    refine V_aload hC dX11_charge_230 6 rfl ?_
                    refine V_sub [7, 6, 0, 1, 2, 3, 4, 5, 8] (by decide) (u := [famW NC (fun ι => mcP G (Q ι) (mz ι)), mcP G (qf q8 o9 p9 fo9) (chM (mxBins (msF bz f F (fun _ => 0) ny) x1 x2 x3) pa), [(M 0, .inr (12, [.int 0, .ref (M 1), .ref (M 2), .ref aw, .ref al, .ref (M 3), .ref (M 4), .ref (M 5), .ref (M 6), .ref y, .int (nI nb), .int (nI d), .int du, .int mny, .int cl, .int (nI fd), .int ws]))], [(M 1, .inl (G.2.1 9, 6, .inr (.inr (.inr (.inr (rfN 6 bR))))))], famW 6 (fun ι => iaP G (bR ι) 6 (bm ι)), [(M 2, .inl (G.2.1 9, 8, .inr (.inr (.inr (.inr (rfN 8 yR))))))], famW 8 (fun ι => iaP G (yR ι) 2 (yy ι)), [(q, .inl (G.2.1 0, 8, .inl F))], alP G aw bw mw Nw n (fun κ => (Q (NC - n + κ)) 0)]) rfl ?_
                    refine V_flat (ps' := [(famW NC (fun ι => mcP G (Q ι) (mz ι)) ++ mcP G (qf q8 o9 p9 fo9) (chM (mxBins (msF bz f F (fun _ => 0) ny) x1 x2 x3) pa)), [(M 0, .inr (12, [.int 0, .ref (M 1), .ref (M 2), .ref aw, .ref al, .ref (M 3), .ref (M 4), .ref (M 5), .ref (M 6), .ref y, .int (nI nb), .int (nI d), .int du, .int mny, .int cl, .int (nI fd), .int ws]))], [(M 1, .inl (G.2.1 9, 6, .inr (.inr (.inr (.inr (rfN 6 bR))))))], famW 6 (fun ι => iaP G (bR ι) 6 (bm ι)), [(M 2, .inl (G.2.1 9, 8, .inr (.inr (.inr (.inr (rfN 8 yR))))))], famW 8 (fun ι => iaP G (yR ι) 2 (yy ι)), [(q, .inl (G.2.1 0, 8, .inl F))], alP G aw bw mw Nw n (fun κ => (Q (NC - n + κ)) 0)]) (by simp only [List.flatten_cons, List.append_assoc]) ?_
                    refine V_callFi hC (V_runF hC (rest := []) [.ref q8] (c_al_add l G aw bw mw Nw n (fun κ => (Q (NC - n + κ)) 0) q8 (famW NC (fun ι => mcP G (Q ι) (mz ι)) ++ mcP G (qf q8 o9 p9 fo9) (chM (mxBins (msF bz f F (fun _ => 0) ny) x1 x2 x3) pa)) _ hwk (by omega) (fun j hj => (pool_mem (Q := Q) (mz := mz) (show NC - n + j < NC by omega)).elim fun fs h9 => ⟨fs, List.mem_append.mpr (Or.inl h9)⟩) (List.mem_append.mpr (Or.inr (by unfold mcP; exact List.mem_cons_self ..)))) [7, 0] rfl (by decide) q1194 (by decide +kernel) q1199 q1197 q55 q1201 ⟨by decide, by decide, rfl⟩ ⟨by decide, by decide⟩ rfl (mem_at 7 0 rfl rfl) rfl (Nat.le_of_ble_eq_true rfl) ⟨by decide, by decide⟩ dX11_charge_232) (is := [7, 0]) rfl [1, 2, 3, 4, 5, 6] (rs := [[(M 0, .inr (12, [.int 0, .ref (M 1), .ref (M 2), .ref aw, .ref al, .ref (M 3), .ref (M 4), .ref (M 5), .ref (M 6), .ref y, .int (nI nb), .int (nI d), .int du, .int mny, .int cl, .int (nI fd), .int ws]))], [(M 1, .inl (G.2.1 9, 6, .inr (.inr (.inr (.inr (rfN 6 bR))))))], famW 6 (fun ι => iaP G (bR ι) 6 (bm ι)), [(M 2, .inl (G.2.1 9, 8, .inr (.inr (.inr (.inr (rfN 8 yR))))))], famW 8 (fun ι => iaP G (yR ι) 2 (yy ι)), [(q, .inl (G.2.1 0, 8, .inl F))]]) rfl (by decide) (by decide) ?_
                    rintro _ _ ⟨bb12, NN12, rfl, ok12, rfl⟩
                    refine V_sub [1, 0, 2, 3, 4, 5, 6, 7] (by decide) (u := [famW NC (fun ι => mcP G (Q ι) (mz ι)) ++ mcP G (qf q8 o9 p9 fo9) (chM (mxBins (msF bz f F (fun _ => 0) ny) x1 x2 x3) pa), alP G aw bb12 (mw + 1) NN12 (n + 1) (va_up (fun κ => (Q (NC - n + κ)) 0) n q8), [(M 0, .inr (12, [.int 0, .ref (M 1), .ref (M 2), .ref aw, .ref al, .ref (M 3), .ref (M 4), .ref (M 5), .ref (M 6), .ref y, .int (nI nb), .int (nI d), .int du, .int mny, .int cl, .int (nI fd), .int ws]))], [(M 1, .inl (G.2.1 9, 6, .inr (.inr (.inr (.inr (rfN 6 bR))))))], famW 6 (fun ι => iaP G (bR ι) 6 (bm ι)), [(M 2, .inl (G.2.1 9, 8, .inr (.inr (.inr (.inr (rfN 8 yR))))))], famW 8 (fun ι => iaP G (yR ι) 2 (yy ι)), [(q, .inl (G.2.1 0, 8, .inl F))]]) rfl ?_
                    refine V_flat (ps' := [famW NC (fun ι => mcP G (Q ι) (mz ι)), mcP G (qf q8 o9 p9 fo9) (chM (mxBins (msF bz f F (fun _ => 0) ny) x1 x2 x3) pa), alP G aw bb12 (mw + 1) NN12 (n + 1) (va_up (fun κ => (Q (NC - n + κ)) 0) n q8), [(M 0, .inr (12, [.int 0, .ref (M 1), .ref (M 2), .ref aw, .ref al, .ref (M 3), .ref (M 4), .ref (M 5), .ref (M 6), .ref y, .int (nI nb), .int (nI d), .int du, .int mny, .int cl, .int (nI fd), .int ws]))], [(M 1, .inl (G.2.1 9, 6, .inr (.inr (.inr (.inr (rfN 6 bR))))))], famW 6 (fun ι => iaP G (bR ι) 6 (bm ι)), [(M 2, .inl (G.2.1 9, 8, .inr (.inr (.inr (.inr (rfN 8 yR))))))], famW 8 (fun ι => iaP G (yR ι) 2 (yy ι)), [(q, .inl (G.2.1 0, 8, .inl F))]]) (by simp only [List.flatten_cons, List.append_assoc]) ?_
                    refine V_pop hC dX11_charge_237 rfl ?_
                    refine V_aload hC dX11_charge_238 6 rfl ?_
                    refine V_get hC dX11_charge_240 inAX9 (mem_at 1 0 rfl rfl) rfl 0 (by decide) q987 rfl (v := .ref o9) rfl ?_
                    refine V_iconst hC dX11_charge_243 (v := 0) (by decide) ?_
                    refine V_flat (ps' := [famW NC (fun ι => mcP G (Q ι) (mz ι)), [(q8, .inr (10, [.ref o9, .ref p9, .int (((chM (mxBins (msF bz f F (fun _ => 0) ny) x1 x2 x3) pa).1) 0), .int (((chM (mxBins (msF bz f F (fun _ => 0) ny) x1 x2 x3) pa).1) 1), .int (((chM (mxBins (msF bz f F (fun _ => 0) ny) x1 x2 x3) pa).1) 2), .int (((chM (mxBins (msF bz f F (fun _ => 0) ny) x1 x2 x3) pa).1) 3), .int (((chM (mxBins (msF bz f F (fun _ => 0) ny) x1 x2 x3) pa).1) 4), .int (((chM (mxBins (msF bz f F (fun _ => 0) ny) x1 x2 x3) pa).1) 5), .int (((chM (mxBins (msF bz f F (fun _ => 0) ny) x1 x2 x3) pa).1) 6), .int (((chM (mxBins (msF bz f F (fun _ => 0) ny) x1 x2 x3) pa).1) 7), .int (((chM (mxBins (msF bz f F (fun _ => 0) ny) x1 x2 x3) pa).1) 8), .ref fo9]))], [(o9, .inl (G.2.1 0, 4, .inl ((chM (mxBins (msF bz f F (fun _ => 0) ny) x1 x2 x3) pa).2.1)))], [(p9, .inl (G.2.1 0, 6, .inl ((chM (mxBins (msF bz f F (fun _ => 0) ny) x1 x2 x3) pa).2.2.1)))], [(fo9, .inl (G.2.1 0, 3, .inl ((chM (mxBins (msF bz f F (fun _ => 0) ny) x1 x2 x3) pa).2.2.2)))], alP G aw bb12 (mw + 1) NN12 (n + 1) (va_up (fun κ => (Q (NC - n + κ)) 0) n q8), [(M 0, .inr (12, [.int 0, .ref (M 1), .ref (M 2), .ref aw, .ref al, .ref (M 3), .ref (M 4), .ref (M 5), .ref (M 6), .ref y, .int (nI nb), .int (nI d), .int du, .int mny, .int cl, .int (nI fd), .int ws]))], [(M 1, .inl (G.2.1 9, 6, .inr (.inr (.inr (.inr (rfN 6 bR))))))], famW 6 (fun ι => iaP G (bR ι) 6 (bm ι)), [(M 2, .inl (G.2.1 9, 8, .inr (.inr (.inr (.inr (rfN 8 yR))))))], famW 8 (fun ι => iaP G (yR ι) 2 (yy ι)), [(q, .inl (G.2.1 0, 8, .inl F))]]) rfl ?_
                    refine V_calli hC (V_runS hC (rest := []) [.ref o9, .int 0] (c_X11_modulusOf l G o9 ((chM (mxBins (msF bz f F (fun _ => 0) ny) x1 x2 x3) pa).2.1) 0) [2] rfl (by decide) q1255 q1256 q52 q1257 ⟨by decide, by decide, rfl⟩ ⟨by decide, by decide⟩ rfl (Nat.le_of_ble_eq_true rfl) ⟨by decide, by decide⟩ dX11_charge_244) (is := [2]) rfl [0, 1, 3, 4, 5, 6, 7, 8, 9, 10, 11] (rs := [famW NC (fun ι => mcP G (Q ι) (mz ι)), [(q8, .inr (10, [.ref o9, .ref p9, .int (((chM (mxBins (msF bz f F (fun _ => 0) ny) x1 x2 x3) pa).1) 0), .int (((chM (mxBins (msF bz f F (fun _ => 0) ny) x1 x2 x3) pa).1) 1), .int (((chM (mxBins (msF bz f F (fun _ => 0) ny) x1 x2 x3) pa).1) 2), .int (((chM (mxBins (msF bz f F (fun _ => 0) ny) x1 x2 x3) pa).1) 3), .int (((chM (mxBins (msF bz f F (fun _ => 0) ny) x1 x2 x3) pa).1) 4), .int (((chM (mxBins (msF bz f F (fun _ => 0) ny) x1 x2 x3) pa).1) 5), .int (((chM (mxBins (msF bz f F (fun _ => 0) ny) x1 x2 x3) pa).1) 6), .int (((chM (mxBins (msF bz f F (fun _ => 0) ny) x1 x2 x3) pa).1) 7), .int (((chM (mxBins (msF bz f F (fun _ => 0) ny) x1 x2 x3) pa).1) 8), .ref fo9]))], [(p9, .inl (G.2.1 0, 6, .inl ((chM (mxBins (msF bz f F (fun _ => 0) ny) x1 x2 x3) pa).2.2.1)))], [(fo9, .inl (G.2.1 0, 3, .inl ((chM (mxBins (msF bz f F (fun _ => 0) ny) x1 x2 x3) pa).2.2.2)))], alP G aw bb12 (mw + 1) NN12 (n + 1) (va_up (fun κ => (Q (NC - n + κ)) 0) n q8), [(M 0, .inr (12, [.int 0, .ref (M 1), .ref (M 2), .ref aw, .ref al, .ref (M 3), .ref (M 4), .ref (M 5), .ref (M 6), .ref y, .int (nI nb), .int (nI d), .int du, .int mny, .int cl, .int (nI fd), .int ws]))], [(M 1, .inl (G.2.1 9, 6, .inr (.inr (.inr (.inr (rfN 6 bR))))))], famW 6 (fun ι => iaP G (bR ι) 6 (bm ι)), [(M 2, .inl (G.2.1 9, 8, .inr (.inr (.inr (.inr (rfN 8 yR))))))], famW 8 (fun ι => iaP G (yR ι) 2 (yy ι)), [(q, .inl (G.2.1 0, 8, .inl F))]]) rfl (by decide) (by decide) ?_
                    rintro _ _ ⟨rfl, rfl⟩
                    refine V_sub [2, 0, 3, 4, 1, 5, 6, 7, 8, 9, 10, 11] (by decide) (u := [[(q8, .inr (10, [.ref o9, .ref p9, .int (((chM (mxBins (msF bz f F (fun _ => 0) ny) x1 x2 x3) pa).1) 0), .int (((chM (mxBins (msF bz f F (fun _ => 0) ny) x1 x2 x3) pa).1) 1), .int (((chM (mxBins (msF bz f F (fun _ => 0) ny) x1 x2 x3) pa).1) 2), .int (((chM (mxBins (msF bz f F (fun _ => 0) ny) x1 x2 x3) pa).1) 3), .int (((chM (mxBins (msF bz f F (fun _ => 0) ny) x1 x2 x3) pa).1) 4), .int (((chM (mxBins (msF bz f F (fun _ => 0) ny) x1 x2 x3) pa).1) 5), .int (((chM (mxBins (msF bz f F (fun _ => 0) ny) x1 x2 x3) pa).1) 6), .int (((chM (mxBins (msF bz f F (fun _ => 0) ny) x1 x2 x3) pa).1) 7), .int (((chM (mxBins (msF bz f F (fun _ => 0) ny) x1 x2 x3) pa).1) 8), .ref fo9]))], [(o9, .inl (G.2.1 0, 4, .inl ((chM (mxBins (msF bz f F (fun _ => 0) ny) x1 x2 x3) pa).2.1)))], [(p9, .inl (G.2.1 0, 6, .inl ((chM (mxBins (msF bz f F (fun _ => 0) ny) x1 x2 x3) pa).2.2.1)))], [(fo9, .inl (G.2.1 0, 3, .inl ((chM (mxBins (msF bz f F (fun _ => 0) ny) x1 x2 x3) pa).2.2.2)))], famW NC (fun ι => mcP G (Q ι) (mz ι)), alP G aw bb12 (mw + 1) NN12 (n + 1) (va_up (fun κ => (Q (NC - n + κ)) 0) n q8), [(M 0, .inr (12, [.int 0, .ref (M 1), .ref (M 2), .ref aw, .ref al, .ref (M 3), .ref (M 4), .ref (M 5), .ref (M 6), .ref y, .int (nI nb), .int (nI d), .int du, .int mny, .int cl, .int (nI fd), .int ws]))], [(M 1, .inl (G.2.1 9, 6, .inr (.inr (.inr (.inr (rfN 6 bR))))))], famW 6 (fun ι => iaP G (bR ι) 6 (bm ι)), [(M 2, .inl (G.2.1 9, 8, .inr (.inr (.inr (.inr (rfN 8 yR))))))], famW 8 (fun ι => iaP G (yR ι) 2 (yy ι)), [(q, .inl (G.2.1 0, 8, .inl F))]]) rfl ?_
                    refine V_flat (ps' := [mcP G (qf q8 o9 p9 fo9) (chM (mxBins (msF bz f F (fun _ => 0) ny) x1 x2 x3) pa), famW NC (fun ι => mcP G (Q ι) (mz ι)), alP G aw bb12 (mw + 1) NN12 (n + 1) (va_up (fun κ => (Q (NC - n + κ)) 0) n q8), [(M 0, .inr (12, [.int 0, .ref (M 1), .ref (M 2), .ref aw, .ref al, .ref (M 3), .ref (M 4), .ref (M 5), .ref (M 6), .ref y, .int (nI nb), .int (nI d), .int du, .int mny, .int cl, .int (nI fd), .int ws]))], [(M 1, .inl (G.2.1 9, 6, .inr (.inr (.inr (.inr (rfN 6 bR))))))], famW 6 (fun ι => iaP G (bR ι) 6 (bm ι)), [(M 2, .inl (G.2.1 9, 8, .inr (.inr (.inr (.inr (rfN 8 yR))))))], famW 8 (fun ι => iaP G (yR ι) 2 (yy ι)), [(q, .inl (G.2.1 0, 8, .inl F))]]) rfl ?_
                    refine V_sub [1, 0, 2, 3, 4, 5, 6, 7, 8] (by decide) (u := [famW NC (fun ι => mcP G (Q ι) (mz ι)), mcP G (qf q8 o9 p9 fo9) (chM (mxBins (msF bz f F (fun _ => 0) ny) x1 x2 x3) pa), alP G aw bb12 (mw + 1) NN12 (n + 1) (va_up (fun κ => (Q (NC - n + κ)) 0) n q8), [(M 0, .inr (12, [.int 0, .ref (M 1), .ref (M 2), .ref aw, .ref al, .ref (M 3), .ref (M 4), .ref (M 5), .ref (M 6), .ref y, .int (nI nb), .int (nI d), .int du, .int mny, .int cl, .int (nI fd), .int ws]))], [(M 1, .inl (G.2.1 9, 6, .inr (.inr (.inr (.inr (rfN 6 bR))))))], famW 6 (fun ι => iaP G (bR ι) 6 (bm ι)), [(M 2, .inl (G.2.1 9, 8, .inr (.inr (.inr (.inr (rfN 8 yR))))))], famW 8 (fun ι => iaP G (yR ι) 2 (yy ι)), [(q, .inl (G.2.1 0, 8, .inl F))]]) rfl ?_
                    refine V_growF (g' := fun ι => mcP G ((va_up Q NC (qf q8 o9 p9 fo9)) ι) ((va_up mz NC (chM (mxBins (msF bz f F (fun _ => 0) ny) x1 x2 x3) (dsF f g F (fun _ => 0) ym ny).2.1)) ι)) (fun j hj => by show mcP G ((va_up Q NC (qf q8 o9 p9 fo9)) j) ((va_up mz NC (chM (mxBins (msF bz f F (fun _ => 0) ny) x1 x2 x3) (dsF f g F (fun _ => 0) ym ny).2.1)) j) = _; rw [va_up_ne _ _ (by omega), va_up_ne _ _ (by omega)]) (by show mcP G ((va_up Q NC (qf q8 o9 p9 fo9)) NC) ((va_up mz NC (chM (mxBins (msF bz f F (fun _ => 0) ny) x1 x2 x3) (dsF f g F (fun _ => 0) ym ny).2.1)) NC) = _; rw [va_up_eq, va_up_eq, hq]) ?_
                    refine V_psEq (ps' := [famW (NC + 1) (fun ι => mcP G ((va_up Q NC (qf q8 o9 p9 fo9)) ι) ((va_up mz NC (chM (mxBins (msF bz f F (fun _ => 0) ny) x1 x2 x3) (dsF f g F (fun _ => 0) ym ny).2.1)) ι)), alP G aw bb12 (mw + 1) NN12 (n + 1) (fun κ => ((va_up Q NC (qf q8 o9 p9 fo9)) (NC + 1 - (n + 1) + κ)) 0), [(M 0, .inr (12, [.int 0, .ref (M 1), .ref (M 2), .ref aw, .ref al, .ref (M 3), .ref (M 4), .ref (M 5), .ref (M 6), .ref y, .int (nI nb), .int (nI d), .int du, .int mny, .int cl, .int (nI fd), .int ws]))], [(M 1, .inl (G.2.1 9, 6, .inr (.inr (.inr (.inr (rfN 6 bR))))))], famW 6 (fun ι => iaP G (bR ι) 6 (bm ι)), [(M 2, .inl (G.2.1 9, 8, .inr (.inr (.inr (.inr (rfN 8 yR))))))], famW 8 (fun ι => iaP G (yR ι) 2 (yy ι)), [(q, .inl (G.2.1 0, 8, .inl F))]]) (by rw [← chQ (Q := Q) (q := qf q8 o9 p9 fo9) (NC := NC) (n := n) (by omega)]; rfl) ?_
                    exact V_iret hC hQ hr [2, 3, 4, 5, 6, 0, 1] (u := [[(M 0, .inr (12, [.int 0, .ref (M 1), .ref (M 2), .ref aw, .ref al, .ref (M 3), .ref (M 4), .ref (M 5), .ref (M 6), .ref y, .int (nI nb), .int (nI d), .int du, .int mny, .int cl, .int (nI fd), .int ws]))], [(M 1, .inl (G.2.1 9, 6, .inr (.inr (.inr (.inr (rfN 6 bR))))))], famW 6 (fun ι => iaP G (bR ι) 6 (bm ι)), [(M 2, .inl (G.2.1 9, 8, .inr (.inr (.inr (.inr (rfN 8 yR))))))], famW 8 (fun ι => iaP G (yR ι) 2 (yy ι)), famW (NC + 1) (fun ι => mcP G ((va_up Q NC (qf q8 o9 p9 fo9)) ι) ((va_up mz NC (chM (mxBins (msF bz f F (fun _ => 0) ny) x1 x2 x3) (dsF f g F (fun _ => 0) ym ny).2.1)) ι)), alP G aw bb12 (mw + 1) NN12 (n + 1) (fun κ => ((va_up Q NC (qf q8 o9 p9 fo9)) (NC + 1 - (n + 1) + κ)) 0)]) (by decide) rfl (by decide) (by decide) dX11_charge_247 (Or.inr ⟨c, F, qf q8 o9 p9 fo9, bb12, NN12, hb1, hb2, rfl, h2, h3, h4, hcP, hn3, hF, ok12, rfl, by rw [hq]⟩)
                  · have hlt := nnle h11
                    obtain ⟨v, hv, hfv, hkv⟩ := hkn i hlt
                    have hd9 : d ≤ i := by have h9 := dsF_le (f := f) (g := g) (F := F) (pa := fun _ => 0) (ym := ym) i; rw [hq] at h9; exact h9
                    have hyi : yy i = ym i := by have h9 := dsF_behind (f := f) (g := g) (F := F) (pa := fun _ => 0) (ym := ym) i i (Nat.le_refl _); rw [hq] at h9; exact h9
                    have hY1 : (va_up yy d (upd (yy d) 0 (f i))) i 1 = g i := by
                     by_cases e : i = d
                     · rw [← e, va_up_eq]; exact (pk_un (by decide)).trans (by rw [hyi]; exact hg i hlt)
                     · rw [va_up_ne _ _ e, hyi]; exact hg i hlt
                    refine V_aload hC dX11_charge_127 6 rfl ?_
                    refine V_get hC dX11_charge_129 inAX9 (mem_at 6 0 rfl rfl) rfl 1 (by decide) q989 rfl (v := .ref p9) rfl ?_
                    refine V_aload_n hC dX11_charge_132 0 rfl ?_
                    refine V_get hC dX11_charge_133 inAX11 (mem_at 0 0 rfl rfl) rfl 2 (by decide) q1080 rfl (v := .ref (M 2)) rfl ?_
                    refine V_iload hC dX11_charge_136 8 rfl ?_
                    refine V_aaldI hC dX11_charge_138 (mem_at 3 0 rfl rfl) (vp_in_nI (by omega) (by omega)) (x := i) (nI_clamp (by omega)) (b := yR i) (rfN_at ((by omega))) ?_
                    refine V_iconst hC dX11_charge_139 (v := 0) (by decide) ?_
                    refine V_iald hC dX11_charge_140 (mem_fam 4 0 rfl i ((by omega)) rfl) (vin (by decide)) (x := 0) (by decide) ?_
                    refine V_eqi (y := nI v) (by rw [hyi]; exact (hf i hlt).trans hfv) ?_
                    refine V_dup2 hC dX11_charge_141 rfl rfl ?_
                    refine V_iald hC dX11_charge_142 (mem_at 6 2 rfl rfl) (vp_in_nI (by omega) (by omega)) (x := v) (nI_clamp (by omega)) ?_
                    refine V_aload hC dX11_charge_143 5 rfl ?_
                    refine V_iload hC dX11_charge_145 8 rfl ?_
                    refine V_iald hC dX11_charge_147 (mem_at 5 0 rfl rfl) (vp_in_nI (by omega) (by omega)) (x := i) (nI_clamp (by omega)) ?_
                    refine V_iadd hC dX11_charge_148 ?_
                    refine V_iast hC dX11_charge_149 6 2 rfl rfl (vp_in_nI (by omega) (by omega)) (z := v) (nI_clamp (by omega)) (ps' := [[(M 0, .inr (12, [.int 0, .ref (M 1), .ref (M 2), .ref aw, .ref al, .ref (M 3), .ref (M 4), .ref (M 5), .ref (M 6), .ref y, .int (nI nb), .int (nI ny), .int du, .int mny, .int cl, .int (nI fd), .int ws]))], [(M 1, .inl (G.2.1 9, 6, .inr (.inr (.inr (.inr (rfN 6 bR))))))], famW 6 (fun ι => iaP G (bR ι) 6 (bm ι)), [(M 2, .inl (G.2.1 9, 8, .inr (.inr (.inr (.inr (rfN 8 yR))))))], famW 8 (fun ι => iaP G (yR ι) 2 (yy ι)), [(q, .inl (G.2.1 0, 8, .inl F))], mcP G (qf q8 o9 p9 fo9) (hv9 (((chM (mxBins (msF bz f F (fun _ => 0) ny) x1 x2 x3) pa).1) 0) (((chM (mxBins (msF bz f F (fun _ => 0) ny) x1 x2 x3) pa).1) 1) (((chM (mxBins (msF bz f F (fun _ => 0) ny) x1 x2 x3) pa).1) 2) (((chM (mxBins (msF bz f F (fun _ => 0) ny) x1 x2 x3) pa).1) 3) (((chM (mxBins (msF bz f F (fun _ => 0) ny) x1 x2 x3) pa).1) 4) (((chM (mxBins (msF bz f F (fun _ => 0) ny) x1 x2 x3) pa).1) 5) (((chM (mxBins (msF bz f F (fun _ => 0) ny) x1 x2 x3) pa).1) 6) (((chM (mxBins (msF bz f F (fun _ => 0) ny) x1 x2 x3) pa).1) 7) (((chM (mxBins (msF bz f F (fun _ => 0) ny) x1 x2 x3) pa).1) 8), (chM (mxBins (msF bz f F (fun _ => 0) ny) x1 x2 x3) pa).2.1, upd ((chM (mxBins (msF bz f F (fun _ => 0) ny) x1 x2 x3) pa).2.2.1) v ((((chM (mxBins (msF bz f F (fun _ => 0) ny) x1 x2 x3) pa).2.2.1) v) + (F i)), (chM (mxBins (msF bz f F (fun _ => 0) ny) x1 x2 x3) pa).2.2.2), famW NC (fun ι => mcP G (Q ι) (mz ι)), alP G aw bw mw Nw n (fun κ => (Q (NC - n + κ)) 0)]) rfl ?_
                    refine V_aload_n hC dX11_charge_150 0 rfl ?_
                    refine V_get hC dX11_charge_151 inAX11 (mem_at 0 0 rfl rfl) rfl 2 (by decide) q1080 rfl (v := .ref (M 2)) rfl ?_
                    refine V_iload hC dX11_charge_154 7 rfl ?_
                    refine V_aaldI hC dX11_charge_156 (mem_at 3 0 rfl rfl) (vp_in_nI (by omega) (by omega)) (x := d) (nI_clamp (by omega)) (b := yR d) (rfN_at ((by omega))) ?_
                    refine V_iconst hC dX11_charge_157 (v := 0) (by decide) ?_
                    refine V_aload_n hC dX11_charge_158 0 rfl ?_
                    refine V_get hC dX11_charge_159 inAX11 (mem_at 0 0 rfl rfl) rfl 2 (by decide) q1080 rfl (v := .ref (M 2)) rfl ?_
                    refine V_iload hC dX11_charge_162 8 rfl ?_
                    refine V_aaldI hC dX11_charge_164 (mem_at 3 0 rfl rfl) (vp_in_nI (by omega) (by omega)) (x := i) (nI_clamp (by omega)) (b := yR i) (rfN_at ((by omega))) ?_
                    refine V_iconst hC dX11_charge_165 (v := 0) (by decide) ?_
                    refine V_iald hC dX11_charge_166 (mem_fam 4 0 rfl i ((by omega)) rfl) (vin (by decide)) (x := 0) (by decide) ?_
                    refine V_eqi (y := f i) (by rw [hyi]; exact hf i hlt) ?_
                    refine V_sub [4, 0, 1, 2, 3, 5, 6, 7, 8] (by decide) (u := [famW 8 (fun ι => iaP G (yR ι) 2 (yy ι)), [(M 0, .inr (12, [.int 0, .ref (M 1), .ref (M 2), .ref aw, .ref al, .ref (M 3), .ref (M 4), .ref (M 5), .ref (M 6), .ref y, .int (nI nb), .int (nI ny), .int du, .int mny, .int cl, .int (nI fd), .int ws]))], [(M 1, .inl (G.2.1 9, 6, .inr (.inr (.inr (.inr (rfN 6 bR))))))], famW 6 (fun ι => iaP G (bR ι) 6 (bm ι)), [(M 2, .inl (G.2.1 9, 8, .inr (.inr (.inr (.inr (rfN 8 yR))))))], [(q, .inl (G.2.1 0, 8, .inl F))], mcP G (qf q8 o9 p9 fo9) (hv9 (((chM (mxBins (msF bz f F (fun _ => 0) ny) x1 x2 x3) pa).1) 0) (((chM (mxBins (msF bz f F (fun _ => 0) ny) x1 x2 x3) pa).1) 1) (((chM (mxBins (msF bz f F (fun _ => 0) ny) x1 x2 x3) pa).1) 2) (((chM (mxBins (msF bz f F (fun _ => 0) ny) x1 x2 x3) pa).1) 3) (((chM (mxBins (msF bz f F (fun _ => 0) ny) x1 x2 x3) pa).1) 4) (((chM (mxBins (msF bz f F (fun _ => 0) ny) x1 x2 x3) pa).1) 5) (((chM (mxBins (msF bz f F (fun _ => 0) ny) x1 x2 x3) pa).1) 6) (((chM (mxBins (msF bz f F (fun _ => 0) ny) x1 x2 x3) pa).1) 7) (((chM (mxBins (msF bz f F (fun _ => 0) ny) x1 x2 x3) pa).1) 8), (chM (mxBins (msF bz f F (fun _ => 0) ny) x1 x2 x3) pa).2.1, upd ((chM (mxBins (msF bz f F (fun _ => 0) ny) x1 x2 x3) pa).2.2.1) v ((((chM (mxBins (msF bz f F (fun _ => 0) ny) x1 x2 x3) pa).2.2.1) v) + (F i)), (chM (mxBins (msF bz f F (fun _ => 0) ny) x1 x2 x3) pa).2.2.2), famW NC (fun ι => mcP G (Q ι) (mz ι)), alP G aw bw mw Nw n (fun κ => (Q (NC - n + κ)) 0)]) rfl ?_
                    refine V_open (i := d) ((by omega)) ?_
                    refine V_iast hC dX11_charge_167 0 0 rfl rfl (vin (by decide)) (z := 0) (by decide) (ps' := [iaP G (yR d) 2 (upd (yy d) 0 (f i)), famX 8 d (fun ι => iaP G (yR ι) 2 (yy ι)), [(M 0, .inr (12, [.int 0, .ref (M 1), .ref (M 2), .ref aw, .ref al, .ref (M 3), .ref (M 4), .ref (M 5), .ref (M 6), .ref y, .int (nI nb), .int (nI ny), .int du, .int mny, .int cl, .int (nI fd), .int ws]))], [(M 1, .inl (G.2.1 9, 6, .inr (.inr (.inr (.inr (rfN 6 bR))))))], famW 6 (fun ι => iaP G (bR ι) 6 (bm ι)), [(M 2, .inl (G.2.1 9, 8, .inr (.inr (.inr (.inr (rfN 8 yR))))))], [(q, .inl (G.2.1 0, 8, .inl F))], mcP G (qf q8 o9 p9 fo9) (hv9 (((chM (mxBins (msF bz f F (fun _ => 0) ny) x1 x2 x3) pa).1) 0) (((chM (mxBins (msF bz f F (fun _ => 0) ny) x1 x2 x3) pa).1) 1) (((chM (mxBins (msF bz f F (fun _ => 0) ny) x1 x2 x3) pa).1) 2) (((chM (mxBins (msF bz f F (fun _ => 0) ny) x1 x2 x3) pa).1) 3) (((chM (mxBins (msF bz f F (fun _ => 0) ny) x1 x2 x3) pa).1) 4) (((chM (mxBins (msF bz f F (fun _ => 0) ny) x1 x2 x3) pa).1) 5) (((chM (mxBins (msF bz f F (fun _ => 0) ny) x1 x2 x3) pa).1) 6) (((chM (mxBins (msF bz f F (fun _ => 0) ny) x1 x2 x3) pa).1) 7) (((chM (mxBins (msF bz f F (fun _ => 0) ny) x1 x2 x3) pa).1) 8), (chM (mxBins (msF bz f F (fun _ => 0) ny) x1 x2 x3) pa).2.1, upd ((chM (mxBins (msF bz f F (fun _ => 0) ny) x1 x2 x3) pa).2.2.1) v ((((chM (mxBins (msF bz f F (fun _ => 0) ny) x1 x2 x3) pa).2.2.1) v) + (F i)), (chM (mxBins (msF bz f F (fun _ => 0) ny) x1 x2 x3) pa).2.2.2), famW NC (fun ι => mcP G (Q ι) (mz ι)), alP G aw bw mw Nw n (fun κ => (Q (NC - n + κ)) 0)]) rfl ?_
                    refine V_close (i := d) (g' := fun ι => iaP G (yR ι) 2 ((va_up yy d (upd (yy d) 0 (f i))) ι)) (by omega) (by simp [va_up]) (fun j _ hne => by simp [va_up, hne]) ?_
                    refine V_aload_n hC dX11_charge_168 0 rfl ?_
                    refine V_get hC dX11_charge_169 inAX11 (mem_at 1 0 rfl rfl) rfl 2 (by decide) q1080 rfl (v := .ref (M 2)) rfl ?_
                    refine V_iload hC dX11_charge_172 7 rfl ?_
                    refine V_aaldI hC dX11_charge_174 (mem_at 4 0 rfl rfl) (vp_in_nI (by omega) (by omega)) (x := d) (nI_clamp (by omega)) (b := yR d) (rfN_at ((by omega))) ?_
                    refine V_iconst hC dX11_charge_175 (v := 1) (by decide) ?_
                    refine V_aload_n hC dX11_charge_176 0 rfl ?_
                    refine V_get hC dX11_charge_177 inAX11 (mem_at 1 0 rfl rfl) rfl 2 (by decide) q1080 rfl (v := .ref (M 2)) rfl ?_
                    refine V_iload hC dX11_charge_180 8 rfl ?_
                    refine V_aaldI hC dX11_charge_182 (mem_at 4 0 rfl rfl) (vp_in_nI (by omega) (by omega)) (x := i) (nI_clamp (by omega)) (b := yR i) (rfN_at ((by omega))) ?_
                    refine V_iconst hC dX11_charge_183 (v := 1) (by decide) ?_
                    refine V_iald hC dX11_charge_184 (mem_fam 0 0 rfl i ((by omega)) rfl) (vin (by decide)) (x := 1) (by decide) ?_
                    refine V_eqi (y := g i) (hY1) ?_
                    refine V_aload hC dX11_charge_185 5 rfl ?_
                    refine V_iload hC dX11_charge_187 8 rfl ?_
                    refine V_iald hC dX11_charge_189 (mem_at 5 0 rfl rfl) (vp_in_nI (by omega) (by omega)) (x := i) (nI_clamp (by omega)) ?_
                    refine V_isub hC dX11_charge_190 ?_
                    refine V_open (i := d) ((by omega)) ?_
                    refine V_iast hC dX11_charge_191 0 0 rfl rfl (vin (by decide)) (z := 1) (by decide) (ps' := [iaP G (yR d) 2 (upd ((va_up yy d (upd (yy d) 0 (f i))) d) 1 ((g i) - (F i))), famX 8 d (fun ι => iaP G (yR ι) 2 ((va_up yy d (upd (yy d) 0 (f i))) ι)), [(M 0, .inr (12, [.int 0, .ref (M 1), .ref (M 2), .ref aw, .ref al, .ref (M 3), .ref (M 4), .ref (M 5), .ref (M 6), .ref y, .int (nI nb), .int (nI ny), .int du, .int mny, .int cl, .int (nI fd), .int ws]))], [(M 1, .inl (G.2.1 9, 6, .inr (.inr (.inr (.inr (rfN 6 bR))))))], famW 6 (fun ι => iaP G (bR ι) 6 (bm ι)), [(M 2, .inl (G.2.1 9, 8, .inr (.inr (.inr (.inr (rfN 8 yR))))))], [(q, .inl (G.2.1 0, 8, .inl F))], mcP G (qf q8 o9 p9 fo9) (hv9 (((chM (mxBins (msF bz f F (fun _ => 0) ny) x1 x2 x3) pa).1) 0) (((chM (mxBins (msF bz f F (fun _ => 0) ny) x1 x2 x3) pa).1) 1) (((chM (mxBins (msF bz f F (fun _ => 0) ny) x1 x2 x3) pa).1) 2) (((chM (mxBins (msF bz f F (fun _ => 0) ny) x1 x2 x3) pa).1) 3) (((chM (mxBins (msF bz f F (fun _ => 0) ny) x1 x2 x3) pa).1) 4) (((chM (mxBins (msF bz f F (fun _ => 0) ny) x1 x2 x3) pa).1) 5) (((chM (mxBins (msF bz f F (fun _ => 0) ny) x1 x2 x3) pa).1) 6) (((chM (mxBins (msF bz f F (fun _ => 0) ny) x1 x2 x3) pa).1) 7) (((chM (mxBins (msF bz f F (fun _ => 0) ny) x1 x2 x3) pa).1) 8), (chM (mxBins (msF bz f F (fun _ => 0) ny) x1 x2 x3) pa).2.1, upd ((chM (mxBins (msF bz f F (fun _ => 0) ny) x1 x2 x3) pa).2.2.1) v ((((chM (mxBins (msF bz f F (fun _ => 0) ny) x1 x2 x3) pa).2.2.1) v) + (F i)), (chM (mxBins (msF bz f F (fun _ => 0) ny) x1 x2 x3) pa).2.2.2), famW NC (fun ι => mcP G (Q ι) (mz ι)), alP G aw bw mw Nw n (fun κ => (Q (NC - n + κ)) 0)]) rfl ?_
                    refine V_close (i := d) (g' := fun ι => iaP G (yR ι) 2 ((va_up yy d (upd (upd (yy d) 0 (f i)) 1 (g i - F i))) ι)) (by omega) (by simp [va_up]) (fun j _ hne => by simp [va_up, hne]) ?_
                    refine V_iload hC dX11_charge_192 7 rfl ?_
                    refine V_aload_n hC dX11_charge_194 0 rfl ?_
                    refine V_get hC dX11_charge_195 inAX11 (mem_at 1 0 rfl rfl) rfl 2 (by decide) q1080 rfl (v := .ref (M 2)) rfl ?_
                    refine V_iload hC dX11_charge_198 7 rfl ?_
                    refine V_aaldI hC dX11_charge_200 (mem_at 4 0 rfl rfl) (vp_in_nI (by omega) (by omega)) (x := d) (nI_clamp (by omega)) (b := yR d) (rfN_at ((by omega))) ?_
                    refine V_iconst hC dX11_charge_201 (v := 1) (by decide) ?_
                    refine V_iald hC dX11_charge_202 (mem_fam 0 0 rfl d ((by omega)) rfl) (vin (by decide)) (x := 1) (by decide) ?_
                    refine V_eqi (y := g i - F i) (by rw [va_up_eq]; rfl) ?_
                    refine V_if_le hC dX11_charge_203 (tgt := 210) (by decide) (fun h13 => ?_) (fun h13 => ?_)
                    · have hgF := h13
                      refine V_iconst hC dX11_charge_210 (v := 0) (by decide) ?_
                      refine V_iadd hC dX11_charge_211 ?_
                      refine V_eqi (y := nI d) (nI_add d 0) ?_
                      refine V_istore hC dX11_charge_212 (L' := [(7, .int (nI d)), (0, .ref (M 0)), (1, .int (nI c)), (2, .int x1), (3, .int x2), (4, .int x3), (5, .ref q), (6, .ref q8), (8, .int (nI i))]) (by decide) rfl ?_
                      refine V_iinc hC dX11_charge_214 (v := nI (i + 1)) (L' := [(8, .int (nI (i + 1))), (7, .int (nI d)), (0, .ref (M 0)), (1, .int (nI c)), (2, .int x1), (3, .int x2), (4, .int x3), (5, .ref q), (6, .ref q8)]) (j := 8) rfl (nI_1 _) (by decide) rfl ?_
                      refine V_goto hC dX11_charge_217 (tgt := 118) (by decide) ?_
                      refine V_loc (L' := [(0, .ref (M 0)), (1, .int (nI c)), (2, .int x1), (3, .int x2), (4, .int x3), (5, .ref q), (6, .ref q8), (7, .int (nI d)), (8, .int (nI (i + 1)))]) [2, 3, 4, 5, 6, 7, 8, 1, 0] rfl ?_
                      refine V_sub [1, 2, 3, 4, 0, 5, 6, 7, 8] (by decide) (u := [[(M 0, .inr (12, [.int 0, .ref (M 1), .ref (M 2), .ref aw, .ref al, .ref (M 3), .ref (M 4), .ref (M 5), .ref (M 6), .ref y, .int (nI nb), .int (nI ny), .int du, .int mny, .int cl, .int (nI fd), .int ws]))], [(M 1, .inl (G.2.1 9, 6, .inr (.inr (.inr (.inr (rfN 6 bR))))))], famW 6 (fun ι => iaP G (bR ι) 6 (bm ι)), [(M 2, .inl (G.2.1 9, 8, .inr (.inr (.inr (.inr (rfN 8 yR))))))], famW 8 (fun ι => iaP G (yR ι) 2 ((va_up yy d (upd (upd (yy d) 0 (f i)) 1 (g i - F i))) ι)), [(q, .inl (G.2.1 0, 8, .inl F))], mcP G (qf q8 o9 p9 fo9) (hv9 (((chM (mxBins (msF bz f F (fun _ => 0) ny) x1 x2 x3) pa).1) 0) (((chM (mxBins (msF bz f F (fun _ => 0) ny) x1 x2 x3) pa).1) 1) (((chM (mxBins (msF bz f F (fun _ => 0) ny) x1 x2 x3) pa).1) 2) (((chM (mxBins (msF bz f F (fun _ => 0) ny) x1 x2 x3) pa).1) 3) (((chM (mxBins (msF bz f F (fun _ => 0) ny) x1 x2 x3) pa).1) 4) (((chM (mxBins (msF bz f F (fun _ => 0) ny) x1 x2 x3) pa).1) 5) (((chM (mxBins (msF bz f F (fun _ => 0) ny) x1 x2 x3) pa).1) 6) (((chM (mxBins (msF bz f F (fun _ => 0) ny) x1 x2 x3) pa).1) 7) (((chM (mxBins (msF bz f F (fun _ => 0) ny) x1 x2 x3) pa).1) 8), (chM (mxBins (msF bz f F (fun _ => 0) ny) x1 x2 x3) pa).2.1, upd ((chM (mxBins (msF bz f F (fun _ => 0) ny) x1 x2 x3) pa).2.2.1) v ((((chM (mxBins (msF bz f F (fun _ => 0) ny) x1 x2 x3) pa).2.2.1) v) + (F i)), (chM (mxBins (msF bz f F (fun _ => 0) ny) x1 x2 x3) pa).2.2.2), famW NC (fun ι => mcP G (Q ι) (mz ι)), alP G aw bw mw Nw n (fun κ => (Q (NC - n + κ)) 0)]) rfl ?_
                      have hq2 := dsF_s hq hfv (by omega)
                      rw [if_pos hgF] at hq2
                      exact ih (i + 1) d _ _ (by omega) hq2 (by omega)
                    · have hgF := h13
                      refine V_iconst hC dX11_charge_206 (v := 1) (by decide) ?_
                      refine V_goto hC dX11_charge_207 (tgt := 211) (by decide) ?_
                      refine V_iadd hC dX11_charge_211 ?_
                      refine V_eqi (y := nI (d + 1)) (nI_1 d) ?_
                      refine V_istore hC dX11_charge_212 (L' := [(7, .int (nI (d + 1))), (0, .ref (M 0)), (1, .int (nI c)), (2, .int x1), (3, .int x2), (4, .int x3), (5, .ref q), (6, .ref q8), (8, .int (nI i))]) (by decide) rfl ?_
                      refine V_iinc hC dX11_charge_214 (v := nI (i + 1)) (L' := [(8, .int (nI (i + 1))), (7, .int (nI (d + 1))), (0, .ref (M 0)), (1, .int (nI c)), (2, .int x1), (3, .int x2), (4, .int x3), (5, .ref q), (6, .ref q8)]) (j := 8) rfl (nI_1 _) (by decide) rfl ?_
                      refine V_goto hC dX11_charge_217 (tgt := 118) (by decide) ?_
                      refine V_loc (L' := [(0, .ref (M 0)), (1, .int (nI c)), (2, .int x1), (3, .int x2), (4, .int x3), (5, .ref q), (6, .ref q8), (7, .int (nI (d + 1))), (8, .int (nI (i + 1)))]) [2, 3, 4, 5, 6, 7, 8, 1, 0] rfl ?_
                      refine V_sub [1, 2, 3, 4, 0, 5, 6, 7, 8] (by decide) (u := [[(M 0, .inr (12, [.int 0, .ref (M 1), .ref (M 2), .ref aw, .ref al, .ref (M 3), .ref (M 4), .ref (M 5), .ref (M 6), .ref y, .int (nI nb), .int (nI ny), .int du, .int mny, .int cl, .int (nI fd), .int ws]))], [(M 1, .inl (G.2.1 9, 6, .inr (.inr (.inr (.inr (rfN 6 bR))))))], famW 6 (fun ι => iaP G (bR ι) 6 (bm ι)), [(M 2, .inl (G.2.1 9, 8, .inr (.inr (.inr (.inr (rfN 8 yR))))))], famW 8 (fun ι => iaP G (yR ι) 2 ((va_up yy d (upd (upd (yy d) 0 (f i)) 1 (g i - F i))) ι)), [(q, .inl (G.2.1 0, 8, .inl F))], mcP G (qf q8 o9 p9 fo9) (hv9 (((chM (mxBins (msF bz f F (fun _ => 0) ny) x1 x2 x3) pa).1) 0) (((chM (mxBins (msF bz f F (fun _ => 0) ny) x1 x2 x3) pa).1) 1) (((chM (mxBins (msF bz f F (fun _ => 0) ny) x1 x2 x3) pa).1) 2) (((chM (mxBins (msF bz f F (fun _ => 0) ny) x1 x2 x3) pa).1) 3) (((chM (mxBins (msF bz f F (fun _ => 0) ny) x1 x2 x3) pa).1) 4) (((chM (mxBins (msF bz f F (fun _ => 0) ny) x1 x2 x3) pa).1) 5) (((chM (mxBins (msF bz f F (fun _ => 0) ny) x1 x2 x3) pa).1) 6) (((chM (mxBins (msF bz f F (fun _ => 0) ny) x1 x2 x3) pa).1) 7) (((chM (mxBins (msF bz f F (fun _ => 0) ny) x1 x2 x3) pa).1) 8), (chM (mxBins (msF bz f F (fun _ => 0) ny) x1 x2 x3) pa).2.1, upd ((chM (mxBins (msF bz f F (fun _ => 0) ny) x1 x2 x3) pa).2.2.1) v ((((chM (mxBins (msF bz f F (fun _ => 0) ny) x1 x2 x3) pa).2.2.1) v) + (F i)), (chM (mxBins (msF bz f F (fun _ => 0) ny) x1 x2 x3) pa).2.2.2), famW NC (fun ι => mcP G (Q ι) (mz ι)), alP G aw bw mw Nw n (fun κ => (Q (NC - n + κ)) 0)]) rfl ?_
                      have hq2 := dsF_s hq hfv (by omega)
                      rw [if_neg hgF] at hq2
                      exact ih (i + 1) (d + 1) _ _ (by omega) hq2 (by omega)
              refine V_loc (L' := [(0, .ref (M 0)), (1, .int (nI c)), (2, .int x1), (3, .int x2), (4, .int x3), (5, .ref q), (6, .ref q8), (7, .int 0), (8, .int 0)]) [4, 5, 6, 7, 8, 3, 2, 1, 0] rfl ?_
              refine V_sub [1, 2, 3, 4, 5, 6, 0, 8, 7] (by decide) (u := [[(M 0, .inr (12, [.int 0, .ref (M 1), .ref (M 2), .ref aw, .ref al, .ref (M 3), .ref (M 4), .ref (M 5), .ref (M 6), .ref y, .int (nI nb), .int (nI ny), .int du, .int mny, .int cl, .int (nI fd), .int ws]))], [(M 1, .inl (G.2.1 9, 6, .inr (.inr (.inr (.inr (rfN 6 bR))))))], famW 6 (fun ι => iaP G (bR ι) 6 (bm ι)), [(M 2, .inl (G.2.1 9, 8, .inr (.inr (.inr (.inr (rfN 8 yR))))))], famW 8 (fun ι => iaP G (yR ι) 2 (ym ι)), [(q, .inl (G.2.1 0, 8, .inl F))], mcP G (qf q8 o9 p9 fo9) (moBegin (mo0.1, (mxBins (msF bz f F (fun _ => 0) ny) x1 x2 x3), mo0.2.2.1, mo0.2.2.2)), famW NC (fun ι => mcP G (Q ι) (mz ι)), alP G aw bw mw Nw n (fun κ => (Q (NC - n + κ)) 0)]) rfl ?_
              exact loop10 (ny + 1) 0 0 _ _ (Nat.zero_le _) rfl (by omega)
            · have hfull : n = 3 := nI_inj (b := 3) h6
              refine V_aload_n hC dX11_charge_70 0 rfl ?_
              refine V_iconst hC dX11_charge_71 (v := 2) (by decide) ?_
              refine V_calli hC (V_runV hC (rest := []) [.int 2] (c_X11_no l G M 0 du mny cl ws nb ny fd aw al y 2) [1] rfl (by decide) q1141 q1143 q20 q52 q1144 ⟨by decide, by decide, rfl⟩ ⟨by decide, by decide⟩ (ci := 12) rfl (mem_at 1 0 rfl rfl) rfl (Nat.le_of_ble_eq_true rfl) ⟨by decide, by decide⟩ dX11_charge_72) (is := [1]) rfl [0, 2, 3, 4, 5, 6] (rs := [alP G aw bw mw Nw n (fun κ => (Q (NC - n + κ)) 0), [(M 2, .inl (G.2.1 9, 8, .inr (.inr (.inr (.inr (rfN 8 yR))))))], famW 8 (fun ι => iaP G (yR ι) 2 (ym ι)), [(M 1, .inl (G.2.1 9, 6, .inr (.inr (.inr (.inr (rfN 6 bR))))))], famW 6 (fun ι => iaP G (bR ι) 6 (bm ι)), famW NC (fun ι => mcP G (Q ι) (mz ι))]) rfl (by decide) (by decide) ?_
              rintro _ _ ⟨rfl, rfl⟩
              exact V_iret hC hQ hr [0, 4, 5, 2, 3, 6, 1] (u := [[(M 0, .inr (12, [.int 2, .ref (M 1), .ref (M 2), .ref aw, .ref al, .ref (M 3), .ref (M 4), .ref (M 5), .ref (M 6), .ref y, .int (nI nb), .int (nI ny), .int du, .int mny, .int cl, .int (nI fd), .int ws]))], [(M 1, .inl (G.2.1 9, 6, .inr (.inr (.inr (.inr (rfN 6 bR))))))], famW 6 (fun ι => iaP G (bR ι) 6 (bm ι)), [(M 2, .inl (G.2.1 9, 8, .inr (.inr (.inr (.inr (rfN 8 yR))))))], famW 8 (fun ι => iaP G (yR ι) 2 (ym ι)), famW NC (fun ι => mcP G (Q ι) (mz ι)), alP G aw bw mw Nw n (fun κ => (Q (NC - n + κ)) 0)]) (by decide) rfl (by decide) (by decide) dX11_charge_75 (Or.inl ⟨2, Or.inr ⟨rfl, ⟨h1, h2, h3, h4⟩, Or.inr hfull⟩, rfl, rfl⟩)
        · refine V_aload_n hC dX11_charge_43 0 rfl ?_
          refine V_iconst hC dX11_charge_44 (v := 1) (by decide) ?_
          refine V_calli hC (V_runV hC (rest := []) [.int 1] (c_X11_no l G M 0 du mny cl ws nb ny fd aw al y 1) [0] rfl (by decide) q1141 q1143 q20 q52 q1144 ⟨by decide, by decide, rfl⟩ ⟨by decide, by decide⟩ (ci := 12) rfl (mem_at 0 0 rfl rfl) rfl (Nat.le_of_ble_eq_true rfl) ⟨by decide, by decide⟩ dX11_charge_45) (is := [0]) rfl [1, 2, 3, 4, 5, 6] (rs := [[(M 1, .inl (G.2.1 9, 6, .inr (.inr (.inr (.inr (rfN 6 bR))))))], famW 6 (fun ι => iaP G (bR ι) 6 (bm ι)), [(M 2, .inl (G.2.1 9, 8, .inr (.inr (.inr (.inr (rfN 8 yR))))))], famW 8 (fun ι => iaP G (yR ι) 2 (ym ι)), famW NC (fun ι => mcP G (Q ι) (mz ι)), alP G aw bw mw Nw n (fun κ => (Q (NC - n + κ)) 0)]) rfl (by decide) (by decide) ?_
          rintro _ _ ⟨rfl, rfl⟩
          exact V_iret hC hQ hr [0, 1, 2, 3, 4, 5, 6] (u := [[(M 0, .inr (12, [.int 1, .ref (M 1), .ref (M 2), .ref aw, .ref al, .ref (M 3), .ref (M 4), .ref (M 5), .ref (M 6), .ref y, .int (nI nb), .int (nI ny), .int du, .int mny, .int cl, .int (nI fd), .int ws]))], [(M 1, .inl (G.2.1 9, 6, .inr (.inr (.inr (.inr (rfN 6 bR))))))], famW 6 (fun ι => iaP G (bR ι) 6 (bm ι)), [(M 2, .inl (G.2.1 9, 8, .inr (.inr (.inr (.inr (rfN 8 yR))))))], famW 8 (fun ι => iaP G (yR ι) 2 (ym ι)), famW NC (fun ι => mcP G (Q ι) (mz ι)), alP G aw bw mw Nw n (fun κ => (Q (NC - n + κ)) 0)]) (by decide) rfl (by decide) (by decide) dX11_charge_48 (Or.inl ⟨1, Or.inl ⟨rfl, fun e => moIn_n h4 e.2.2.2⟩, rfl, rfl⟩)
